/-- ShodBackwards$Reader.<init>()V -/
theorem d_501_0 : List.drop 0 xm_c501 = xm_c501 := rfl
theorem k_501_0 : xm_gi xm_c501 0 = some xm_e501_0 := xm_gt d_501_0
theorem d_501_1 : List.drop 1 xm_c501 = xm_c501_1 := xm_dr d_501_0
theorem k_501_1 : xm_gi xm_c501 1 = some xm_e501_1 := xm_gt d_501_1
theorem d_501_2 : List.drop 2 xm_c501 = xm_c501_2 := xm_dr d_501_1
theorem k_501_2 : xm_gi xm_c501 2 = some xm_e501_2 := xm_gt d_501_2
theorem d_501_3 : List.drop 3 xm_c501 = xm_c501_3 := xm_dr d_501_2
theorem k_501_3 : xm_gi xm_c501 3 = some xm_e501_3 := xm_gt d_501_3
theorem d_501_4 : List.drop 4 xm_c501 = xm_c501_4 := xm_dr d_501_3
theorem k_501_4 : xm_gi xm_c501 4 = some xm_e501_4 := xm_gt d_501_4
theorem d_501_5 : List.drop 5 xm_c501 = xm_c501_5 := xm_dr d_501_4
theorem k_501_5 : xm_gi xm_c501 5 = some xm_e501_5 := xm_gt d_501_5
theorem d_501_6 : List.drop 6 xm_c501 = xm_c501_6 := xm_dr d_501_5
theorem k_501_6 : xm_gi xm_c501 6 = some xm_e501_6 := xm_gt d_501_6
theorem d_501_7 : List.drop 7 xm_c501 = xm_c501_7 := xm_dr d_501_6
theorem k_501_7 : xm_gi xm_c501 7 = some xm_e501_7 := xm_gt d_501_7
theorem d_501_8 : List.drop 8 xm_c501 = xm_c501_8 := xm_dr d_501_7
theorem k_501_8 : xm_gi xm_c501 8 = some xm_e501_8 := xm_gt d_501_8
theorem d_501_9 : List.drop 9 xm_c501 = xm_c501_9 := xm_dr d_501_8
theorem k_501_9 : xm_gi xm_c501 9 = some xm_e501_9 := xm_gt d_501_9
theorem d_501_10 : List.drop 10 xm_c501 = xm_c501_10 := xm_dr d_501_9
theorem k_501_10 : xm_gi xm_c501 10 = some xm_e501_10 := xm_gt d_501_10
theorem d_501_11 : List.drop 11 xm_c501 = xm_c501_11 := xm_dr d_501_10
theorem k_501_11 : xm_gi xm_c501 11 = some xm_e501_11 := xm_gt d_501_11
theorem d_501_12 : List.drop 12 xm_c501 = xm_c501_12 := xm_dr d_501_11
theorem k_501_12 : xm_gi xm_c501 12 = some xm_e501_12 := xm_gt d_501_12
theorem d_501_13 : List.drop 13 xm_c501 = xm_c501_13 := xm_dr d_501_12
theorem k_501_13 : xm_gi xm_c501 13 = some xm_e501_13 := xm_gt d_501_13
theorem xb_501_0 {sc : List Int} {f : Nat → List xm_V → xm_W → xm_R} {w : xm_W} {Q : Option xm_V × xm_W → Prop} {x0 : Nat}
  (h : (0 ≤ (0 : Int) ∧ (0 : Int) ≤ 1000) ∧ (xm_O (xm_setf (w ++ [.inl (List.replicate (Int.toNat 0) 0)]) x0 3 0 2 (.inr (.inl (some w.length)))) (fun w1 => xm_O (xm_setf w1 x0 3 2 2 (.inr (.inl (some 1000002)))) (fun w2 => (0 ≤ (60 : Int) ∧ (60 : Int) ≤ 1000) ∧ (xm_O (xm_setf (w2 ++ [.inl (List.replicate (Int.toNat 60) 0)]) x0 3 4 2 (.inr (.inl (some w2.length)))) (fun w3 => Q (none, w3))))))) :
  xm_EQ (xm_old sc) xm_sta f xm_c501 0 [some (.inr (.inl (some x0)))] [] w Q :=
  (xq_aload_n k_501_0 rfl (xq_obj k_501_1 rfl (xq_aload_n k_501_2 rfl (xq_iconst k_501_3 (xq_newarray k_501_4 h (fun h => (xq_put k_501_5 rfl h (fun w1 h => (xq_aload_n k_501_6 rfl (xq_ldcs k_501_7 (xq_put k_501_8 rfl h (fun w2 h => (xq_aload_n k_501_9 rfl (xq_bipush k_501_10 (xq_newarray k_501_11 h (fun h => (xq_put k_501_12 rfl h (fun w3 h => (xq_return k_501_13 h)))))))))))))))))))
/-- ShodBackwards$Reader.read([IILjava/lang/String;)Z -/
theorem d_502_0 : List.drop 0 xm_c502 = xm_c502 := rfl
theorem k_502_0 : xm_gi xm_c502 0 = some xm_e502_0 := xm_gt d_502_0
theorem d_502_1 : List.drop 1 xm_c502 = xm_c502_1 := xm_dr d_502_0
theorem k_502_1 : xm_gi xm_c502 1 = some xm_e502_1 := xm_gt d_502_1
theorem d_502_2 : List.drop 2 xm_c502 = xm_c502_2 := xm_dr d_502_1
theorem k_502_2 : xm_gi xm_c502 2 = some xm_e502_2 := xm_gt d_502_2
theorem d_502_3 : List.drop 3 xm_c502 = xm_c502_3 := xm_dr d_502_2
theorem k_502_3 : xm_gi xm_c502 3 = some xm_e502_3 := xm_gt d_502_3
theorem d_502_4 : List.drop 4 xm_c502 = xm_c502_4 := xm_dr d_502_3
theorem k_502_4 : xm_gi xm_c502 4 = some xm_e502_4 := xm_gt d_502_4
theorem d_502_5 : List.drop 5 xm_c502 = xm_c502_5 := xm_dr d_502_4
theorem k_502_5 : xm_gi xm_c502 5 = some xm_e502_5 := xm_gt d_502_5
theorem d_502_6 : List.drop 6 xm_c502 = xm_c502_6 := xm_dr d_502_5
theorem k_502_6 : xm_gi xm_c502 6 = some xm_e502_6 := xm_gt d_502_6
theorem d_502_7 : List.drop 7 xm_c502 = xm_c502_7 := xm_dr d_502_6
theorem k_502_7 : xm_gi xm_c502 7 = some xm_e502_7 := xm_gt d_502_7
theorem d_502_8 : List.drop 8 xm_c502 = xm_c502_8 := xm_dr d_502_7
theorem k_502_8 : xm_gi xm_c502 8 = some xm_e502_8 := xm_gt d_502_8
theorem d_502_9 : List.drop 9 xm_c502 = xm_c502_9 := xm_dr d_502_8
theorem k_502_9 : xm_gi xm_c502 9 = some xm_e502_9 := xm_gt d_502_9
theorem d_502_10 : List.drop 10 xm_c502 = xm_c502_10 := xm_dr d_502_9
theorem k_502_10 : xm_gi xm_c502 10 = some xm_e502_10 := xm_gt d_502_10
theorem d_502_11 : List.drop 11 xm_c502 = xm_c502_11 := xm_dr d_502_10
theorem k_502_11 : xm_gi xm_c502 11 = some xm_e502_11 := xm_gt d_502_11
theorem d_502_12 : List.drop 12 xm_c502 = xm_c502_12 := xm_dr d_502_11
theorem k_502_12 : xm_gi xm_c502 12 = some xm_e502_12 := xm_gt d_502_12
theorem d_502_13 : List.drop 13 xm_c502 = xm_c502_13 := xm_dr d_502_12
theorem k_502_13 : xm_gi xm_c502 13 = some xm_e502_13 := xm_gt d_502_13
theorem d_502_14 : List.drop 14 xm_c502 = xm_c502_14 := xm_dr d_502_13
theorem k_502_14 : xm_gi xm_c502 14 = some xm_e502_14 := xm_gt d_502_14
theorem d_502_15 : List.drop 15 xm_c502 = xm_c502_15 := xm_dr d_502_14
theorem k_502_15 : xm_gi xm_c502 15 = some xm_e502_15 := xm_gt d_502_15
theorem d_502_16 : List.drop 16 xm_c502 = xm_c502_16 := xm_dr d_502_15
theorem k_502_16 : xm_gi xm_c502 16 = some xm_e502_16 := xm_gt d_502_16
theorem d_502_17 : List.drop 17 xm_c502 = xm_c502_17 := xm_dr d_502_16
theorem k_502_17 : xm_gi xm_c502 17 = some xm_e502_17 := xm_gt d_502_17
theorem d_502_18 : List.drop 18 xm_c502 = xm_c502_18 := xm_dr d_502_17
theorem k_502_18 : xm_gi xm_c502 18 = some xm_e502_18 := xm_gt d_502_18
theorem d_502_19 : List.drop 19 xm_c502 = xm_c502_19 := xm_dr d_502_18
theorem k_502_19 : xm_gi xm_c502 19 = some xm_e502_19 := xm_gt d_502_19
theorem d_502_20 : List.drop 20 xm_c502 = xm_c502_20 := xm_dr d_502_19
theorem k_502_20 : xm_gi xm_c502 20 = some xm_e502_20 := xm_gt d_502_20
theorem d_502_21 : List.drop 21 xm_c502 = xm_c502_21 := xm_dr d_502_20
theorem k_502_21 : xm_gi xm_c502 21 = some xm_e502_21 := xm_gt d_502_21
theorem d_502_22 : List.drop 22 xm_c502 = xm_c502_22 := xm_dr d_502_21
theorem k_502_22 : xm_gi xm_c502 22 = some xm_e502_22 := xm_gt d_502_22
theorem d_502_23 : List.drop 23 xm_c502 = xm_c502_23 := xm_dr d_502_22
theorem k_502_23 : xm_gi xm_c502 23 = some xm_e502_23 := xm_gt d_502_23
theorem d_502_24 : List.drop 24 xm_c502 = xm_c502_24 := xm_dr d_502_23
theorem k_502_24 : xm_gi xm_c502 24 = some xm_e502_24 := xm_gt d_502_24
theorem d_502_25 : List.drop 25 xm_c502 = xm_c502_25 := xm_dr d_502_24
theorem k_502_25 : xm_gi xm_c502 25 = some xm_e502_25 := xm_gt d_502_25
theorem d_502_26 : List.drop 26 xm_c502 = xm_c502_26 := xm_dr d_502_25
theorem k_502_26 : xm_gi xm_c502 26 = some xm_e502_26 := xm_gt d_502_26
theorem d_502_27 : List.drop 27 xm_c502 = xm_c502_27 := xm_dr d_502_26
theorem k_502_27 : xm_gi xm_c502 27 = some xm_e502_27 := xm_gt d_502_27
theorem d_502_28 : List.drop 28 xm_c502 = xm_c502_28 := xm_dr d_502_27
theorem k_502_28 : xm_gi xm_c502 28 = some xm_e502_28 := xm_gt d_502_28
theorem xb_502_0 {sc : List Int} {f : Nat → List xm_V → xm_W → xm_R} {w : xm_W} {Q : Option xm_V × xm_W → Prop} {x0 : Nat} {x1 : Nat} {x2 : Int} {x3 : Nat}
  (h : xm_O (xm_setf w x0 3 0 2 (.inr (.inl (some x1)))) (fun w1 => xm_O (xm_setf w1 x0 3 1 0 (.inl x2)) (fun w2 => xm_O (xm_setf w2 x0 3 2 2 (.inr (.inl (some x3)))) (fun w3 => xm_O (xm_setf w3 x0 3 3 0 (.inl 0)) (fun w4 => xm_O (xm_setf w4 x0 3 5 0 (.inl 0)) (fun w5 => xm_Oi (f 504 [.inr (.inl (some x0)), .inl 0, .inl 0] w5) (fun z7 w6 => if (z7 : Int) = 0 then (Q (some (.inl 0), w6)) else (xm_O (xm_fi (xm_old sc) w6 x0 3 3) (fun z8 => xm_O (xm_fi (xm_old sc) w6 x0 3 1) (fun z9 => if (z8 : Int) = z9 then (Q (some (.inl 1), w6)) else (Q (some (.inl 0), w6)))))))))))) :
  xm_EQ (xm_old sc) xm_sta f xm_c502 0 [some (.inr (.inl (some x0))), some (.inr (.inl (some x1))), some (.inl x2), some (.inr (.inl (some x3)))] [] w Q :=
  (xq_aload_n k_502_0 rfl (xq_aload_n k_502_1 rfl (xq_put k_502_2 rfl h (fun w1 h => (xq_aload_n k_502_3 rfl (xq_iload_n k_502_4 rfl (xq_put k_502_5 rfl h (fun w2 h => (xq_aload_n k_502_6 rfl (xq_aload_n k_502_7 rfl (xq_put k_502_8 rfl h (fun w3 h => (xq_aload_n k_502_9 rfl (xq_iconst k_502_10 (xq_put k_502_11 rfl h (fun w4 h => (xq_aload_n k_502_12 rfl (xq_iconst k_502_13 (xq_put k_502_14 rfl h (fun w5 h => (xq_aload_n k_502_15 rfl (xq_iconst k_502_16 (xq_iconst k_502_17 (xq_invv2 k_502_18 xr_504 rfl rfl rfl h (fun z7 w6 h => (xq_if_eq k_502_19 h (fun h => (xq_iconst k_502_27 (xq_ireturn k_502_28 h))) (fun h => (xq_aload_n k_502_20 rfl (xq_geti0 k_502_21 rfl h (fun z8 h => (xq_aload_n k_502_22 rfl (xq_geti0 k_502_23 rfl h (fun z9 h => (xq_ic_ne k_502_24 h (fun h => (xq_iconst k_502_25 (xq_goto k_502_26 (xq_ireturn k_502_28 h)))) (fun h => (xq_iconst k_502_27 (xq_ireturn k_502_28 h)))))))))))))))))))))))))))))))))))))
/-- ShodBackwards$Reader.made()LShodBackwards$Text; -/
theorem d_503_0 : List.drop 0 xm_c503 = xm_c503 := rfl
theorem k_503_0 : xm_gi xm_c503 0 = some xm_e503_0 := xm_gt d_503_0
theorem d_503_1 : List.drop 1 xm_c503 = xm_c503_1 := xm_dr d_503_0
theorem k_503_1 : xm_gi xm_c503 1 = some xm_e503_1 := xm_gt d_503_1
theorem d_503_2 : List.drop 2 xm_c503 = xm_c503_2 := xm_dr d_503_1
theorem k_503_2 : xm_gi xm_c503 2 = some xm_e503_2 := xm_gt d_503_2
theorem d_503_3 : List.drop 3 xm_c503 = xm_c503_3 := xm_dr d_503_2
theorem k_503_3 : xm_gi xm_c503 3 = some xm_e503_3 := xm_gt d_503_3
theorem d_503_4 : List.drop 4 xm_c503 = xm_c503_4 := xm_dr d_503_3
theorem k_503_4 : xm_gi xm_c503 4 = some xm_e503_4 := xm_gt d_503_4
theorem d_503_5 : List.drop 5 xm_c503 = xm_c503_5 := xm_dr d_503_4
theorem k_503_5 : xm_gi xm_c503 5 = some xm_e503_5 := xm_gt d_503_5
theorem d_503_6 : List.drop 6 xm_c503 = xm_c503_6 := xm_dr d_503_5
theorem k_503_6 : xm_gi xm_c503 6 = some xm_e503_6 := xm_gt d_503_6
theorem d_503_7 : List.drop 7 xm_c503 = xm_c503_7 := xm_dr d_503_6
theorem k_503_7 : xm_gi xm_c503 7 = some xm_e503_7 := xm_gt d_503_7
theorem d_503_8 : List.drop 8 xm_c503 = xm_c503_8 := xm_dr d_503_7
theorem k_503_8 : xm_gi xm_c503 8 = some xm_e503_8 := xm_gt d_503_8
theorem d_503_9 : List.drop 9 xm_c503 = xm_c503_9 := xm_dr d_503_8
theorem k_503_9 : xm_gi xm_c503 9 = some xm_e503_9 := xm_gt d_503_9
theorem d_503_10 : List.drop 10 xm_c503 = xm_c503_10 := xm_dr d_503_9
theorem k_503_10 : xm_gi xm_c503 10 = some xm_e503_10 := xm_gt d_503_10
theorem d_503_11 : List.drop 11 xm_c503 = xm_c503_11 := xm_dr d_503_10
theorem k_503_11 : xm_gi xm_c503 11 = some xm_e503_11 := xm_gt d_503_11
theorem d_503_12 : List.drop 12 xm_c503 = xm_c503_12 := xm_dr d_503_11
theorem k_503_12 : xm_gi xm_c503 12 = some xm_e503_12 := xm_gt d_503_12
theorem d_503_13 : List.drop 13 xm_c503 = xm_c503_13 := xm_dr d_503_12
theorem k_503_13 : xm_gi xm_c503 13 = some xm_e503_13 := xm_gt d_503_13
theorem d_503_14 : List.drop 14 xm_c503 = xm_c503_14 := xm_dr d_503_13
theorem k_503_14 : xm_gi xm_c503 14 = some xm_e503_14 := xm_gt d_503_14
theorem d_503_15 : List.drop 15 xm_c503 = xm_c503_15 := xm_dr d_503_14
theorem k_503_15 : xm_gi xm_c503 15 = some xm_e503_15 := xm_gt d_503_15
theorem d_503_16 : List.drop 16 xm_c503 = xm_c503_16 := xm_dr d_503_15
theorem k_503_16 : xm_gi xm_c503 16 = some xm_e503_16 := xm_gt d_503_16
theorem xb_503_0 {sc : List Int} {f : Nat → List xm_V → xm_W → xm_R} {w : xm_W} {Q : Option xm_V × xm_W → Prop} {x0 : Nat}
  (h : xm_O (xm_fi (xm_old sc) w x0 3 5) (fun z1 => (0 ≤ (z1 : Int) ∧ (z1 : Int) ≤ 1000) ∧ (xm_O (xm_fr (xm_old sc) (w ++ [.inl (List.replicate (Int.toNat z1) 0)]) x0 3 4) (fun r2 => xm_O (xm_fi (xm_old sc) (w ++ [.inl (List.replicate (Int.toNat z1) 0)]) x0 3 5) (fun z3 => xm_O (xm_copy (w ++ [.inl (List.replicate (Int.toNat z1) 0)]) r2 0 w.length 0 z3) (fun w4 => xm_Ov (f 901 [.inr (.inl (some w4.length)), .inr (.inl (some w.length))] (w4 ++ [.inr (.inr (7, (xm_kd 7).map xm_dflt))])) (fun w5 => Q (some (.inr (.inl (some w4.length))), w5)))))))) :
  xm_EQ (xm_old sc) xm_sta f xm_c503 0 [some (.inr (.inl (some x0))), none] [] w Q :=
  (xq_aload_n k_503_0 rfl (xq_geti0 k_503_1 rfl h (fun z1 h => (xq_newarray k_503_2 h (fun h => (xq_astore_n k_503_3 rfl (xq_aload_n k_503_4 rfl (xq_getr k_503_5 rfl h (fun r2 h => (xq_iconst k_503_6 (xq_aload_n k_503_7 rfl (xq_iconst k_503_8 (xq_aload_n k_503_9 rfl (xq_geti0 k_503_10 rfl h (fun z3 h => (xq_copy k_503_11 rfl h (fun w4 h => (xq_new k_503_12 (xq_dupr k_503_13 (xq_aload_n k_503_14 rfl (xq_invi0 k_503_15 xr_901 rfl rfl rfl h (fun w5 h => (xq_areturn k_503_16 h)))))))))))))))))))))))
/-- ShodBackwards$Reader.readLevel(II)Z -/
theorem d_504_0 : List.drop 0 xm_c504 = xm_c504 := rfl
theorem k_504_0 : xm_gi xm_c504 0 = some xm_e504_0 := xm_gt d_504_0
theorem d_504_1 : List.drop 1 xm_c504 = xm_c504_1 := xm_dr d_504_0
theorem k_504_1 : xm_gi xm_c504 1 = some xm_e504_1 := xm_gt d_504_1
theorem d_504_2 : List.drop 2 xm_c504 = xm_c504_2 := xm_dr d_504_1
theorem k_504_2 : xm_gi xm_c504 2 = some xm_e504_2 := xm_gt d_504_2
theorem d_504_3 : List.drop 3 xm_c504 = xm_c504_3 := xm_dr d_504_2
theorem k_504_3 : xm_gi xm_c504 3 = some xm_e504_3 := xm_gt d_504_3
theorem d_504_4 : List.drop 4 xm_c504 = xm_c504_4 := xm_dr d_504_3
theorem k_504_4 : xm_gi xm_c504 4 = some xm_e504_4 := xm_gt d_504_4
theorem d_504_5 : List.drop 5 xm_c504 = xm_c504_5 := xm_dr d_504_4
theorem k_504_5 : xm_gi xm_c504 5 = some xm_e504_5 := xm_gt d_504_5
theorem d_504_6 : List.drop 6 xm_c504 = xm_c504_6 := xm_dr d_504_5
theorem k_504_6 : xm_gi xm_c504 6 = some xm_e504_6 := xm_gt d_504_6
theorem d_504_7 : List.drop 7 xm_c504 = xm_c504_7 := xm_dr d_504_6
theorem k_504_7 : xm_gi xm_c504 7 = some xm_e504_7 := xm_gt d_504_7
theorem d_504_8 : List.drop 8 xm_c504 = xm_c504_8 := xm_dr d_504_7
theorem k_504_8 : xm_gi xm_c504 8 = some xm_e504_8 := xm_gt d_504_8
theorem d_504_9 : List.drop 9 xm_c504 = xm_c504_9 := xm_dr d_504_8
theorem k_504_9 : xm_gi xm_c504 9 = some xm_e504_9 := xm_gt d_504_9
theorem d_504_10 : List.drop 10 xm_c504 = xm_c504_10 := xm_dr d_504_9
theorem k_504_10 : xm_gi xm_c504 10 = some xm_e504_10 := xm_gt d_504_10
theorem d_504_11 : List.drop 11 xm_c504 = xm_c504_11 := xm_dr d_504_10
theorem k_504_11 : xm_gi xm_c504 11 = some xm_e504_11 := xm_gt d_504_11
theorem d_504_12 : List.drop 12 xm_c504 = xm_c504_12 := xm_dr d_504_11
theorem k_504_12 : xm_gi xm_c504 12 = some xm_e504_12 := xm_gt d_504_12
theorem d_504_13 : List.drop 13 xm_c504 = xm_c504_13 := xm_dr d_504_12
theorem k_504_13 : xm_gi xm_c504 13 = some xm_e504_13 := xm_gt d_504_13
theorem d_504_14 : List.drop 14 xm_c504 = xm_c504_14 := xm_dr d_504_13
theorem k_504_14 : xm_gi xm_c504 14 = some xm_e504_14 := xm_gt d_504_14
theorem d_504_15 : List.drop 15 xm_c504 = xm_c504_15 := xm_dr d_504_14
theorem k_504_15 : xm_gi xm_c504 15 = some xm_e504_15 := xm_gt d_504_15
theorem d_504_16 : List.drop 16 xm_c504 = xm_c504_16 := xm_dr d_504_15
theorem k_504_16 : xm_gi xm_c504 16 = some xm_e504_16 := xm_gt d_504_16
theorem d_504_17 : List.drop 17 xm_c504 = xm_c504_17 := xm_dr d_504_16
theorem k_504_17 : xm_gi xm_c504 17 = some xm_e504_17 := xm_gt d_504_17
theorem d_504_18 : List.drop 18 xm_c504 = xm_c504_18 := xm_dr d_504_17
theorem k_504_18 : xm_gi xm_c504 18 = some xm_e504_18 := xm_gt d_504_18
theorem d_504_19 : List.drop 19 xm_c504 = xm_c504_19 := xm_dr d_504_18
theorem k_504_19 : xm_gi xm_c504 19 = some xm_e504_19 := xm_gt d_504_19
theorem d_504_20 : List.drop 20 xm_c504 = xm_c504_20 := xm_dr d_504_19
theorem k_504_20 : xm_gi xm_c504 20 = some xm_e504_20 := xm_gt d_504_20
theorem d_504_21 : List.drop 21 xm_c504 = xm_c504_21 := xm_dr d_504_20
theorem k_504_21 : xm_gi xm_c504 21 = some xm_e504_21 := xm_gt d_504_21
theorem d_504_22 : List.drop 22 xm_c504 = xm_c504_22 := xm_dr d_504_21
theorem k_504_22 : xm_gi xm_c504 22 = some xm_e504_22 := xm_gt d_504_22
theorem d_504_23 : List.drop 23 xm_c504 = xm_c504_23 := xm_dr d_504_22
theorem k_504_23 : xm_gi xm_c504 23 = some xm_e504_23 := xm_gt d_504_23
theorem d_504_24 : List.drop 24 xm_c504 = xm_c504_24 := xm_dr d_504_23
theorem k_504_24 : xm_gi xm_c504 24 = some xm_e504_24 := xm_gt d_504_24
theorem d_504_25 : List.drop 25 xm_c504 = xm_c504_25 := xm_dr d_504_24
theorem k_504_25 : xm_gi xm_c504 25 = some xm_e504_25 := xm_gt d_504_25
theorem d_504_26 : List.drop 26 xm_c504 = xm_c504_26 := xm_dr d_504_25
theorem k_504_26 : xm_gi xm_c504 26 = some xm_e504_26 := xm_gt d_504_26
theorem d_504_27 : List.drop 27 xm_c504 = xm_c504_27 := xm_dr d_504_26
theorem k_504_27 : xm_gi xm_c504 27 = some xm_e504_27 := xm_gt d_504_27
theorem d_504_28 : List.drop 28 xm_c504 = xm_c504_28 := xm_dr d_504_27
theorem k_504_28 : xm_gi xm_c504 28 = some xm_e504_28 := xm_gt d_504_28
theorem d_504_29 : List.drop 29 xm_c504 = xm_c504_29 := xm_dr d_504_28
theorem k_504_29 : xm_gi xm_c504 29 = some xm_e504_29 := xm_gt d_504_29
theorem d_504_30 : List.drop 30 xm_c504 = xm_c504_30 := xm_dr d_504_29
theorem k_504_30 : xm_gi xm_c504 30 = some xm_e504_30 := xm_gt d_504_30
theorem d_504_31 : List.drop 31 xm_c504 = xm_c504_31 := xm_dr d_504_30
theorem k_504_31 : xm_gi xm_c504 31 = some xm_e504_31 := xm_gt d_504_31
theorem d_504_32 : List.drop 32 xm_c504 = xm_c504_32 := xm_dr d_504_31
theorem k_504_32 : xm_gi xm_c504 32 = some xm_e504_32 := xm_gt d_504_32
theorem d_504_33 : List.drop 33 xm_c504 = xm_c504_33 := xm_dr d_504_32
theorem k_504_33 : xm_gi xm_c504 33 = some xm_e504_33 := xm_gt d_504_33
theorem d_504_34 : List.drop 34 xm_c504 = xm_c504_34 := xm_dr d_504_33
theorem k_504_34 : xm_gi xm_c504 34 = some xm_e504_34 := xm_gt d_504_34
theorem d_504_35 : List.drop 35 xm_c504 = xm_c504_35 := xm_dr d_504_34
theorem k_504_35 : xm_gi xm_c504 35 = some xm_e504_35 := xm_gt d_504_35
theorem d_504_36 : List.drop 36 xm_c504 = xm_c504_36 := xm_dr d_504_35
theorem k_504_36 : xm_gi xm_c504 36 = some xm_e504_36 := xm_gt d_504_36
theorem d_504_37 : List.drop 37 xm_c504 = xm_c504_37 := xm_dr d_504_36
theorem k_504_37 : xm_gi xm_c504 37 = some xm_e504_37 := xm_gt d_504_37
theorem d_504_38 : List.drop 38 xm_c504 = xm_c504_38 := xm_dr d_504_37
theorem k_504_38 : xm_gi xm_c504 38 = some xm_e504_38 := xm_gt d_504_38
theorem d_504_39 : List.drop 39 xm_c504 = xm_c504_39 := xm_dr d_504_38
theorem k_504_39 : xm_gi xm_c504 39 = some xm_e504_39 := xm_gt d_504_39
theorem d_504_40 : List.drop 40 xm_c504 = xm_c504_40 := xm_dr d_504_39
theorem k_504_40 : xm_gi xm_c504 40 = some xm_e504_40 := xm_gt d_504_40
theorem d_504_41 : List.drop 41 xm_c504 = xm_c504_41 := xm_dr d_504_40
theorem k_504_41 : xm_gi xm_c504 41 = some xm_e504_41 := xm_gt d_504_41
theorem d_504_42 : List.drop 42 xm_c504 = xm_c504_42 := xm_dr d_504_41
theorem k_504_42 : xm_gi xm_c504 42 = some xm_e504_42 := xm_gt d_504_42
theorem d_504_43 : List.drop 43 xm_c504 = xm_c504_43 := xm_dr d_504_42
theorem k_504_43 : xm_gi xm_c504 43 = some xm_e504_43 := xm_gt d_504_43
theorem d_504_44 : List.drop 44 xm_c504 = xm_c504_44 := xm_dr d_504_43
theorem k_504_44 : xm_gi xm_c504 44 = some xm_e504_44 := xm_gt d_504_44
theorem d_504_45 : List.drop 45 xm_c504 = xm_c504_45 := xm_dr d_504_44
theorem k_504_45 : xm_gi xm_c504 45 = some xm_e504_45 := xm_gt d_504_45
theorem d_504_46 : List.drop 46 xm_c504 = xm_c504_46 := xm_dr d_504_45
theorem k_504_46 : xm_gi xm_c504 46 = some xm_e504_46 := xm_gt d_504_46
theorem d_504_47 : List.drop 47 xm_c504 = xm_c504_47 := xm_dr d_504_46
theorem k_504_47 : xm_gi xm_c504 47 = some xm_e504_47 := xm_gt d_504_47
theorem d_504_48 : List.drop 48 xm_c504 = xm_c504_48 := xm_dr d_504_47
theorem k_504_48 : xm_gi xm_c504 48 = some xm_e504_48 := xm_gt d_504_48
theorem d_504_49 : List.drop 49 xm_c504 = xm_c504_49 := xm_dr d_504_48
theorem k_504_49 : xm_gi xm_c504 49 = some xm_e504_49 := xm_gt d_504_49
theorem d_504_50 : List.drop 50 xm_c504 = xm_c504_50 := xm_dr d_504_49
theorem k_504_50 : xm_gi xm_c504 50 = some xm_e504_50 := xm_gt d_504_50
theorem d_504_51 : List.drop 51 xm_c504 = xm_c504_51 := xm_dr d_504_50
theorem k_504_51 : xm_gi xm_c504 51 = some xm_e504_51 := xm_gt d_504_51
theorem d_504_52 : List.drop 52 xm_c504 = xm_c504_52 := xm_dr d_504_51
theorem k_504_52 : xm_gi xm_c504 52 = some xm_e504_52 := xm_gt d_504_52
theorem d_504_53 : List.drop 53 xm_c504 = xm_c504_53 := xm_dr d_504_52
theorem k_504_53 : xm_gi xm_c504 53 = some xm_e504_53 := xm_gt d_504_53
theorem d_504_54 : List.drop 54 xm_c504 = xm_c504_54 := xm_dr d_504_53
theorem k_504_54 : xm_gi xm_c504 54 = some xm_e504_54 := xm_gt d_504_54
theorem d_504_55 : List.drop 55 xm_c504 = xm_c504_55 := xm_dr d_504_54
theorem k_504_55 : xm_gi xm_c504 55 = some xm_e504_55 := xm_gt d_504_55
theorem d_504_56 : List.drop 56 xm_c504 = xm_c504_56 := xm_dr d_504_55
theorem k_504_56 : xm_gi xm_c504 56 = some xm_e504_56 := xm_gt d_504_56
theorem d_504_57 : List.drop 57 xm_c504 = xm_c504_57 := xm_dr d_504_56
theorem k_504_57 : xm_gi xm_c504 57 = some xm_e504_57 := xm_gt d_504_57
theorem d_504_58 : List.drop 58 xm_c504 = xm_c504_58 := xm_dr d_504_57
theorem k_504_58 : xm_gi xm_c504 58 = some xm_e504_58 := xm_gt d_504_58
theorem d_504_59 : List.drop 59 xm_c504 = xm_c504_59 := xm_dr d_504_58
theorem k_504_59 : xm_gi xm_c504 59 = some xm_e504_59 := xm_gt d_504_59
theorem d_504_60 : List.drop 60 xm_c504 = xm_c504_60 := xm_dr d_504_59
theorem k_504_60 : xm_gi xm_c504 60 = some xm_e504_60 := xm_gt d_504_60
theorem d_504_61 : List.drop 61 xm_c504 = xm_c504_61 := xm_dr d_504_60
theorem k_504_61 : xm_gi xm_c504 61 = some xm_e504_61 := xm_gt d_504_61
theorem xb_504_0 {sc : List Int} {f : Nat → List xm_V → xm_W → xm_R} {w : xm_W} {Q : Option xm_V × xm_W → Prop} {x0 : Nat} {x1 : Int} {x2 : Int}
  (h : if (4 : Int) < x1 then (xm_Oi (f 505 [.inr (.inl (some x0)), .inl x2] w) (fun z4 w3 => Q (some (.inl z4), w3))) else (xm_Oi (f 504 [.inr (.inl (some x0)), .inl (xm_w (x1 + 1)), .inl x2] w) (fun z2 w1 => if (z2 : Int) = 0 then (Q (some (.inl 0), w1)) else (xm_EQ (xm_old sc) xm_sta f xm_c504 16 [some (.inr (.inl (some x0))), some (.inl x1), some (.inl x2), none] [] w1 Q)))) :
  xm_EQ (xm_old sc) xm_sta f xm_c504 0 [some (.inr (.inl (some x0))), some (.inl x1), some (.inl x2), none] [] w Q :=
  (xq_iload_n k_504_0 rfl (xq_iconst k_504_1 (xq_ic_le k_504_2 h (fun h => (xq_aload_n k_504_3 rfl (xq_iload_n k_504_4 rfl (xq_invv2 k_504_5 xr_505 rfl rfl rfl h (fun z4 w3 h => (xq_ireturn k_504_6 h)))))) (fun h => (xq_aload_n k_504_7 rfl (xq_iload_n k_504_8 rfl (xq_iconst k_504_9 (xq_iadd k_504_10 (xq_iload_n k_504_11 rfl (xq_invv2 k_504_12 xr_504 rfl rfl rfl h (fun z2 w1 h => (xq_if_ne k_504_13 h (fun h => (xq_iconst k_504_14 (xq_ireturn k_504_15 h))) (fun h => h)))))))))))))
theorem xb_504_16 {sc : List Int} {f : Nat → List xm_V → xm_W → xm_R} {w : xm_W} {Q : Option xm_V × xm_W → Prop} {x0 : Nat} {x1 : Int} {x2 : Int} {u3 : Option xm_V}
  (h : xm_O (xm_fi (xm_old sc) w x0 3 3) (fun z1 => xm_O (xm_fi (xm_old sc) w x0 3 1) (fun z2 => if (z1 : Int) < z2 then (xm_O (xm_fr (xm_old sc) w x0 3 0) (fun r3 => xm_O (xm_fi (xm_old sc) w x0 3 3) (fun z4 => xm_O (xm_ints (xm_old sc) w r3) (fun l5 => xm_O (xm_at l5 z4) (fun z6 => xm_Oi (f 511 [.inl z6] w) (fun z8 w7 => if (z8 : Int) = x1 then (xm_O (xm_fr (xm_old sc) w7 x0 3 0) (fun r9 => xm_O (xm_fi (xm_old sc) w7 x0 3 3) (fun z10 => xm_O (xm_ints (xm_old sc) w7 r9) (fun l11 => xm_O (xm_at l11 z10) (fun z12 => xm_O (xm_fi (xm_old sc) w7 x0 3 3) (fun z13 => xm_O (xm_setf w7 x0 3 3 0 (.inl (xm_w (z13 + 1)))) (fun w14 => xm_Oi (f 504 [.inr (.inl (some x0)), .inl (xm_w (x1 + 1)), .inl x2] w14) (fun z16 w15 => if (z16 : Int) = 0 then (Q (some (.inl 0), w15)) else (xm_Ov (f 509 [.inr (.inl (some x0)), .inl (xm_w ((-10) - z12))] w15) (fun w17 => if (x1 : Int) = 2 then (Q (some (.inl 1), w17)) else (xm_EQ (xm_old sc) xm_sta f xm_c504 16 [some (.inr (.inl (some x0))), some (.inl x1), some (.inl x2), some (.inl z12)] [] w17 Q))))))))))) else (Q (some (.inl 1), w7)))))))) else (Q (some (.inl 1), w))))) :
  xm_EQ (xm_old sc) xm_sta f xm_c504 16 [some (.inr (.inl (some x0))), some (.inl x1), some (.inl x2), u3] [] w Q :=
  (xq_aload_n k_504_16 rfl (xq_geti0 k_504_17 rfl h (fun z1 h => (xq_aload_n k_504_18 rfl (xq_geti0 k_504_19 rfl h (fun z2 h => (xq_ic_ge k_504_20 h (fun h => (xq_aload_n k_504_21 rfl (xq_getr k_504_22 rfl h (fun r3 h => (xq_aload_n k_504_23 rfl (xq_geti0 k_504_24 rfl h (fun z4 h => (xq_iaload k_504_25 h (fun l5 h => h) (fun l5 z6 h => (xq_invs1 k_504_26 xr_511 rfl rfl rfl h (fun z8 w7 h => (xq_iload_n k_504_27 rfl (xq_ic_ne k_504_28 h (fun h => (xq_aload_n k_504_29 rfl (xq_getr k_504_30 rfl h (fun r9 h => (xq_aload_n k_504_31 rfl (xq_geti0 k_504_32 rfl h (fun z10 h => (xq_iaload k_504_33 h (fun l11 h => h) (fun l11 z12 h => (xq_istore_n k_504_34 rfl (xq_aload_n k_504_35 rfl (xq_dupr k_504_36 (xq_geti0 k_504_37 rfl h (fun z13 h => (xq_iconst k_504_38 (xq_iadd k_504_39 (xq_put k_504_40 rfl h (fun w14 h => (xq_aload_n k_504_41 rfl (xq_iload_n k_504_42 rfl (xq_iconst k_504_43 (xq_iadd k_504_44 (xq_iload_n k_504_45 rfl (xq_invv2 k_504_46 xr_504 rfl rfl rfl h (fun z16 w15 h => (xq_if_ne k_504_47 h (fun h => (xq_iconst k_504_48 (xq_ireturn k_504_49 h))) (fun h => (xq_aload_n k_504_50 rfl (xq_bipush k_504_51 (xq_iload_n k_504_52 rfl (xq_isub k_504_53 (xq_invv0 k_504_54 xr_509 rfl rfl rfl h (fun w17 h => (xq_iload_n k_504_55 rfl (xq_iconst k_504_56 (xq_ic_ne k_504_57 h (fun h => (xq_goto k_504_58 (xq_iconst k_504_60 (xq_ireturn k_504_61 h)))) (fun h => (xq_goto k_504_59 h)))))))))))))))))))))))))))))))))))))) (fun h => (xq_iconst k_504_60 (xq_ireturn k_504_61 h)))))))))))))))) (fun h => (xq_iconst k_504_60 (xq_ireturn k_504_61 h))))))))))
/-- ShodBackwards$Reader.readUnit(I)Z -/
theorem d_505_0 : List.drop 0 xm_c505 = xm_c505 := rfl
theorem k_505_0 : xm_gi xm_c505 0 = some xm_e505_0 := xm_gt d_505_0
theorem d_505_1 : List.drop 1 xm_c505 = xm_c505_1 := xm_dr d_505_0
theorem k_505_1 : xm_gi xm_c505 1 = some xm_e505_1 := xm_gt d_505_1
theorem d_505_2 : List.drop 2 xm_c505 = xm_c505_2 := xm_dr d_505_1
theorem k_505_2 : xm_gi xm_c505 2 = some xm_e505_2 := xm_gt d_505_2
theorem d_505_3 : List.drop 3 xm_c505 = xm_c505_3 := xm_dr d_505_2
theorem k_505_3 : xm_gi xm_c505 3 = some xm_e505_3 := xm_gt d_505_3
theorem d_505_4 : List.drop 4 xm_c505 = xm_c505_4 := xm_dr d_505_3
theorem k_505_4 : xm_gi xm_c505 4 = some xm_e505_4 := xm_gt d_505_4
theorem d_505_5 : List.drop 5 xm_c505 = xm_c505_5 := xm_dr d_505_4
theorem k_505_5 : xm_gi xm_c505 5 = some xm_e505_5 := xm_gt d_505_5
theorem d_505_6 : List.drop 6 xm_c505 = xm_c505_6 := xm_dr d_505_5
theorem k_505_6 : xm_gi xm_c505 6 = some xm_e505_6 := xm_gt d_505_6
theorem d_505_7 : List.drop 7 xm_c505 = xm_c505_7 := xm_dr d_505_6
theorem k_505_7 : xm_gi xm_c505 7 = some xm_e505_7 := xm_gt d_505_7
theorem d_505_8 : List.drop 8 xm_c505 = xm_c505_8 := xm_dr d_505_7
theorem k_505_8 : xm_gi xm_c505 8 = some xm_e505_8 := xm_gt d_505_8
theorem d_505_9 : List.drop 9 xm_c505 = xm_c505_9 := xm_dr d_505_8
theorem k_505_9 : xm_gi xm_c505 9 = some xm_e505_9 := xm_gt d_505_9
theorem d_505_10 : List.drop 10 xm_c505 = xm_c505_10 := xm_dr d_505_9
theorem k_505_10 : xm_gi xm_c505 10 = some xm_e505_10 := xm_gt d_505_10
theorem d_505_11 : List.drop 11 xm_c505 = xm_c505_11 := xm_dr d_505_10
theorem k_505_11 : xm_gi xm_c505 11 = some xm_e505_11 := xm_gt d_505_11
theorem d_505_12 : List.drop 12 xm_c505 = xm_c505_12 := xm_dr d_505_11
theorem k_505_12 : xm_gi xm_c505 12 = some xm_e505_12 := xm_gt d_505_12
theorem d_505_13 : List.drop 13 xm_c505 = xm_c505_13 := xm_dr d_505_12
theorem k_505_13 : xm_gi xm_c505 13 = some xm_e505_13 := xm_gt d_505_13
theorem d_505_14 : List.drop 14 xm_c505 = xm_c505_14 := xm_dr d_505_13
theorem k_505_14 : xm_gi xm_c505 14 = some xm_e505_14 := xm_gt d_505_14
theorem d_505_15 : List.drop 15 xm_c505 = xm_c505_15 := xm_dr d_505_14
theorem k_505_15 : xm_gi xm_c505 15 = some xm_e505_15 := xm_gt d_505_15
theorem d_505_16 : List.drop 16 xm_c505 = xm_c505_16 := xm_dr d_505_15
theorem k_505_16 : xm_gi xm_c505 16 = some xm_e505_16 := xm_gt d_505_16
theorem d_505_17 : List.drop 17 xm_c505 = xm_c505_17 := xm_dr d_505_16
theorem k_505_17 : xm_gi xm_c505 17 = some xm_e505_17 := xm_gt d_505_17
theorem d_505_18 : List.drop 18 xm_c505 = xm_c505_18 := xm_dr d_505_17
theorem k_505_18 : xm_gi xm_c505 18 = some xm_e505_18 := xm_gt d_505_18
theorem d_505_19 : List.drop 19 xm_c505 = xm_c505_19 := xm_dr d_505_18
theorem k_505_19 : xm_gi xm_c505 19 = some xm_e505_19 := xm_gt d_505_19
theorem d_505_20 : List.drop 20 xm_c505 = xm_c505_20 := xm_dr d_505_19
theorem k_505_20 : xm_gi xm_c505 20 = some xm_e505_20 := xm_gt d_505_20
theorem d_505_21 : List.drop 21 xm_c505 = xm_c505_21 := xm_dr d_505_20
theorem k_505_21 : xm_gi xm_c505 21 = some xm_e505_21 := xm_gt d_505_21
theorem d_505_22 : List.drop 22 xm_c505 = xm_c505_22 := xm_dr d_505_21
theorem k_505_22 : xm_gi xm_c505 22 = some xm_e505_22 := xm_gt d_505_22
theorem d_505_23 : List.drop 23 xm_c505 = xm_c505_23 := xm_dr d_505_22
theorem k_505_23 : xm_gi xm_c505 23 = some xm_e505_23 := xm_gt d_505_23
theorem d_505_24 : List.drop 24 xm_c505 = xm_c505_24 := xm_dr d_505_23
theorem k_505_24 : xm_gi xm_c505 24 = some xm_e505_24 := xm_gt d_505_24
theorem d_505_25 : List.drop 25 xm_c505 = xm_c505_25 := xm_dr d_505_24
theorem k_505_25 : xm_gi xm_c505 25 = some xm_e505_25 := xm_gt d_505_25
theorem d_505_26 : List.drop 26 xm_c505 = xm_c505_26 := xm_dr d_505_25
theorem k_505_26 : xm_gi xm_c505 26 = some xm_e505_26 := xm_gt d_505_26
theorem d_505_27 : List.drop 27 xm_c505 = xm_c505_27 := xm_dr d_505_26
theorem k_505_27 : xm_gi xm_c505 27 = some xm_e505_27 := xm_gt d_505_27
theorem d_505_28 : List.drop 28 xm_c505 = xm_c505_28 := xm_dr d_505_27
theorem k_505_28 : xm_gi xm_c505 28 = some xm_e505_28 := xm_gt d_505_28
theorem d_505_29 : List.drop 29 xm_c505 = xm_c505_29 := xm_dr d_505_28
theorem k_505_29 : xm_gi xm_c505 29 = some xm_e505_29 := xm_gt d_505_29
theorem d_505_30 : List.drop 30 xm_c505 = xm_c505_30 := xm_dr d_505_29
theorem k_505_30 : xm_gi xm_c505 30 = some xm_e505_30 := xm_gt d_505_30
theorem d_505_31 : List.drop 31 xm_c505 = xm_c505_31 := xm_dr d_505_30
theorem k_505_31 : xm_gi xm_c505 31 = some xm_e505_31 := xm_gt d_505_31
theorem d_505_32 : List.drop 32 xm_c505 = xm_c505_32 := xm_dr d_505_31
theorem k_505_32 : xm_gi xm_c505 32 = some xm_e505_32 := xm_gt d_505_32
theorem d_505_33 : List.drop 33 xm_c505 = xm_c505_33 := xm_dr d_505_32
theorem k_505_33 : xm_gi xm_c505 33 = some xm_e505_33 := xm_gt d_505_33
theorem d_505_34 : List.drop 34 xm_c505 = xm_c505_34 := xm_dr d_505_33
theorem k_505_34 : xm_gi xm_c505 34 = some xm_e505_34 := xm_gt d_505_34
theorem d_505_35 : List.drop 35 xm_c505 = xm_c505_35 := xm_dr d_505_34
theorem k_505_35 : xm_gi xm_c505 35 = some xm_e505_35 := xm_gt d_505_35
theorem d_505_36 : List.drop 36 xm_c505 = xm_c505_36 := xm_dr d_505_35
theorem k_505_36 : xm_gi xm_c505 36 = some xm_e505_36 := xm_gt d_505_36
theorem d_505_37 : List.drop 37 xm_c505 = xm_c505_37 := xm_dr d_505_36
theorem k_505_37 : xm_gi xm_c505 37 = some xm_e505_37 := xm_gt d_505_37
theorem d_505_38 : List.drop 38 xm_c505 = xm_c505_38 := xm_dr d_505_37
theorem k_505_38 : xm_gi xm_c505 38 = some xm_e505_38 := xm_gt d_505_38
theorem d_505_39 : List.drop 39 xm_c505 = xm_c505_39 := xm_dr d_505_38
theorem k_505_39 : xm_gi xm_c505 39 = some xm_e505_39 := xm_gt d_505_39
theorem d_505_40 : List.drop 40 xm_c505 = xm_c505_40 := xm_dr d_505_39
theorem k_505_40 : xm_gi xm_c505 40 = some xm_e505_40 := xm_gt d_505_40
theorem d_505_41 : List.drop 41 xm_c505 = xm_c505_41 := xm_dr d_505_40
theorem k_505_41 : xm_gi xm_c505 41 = some xm_e505_41 := xm_gt d_505_41
theorem d_505_42 : List.drop 42 xm_c505 = xm_c505_42 := xm_dr d_505_41
theorem k_505_42 : xm_gi xm_c505 42 = some xm_e505_42 := xm_gt d_505_42
theorem d_505_43 : List.drop 43 xm_c505 = xm_c505_43 := xm_dr d_505_42
theorem k_505_43 : xm_gi xm_c505 43 = some xm_e505_43 := xm_gt d_505_43
theorem d_505_44 : List.drop 44 xm_c505 = xm_c505_44 := xm_dr d_505_43
theorem k_505_44 : xm_gi xm_c505 44 = some xm_e505_44 := xm_gt d_505_44
theorem d_505_45 : List.drop 45 xm_c505 = xm_c505_45 := xm_dr d_505_44
theorem k_505_45 : xm_gi xm_c505 45 = some xm_e505_45 := xm_gt d_505_45
theorem d_505_46 : List.drop 46 xm_c505 = xm_c505_46 := xm_dr d_505_45
theorem k_505_46 : xm_gi xm_c505 46 = some xm_e505_46 := xm_gt d_505_46
theorem d_505_47 : List.drop 47 xm_c505 = xm_c505_47 := xm_dr d_505_46
theorem k_505_47 : xm_gi xm_c505 47 = some xm_e505_47 := xm_gt d_505_47
theorem d_505_48 : List.drop 48 xm_c505 = xm_c505_48 := xm_dr d_505_47
theorem k_505_48 : xm_gi xm_c505 48 = some xm_e505_48 := xm_gt d_505_48
theorem d_505_49 : List.drop 49 xm_c505 = xm_c505_49 := xm_dr d_505_48
theorem k_505_49 : xm_gi xm_c505 49 = some xm_e505_49 := xm_gt d_505_49
theorem d_505_50 : List.drop 50 xm_c505 = xm_c505_50 := xm_dr d_505_49
theorem k_505_50 : xm_gi xm_c505 50 = some xm_e505_50 := xm_gt d_505_50
theorem d_505_51 : List.drop 51 xm_c505 = xm_c505_51 := xm_dr d_505_50
theorem k_505_51 : xm_gi xm_c505 51 = some xm_e505_51 := xm_gt d_505_51
theorem d_505_52 : List.drop 52 xm_c505 = xm_c505_52 := xm_dr d_505_51
theorem k_505_52 : xm_gi xm_c505 52 = some xm_e505_52 := xm_gt d_505_52
theorem d_505_53 : List.drop 53 xm_c505 = xm_c505_53 := xm_dr d_505_52
theorem k_505_53 : xm_gi xm_c505 53 = some xm_e505_53 := xm_gt d_505_53
theorem d_505_54 : List.drop 54 xm_c505 = xm_c505_54 := xm_dr d_505_53
theorem k_505_54 : xm_gi xm_c505 54 = some xm_e505_54 := xm_gt d_505_54
theorem d_505_55 : List.drop 55 xm_c505 = xm_c505_55 := xm_dr d_505_54
theorem k_505_55 : xm_gi xm_c505 55 = some xm_e505_55 := xm_gt d_505_55
theorem d_505_56 : List.drop 56 xm_c505 = xm_c505_56 := xm_dr d_505_55
theorem k_505_56 : xm_gi xm_c505 56 = some xm_e505_56 := xm_gt d_505_56
theorem d_505_57 : List.drop 57 xm_c505 = xm_c505_57 := xm_dr d_505_56
theorem k_505_57 : xm_gi xm_c505 57 = some xm_e505_57 := xm_gt d_505_57
theorem d_505_58 : List.drop 58 xm_c505 = xm_c505_58 := xm_dr d_505_57
theorem k_505_58 : xm_gi xm_c505 58 = some xm_e505_58 := xm_gt d_505_58
theorem d_505_59 : List.drop 59 xm_c505 = xm_c505_59 := xm_dr d_505_58
theorem k_505_59 : xm_gi xm_c505 59 = some xm_e505_59 := xm_gt d_505_59
theorem d_505_60 : List.drop 60 xm_c505 = xm_c505_60 := xm_dr d_505_59
theorem k_505_60 : xm_gi xm_c505 60 = some xm_e505_60 := xm_gt d_505_60
theorem d_505_61 : List.drop 61 xm_c505 = xm_c505_61 := xm_dr d_505_60
theorem k_505_61 : xm_gi xm_c505 61 = some xm_e505_61 := xm_gt d_505_61
theorem d_505_62 : List.drop 62 xm_c505 = xm_c505_62 := xm_dr d_505_61
theorem k_505_62 : xm_gi xm_c505 62 = some xm_e505_62 := xm_gt d_505_62
theorem d_505_63 : List.drop 63 xm_c505 = xm_c505_63 := xm_dr d_505_62
theorem k_505_63 : xm_gi xm_c505 63 = some xm_e505_63 := xm_gt d_505_63
theorem d_505_64 : List.drop 64 xm_c505 = xm_c505_64 := xm_dr d_505_63
theorem k_505_64 : xm_gi xm_c505 64 = some xm_e505_64 := xm_gt d_505_64
theorem d_505_65 : List.drop 65 xm_c505 = xm_c505_65 := xm_dr d_505_64
theorem k_505_65 : xm_gi xm_c505 65 = some xm_e505_65 := xm_gt d_505_65
theorem d_505_66 : List.drop 66 xm_c505 = xm_c505_66 := xm_dr d_505_65
theorem k_505_66 : xm_gi xm_c505 66 = some xm_e505_66 := xm_gt d_505_66
theorem d_505_67 : List.drop 67 xm_c505 = xm_c505_67 := xm_dr d_505_66
theorem k_505_67 : xm_gi xm_c505 67 = some xm_e505_67 := xm_gt d_505_67
theorem d_505_68 : List.drop 68 xm_c505 = xm_c505_68 := xm_dr d_505_67
theorem k_505_68 : xm_gi xm_c505 68 = some xm_e505_68 := xm_gt d_505_68
theorem d_505_69 : List.drop 69 xm_c505 = xm_c505_69 := xm_dr d_505_68
theorem k_505_69 : xm_gi xm_c505 69 = some xm_e505_69 := xm_gt d_505_69
theorem d_505_70 : List.drop 70 xm_c505 = xm_c505_70 := xm_dr d_505_69
theorem k_505_70 : xm_gi xm_c505 70 = some xm_e505_70 := xm_gt d_505_70
theorem d_505_71 : List.drop 71 xm_c505 = xm_c505_71 := xm_dr d_505_70
theorem k_505_71 : xm_gi xm_c505 71 = some xm_e505_71 := xm_gt d_505_71
theorem d_505_72 : List.drop 72 xm_c505 = xm_c505_72 := xm_dr d_505_71
theorem k_505_72 : xm_gi xm_c505 72 = some xm_e505_72 := xm_gt d_505_72
theorem xb_505_0 {sc : List Int} {f : Nat → List xm_V → xm_W → xm_R} {w : xm_W} {Q : Option xm_V × xm_W → Prop} {x0 : Nat} {x1 : Int}
  (h : xm_O (xm_fi (xm_old sc) w x0 3 3) (fun z1 => xm_O (xm_fi (xm_old sc) w x0 3 1) (fun z2 => if (z1 : Int) < z2 then (xm_O (xm_fr (xm_old sc) w x0 3 0) (fun r3 => xm_O (xm_fi (xm_old sc) w x0 3 3) (fun z4 => xm_O (xm_ints (xm_old sc) w r3) (fun l5 => xm_O (xm_at l5 z4) (fun z6 => xm_Oi (f 510 [.inl z6] w) (fun z8 w7 => if (z8 : Int) = 0 then (xm_O (xm_fr (xm_old sc) w7 x0 3 2) (fun r9 => xm_Oi (f 1479 [.inr (.inl (some r9)), .inl (z6 % 65536)] w7) (fun z11 w10 => if (z11 : Int) < 0 then (if (z6 : Int) = 33 then (if (x1 : Int) < 5 then (xm_O (xm_fi (xm_old sc) w10 x0 3 3) (fun z12 => xm_O (xm_setf w10 x0 3 3 0 (.inl (xm_w (z12 + 1)))) (fun w13 => if (z6 : Int) = 33 then (xm_Oi (f 506 [.inr (.inl (some x0)), .inl (xm_w (x1 + 1))] w13) (fun z17 w16 => Q (some (.inl z17), w16))) else (xm_Oi (f 507 [.inr (.inl (some x0)), .inl (xm_w (x1 + 1))] w13) (fun z15 w14 => Q (some (.inl z15), w14)))))) else (Q (some (.inl 0), w10))) else (if (z6 : Int) = 40 then (if (x1 : Int) < 5 then (xm_O (xm_fi (xm_old sc) w10 x0 3 3) (fun z18 => xm_O (xm_setf w10 x0 3 3 0 (.inl (xm_w (z18 + 1)))) (fun w19 => if (z6 : Int) = 33 then (xm_Oi (f 506 [.inr (.inl (some x0)), .inl (xm_w (x1 + 1))] w19) (fun z23 w22 => Q (some (.inl z23), w22))) else (xm_Oi (f 507 [.inr (.inl (some x0)), .inl (xm_w (x1 + 1))] w19) (fun z21 w20 => Q (some (.inl z21), w20)))))) else (Q (some (.inl 0), w10))) else (Q (some (.inl 0), w10)))) else (xm_O (xm_fi (xm_old sc) w10 x0 3 3) (fun z24 => xm_O (xm_setf w10 x0 3 3 0 (.inl (xm_w (z24 + 1)))) (fun w25 => xm_Ov (f 509 [.inr (.inl (some x0)), .inl (xm_w ((-1) - z11))] w25) (fun w26 => Q (some (.inl 1), w26)))))))) else (xm_Ov (f 508 [.inr (.inl (some x0))] w7) (fun w27 => Q (some (.inl 1), w27))))))))) else (Q (some (.inl 0), w))))) :
  xm_EQ (xm_old sc) xm_sta f xm_c505 0 [some (.inr (.inl (some x0))), some (.inl x1), none, none] [] w Q :=
  (xq_aload_n k_505_0 rfl (xq_geti0 k_505_1 rfl h (fun z1 h => (xq_aload_n k_505_2 rfl (xq_geti0 k_505_3 rfl h (fun z2 h => (xq_ic_lt k_505_4 h (fun h => (xq_aload_n k_505_7 rfl (xq_getr k_505_8 rfl h (fun r3 h => (xq_aload_n k_505_9 rfl (xq_geti0 k_505_10 rfl h (fun z4 h => (xq_iaload k_505_11 h (fun l5 h => h) (fun l5 z6 h => (xq_istore_n k_505_12 rfl (xq_iload_n k_505_13 rfl (xq_invs2 k_505_14 xr_510 rfl rfl rfl h (fun z8 w7 h => (xq_if_eq k_505_15 h (fun h => (xq_aload_n k_505_20 rfl (xq_getr k_505_21 rfl h (fun r9 h => (xq_iload_n k_505_22 rfl (xq_i2c k_505_23 (xq_invv1 k_505_24 xr_1479 rfl rfl rfl h (fun z11 w10 h => (xq_istore_n k_505_25 rfl (xq_iload_n k_505_26 rfl (xq_if_lt k_505_27 h (fun h => (xq_iload_n k_505_41 rfl (xq_bipush k_505_42 (xq_ic_eq k_505_43 h (fun h => (xq_iload_n k_505_47 rfl (xq_iconst k_505_48 (xq_ic_lt k_505_49 h (fun h => (xq_aload_n k_505_52 rfl (xq_dupr k_505_53 (xq_geti0 k_505_54 rfl h (fun z12 h => (xq_iconst k_505_55 (xq_iadd k_505_56 (xq_put k_505_57 rfl h (fun w13 h => (xq_iload_n k_505_58 rfl (xq_bipush k_505_59 (xq_ic_ne k_505_60 h (fun h => (xq_aload_n k_505_61 rfl (xq_iload_n k_505_62 rfl (xq_iconst k_505_63 (xq_iadd k_505_64 (xq_invv2 k_505_65 xr_506 rfl rfl rfl h (fun z17 w16 h => (xq_goto k_505_66 (xq_ireturn k_505_72 h))))))))) (fun h => (xq_aload_n k_505_67 rfl (xq_iload_n k_505_68 rfl (xq_iconst k_505_69 (xq_iadd k_505_70 (xq_invv2 k_505_71 xr_507 rfl rfl rfl h (fun z15 w14 h => (xq_ireturn k_505_72 h)))))))))))))))))))) (fun h => (xq_iconst k_505_50 (xq_ireturn k_505_51 h))))))) (fun h => (xq_iload_n k_505_44 rfl (xq_bipush k_505_45 (xq_ic_ne k_505_46 h (fun h => (xq_iload_n k_505_47 rfl (xq_iconst k_505_48 (xq_ic_lt k_505_49 h (fun h => (xq_aload_n k_505_52 rfl (xq_dupr k_505_53 (xq_geti0 k_505_54 rfl h (fun z18 h => (xq_iconst k_505_55 (xq_iadd k_505_56 (xq_put k_505_57 rfl h (fun w19 h => (xq_iload_n k_505_58 rfl (xq_bipush k_505_59 (xq_ic_ne k_505_60 h (fun h => (xq_aload_n k_505_61 rfl (xq_iload_n k_505_62 rfl (xq_iconst k_505_63 (xq_iadd k_505_64 (xq_invv2 k_505_65 xr_506 rfl rfl rfl h (fun z23 w22 h => (xq_goto k_505_66 (xq_ireturn k_505_72 h))))))))) (fun h => (xq_aload_n k_505_67 rfl (xq_iload_n k_505_68 rfl (xq_iconst k_505_69 (xq_iadd k_505_70 (xq_invv2 k_505_71 xr_507 rfl rfl rfl h (fun z21 w20 h => (xq_ireturn k_505_72 h)))))))))))))))))))) (fun h => (xq_iconst k_505_50 (xq_ireturn k_505_51 h))))))) (fun h => (xq_iconst k_505_50 (xq_ireturn k_505_51 h))))))))))) (fun h => (xq_aload_n k_505_28 rfl (xq_dupr k_505_29 (xq_geti0 k_505_30 rfl h (fun z24 h => (xq_iconst k_505_31 (xq_iadd k_505_32 (xq_put k_505_33 rfl h (fun w25 h => (xq_aload_n k_505_34 rfl (xq_iconst k_505_35 (xq_iload_n k_505_36 rfl (xq_isub k_505_37 (xq_invv0 k_505_38 xr_509 rfl rfl rfl h (fun w26 h => (xq_iconst k_505_39 (xq_ireturn k_505_40 h)))))))))))))))))))))))))))) (fun h => (xq_aload_n k_505_16 rfl (xq_invv0 k_505_17 xr_508 rfl rfl rfl h (fun w27 h => (xq_iconst k_505_18 (xq_ireturn k_505_19 h)))))))))))))))))))) (fun h => (xq_iconst k_505_5 (xq_ireturn k_505_6 h))))))))))
/-- ShodBackwards$Reader.readDenied(I)Z -/
theorem d_506_0 : List.drop 0 xm_c506 = xm_c506 := rfl
theorem k_506_0 : xm_gi xm_c506 0 = some xm_e506_0 := xm_gt d_506_0
theorem d_506_1 : List.drop 1 xm_c506 = xm_c506_1 := xm_dr d_506_0
theorem k_506_1 : xm_gi xm_c506 1 = some xm_e506_1 := xm_gt d_506_1
theorem d_506_2 : List.drop 2 xm_c506 = xm_c506_2 := xm_dr d_506_1
theorem k_506_2 : xm_gi xm_c506 2 = some xm_e506_2 := xm_gt d_506_2
theorem d_506_3 : List.drop 3 xm_c506 = xm_c506_3 := xm_dr d_506_2
theorem k_506_3 : xm_gi xm_c506 3 = some xm_e506_3 := xm_gt d_506_3
theorem d_506_4 : List.drop 4 xm_c506 = xm_c506_4 := xm_dr d_506_3
theorem k_506_4 : xm_gi xm_c506 4 = some xm_e506_4 := xm_gt d_506_4
theorem d_506_5 : List.drop 5 xm_c506 = xm_c506_5 := xm_dr d_506_4
theorem k_506_5 : xm_gi xm_c506 5 = some xm_e506_5 := xm_gt d_506_5
theorem d_506_6 : List.drop 6 xm_c506 = xm_c506_6 := xm_dr d_506_5
theorem k_506_6 : xm_gi xm_c506 6 = some xm_e506_6 := xm_gt d_506_6
theorem d_506_7 : List.drop 7 xm_c506 = xm_c506_7 := xm_dr d_506_6
theorem k_506_7 : xm_gi xm_c506 7 = some xm_e506_7 := xm_gt d_506_7
theorem d_506_8 : List.drop 8 xm_c506 = xm_c506_8 := xm_dr d_506_7
theorem k_506_8 : xm_gi xm_c506 8 = some xm_e506_8 := xm_gt d_506_8
theorem d_506_9 : List.drop 9 xm_c506 = xm_c506_9 := xm_dr d_506_8
theorem k_506_9 : xm_gi xm_c506 9 = some xm_e506_9 := xm_gt d_506_9
theorem d_506_10 : List.drop 10 xm_c506 = xm_c506_10 := xm_dr d_506_9
theorem k_506_10 : xm_gi xm_c506 10 = some xm_e506_10 := xm_gt d_506_10
theorem xb_506_0 {sc : List Int} {f : Nat → List xm_V → xm_W → xm_R} {w : xm_W} {Q : Option xm_V × xm_W → Prop} {x0 : Nat} {x1 : Int}
  (h : xm_Oi (f 505 [.inr (.inl (some x0)), .inl x1] w) (fun z2 w1 => if (z2 : Int) = 0 then (Q (some (.inl 0), w1)) else (xm_Ov (f 509 [.inr (.inl (some x0)), .inl (-43)] w1) (fun w3 => Q (some (.inl 1), w3))))) :
  xm_EQ (xm_old sc) xm_sta f xm_c506 0 [some (.inr (.inl (some x0))), some (.inl x1)] [] w Q :=
  (xq_aload_n k_506_0 rfl (xq_iload_n k_506_1 rfl (xq_invv2 k_506_2 xr_505 rfl rfl rfl h (fun z2 w1 h => (xq_if_ne k_506_3 h (fun h => (xq_iconst k_506_4 (xq_ireturn k_506_5 h))) (fun h => (xq_aload_n k_506_6 rfl (xq_bipush k_506_7 (xq_invv0 k_506_8 xr_509 rfl rfl rfl h (fun w3 h => (xq_iconst k_506_9 (xq_ireturn k_506_10 h))))))))))))
/-- ShodBackwards$Reader.readEnclosed(I)Z -/
theorem d_507_0 : List.drop 0 xm_c507 = xm_c507 := rfl
theorem k_507_0 : xm_gi xm_c507 0 = some xm_e507_0 := xm_gt d_507_0
theorem d_507_1 : List.drop 1 xm_c507 = xm_c507_1 := xm_dr d_507_0
theorem k_507_1 : xm_gi xm_c507 1 = some xm_e507_1 := xm_gt d_507_1
theorem d_507_2 : List.drop 2 xm_c507 = xm_c507_2 := xm_dr d_507_1
theorem k_507_2 : xm_gi xm_c507 2 = some xm_e507_2 := xm_gt d_507_2
theorem d_507_3 : List.drop 3 xm_c507 = xm_c507_3 := xm_dr d_507_2
theorem k_507_3 : xm_gi xm_c507 3 = some xm_e507_3 := xm_gt d_507_3
theorem d_507_4 : List.drop 4 xm_c507 = xm_c507_4 := xm_dr d_507_3
theorem k_507_4 : xm_gi xm_c507 4 = some xm_e507_4 := xm_gt d_507_4
theorem d_507_5 : List.drop 5 xm_c507 = xm_c507_5 := xm_dr d_507_4
theorem k_507_5 : xm_gi xm_c507 5 = some xm_e507_5 := xm_gt d_507_5
theorem d_507_6 : List.drop 6 xm_c507 = xm_c507_6 := xm_dr d_507_5
theorem k_507_6 : xm_gi xm_c507 6 = some xm_e507_6 := xm_gt d_507_6
theorem d_507_7 : List.drop 7 xm_c507 = xm_c507_7 := xm_dr d_507_6
theorem k_507_7 : xm_gi xm_c507 7 = some xm_e507_7 := xm_gt d_507_7
theorem d_507_8 : List.drop 8 xm_c507 = xm_c507_8 := xm_dr d_507_7
theorem k_507_8 : xm_gi xm_c507 8 = some xm_e507_8 := xm_gt d_507_8
theorem d_507_9 : List.drop 9 xm_c507 = xm_c507_9 := xm_dr d_507_8
theorem k_507_9 : xm_gi xm_c507 9 = some xm_e507_9 := xm_gt d_507_9
theorem d_507_10 : List.drop 10 xm_c507 = xm_c507_10 := xm_dr d_507_9
theorem k_507_10 : xm_gi xm_c507 10 = some xm_e507_10 := xm_gt d_507_10
theorem d_507_11 : List.drop 11 xm_c507 = xm_c507_11 := xm_dr d_507_10
theorem k_507_11 : xm_gi xm_c507 11 = some xm_e507_11 := xm_gt d_507_11
theorem d_507_12 : List.drop 12 xm_c507 = xm_c507_12 := xm_dr d_507_11
theorem k_507_12 : xm_gi xm_c507 12 = some xm_e507_12 := xm_gt d_507_12
theorem d_507_13 : List.drop 13 xm_c507 = xm_c507_13 := xm_dr d_507_12
theorem k_507_13 : xm_gi xm_c507 13 = some xm_e507_13 := xm_gt d_507_13
theorem d_507_14 : List.drop 14 xm_c507 = xm_c507_14 := xm_dr d_507_13
theorem k_507_14 : xm_gi xm_c507 14 = some xm_e507_14 := xm_gt d_507_14
theorem d_507_15 : List.drop 15 xm_c507 = xm_c507_15 := xm_dr d_507_14
theorem k_507_15 : xm_gi xm_c507 15 = some xm_e507_15 := xm_gt d_507_15
theorem d_507_16 : List.drop 16 xm_c507 = xm_c507_16 := xm_dr d_507_15
theorem k_507_16 : xm_gi xm_c507 16 = some xm_e507_16 := xm_gt d_507_16
theorem d_507_17 : List.drop 17 xm_c507 = xm_c507_17 := xm_dr d_507_16
theorem k_507_17 : xm_gi xm_c507 17 = some xm_e507_17 := xm_gt d_507_17
theorem d_507_18 : List.drop 18 xm_c507 = xm_c507_18 := xm_dr d_507_17
theorem k_507_18 : xm_gi xm_c507 18 = some xm_e507_18 := xm_gt d_507_18
theorem d_507_19 : List.drop 19 xm_c507 = xm_c507_19 := xm_dr d_507_18
theorem k_507_19 : xm_gi xm_c507 19 = some xm_e507_19 := xm_gt d_507_19
theorem d_507_20 : List.drop 20 xm_c507 = xm_c507_20 := xm_dr d_507_19
theorem k_507_20 : xm_gi xm_c507 20 = some xm_e507_20 := xm_gt d_507_20
theorem d_507_21 : List.drop 21 xm_c507 = xm_c507_21 := xm_dr d_507_20
theorem k_507_21 : xm_gi xm_c507 21 = some xm_e507_21 := xm_gt d_507_21
theorem d_507_22 : List.drop 22 xm_c507 = xm_c507_22 := xm_dr d_507_21
theorem k_507_22 : xm_gi xm_c507 22 = some xm_e507_22 := xm_gt d_507_22
theorem d_507_23 : List.drop 23 xm_c507 = xm_c507_23 := xm_dr d_507_22
theorem k_507_23 : xm_gi xm_c507 23 = some xm_e507_23 := xm_gt d_507_23
theorem d_507_24 : List.drop 24 xm_c507 = xm_c507_24 := xm_dr d_507_23
theorem k_507_24 : xm_gi xm_c507 24 = some xm_e507_24 := xm_gt d_507_24
theorem d_507_25 : List.drop 25 xm_c507 = xm_c507_25 := xm_dr d_507_24
theorem k_507_25 : xm_gi xm_c507 25 = some xm_e507_25 := xm_gt d_507_25
theorem d_507_26 : List.drop 26 xm_c507 = xm_c507_26 := xm_dr d_507_25
theorem k_507_26 : xm_gi xm_c507 26 = some xm_e507_26 := xm_gt d_507_26
theorem d_507_27 : List.drop 27 xm_c507 = xm_c507_27 := xm_dr d_507_26
theorem k_507_27 : xm_gi xm_c507 27 = some xm_e507_27 := xm_gt d_507_27
theorem d_507_28 : List.drop 28 xm_c507 = xm_c507_28 := xm_dr d_507_27
theorem k_507_28 : xm_gi xm_c507 28 = some xm_e507_28 := xm_gt d_507_28
theorem xb_507_0 {sc : List Int} {f : Nat → List xm_V → xm_W → xm_R} {w : xm_W} {Q : Option xm_V × xm_W → Prop} {x0 : Nat} {x1 : Int}
  (h : xm_Oi (f 504 [.inr (.inl (some x0)), .inl 0, .inl x1] w) (fun z2 w1 => if (z2 : Int) = 0 then (Q (some (.inl 0), w1)) else (xm_O (xm_fi (xm_old sc) w1 x0 3 3) (fun z3 => xm_O (xm_fi (xm_old sc) w1 x0 3 1) (fun z4 => if (z3 : Int) < z4 then (xm_O (xm_fr (xm_old sc) w1 x0 3 0) (fun r5 => xm_O (xm_fi (xm_old sc) w1 x0 3 3) (fun z6 => xm_O (xm_ints (xm_old sc) w1 r5) (fun l7 => xm_O (xm_at l7 z6) (fun z8 => if (z8 : Int) = 41 then (xm_O (xm_fi (xm_old sc) w1 x0 3 3) (fun z9 => xm_O (xm_setf w1 x0 3 3 0 (.inl (xm_w (z9 + 1)))) (fun w10 => Q (some (.inl 1), w10)))) else (Q (some (.inl 0), w1))))))) else (Q (some (.inl 0), w1))))))) :
  xm_EQ (xm_old sc) xm_sta f xm_c507 0 [some (.inr (.inl (some x0))), some (.inl x1)] [] w Q :=
  (xq_aload_n k_507_0 rfl (xq_iconst k_507_1 (xq_iload_n k_507_2 rfl (xq_invv2 k_507_3 xr_504 rfl rfl rfl h (fun z2 w1 h => (xq_if_ne k_507_4 h (fun h => (xq_iconst k_507_5 (xq_ireturn k_507_6 h))) (fun h => (xq_aload_n k_507_7 rfl (xq_geti0 k_507_8 rfl h (fun z3 h => (xq_aload_n k_507_9 rfl (xq_geti0 k_507_10 rfl h (fun z4 h => (xq_ic_ge k_507_11 h (fun h => (xq_aload_n k_507_12 rfl (xq_getr k_507_13 rfl h (fun r5 h => (xq_aload_n k_507_14 rfl (xq_geti0 k_507_15 rfl h (fun z6 h => (xq_iaload k_507_16 h (fun l7 h => h) (fun l7 z8 h => (xq_bipush k_507_17 (xq_ic_eq k_507_18 h (fun h => (xq_aload_n k_507_21 rfl (xq_dupr k_507_22 (xq_geti0 k_507_23 rfl h (fun z9 h => (xq_iconst k_507_24 (xq_iadd k_507_25 (xq_put k_507_26 rfl h (fun w10 h => (xq_iconst k_507_27 (xq_ireturn k_507_28 h))))))))))) (fun h => (xq_iconst k_507_19 (xq_ireturn k_507_20 h)))))))))))))) (fun h => (xq_iconst k_507_19 (xq_ireturn k_507_20 h)))))))))))))))))
/-- ShodBackwards$Reader.readNumber()V -/
theorem d_508_0 : List.drop 0 xm_c508 = xm_c508 := rfl
theorem k_508_0 : xm_gi xm_c508 0 = some xm_e508_0 := xm_gt d_508_0
theorem d_508_1 : List.drop 1 xm_c508 = xm_c508_1 := xm_dr d_508_0
theorem k_508_1 : xm_gi xm_c508 1 = some xm_e508_1 := xm_gt d_508_1
theorem d_508_2 : List.drop 2 xm_c508 = xm_c508_2 := xm_dr d_508_1
theorem k_508_2 : xm_gi xm_c508 2 = some xm_e508_2 := xm_gt d_508_2
theorem d_508_3 : List.drop 3 xm_c508 = xm_c508_3 := xm_dr d_508_2
theorem k_508_3 : xm_gi xm_c508 3 = some xm_e508_3 := xm_gt d_508_3
theorem d_508_4 : List.drop 4 xm_c508 = xm_c508_4 := xm_dr d_508_3
theorem k_508_4 : xm_gi xm_c508 4 = some xm_e508_4 := xm_gt d_508_4
theorem d_508_5 : List.drop 5 xm_c508 = xm_c508_5 := xm_dr d_508_4
theorem k_508_5 : xm_gi xm_c508 5 = some xm_e508_5 := xm_gt d_508_5
theorem d_508_6 : List.drop 6 xm_c508 = xm_c508_6 := xm_dr d_508_5
theorem k_508_6 : xm_gi xm_c508 6 = some xm_e508_6 := xm_gt d_508_6
theorem d_508_7 : List.drop 7 xm_c508 = xm_c508_7 := xm_dr d_508_6
theorem k_508_7 : xm_gi xm_c508 7 = some xm_e508_7 := xm_gt d_508_7
theorem d_508_8 : List.drop 8 xm_c508 = xm_c508_8 := xm_dr d_508_7
theorem k_508_8 : xm_gi xm_c508 8 = some xm_e508_8 := xm_gt d_508_8
theorem d_508_9 : List.drop 9 xm_c508 = xm_c508_9 := xm_dr d_508_8
theorem k_508_9 : xm_gi xm_c508 9 = some xm_e508_9 := xm_gt d_508_9
theorem d_508_10 : List.drop 10 xm_c508 = xm_c508_10 := xm_dr d_508_9
theorem k_508_10 : xm_gi xm_c508 10 = some xm_e508_10 := xm_gt d_508_10
theorem d_508_11 : List.drop 11 xm_c508 = xm_c508_11 := xm_dr d_508_10
theorem k_508_11 : xm_gi xm_c508 11 = some xm_e508_11 := xm_gt d_508_11
theorem d_508_12 : List.drop 12 xm_c508 = xm_c508_12 := xm_dr d_508_11
theorem k_508_12 : xm_gi xm_c508 12 = some xm_e508_12 := xm_gt d_508_12
theorem d_508_13 : List.drop 13 xm_c508 = xm_c508_13 := xm_dr d_508_12
theorem k_508_13 : xm_gi xm_c508 13 = some xm_e508_13 := xm_gt d_508_13
theorem d_508_14 : List.drop 14 xm_c508 = xm_c508_14 := xm_dr d_508_13
theorem k_508_14 : xm_gi xm_c508 14 = some xm_e508_14 := xm_gt d_508_14
theorem d_508_15 : List.drop 15 xm_c508 = xm_c508_15 := xm_dr d_508_14
theorem k_508_15 : xm_gi xm_c508 15 = some xm_e508_15 := xm_gt d_508_15
theorem d_508_16 : List.drop 16 xm_c508 = xm_c508_16 := xm_dr d_508_15
theorem k_508_16 : xm_gi xm_c508 16 = some xm_e508_16 := xm_gt d_508_16
theorem d_508_17 : List.drop 17 xm_c508 = xm_c508_17 := xm_dr d_508_16
theorem k_508_17 : xm_gi xm_c508 17 = some xm_e508_17 := xm_gt d_508_17
theorem d_508_18 : List.drop 18 xm_c508 = xm_c508_18 := xm_dr d_508_17
theorem k_508_18 : xm_gi xm_c508 18 = some xm_e508_18 := xm_gt d_508_18
theorem d_508_19 : List.drop 19 xm_c508 = xm_c508_19 := xm_dr d_508_18
theorem k_508_19 : xm_gi xm_c508 19 = some xm_e508_19 := xm_gt d_508_19
theorem d_508_20 : List.drop 20 xm_c508 = xm_c508_20 := xm_dr d_508_19
theorem k_508_20 : xm_gi xm_c508 20 = some xm_e508_20 := xm_gt d_508_20
theorem d_508_21 : List.drop 21 xm_c508 = xm_c508_21 := xm_dr d_508_20
theorem k_508_21 : xm_gi xm_c508 21 = some xm_e508_21 := xm_gt d_508_21
theorem d_508_22 : List.drop 22 xm_c508 = xm_c508_22 := xm_dr d_508_21
theorem k_508_22 : xm_gi xm_c508 22 = some xm_e508_22 := xm_gt d_508_22
theorem d_508_23 : List.drop 23 xm_c508 = xm_c508_23 := xm_dr d_508_22
theorem k_508_23 : xm_gi xm_c508 23 = some xm_e508_23 := xm_gt d_508_23
theorem d_508_24 : List.drop 24 xm_c508 = xm_c508_24 := xm_dr d_508_23
theorem k_508_24 : xm_gi xm_c508 24 = some xm_e508_24 := xm_gt d_508_24
theorem d_508_25 : List.drop 25 xm_c508 = xm_c508_25 := xm_dr d_508_24
theorem k_508_25 : xm_gi xm_c508 25 = some xm_e508_25 := xm_gt d_508_25
theorem d_508_26 : List.drop 26 xm_c508 = xm_c508_26 := xm_dr d_508_25
theorem k_508_26 : xm_gi xm_c508 26 = some xm_e508_26 := xm_gt d_508_26
theorem d_508_27 : List.drop 27 xm_c508 = xm_c508_27 := xm_dr d_508_26
theorem k_508_27 : xm_gi xm_c508 27 = some xm_e508_27 := xm_gt d_508_27
theorem d_508_28 : List.drop 28 xm_c508 = xm_c508_28 := xm_dr d_508_27
theorem k_508_28 : xm_gi xm_c508 28 = some xm_e508_28 := xm_gt d_508_28
theorem d_508_29 : List.drop 29 xm_c508 = xm_c508_29 := xm_dr d_508_28
theorem k_508_29 : xm_gi xm_c508 29 = some xm_e508_29 := xm_gt d_508_29
theorem d_508_30 : List.drop 30 xm_c508 = xm_c508_30 := xm_dr d_508_29
theorem k_508_30 : xm_gi xm_c508 30 = some xm_e508_30 := xm_gt d_508_30
theorem d_508_31 : List.drop 31 xm_c508 = xm_c508_31 := xm_dr d_508_30
theorem k_508_31 : xm_gi xm_c508 31 = some xm_e508_31 := xm_gt d_508_31
theorem d_508_32 : List.drop 32 xm_c508 = xm_c508_32 := xm_dr d_508_31
theorem k_508_32 : xm_gi xm_c508 32 = some xm_e508_32 := xm_gt d_508_32
theorem d_508_33 : List.drop 33 xm_c508 = xm_c508_33 := xm_dr d_508_32
theorem k_508_33 : xm_gi xm_c508 33 = some xm_e508_33 := xm_gt d_508_33
theorem d_508_34 : List.drop 34 xm_c508 = xm_c508_34 := xm_dr d_508_33
theorem k_508_34 : xm_gi xm_c508 34 = some xm_e508_34 := xm_gt d_508_34
theorem d_508_35 : List.drop 35 xm_c508 = xm_c508_35 := xm_dr d_508_34
theorem k_508_35 : xm_gi xm_c508 35 = some xm_e508_35 := xm_gt d_508_35
theorem d_508_36 : List.drop 36 xm_c508 = xm_c508_36 := xm_dr d_508_35
theorem k_508_36 : xm_gi xm_c508 36 = some xm_e508_36 := xm_gt d_508_36
theorem d_508_37 : List.drop 37 xm_c508 = xm_c508_37 := xm_dr d_508_36
theorem k_508_37 : xm_gi xm_c508 37 = some xm_e508_37 := xm_gt d_508_37
theorem d_508_38 : List.drop 38 xm_c508 = xm_c508_38 := xm_dr d_508_37
theorem k_508_38 : xm_gi xm_c508 38 = some xm_e508_38 := xm_gt d_508_38
theorem d_508_39 : List.drop 39 xm_c508 = xm_c508_39 := xm_dr d_508_38
theorem k_508_39 : xm_gi xm_c508 39 = some xm_e508_39 := xm_gt d_508_39
theorem d_508_40 : List.drop 40 xm_c508 = xm_c508_40 := xm_dr d_508_39
theorem k_508_40 : xm_gi xm_c508 40 = some xm_e508_40 := xm_gt d_508_40
theorem d_508_41 : List.drop 41 xm_c508 = xm_c508_41 := xm_dr d_508_40
theorem k_508_41 : xm_gi xm_c508 41 = some xm_e508_41 := xm_gt d_508_41
theorem d_508_42 : List.drop 42 xm_c508 = xm_c508_42 := xm_dr d_508_41
theorem k_508_42 : xm_gi xm_c508 42 = some xm_e508_42 := xm_gt d_508_42
theorem xb_508_0 {sc : List Int} {f : Nat → List xm_V → xm_W → xm_R} {w : xm_W} {Q : Option xm_V × xm_W → Prop} {x0 : Nat}
  (h : xm_EQ (xm_old sc) xm_sta f xm_c508 4 [some (.inr (.inl (some x0))), some (.inl 0), some (.inl 0)] [] w Q) :
  xm_EQ (xm_old sc) xm_sta f xm_c508 0 [some (.inr (.inl (some x0))), none, none] [] w Q :=
  (xq_iconst k_508_0 (xq_istore_n k_508_1 rfl (xq_iconst k_508_2 (xq_istore_n k_508_3 rfl h))))
theorem xb_508_4 {sc : List Int} {f : Nat → List xm_V → xm_W → xm_R} {w : xm_W} {Q : Option xm_V × xm_W → Prop} {x0 : Nat} {x1 : Int} {x2 : Int}
  (h : if (x2 : Int) < 4 then (xm_O (xm_fi (xm_old sc) w x0 3 3) (fun z2 => xm_O (xm_fi (xm_old sc) w x0 3 1) (fun z3 => if (z2 : Int) < z3 then (xm_O (xm_fr (xm_old sc) w x0 3 0) (fun r5 => xm_O (xm_fi (xm_old sc) w x0 3 3) (fun z6 => xm_O (xm_ints (xm_old sc) w r5) (fun l7 => xm_O (xm_at l7 z6) (fun z8 => xm_Oi (f 510 [.inl z8] w) (fun z10 w9 => if (z10 : Int) = 0 then (xm_Ov (f 509 [.inr (.inl (some x0)), .inl x1] w9) (fun w11 => Q (none, w11))) else (xm_O (xm_fr (xm_old sc) w9 x0 3 0) (fun r12 => xm_O (xm_fi (xm_old sc) w9 x0 3 3) (fun z13 => xm_O (xm_ints (xm_old sc) w9 r12) (fun l14 => xm_O (xm_at l14 z13) (fun z15 => xm_O (xm_fi (xm_old sc) w9 x0 3 3) (fun z16 => xm_O (xm_setf w9 x0 3 3 0 (.inl (xm_w (z16 + 1)))) (fun w17 => xm_EQ (xm_old sc) xm_sta f xm_c508 4 [some (.inr (.inl (some x0))), some (.inl (xm_w ((xm_w ((xm_w (x1 * 10)) + z15)) - 48))), some (.inl (xm_w (x2 + 1)))] [] w17 Q))))))))))))) else (xm_Ov (f 509 [.inr (.inl (some x0)), .inl x1] w) (fun w4 => Q (none, w4)))))) else (xm_Ov (f 509 [.inr (.inl (some x0)), .inl x1] w) (fun w1 => Q (none, w1)))) :
  xm_EQ (xm_old sc) xm_sta f xm_c508 4 [some (.inr (.inl (some x0))), some (.inl x1), some (.inl x2)] [] w Q :=
  (xq_iload_n k_508_4 rfl (xq_iconst k_508_5 (xq_ic_ge k_508_6 h (fun h => (xq_aload_n k_508_7 rfl (xq_geti0 k_508_8 rfl h (fun z2 h => (xq_aload_n k_508_9 rfl (xq_geti0 k_508_10 rfl h (fun z3 h => (xq_ic_ge k_508_11 h (fun h => (xq_aload_n k_508_12 rfl (xq_getr k_508_13 rfl h (fun r5 h => (xq_aload_n k_508_14 rfl (xq_geti0 k_508_15 rfl h (fun z6 h => (xq_iaload k_508_16 h (fun l7 h => h) (fun l7 z8 h => (xq_invs2 k_508_17 xr_510 rfl rfl rfl h (fun z10 w9 h => (xq_if_eq k_508_18 h (fun h => (xq_aload_n k_508_39 rfl (xq_iload_n k_508_40 rfl (xq_invv0 k_508_41 xr_509 rfl rfl rfl h (fun w11 h => (xq_return k_508_42 h)))))) (fun h => (xq_iload_n k_508_19 rfl (xq_bipush k_508_20 (xq_imul k_508_21 (xq_aload_n k_508_22 rfl (xq_getr k_508_23 rfl h (fun r12 h => (xq_aload_n k_508_24 rfl (xq_geti0 k_508_25 rfl h (fun z13 h => (xq_iaload k_508_26 h (fun l14 h => h) (fun l14 z15 h => (xq_iadd k_508_27 (xq_bipush k_508_28 (xq_isub k_508_29 (xq_istore_n k_508_30 rfl (xq_aload_n k_508_31 rfl (xq_dupr k_508_32 (xq_geti0 k_508_33 rfl h (fun z16 h => (xq_iconst k_508_34 (xq_iadd k_508_35 (xq_put k_508_36 rfl h (fun w17 h => (xq_iinc k_508_37 rfl rfl (xq_goto k_508_38 h)))))))))))))))))))))))))))))))))))))) (fun h => (xq_aload_n k_508_39 rfl (xq_iload_n k_508_40 rfl (xq_invv0 k_508_41 xr_509 rfl rfl rfl h (fun w4 h => (xq_return k_508_42 h)))))))))))))) (fun h => (xq_aload_n k_508_39 rfl (xq_iload_n k_508_40 rfl (xq_invv0 k_508_41 xr_509 rfl rfl rfl h (fun w1 h => (xq_return k_508_42 h)))))))))
/-- ShodBackwards$Reader.note(I)V -/
theorem d_509_0 : List.drop 0 xm_c509 = xm_c509 := rfl
theorem k_509_0 : xm_gi xm_c509 0 = some xm_e509_0 := xm_gt d_509_0
theorem d_509_1 : List.drop 1 xm_c509 = xm_c509_1 := xm_dr d_509_0
theorem k_509_1 : xm_gi xm_c509 1 = some xm_e509_1 := xm_gt d_509_1
theorem d_509_2 : List.drop 2 xm_c509 = xm_c509_2 := xm_dr d_509_1
theorem k_509_2 : xm_gi xm_c509 2 = some xm_e509_2 := xm_gt d_509_2
theorem d_509_3 : List.drop 3 xm_c509 = xm_c509_3 := xm_dr d_509_2
theorem k_509_3 : xm_gi xm_c509 3 = some xm_e509_3 := xm_gt d_509_3
theorem d_509_4 : List.drop 4 xm_c509 = xm_c509_4 := xm_dr d_509_3
theorem k_509_4 : xm_gi xm_c509 4 = some xm_e509_4 := xm_gt d_509_4
theorem d_509_5 : List.drop 5 xm_c509 = xm_c509_5 := xm_dr d_509_4
theorem k_509_5 : xm_gi xm_c509 5 = some xm_e509_5 := xm_gt d_509_5
theorem d_509_6 : List.drop 6 xm_c509 = xm_c509_6 := xm_dr d_509_5
theorem k_509_6 : xm_gi xm_c509 6 = some xm_e509_6 := xm_gt d_509_6
theorem d_509_7 : List.drop 7 xm_c509 = xm_c509_7 := xm_dr d_509_6
theorem k_509_7 : xm_gi xm_c509 7 = some xm_e509_7 := xm_gt d_509_7
theorem d_509_8 : List.drop 8 xm_c509 = xm_c509_8 := xm_dr d_509_7
theorem k_509_8 : xm_gi xm_c509 8 = some xm_e509_8 := xm_gt d_509_8
theorem d_509_9 : List.drop 9 xm_c509 = xm_c509_9 := xm_dr d_509_8
theorem k_509_9 : xm_gi xm_c509 9 = some xm_e509_9 := xm_gt d_509_9
theorem d_509_10 : List.drop 10 xm_c509 = xm_c509_10 := xm_dr d_509_9
theorem k_509_10 : xm_gi xm_c509 10 = some xm_e509_10 := xm_gt d_509_10
theorem d_509_11 : List.drop 11 xm_c509 = xm_c509_11 := xm_dr d_509_10
theorem k_509_11 : xm_gi xm_c509 11 = some xm_e509_11 := xm_gt d_509_11
theorem d_509_12 : List.drop 12 xm_c509 = xm_c509_12 := xm_dr d_509_11
theorem k_509_12 : xm_gi xm_c509 12 = some xm_e509_12 := xm_gt d_509_12
theorem d_509_13 : List.drop 13 xm_c509 = xm_c509_13 := xm_dr d_509_12
theorem k_509_13 : xm_gi xm_c509 13 = some xm_e509_13 := xm_gt d_509_13
theorem d_509_14 : List.drop 14 xm_c509 = xm_c509_14 := xm_dr d_509_13
theorem k_509_14 : xm_gi xm_c509 14 = some xm_e509_14 := xm_gt d_509_14
theorem d_509_15 : List.drop 15 xm_c509 = xm_c509_15 := xm_dr d_509_14
theorem k_509_15 : xm_gi xm_c509 15 = some xm_e509_15 := xm_gt d_509_15
theorem d_509_16 : List.drop 16 xm_c509 = xm_c509_16 := xm_dr d_509_15
theorem k_509_16 : xm_gi xm_c509 16 = some xm_e509_16 := xm_gt d_509_16
theorem xb_509_0 {sc : List Int} {f : Nat → List xm_V → xm_W → xm_R} {w : xm_W} {Q : Option xm_V × xm_W → Prop} {x0 : Nat} {x1 : Int}
  (h : xm_O (xm_fi (xm_old sc) w x0 3 5) (fun z1 => if (z1 : Int) < 60 then (xm_O (xm_fr (xm_old sc) w x0 3 4) (fun r2 => xm_O (xm_fi (xm_old sc) w x0 3 5) (fun z3 => xm_O (xm_seti w r2 z3 x1) (fun w4 => xm_O (xm_fi (xm_old sc) w4 x0 3 5) (fun z5 => xm_O (xm_setf w4 x0 3 5 0 (.inl (xm_w (z5 + 1)))) (fun w6 => Q (none, w6))))))) else (Q (none, w)))) :
  xm_EQ (xm_old sc) xm_sta f xm_c509 0 [some (.inr (.inl (some x0))), some (.inl x1)] [] w Q :=
  (xq_aload_n k_509_0 rfl (xq_geti0 k_509_1 rfl h (fun z1 h => (xq_bipush k_509_2 (xq_ic_ge k_509_3 h (fun h => (xq_aload_n k_509_4 rfl (xq_getr k_509_5 rfl h (fun r2 h => (xq_aload_n k_509_6 rfl (xq_geti0 k_509_7 rfl h (fun z3 h => (xq_iload_n k_509_8 rfl (xq_iastore k_509_9 h (fun w4 h => (xq_aload_n k_509_10 rfl (xq_dupr k_509_11 (xq_geti0 k_509_12 rfl h (fun z5 h => (xq_iconst k_509_13 (xq_iadd k_509_14 (xq_put k_509_15 rfl h (fun w6 h => (xq_return k_509_16 h))))))))))))))))))) (fun h => (xq_return k_509_16 h)))))))
/-- ShodBackwards$Reader.isDigit(I)Z -/
theorem d_510_0 : List.drop 0 xm_c510 = xm_c510 := rfl
theorem k_510_0 : xm_gi xm_c510 0 = some xm_e510_0 := xm_gt d_510_0
theorem d_510_1 : List.drop 1 xm_c510 = xm_c510_1 := xm_dr d_510_0
theorem k_510_1 : xm_gi xm_c510 1 = some xm_e510_1 := xm_gt d_510_1
theorem d_510_2 : List.drop 2 xm_c510 = xm_c510_2 := xm_dr d_510_1
theorem k_510_2 : xm_gi xm_c510 2 = some xm_e510_2 := xm_gt d_510_2
theorem d_510_3 : List.drop 3 xm_c510 = xm_c510_3 := xm_dr d_510_2
theorem k_510_3 : xm_gi xm_c510 3 = some xm_e510_3 := xm_gt d_510_3
theorem d_510_4 : List.drop 4 xm_c510 = xm_c510_4 := xm_dr d_510_3
theorem k_510_4 : xm_gi xm_c510 4 = some xm_e510_4 := xm_gt d_510_4
theorem d_510_5 : List.drop 5 xm_c510 = xm_c510_5 := xm_dr d_510_4
theorem k_510_5 : xm_gi xm_c510 5 = some xm_e510_5 := xm_gt d_510_5
theorem d_510_6 : List.drop 6 xm_c510 = xm_c510_6 := xm_dr d_510_5
theorem k_510_6 : xm_gi xm_c510 6 = some xm_e510_6 := xm_gt d_510_6
theorem d_510_7 : List.drop 7 xm_c510 = xm_c510_7 := xm_dr d_510_6
theorem k_510_7 : xm_gi xm_c510 7 = some xm_e510_7 := xm_gt d_510_7
theorem d_510_8 : List.drop 8 xm_c510 = xm_c510_8 := xm_dr d_510_7
theorem k_510_8 : xm_gi xm_c510 8 = some xm_e510_8 := xm_gt d_510_8
theorem d_510_9 : List.drop 9 xm_c510 = xm_c510_9 := xm_dr d_510_8
theorem k_510_9 : xm_gi xm_c510 9 = some xm_e510_9 := xm_gt d_510_9
theorem xb_510_0 {sc : List Int} {f : Nat → List xm_V → xm_W → xm_R} {w : xm_W} {Q : Option xm_V × xm_W → Prop} {x0 : Int}
  (h : if (x0 : Int) < 48 then (Q (some (.inl 0), w)) else (if (57 : Int) < x0 then (Q (some (.inl 0), w)) else (Q (some (.inl 1), w)))) :
  xm_EQ (xm_old sc) xm_sta f xm_c510 0 [some (.inl x0)] [] w Q :=
  (xq_iload_n k_510_0 rfl (xq_bipush k_510_1 (xq_ic_lt k_510_2 h (fun h => (xq_iconst k_510_8 (xq_ireturn k_510_9 h))) (fun h => (xq_iload_n k_510_3 rfl (xq_bipush k_510_4 (xq_ic_gt k_510_5 h (fun h => (xq_iconst k_510_8 (xq_ireturn k_510_9 h))) (fun h => (xq_iconst k_510_6 (xq_goto k_510_7 (xq_ireturn k_510_9 h)))))))))))
/-- ShodBackwards$Reader.levelOf(I)I -/
theorem d_511_0 : List.drop 0 xm_c511 = xm_c511 := rfl
theorem k_511_0 : xm_gi xm_c511 0 = some xm_e511_0 := xm_gt d_511_0
theorem d_511_1 : List.drop 1 xm_c511 = xm_c511_1 := xm_dr d_511_0
theorem k_511_1 : xm_gi xm_c511 1 = some xm_e511_1 := xm_gt d_511_1
theorem d_511_2 : List.drop 2 xm_c511 = xm_c511_2 := xm_dr d_511_1
theorem k_511_2 : xm_gi xm_c511 2 = some xm_e511_2 := xm_gt d_511_2
theorem d_511_3 : List.drop 3 xm_c511 = xm_c511_3 := xm_dr d_511_2
theorem k_511_3 : xm_gi xm_c511 3 = some xm_e511_3 := xm_gt d_511_3
theorem d_511_4 : List.drop 4 xm_c511 = xm_c511_4 := xm_dr d_511_3
theorem k_511_4 : xm_gi xm_c511 4 = some xm_e511_4 := xm_gt d_511_4
theorem d_511_5 : List.drop 5 xm_c511 = xm_c511_5 := xm_dr d_511_4
theorem k_511_5 : xm_gi xm_c511 5 = some xm_e511_5 := xm_gt d_511_5
theorem d_511_6 : List.drop 6 xm_c511 = xm_c511_6 := xm_dr d_511_5
theorem k_511_6 : xm_gi xm_c511 6 = some xm_e511_6 := xm_gt d_511_6
theorem d_511_7 : List.drop 7 xm_c511 = xm_c511_7 := xm_dr d_511_6
theorem k_511_7 : xm_gi xm_c511 7 = some xm_e511_7 := xm_gt d_511_7
theorem d_511_8 : List.drop 8 xm_c511 = xm_c511_8 := xm_dr d_511_7
theorem k_511_8 : xm_gi xm_c511 8 = some xm_e511_8 := xm_gt d_511_8
theorem d_511_9 : List.drop 9 xm_c511 = xm_c511_9 := xm_dr d_511_8
theorem k_511_9 : xm_gi xm_c511 9 = some xm_e511_9 := xm_gt d_511_9
theorem d_511_10 : List.drop 10 xm_c511 = xm_c511_10 := xm_dr d_511_9
theorem k_511_10 : xm_gi xm_c511 10 = some xm_e511_10 := xm_gt d_511_10
theorem d_511_11 : List.drop 11 xm_c511 = xm_c511_11 := xm_dr d_511_10
theorem k_511_11 : xm_gi xm_c511 11 = some xm_e511_11 := xm_gt d_511_11
theorem d_511_12 : List.drop 12 xm_c511 = xm_c511_12 := xm_dr d_511_11
theorem k_511_12 : xm_gi xm_c511 12 = some xm_e511_12 := xm_gt d_511_12
theorem d_511_13 : List.drop 13 xm_c511 = xm_c511_13 := xm_dr d_511_12
theorem k_511_13 : xm_gi xm_c511 13 = some xm_e511_13 := xm_gt d_511_13
theorem xb_511_0 {sc : List Int} {f : Nat → List xm_V → xm_W → xm_R} {w : xm_W} {Q : Option xm_V × xm_W → Prop} {x0 : Int}
  (h : if (x0 : Int) = 37 then (Q (some (.inl 4), w)) else (if (x0 : Int) = 38 then (Q (some (.inl 1), w)) else (if (x0 : Int) = 42 then (Q (some (.inl 4), w)) else (if (x0 : Int) = 43 then (Q (some (.inl 3), w)) else (if (x0 : Int) = 45 then (Q (some (.inl 3), w)) else (if (x0 : Int) = 47 then (Q (some (.inl 4), w)) else (if (x0 : Int) = 60 then (Q (some (.inl 2), w)) else (if (x0 : Int) = 61 then (Q (some (.inl 2), w)) else (if (x0 : Int) = 62 then (Q (some (.inl 2), w)) else (if (x0 : Int) = 124 then (Q (some (.inl 0), w)) else (Q (some (.inl (-1)), w)))))))))))) :
  xm_EQ (xm_old sc) xm_sta f xm_c511 0 [some (.inl x0)] [] w Q :=
  (xq_iload_n k_511_0 rfl (xq_lsw k_511_1 (xs_swc h (fun h => (xq_iconst k_511_10 (xq_ireturn k_511_11 h))) (fun h => (xs_swc h (fun h => (xq_iconst k_511_4 (xq_ireturn k_511_5 h))) (fun h => (xs_swc h (fun h => (xq_iconst k_511_10 (xq_ireturn k_511_11 h))) (fun h => (xs_swc h (fun h => (xq_iconst k_511_8 (xq_ireturn k_511_9 h))) (fun h => (xs_swc h (fun h => (xq_iconst k_511_8 (xq_ireturn k_511_9 h))) (fun h => (xs_swc h (fun h => (xq_iconst k_511_10 (xq_ireturn k_511_11 h))) (fun h => (xs_swc h (fun h => (xq_iconst k_511_6 (xq_ireturn k_511_7 h))) (fun h => (xs_swc h (fun h => (xq_iconst k_511_6 (xq_ireturn k_511_7 h))) (fun h => (xs_swc h (fun h => (xq_iconst k_511_6 (xq_ireturn k_511_7 h))) (fun h => (xs_swc h (fun h => (xq_iconst k_511_2 (xq_ireturn k_511_3 h))) (fun h => (xq_iconst k_511_12 (xq_ireturn k_511_13 h))))))))))))))))))))))))
