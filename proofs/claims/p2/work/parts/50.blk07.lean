/-- ShodBackwards$Sheet.<init>()V -/
theorem d_701_0 : List.drop 0 xm_c701 = xm_c701 := rfl
theorem k_701_0 : xm_gi xm_c701 0 = some xm_e701_0 := xm_gt d_701_0
theorem d_701_1 : List.drop 1 xm_c701 = xm_c701_1 := xm_dr d_701_0
theorem k_701_1 : xm_gi xm_c701 1 = some xm_e701_1 := xm_gt d_701_1
theorem d_701_2 : List.drop 2 xm_c701 = xm_c701_2 := xm_dr d_701_1
theorem k_701_2 : xm_gi xm_c701 2 = some xm_e701_2 := xm_gt d_701_2
theorem d_701_3 : List.drop 3 xm_c701 = xm_c701_3 := xm_dr d_701_2
theorem k_701_3 : xm_gi xm_c701 3 = some xm_e701_3 := xm_gt d_701_3
theorem d_701_4 : List.drop 4 xm_c701 = xm_c701_4 := xm_dr d_701_3
theorem k_701_4 : xm_gi xm_c701 4 = some xm_e701_4 := xm_gt d_701_4
theorem d_701_5 : List.drop 5 xm_c701 = xm_c701_5 := xm_dr d_701_4
theorem k_701_5 : xm_gi xm_c701 5 = some xm_e701_5 := xm_gt d_701_5
theorem d_701_6 : List.drop 6 xm_c701 = xm_c701_6 := xm_dr d_701_5
theorem k_701_6 : xm_gi xm_c701 6 = some xm_e701_6 := xm_gt d_701_6
theorem xb_701_0 {sc : List Int} {f : Nat → List xm_V → xm_W → xm_R} {w : xm_W} {Q : Option xm_V × xm_W → Prop} {x0 : Nat}
  (h : (0 ≤ (24 : Int) ∧ (24 : Int) ≤ 1000) ∧ (xm_O (xm_setf (w ++ [.inl (List.replicate (Int.toNat 24) 0)]) x0 5 2 2 (.inr (.inl (some w.length)))) (fun w1 => Q (none, w1)))) :
  xm_EQ (xm_old sc) xm_sta f xm_c701 0 [some (.inr (.inl (some x0)))] [] w Q :=
  (xq_aload_n k_701_0 rfl (xq_obj k_701_1 rfl (xq_aload_n k_701_2 rfl (xq_bipush k_701_3 (xq_newarray k_701_4 h (fun h => (xq_put k_701_5 rfl h (fun w1 h => (xq_return k_701_6 h)))))))))
/-- ShodBackwards$Sheet.isMissing()Z -/
theorem d_702_0 : List.drop 0 xm_c702 = xm_c702 := rfl
theorem k_702_0 : xm_gi xm_c702 0 = some xm_e702_0 := xm_gt d_702_0
theorem d_702_1 : List.drop 1 xm_c702 = xm_c702_1 := xm_dr d_702_0
theorem k_702_1 : xm_gi xm_c702 1 = some xm_e702_1 := xm_gt d_702_1
theorem d_702_2 : List.drop 2 xm_c702 = xm_c702_2 := xm_dr d_702_1
theorem k_702_2 : xm_gi xm_c702 2 = some xm_e702_2 := xm_gt d_702_2
theorem d_702_3 : List.drop 3 xm_c702 = xm_c702_3 := xm_dr d_702_2
theorem k_702_3 : xm_gi xm_c702 3 = some xm_e702_3 := xm_gt d_702_3
theorem d_702_4 : List.drop 4 xm_c702 = xm_c702_4 := xm_dr d_702_3
theorem k_702_4 : xm_gi xm_c702 4 = some xm_e702_4 := xm_gt d_702_4
theorem d_702_5 : List.drop 5 xm_c702 = xm_c702_5 := xm_dr d_702_4
theorem k_702_5 : xm_gi xm_c702 5 = some xm_e702_5 := xm_gt d_702_5
theorem d_702_6 : List.drop 6 xm_c702 = xm_c702_6 := xm_dr d_702_5
theorem k_702_6 : xm_gi xm_c702 6 = some xm_e702_6 := xm_gt d_702_6
theorem xb_702_0 {sc : List Int} {f : Nat → List xm_V → xm_W → xm_R} {w : xm_W} {Q : Option xm_V × xm_W → Prop} {x0 : Nat}
  (h : xm_O (xm_fi (xm_old sc) w x0 5 0) (fun z1 => if (z1 : Int) = 0 then (Q (some (.inl 1), w)) else (Q (some (.inl 0), w)))) :
  xm_EQ (xm_old sc) xm_sta f xm_c702 0 [some (.inr (.inl (some x0)))] [] w Q :=
  (xq_aload_n k_702_0 rfl (xq_geti0 k_702_1 rfl h (fun z1 h => (xq_if_ne k_702_2 h (fun h => (xq_iconst k_702_3 (xq_goto k_702_4 (xq_ireturn k_702_6 h)))) (fun h => (xq_iconst k_702_5 (xq_ireturn k_702_6 h)))))))
/-- ShodBackwards$Sheet.begin(II)V -/
theorem d_703_0 : List.drop 0 xm_c703 = xm_c703 := rfl
theorem k_703_0 : xm_gi xm_c703 0 = some xm_e703_0 := xm_gt d_703_0
theorem d_703_1 : List.drop 1 xm_c703 = xm_c703_1 := xm_dr d_703_0
theorem k_703_1 : xm_gi xm_c703 1 = some xm_e703_1 := xm_gt d_703_1
theorem d_703_2 : List.drop 2 xm_c703 = xm_c703_2 := xm_dr d_703_1
theorem k_703_2 : xm_gi xm_c703 2 = some xm_e703_2 := xm_gt d_703_2
theorem d_703_3 : List.drop 3 xm_c703 = xm_c703_3 := xm_dr d_703_2
theorem k_703_3 : xm_gi xm_c703 3 = some xm_e703_3 := xm_gt d_703_3
theorem d_703_4 : List.drop 4 xm_c703 = xm_c703_4 := xm_dr d_703_3
theorem k_703_4 : xm_gi xm_c703 4 = some xm_e703_4 := xm_gt d_703_4
theorem d_703_5 : List.drop 5 xm_c703 = xm_c703_5 := xm_dr d_703_4
theorem k_703_5 : xm_gi xm_c703 5 = some xm_e703_5 := xm_gt d_703_5
theorem d_703_6 : List.drop 6 xm_c703 = xm_c703_6 := xm_dr d_703_5
theorem k_703_6 : xm_gi xm_c703 6 = some xm_e703_6 := xm_gt d_703_6
theorem d_703_7 : List.drop 7 xm_c703 = xm_c703_7 := xm_dr d_703_6
theorem k_703_7 : xm_gi xm_c703 7 = some xm_e703_7 := xm_gt d_703_7
theorem d_703_8 : List.drop 8 xm_c703 = xm_c703_8 := xm_dr d_703_7
theorem k_703_8 : xm_gi xm_c703 8 = some xm_e703_8 := xm_gt d_703_8
theorem d_703_9 : List.drop 9 xm_c703 = xm_c703_9 := xm_dr d_703_8
theorem k_703_9 : xm_gi xm_c703 9 = some xm_e703_9 := xm_gt d_703_9
theorem d_703_10 : List.drop 10 xm_c703 = xm_c703_10 := xm_dr d_703_9
theorem k_703_10 : xm_gi xm_c703 10 = some xm_e703_10 := xm_gt d_703_10
theorem d_703_11 : List.drop 11 xm_c703 = xm_c703_11 := xm_dr d_703_10
theorem k_703_11 : xm_gi xm_c703 11 = some xm_e703_11 := xm_gt d_703_11
theorem d_703_12 : List.drop 12 xm_c703 = xm_c703_12 := xm_dr d_703_11
theorem k_703_12 : xm_gi xm_c703 12 = some xm_e703_12 := xm_gt d_703_12
theorem d_703_13 : List.drop 13 xm_c703 = xm_c703_13 := xm_dr d_703_12
theorem k_703_13 : xm_gi xm_c703 13 = some xm_e703_13 := xm_gt d_703_13
theorem d_703_14 : List.drop 14 xm_c703 = xm_c703_14 := xm_dr d_703_13
theorem k_703_14 : xm_gi xm_c703 14 = some xm_e703_14 := xm_gt d_703_14
theorem d_703_15 : List.drop 15 xm_c703 = xm_c703_15 := xm_dr d_703_14
theorem k_703_15 : xm_gi xm_c703 15 = some xm_e703_15 := xm_gt d_703_15
theorem d_703_16 : List.drop 16 xm_c703 = xm_c703_16 := xm_dr d_703_15
theorem k_703_16 : xm_gi xm_c703 16 = some xm_e703_16 := xm_gt d_703_16
theorem d_703_17 : List.drop 17 xm_c703 = xm_c703_17 := xm_dr d_703_16
theorem k_703_17 : xm_gi xm_c703 17 = some xm_e703_17 := xm_gt d_703_17
theorem d_703_18 : List.drop 18 xm_c703 = xm_c703_18 := xm_dr d_703_17
theorem k_703_18 : xm_gi xm_c703 18 = some xm_e703_18 := xm_gt d_703_18
theorem xb_703_0 {sc : List Int} {f : Nat → List xm_V → xm_W → xm_R} {w : xm_W} {Q : Option xm_V × xm_W → Prop} {x0 : Nat} {x1 : Int} {x2 : Int}
  (h : xm_O (xm_setf w x0 5 0 0 (.inl x1)) (fun w1 => xm_O (xm_setf w1 x0 5 1 0 (.inl x2)) (fun w2 => xm_EQ (xm_old sc) xm_sta f xm_c703 8 [some (.inr (.inl (some x0))), some (.inl x1), some (.inl x2), some (.inl 0)] [] w2 Q))) :
  xm_EQ (xm_old sc) xm_sta f xm_c703 0 [some (.inr (.inl (some x0))), some (.inl x1), some (.inl x2), none] [] w Q :=
  (xq_aload_n k_703_0 rfl (xq_iload_n k_703_1 rfl (xq_put k_703_2 rfl h (fun w1 h => (xq_aload_n k_703_3 rfl (xq_iload_n k_703_4 rfl (xq_put k_703_5 rfl h (fun w2 h => (xq_iconst k_703_6 (xq_istore_n k_703_7 rfl h))))))))))
theorem xb_703_8 {sc : List Int} {f : Nat → List xm_V → xm_W → xm_R} {w : xm_W} {Q : Option xm_V × xm_W → Prop} {x0 : Nat} {x1 : Int} {x2 : Int} {x3 : Int}
  (h : if (x3 : Int) < 24 then (xm_O (xm_fr (xm_old sc) w x0 5 2) (fun r1 => xm_O (xm_seti w r1 x3 0) (fun w2 => xm_EQ (xm_old sc) xm_sta f xm_c703 8 [some (.inr (.inl (some x0))), some (.inl x1), some (.inl x2), some (.inl (xm_w (x3 + 1)))] [] w2 Q))) else (Q (none, w))) :
  xm_EQ (xm_old sc) xm_sta f xm_c703 8 [some (.inr (.inl (some x0))), some (.inl x1), some (.inl x2), some (.inl x3)] [] w Q :=
  (xq_iload_n k_703_8 rfl (xq_bipush k_703_9 (xq_ic_ge k_703_10 h (fun h => (xq_aload_n k_703_11 rfl (xq_getr k_703_12 rfl h (fun r1 h => (xq_iload_n k_703_13 rfl (xq_iconst k_703_14 (xq_iastore k_703_15 h (fun w2 h => (xq_iinc k_703_16 rfl rfl (xq_goto k_703_17 h)))))))))) (fun h => (xq_return k_703_18 h)))))
/-- ShodBackwards$Sheet.write(II)V -/
theorem d_704_0 : List.drop 0 xm_c704 = xm_c704 := rfl
theorem k_704_0 : xm_gi xm_c704 0 = some xm_e704_0 := xm_gt d_704_0
theorem d_704_1 : List.drop 1 xm_c704 = xm_c704_1 := xm_dr d_704_0
theorem k_704_1 : xm_gi xm_c704 1 = some xm_e704_1 := xm_gt d_704_1
theorem d_704_2 : List.drop 2 xm_c704 = xm_c704_2 := xm_dr d_704_1
theorem k_704_2 : xm_gi xm_c704 2 = some xm_e704_2 := xm_gt d_704_2
theorem d_704_3 : List.drop 3 xm_c704 = xm_c704_3 := xm_dr d_704_2
theorem k_704_3 : xm_gi xm_c704 3 = some xm_e704_3 := xm_gt d_704_3
theorem d_704_4 : List.drop 4 xm_c704 = xm_c704_4 := xm_dr d_704_3
theorem k_704_4 : xm_gi xm_c704 4 = some xm_e704_4 := xm_gt d_704_4
theorem d_704_5 : List.drop 5 xm_c704 = xm_c704_5 := xm_dr d_704_4
theorem k_704_5 : xm_gi xm_c704 5 = some xm_e704_5 := xm_gt d_704_5
theorem d_704_6 : List.drop 6 xm_c704 = xm_c704_6 := xm_dr d_704_5
theorem k_704_6 : xm_gi xm_c704 6 = some xm_e704_6 := xm_gt d_704_6
theorem d_704_7 : List.drop 7 xm_c704 = xm_c704_7 := xm_dr d_704_6
theorem k_704_7 : xm_gi xm_c704 7 = some xm_e704_7 := xm_gt d_704_7
theorem d_704_8 : List.drop 8 xm_c704 = xm_c704_8 := xm_dr d_704_7
theorem k_704_8 : xm_gi xm_c704 8 = some xm_e704_8 := xm_gt d_704_8
theorem d_704_9 : List.drop 9 xm_c704 = xm_c704_9 := xm_dr d_704_8
theorem k_704_9 : xm_gi xm_c704 9 = some xm_e704_9 := xm_gt d_704_9
theorem d_704_10 : List.drop 10 xm_c704 = xm_c704_10 := xm_dr d_704_9
theorem k_704_10 : xm_gi xm_c704 10 = some xm_e704_10 := xm_gt d_704_10
theorem d_704_11 : List.drop 11 xm_c704 = xm_c704_11 := xm_dr d_704_10
theorem k_704_11 : xm_gi xm_c704 11 = some xm_e704_11 := xm_gt d_704_11
theorem d_704_12 : List.drop 12 xm_c704 = xm_c704_12 := xm_dr d_704_11
theorem k_704_12 : xm_gi xm_c704 12 = some xm_e704_12 := xm_gt d_704_12
theorem d_704_13 : List.drop 13 xm_c704 = xm_c704_13 := xm_dr d_704_12
theorem k_704_13 : xm_gi xm_c704 13 = some xm_e704_13 := xm_gt d_704_13
theorem d_704_14 : List.drop 14 xm_c704 = xm_c704_14 := xm_dr d_704_13
theorem k_704_14 : xm_gi xm_c704 14 = some xm_e704_14 := xm_gt d_704_14
theorem d_704_15 : List.drop 15 xm_c704 = xm_c704_15 := xm_dr d_704_14
theorem k_704_15 : xm_gi xm_c704 15 = some xm_e704_15 := xm_gt d_704_15
theorem d_704_16 : List.drop 16 xm_c704 = xm_c704_16 := xm_dr d_704_15
theorem k_704_16 : xm_gi xm_c704 16 = some xm_e704_16 := xm_gt d_704_16
theorem d_704_17 : List.drop 17 xm_c704 = xm_c704_17 := xm_dr d_704_16
theorem k_704_17 : xm_gi xm_c704 17 = some xm_e704_17 := xm_gt d_704_17
theorem d_704_18 : List.drop 18 xm_c704 = xm_c704_18 := xm_dr d_704_17
theorem k_704_18 : xm_gi xm_c704 18 = some xm_e704_18 := xm_gt d_704_18
theorem d_704_19 : List.drop 19 xm_c704 = xm_c704_19 := xm_dr d_704_18
theorem k_704_19 : xm_gi xm_c704 19 = some xm_e704_19 := xm_gt d_704_19
theorem d_704_20 : List.drop 20 xm_c704 = xm_c704_20 := xm_dr d_704_19
theorem k_704_20 : xm_gi xm_c704 20 = some xm_e704_20 := xm_gt d_704_20
theorem d_704_21 : List.drop 21 xm_c704 = xm_c704_21 := xm_dr d_704_20
theorem k_704_21 : xm_gi xm_c704 21 = some xm_e704_21 := xm_gt d_704_21
theorem d_704_22 : List.drop 22 xm_c704 = xm_c704_22 := xm_dr d_704_21
theorem k_704_22 : xm_gi xm_c704 22 = some xm_e704_22 := xm_gt d_704_22
theorem d_704_23 : List.drop 23 xm_c704 = xm_c704_23 := xm_dr d_704_22
theorem k_704_23 : xm_gi xm_c704 23 = some xm_e704_23 := xm_gt d_704_23
theorem d_704_24 : List.drop 24 xm_c704 = xm_c704_24 := xm_dr d_704_23
theorem k_704_24 : xm_gi xm_c704 24 = some xm_e704_24 := xm_gt d_704_24
theorem d_704_25 : List.drop 25 xm_c704 = xm_c704_25 := xm_dr d_704_24
theorem k_704_25 : xm_gi xm_c704 25 = some xm_e704_25 := xm_gt d_704_25
theorem d_704_26 : List.drop 26 xm_c704 = xm_c704_26 := xm_dr d_704_25
theorem k_704_26 : xm_gi xm_c704 26 = some xm_e704_26 := xm_gt d_704_26
theorem d_704_27 : List.drop 27 xm_c704 = xm_c704_27 := xm_dr d_704_26
theorem k_704_27 : xm_gi xm_c704 27 = some xm_e704_27 := xm_gt d_704_27
theorem xb_704_0 {sc : List Int} {f : Nat → List xm_V → xm_W → xm_R} {w : xm_W} {Q : Option xm_V × xm_W → Prop} {x0 : Nat} {x1 : Int} {x2 : Int}
  (h : xm_O (xm_fi (xm_old sc) w x0 5 0) (fun z1 => if (z1 : Int) = 8 then (xm_O (xm_fr (xm_old sc) w x0 5 2) (fun r7 => xm_O (xm_seti w r7 x1 (xm_b x2)) (fun w8 => Q (none, w8)))) else (xm_O (xm_fi (xm_old sc) w x0 5 0) (fun z2 => if (z2 : Int) = 16 then (xm_O (xm_fr (xm_old sc) w x0 5 2) (fun r5 => xm_O (xm_seti w r5 x1 (xm_s x2)) (fun w6 => Q (none, w6)))) else (xm_O (xm_fr (xm_old sc) w x0 5 2) (fun r3 => xm_O (xm_seti w r3 x1 x2) (fun w4 => Q (none, w4)))))))) :
  xm_EQ (xm_old sc) xm_sta f xm_c704 0 [some (.inr (.inl (some x0))), some (.inl x1), some (.inl x2)] [] w Q :=
  (xq_aload_n k_704_0 rfl (xq_geti0 k_704_1 rfl h (fun z1 h => (xq_bipush k_704_2 (xq_ic_ne k_704_3 h (fun h => (xq_aload_n k_704_4 rfl (xq_getr k_704_5 rfl h (fun r7 h => (xq_iload_n k_704_6 rfl (xq_iload_n k_704_7 rfl (xq_i2b k_704_8 (xq_iastore k_704_9 h (fun w8 h => (xq_goto k_704_10 (xq_return k_704_27 h))))))))))) (fun h => (xq_aload_n k_704_11 rfl (xq_geti0 k_704_12 rfl h (fun z2 h => (xq_bipush k_704_13 (xq_ic_ne k_704_14 h (fun h => (xq_aload_n k_704_15 rfl (xq_getr k_704_16 rfl h (fun r5 h => (xq_iload_n k_704_17 rfl (xq_iload_n k_704_18 rfl (xq_i2s k_704_19 (xq_iastore k_704_20 h (fun w6 h => (xq_goto k_704_21 (xq_return k_704_27 h))))))))))) (fun h => (xq_aload_n k_704_22 rfl (xq_getr k_704_23 rfl h (fun r3 h => (xq_iload_n k_704_24 rfl (xq_iload_n k_704_25 rfl (xq_iastore k_704_26 h (fun w4 h => (xq_return k_704_27 h))))))))))))))))))))
/-- ShodBackwards$Sheet.has(II)Z -/
theorem d_705_0 : List.drop 0 xm_c705 = xm_c705 := rfl
theorem k_705_0 : xm_gi xm_c705 0 = some xm_e705_0 := xm_gt d_705_0
theorem d_705_1 : List.drop 1 xm_c705 = xm_c705_1 := xm_dr d_705_0
theorem k_705_1 : xm_gi xm_c705 1 = some xm_e705_1 := xm_gt d_705_1
theorem d_705_2 : List.drop 2 xm_c705 = xm_c705_2 := xm_dr d_705_1
theorem k_705_2 : xm_gi xm_c705 2 = some xm_e705_2 := xm_gt d_705_2
theorem d_705_3 : List.drop 3 xm_c705 = xm_c705_3 := xm_dr d_705_2
theorem k_705_3 : xm_gi xm_c705 3 = some xm_e705_3 := xm_gt d_705_3
theorem d_705_4 : List.drop 4 xm_c705 = xm_c705_4 := xm_dr d_705_3
theorem k_705_4 : xm_gi xm_c705 4 = some xm_e705_4 := xm_gt d_705_4
theorem d_705_5 : List.drop 5 xm_c705 = xm_c705_5 := xm_dr d_705_4
theorem k_705_5 : xm_gi xm_c705 5 = some xm_e705_5 := xm_gt d_705_5
theorem d_705_6 : List.drop 6 xm_c705 = xm_c705_6 := xm_dr d_705_5
theorem k_705_6 : xm_gi xm_c705 6 = some xm_e705_6 := xm_gt d_705_6
theorem d_705_7 : List.drop 7 xm_c705 = xm_c705_7 := xm_dr d_705_6
theorem k_705_7 : xm_gi xm_c705 7 = some xm_e705_7 := xm_gt d_705_7
theorem d_705_8 : List.drop 8 xm_c705 = xm_c705_8 := xm_dr d_705_7
theorem k_705_8 : xm_gi xm_c705 8 = some xm_e705_8 := xm_gt d_705_8
theorem d_705_9 : List.drop 9 xm_c705 = xm_c705_9 := xm_dr d_705_8
theorem k_705_9 : xm_gi xm_c705 9 = some xm_e705_9 := xm_gt d_705_9
theorem d_705_10 : List.drop 10 xm_c705 = xm_c705_10 := xm_dr d_705_9
theorem k_705_10 : xm_gi xm_c705 10 = some xm_e705_10 := xm_gt d_705_10
theorem d_705_11 : List.drop 11 xm_c705 = xm_c705_11 := xm_dr d_705_10
theorem k_705_11 : xm_gi xm_c705 11 = some xm_e705_11 := xm_gt d_705_11
theorem d_705_12 : List.drop 12 xm_c705 = xm_c705_12 := xm_dr d_705_11
theorem k_705_12 : xm_gi xm_c705 12 = some xm_e705_12 := xm_gt d_705_12
theorem d_705_13 : List.drop 13 xm_c705 = xm_c705_13 := xm_dr d_705_12
theorem k_705_13 : xm_gi xm_c705 13 = some xm_e705_13 := xm_gt d_705_13
theorem d_705_14 : List.drop 14 xm_c705 = xm_c705_14 := xm_dr d_705_13
theorem k_705_14 : xm_gi xm_c705 14 = some xm_e705_14 := xm_gt d_705_14
theorem d_705_15 : List.drop 15 xm_c705 = xm_c705_15 := xm_dr d_705_14
theorem k_705_15 : xm_gi xm_c705 15 = some xm_e705_15 := xm_gt d_705_15
theorem d_705_16 : List.drop 16 xm_c705 = xm_c705_16 := xm_dr d_705_15
theorem k_705_16 : xm_gi xm_c705 16 = some xm_e705_16 := xm_gt d_705_16
theorem d_705_17 : List.drop 17 xm_c705 = xm_c705_17 := xm_dr d_705_16
theorem k_705_17 : xm_gi xm_c705 17 = some xm_e705_17 := xm_gt d_705_17
theorem xb_705_0 {sc : List Int} {f : Nat → List xm_V → xm_W → xm_R} {w : xm_W} {Q : Option xm_V × xm_W → Prop} {x0 : Nat} {x1 : Int} {x2 : Int}
  (h : if (x1 : Int) < 0 then (Q (some (.inl 0), w)) else (if (x2 : Int) < 0 then (Q (some (.inl 0), w)) else (xm_O (xm_fi (xm_old sc) w x0 5 1) (fun z1 => if (z1 : Int) < x1 then (Q (some (.inl 0), w)) else (xm_O (xm_fi (xm_old sc) w x0 5 1) (fun z2 => if ((xm_w (z2 - x1)) : Int) < x2 then (Q (some (.inl 0), w)) else (Q (some (.inl 1), w)))))))) :
  xm_EQ (xm_old sc) xm_sta f xm_c705 0 [some (.inr (.inl (some x0))), some (.inl x1), some (.inl x2)] [] w Q :=
  (xq_iload_n k_705_0 rfl (xq_if_lt k_705_1 h (fun h => (xq_iconst k_705_16 (xq_ireturn k_705_17 h))) (fun h => (xq_iload_n k_705_2 rfl (xq_if_lt k_705_3 h (fun h => (xq_iconst k_705_16 (xq_ireturn k_705_17 h))) (fun h => (xq_iload_n k_705_4 rfl (xq_aload_n k_705_5 rfl (xq_geti0 k_705_6 rfl h (fun z1 h => (xq_ic_gt k_705_7 h (fun h => (xq_iconst k_705_16 (xq_ireturn k_705_17 h))) (fun h => (xq_iload_n k_705_8 rfl (xq_aload_n k_705_9 rfl (xq_geti0 k_705_10 rfl h (fun z2 h => (xq_iload_n k_705_11 rfl (xq_isub k_705_12 (xq_ic_gt k_705_13 h (fun h => (xq_iconst k_705_16 (xq_ireturn k_705_17 h))) (fun h => (xq_iconst k_705_14 (xq_goto k_705_15 (xq_ireturn k_705_17 h)))))))))))))))))))))))
