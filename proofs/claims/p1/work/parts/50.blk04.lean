/-- ShodBackwards$Moor.<init>()V -/
theorem k_401_0 : xm_c401[0]? = some (.aload_n 0, 0, 1, 0, 0, [], []) := by decide +kernel
theorem k_401_1 : xm_c401[1]? = some (.invokespecial 3, 1, 2, 1, 1, [105, 98, 99], []) := by decide +kernel
theorem k_401_2 : xm_c401[2]? = some (.aload_n 0, 4, 3, 0, 0, [], []) := by decide +kernel
theorem k_401_3 : xm_c401[3]? = some (.bipush 36, 5, 4, 0, 0, [], []) := by decide +kernel
theorem k_401_4 : xm_c401[4]? = some (.newarray .int, 7, 5, 0, 0, [152], []) := by decide +kernel
theorem k_401_5 : xm_c401[5]? = some (.putfield 9, 9, 6, 0, 2, [153], []) := by decide +kernel
theorem k_401_6 : xm_c401[6]? = some (.aload_n 0, 12, 7, 0, 0, [], []) := by decide +kernel
theorem k_401_7 : xm_c401[7]? = some (.iconst 5, 13, 8, 0, 0, [], []) := by decide +kernel
theorem k_401_8 : xm_c401[8]? = some (.anewarray 15, 14, 9, 0, 4, [106], []) := by decide +kernel
theorem k_401_9 : xm_c401[9]? = some (.putfield 17, 17, 10, 3, 2, [159], []) := by decide +kernel
theorem k_401_10 : xm_c401[10]? = some (.aload_n 0, 20, 11, 0, 0, [], []) := by decide +kernel
theorem k_401_11 : xm_c401[11]? = some (.sipush 200, 21, 12, 0, 0, [], []) := by decide +kernel
theorem k_401_12 : xm_c401[12]? = some (.newarray .int, 24, 13, 0, 0, [152], []) := by decide +kernel
theorem k_401_13 : xm_c401[13]? = some (.putfield 21, 26, 14, 5, 2, [163], []) := by decide +kernel
theorem k_401_14 : xm_c401[14]? = some (.aload_n 0, 29, 15, 0, 0, [], []) := by decide +kernel
theorem k_401_15 : xm_c401[15]? = some (.iconst 2, 30, 16, 0, 0, [], []) := by decide +kernel
theorem k_401_16 : xm_c401[16]? = some (.anewarray 24, 31, 17, 0, 7, [108], []) := by decide +kernel
theorem k_401_17 : xm_c401[17]? = some (.putfield 26, 34, 18, 7, 2, [167], []) := by decide +kernel
theorem k_401_18 : xm_c401[18]? = some (.aload_n 0, 37, 19, 0, 0, [], []) := by decide +kernel
theorem k_401_19 : xm_c401[19]? = some (.iconst 4, 38, 20, 0, 0, [], []) := by decide +kernel
theorem k_401_20 : xm_c401[20]? = some (.newarray .int, 39, 21, 0, 0, [152], []) := by decide +kernel
theorem k_401_21 : xm_c401[21]? = some (.putfield 30, 41, 22, 8, 2, [169], []) := by decide +kernel
theorem k_401_22 : xm_c401[22]? = some (.aload_n 0, 44, 23, 0, 0, [], []) := by decide +kernel
theorem k_401_23 : xm_c401[23]? = some (.bipush 60, 45, 24, 0, 0, [], []) := by decide +kernel
theorem k_401_24 : xm_c401[24]? = some (.newarray .int, 47, 25, 0, 0, [152], []) := by decide +kernel
theorem k_401_25 : xm_c401[25]? = some (.putfield 33, 49, 26, 9, 2, [170], []) := by decide +kernel
theorem k_401_26 : xm_c401[26]? = some (.iconst 0, 52, 27, 0, 0, [], []) := by decide +kernel
theorem k_401_27 : xm_c401[27]? = some (.istore_n 1, 53, 28, 1, 0, [], []) := by decide +kernel
theorem k_401_28 : xm_c401[28]? = some (.iload_n 1, 54, 29, 1, 0, [], []) := by decide +kernel
theorem k_401_29 : xm_c401[29]? = some (.iconst 5, 55, 30, 0, 0, [], []) := by decide +kernel
theorem k_401_30 : xm_c401[30]? = some (.if_icmp .ge 22, 56, 31, 40, 0, [], []) := by decide +kernel
theorem k_401_31 : xm_c401[31]? = some (.aload_n 0, 59, 32, 0, 0, [], []) := by decide +kernel
theorem k_401_32 : xm_c401[32]? = some (.getfield 17, 60, 33, 3, 2, [159], []) := by decide +kernel
theorem k_401_33 : xm_c401[33]? = some (.iload_n 1, 63, 34, 1, 0, [], []) := by decide +kernel
theorem k_401_34 : xm_c401[34]? = some (.new 15, 64, 35, 0, 4, [106, 110, 77], []) := by decide +kernel
theorem k_401_35 : xm_c401[35]? = some (.dup, 67, 36, 0, 0, [], []) := by decide +kernel
theorem k_401_36 : xm_c401[36]? = some (.invokespecial 36, 68, 37, 601, 1, [111, 112, 0, 77, 113], []) := by decide +kernel
theorem k_401_37 : xm_c401[37]? = some (.aastore, 71, 38, 0, 0, [], []) := by decide +kernel
theorem k_401_38 : xm_c401[38]? = some (.iinc 1 1, 72, 39, 1, 0, [], []) := by decide +kernel
theorem k_401_39 : xm_c401[39]? = some (.goto (-21), 75, 40, 28, 0, [], []) := by decide +kernel
theorem k_401_40 : xm_c401[40]? = some (.return_, 78, 0, 0, 0, [], []) := by decide +kernel
theorem xb_401_0 {sc : List Int} {f : Nat → List xm_V → xm_W → xm_R} {w : xm_W} {q : Option xm_V × xm_W} {x0 : Nat}
  (h : (0 ≤ (36 : Int) ∧ (36 : Int) ≤ 1000) ∧ (xm_O (xm_setf (w ++ [.inl (List.replicate (Int.toNat 36) 0)]) x0 2 0 2 (.inr (.inl (some w.length)))) (fun w1 => (0 ≤ (5 : Int) ∧ (5 : Int) ≤ 1000) ∧ (xm_O (xm_setf (w1 ++ [.inr (.inl (4, List.replicate (Int.toNat 5) none))]) x0 2 3 2 (.inr (.inl (some w1.length)))) (fun w2 => (0 ≤ (200 : Int) ∧ (200 : Int) ≤ 1000) ∧ (xm_O (xm_setf (w2 ++ [.inl (List.replicate (Int.toNat 200) 0)]) x0 2 5 2 (.inr (.inl (some w2.length)))) (fun w3 => (0 ≤ (2 : Int) ∧ (2 : Int) ≤ 1000) ∧ (xm_O (xm_setf (w3 ++ [.inr (.inl (7, List.replicate (Int.toNat 2) none))]) x0 2 7 2 (.inr (.inl (some w3.length)))) (fun w4 => (0 ≤ (4 : Int) ∧ (4 : Int) ≤ 1000) ∧ (xm_O (xm_setf (w4 ++ [.inl (List.replicate (Int.toNat 4) 0)]) x0 2 8 2 (.inr (.inl (some w4.length)))) (fun w5 => (0 ≤ (60 : Int) ∧ (60 : Int) ≤ 1000) ∧ (xm_O (xm_setf (w5 ++ [.inl (List.replicate (Int.toNat 60) 0)]) x0 2 9 2 (.inr (.inl (some w5.length)))) (fun w6 => xm_E (xm_old sc) xm_sta f xm_c401 28 [some (.inr (.inl (some x0))), some (.inl 0)] [] w6 q))))))))))))) :
  xm_E (xm_old sc) xm_sta f xm_c401 0 [some (.inr (.inl (some x0))), none] [] w q :=
  (xs_aload_n k_401_0 rfl (xs_obj k_401_1 rfl (xs_aload_n k_401_2 rfl (xs_bipush k_401_3 (xs_newarray k_401_4 h (fun h => (xs_put k_401_5 rfl h (fun w1 h => (xs_aload_n k_401_6 rfl (xs_iconst k_401_7 (xs_anewarray k_401_8 h (fun h => (xs_put k_401_9 rfl h (fun w2 h => (xs_aload_n k_401_10 rfl (xs_sipush k_401_11 (xs_newarray k_401_12 h (fun h => (xs_put k_401_13 rfl h (fun w3 h => (xs_aload_n k_401_14 rfl (xs_iconst k_401_15 (xs_anewarray k_401_16 h (fun h => (xs_put k_401_17 rfl h (fun w4 h => (xs_aload_n k_401_18 rfl (xs_iconst k_401_19 (xs_newarray k_401_20 h (fun h => (xs_put k_401_21 rfl h (fun w5 h => (xs_aload_n k_401_22 rfl (xs_bipush k_401_23 (xs_newarray k_401_24 h (fun h => (xs_put k_401_25 rfl h (fun w6 h => (xs_iconst k_401_26 (xs_istore_n k_401_27 rfl h))))))))))))))))))))))))))))))))))))))))
theorem xb_401_28 {sc : List Int} {f : Nat → List xm_V → xm_W → xm_R} {w : xm_W} {q : Option xm_V × xm_W} {x0 : Nat} {x1 : Int}
  (h : if (x1 : Int) < 5 then (xm_O (xm_fr (xm_old sc) w x0 2 3) (fun r1 => xm_Ov (f 601 [.inr (.inl (some w.length))] (w ++ [.inr (.inr (4, (xm_kd 4).map xm_dflt))])) (fun w2 => xm_O (xm_setq w2 r1 x1 (some w.length)) (fun w3 => xm_E (xm_old sc) xm_sta f xm_c401 28 [some (.inr (.inl (some x0))), some (.inl (xm_w (x1 + 1)))] [] w3 q)))) else (q = (none, w))) :
  xm_E (xm_old sc) xm_sta f xm_c401 28 [some (.inr (.inl (some x0))), some (.inl x1)] [] w q :=
  (xs_iload_n k_401_28 rfl (xs_iconst k_401_29 (xs_ic_ge k_401_30 h (fun h => (xs_aload_n k_401_31 rfl (xs_getr k_401_32 rfl h (fun r1 h => (xs_iload_n k_401_33 rfl (xs_new k_401_34 (xs_dupr k_401_35 (xs_invi0 k_401_36 xr_601 rfl rfl rfl h (fun w2 h => (xs_aastore k_401_37 h (fun w3 h => (xs_iinc k_401_38 rfl rfl (xs_goto k_401_39 h))))))))))))) (fun h => (xs_return k_401_40 h)))))
/-- ShodBackwards$Moor.copyFrom(LShodBackwards$Moor;)V -/
theorem k_402_0 : xm_c402[0]? = some (.aload_n 1, 0, 1, 1, 0, [], []) := by decide +kernel
theorem k_402_1 : xm_c402[1]? = some (.getfield 9, 1, 2, 0, 2, [153], []) := by decide +kernel
theorem k_402_2 : xm_c402[2]? = some (.iconst 0, 4, 3, 0, 0, [], []) := by decide +kernel
theorem k_402_3 : xm_c402[3]? = some (.aload_n 0, 5, 4, 0, 0, [], []) := by decide +kernel
theorem k_402_4 : xm_c402[4]? = some (.getfield 9, 6, 5, 0, 2, [153], []) := by decide +kernel
theorem k_402_5 : xm_c402[5]? = some (.iconst 0, 9, 6, 0, 0, [], []) := by decide +kernel
theorem k_402_6 : xm_c402[6]? = some (.bipush 36, 10, 7, 0, 0, [], []) := by decide +kernel
theorem k_402_7 : xm_c402[7]? = some (.invokestatic 37, 12, 8, 2, 5, [375, 377, 376, 84], []) := by decide +kernel
theorem k_402_8 : xm_c402[8]? = some (.aload_n 0, 15, 9, 0, 0, [], []) := by decide +kernel
theorem k_402_9 : xm_c402[9]? = some (.aload_n 1, 16, 10, 1, 0, [], []) := by decide +kernel
theorem k_402_10 : xm_c402[10]? = some (.getfield 43, 17, 11, 1, 2, [155], []) := by decide +kernel
theorem k_402_11 : xm_c402[11]? = some (.putfield 43, 20, 12, 1, 2, [155], []) := by decide +kernel
theorem k_402_12 : xm_c402[12]? = some (.aload_n 0, 23, 13, 0, 0, [], []) := by decide +kernel
theorem k_402_13 : xm_c402[13]? = some (.aload_n 1, 24, 14, 1, 0, [], []) := by decide +kernel
theorem k_402_14 : xm_c402[14]? = some (.getfield 47, 25, 15, 2, 2, [157], []) := by decide +kernel
theorem k_402_15 : xm_c402[15]? = some (.putfield 47, 28, 16, 2, 2, [157], []) := by decide +kernel
theorem k_402_16 : xm_c402[16]? = some (.aload_n 0, 31, 17, 0, 0, [], []) := by decide +kernel
theorem k_402_17 : xm_c402[17]? = some (.aload_n 1, 32, 18, 1, 0, [], []) := by decide +kernel
theorem k_402_18 : xm_c402[18]? = some (.getfield 50, 33, 19, 4, 2, [161], []) := by decide +kernel
theorem k_402_19 : xm_c402[19]? = some (.putfield 50, 36, 20, 4, 2, [161], []) := by decide +kernel
theorem k_402_20 : xm_c402[20]? = some (.iconst 0, 39, 21, 0, 0, [], []) := by decide +kernel
theorem k_402_21 : xm_c402[21]? = some (.istore_n 2, 40, 22, 2, 0, [], []) := by decide +kernel
theorem k_402_22 : xm_c402[22]? = some (.iload_n 2, 41, 23, 2, 0, [], []) := by decide +kernel
theorem k_402_23 : xm_c402[23]? = some (.iconst 5, 42, 24, 0, 0, [], []) := by decide +kernel
theorem k_402_24 : xm_c402[24]? = some (.if_icmp .ge 24, 43, 25, 36, 0, [], []) := by decide +kernel
theorem k_402_25 : xm_c402[25]? = some (.aload_n 0, 46, 26, 0, 0, [], []) := by decide +kernel
theorem k_402_26 : xm_c402[26]? = some (.getfield 17, 47, 27, 3, 2, [159], []) := by decide +kernel
theorem k_402_27 : xm_c402[27]? = some (.iload_n 2, 50, 28, 2, 0, [], []) := by decide +kernel
theorem k_402_28 : xm_c402[28]? = some (.aaload, 51, 29, 0, 0, [], []) := by decide +kernel
theorem k_402_29 : xm_c402[29]? = some (.aload_n 1, 52, 30, 1, 0, [], []) := by decide +kernel
theorem k_402_30 : xm_c402[30]? = some (.getfield 17, 53, 31, 3, 2, [159], []) := by decide +kernel
theorem k_402_31 : xm_c402[31]? = some (.iload_n 2, 56, 32, 2, 0, [], []) := by decide +kernel
theorem k_402_32 : xm_c402[32]? = some (.aaload, 57, 33, 0, 0, [], []) := by decide +kernel
theorem k_402_33 : xm_c402[33]? = some (.invokevirtual 53, 58, 34, 603, 2, [713, 714, 715, 77, 716], []) := by decide +kernel
theorem k_402_34 : xm_c402[34]? = some (.iinc 2 1, 61, 35, 2, 0, [], []) := by decide +kernel
theorem k_402_35 : xm_c402[35]? = some (.goto (-23), 64, 36, 22, 0, [], []) := by decide +kernel
theorem k_402_36 : xm_c402[36]? = some (.aload_n 0, 67, 37, 0, 0, [], []) := by decide +kernel
theorem k_402_37 : xm_c402[37]? = some (.aload_n 1, 68, 38, 1, 0, [], []) := by decide +kernel
theorem k_402_38 : xm_c402[38]? = some (.getfield 57, 69, 39, 6, 2, [165], []) := by decide +kernel
theorem k_402_39 : xm_c402[39]? = some (.putfield 57, 72, 40, 6, 2, [165], []) := by decide +kernel
theorem k_402_40 : xm_c402[40]? = some (.aload_n 1, 75, 41, 1, 0, [], []) := by decide +kernel
theorem k_402_41 : xm_c402[41]? = some (.getfield 21, 76, 42, 5, 2, [163], []) := by decide +kernel
theorem k_402_42 : xm_c402[42]? = some (.iconst 0, 79, 43, 0, 0, [], []) := by decide +kernel
theorem k_402_43 : xm_c402[43]? = some (.aload_n 0, 80, 44, 0, 0, [], []) := by decide +kernel
theorem k_402_44 : xm_c402[44]? = some (.getfield 21, 81, 45, 5, 2, [163], []) := by decide +kernel
theorem k_402_45 : xm_c402[45]? = some (.iconst 0, 84, 46, 0, 0, [], []) := by decide +kernel
theorem k_402_46 : xm_c402[46]? = some (.sipush 200, 85, 47, 0, 0, [], []) := by decide +kernel
theorem k_402_47 : xm_c402[47]? = some (.invokestatic 37, 88, 48, 2, 5, [375, 377, 376, 84], []) := by decide +kernel
theorem k_402_48 : xm_c402[48]? = some (.aload_n 0, 91, 49, 0, 0, [], []) := by decide +kernel
theorem k_402_49 : xm_c402[49]? = some (.getfield 26, 92, 50, 7, 2, [167], []) := by decide +kernel
theorem k_402_50 : xm_c402[50]? = some (.iconst 0, 95, 51, 0, 0, [], []) := by decide +kernel
theorem k_402_51 : xm_c402[51]? = some (.aload_n 1, 96, 52, 1, 0, [], []) := by decide +kernel
theorem k_402_52 : xm_c402[52]? = some (.getfield 26, 97, 53, 7, 2, [167], []) := by decide +kernel
theorem k_402_53 : xm_c402[53]? = some (.iconst 0, 100, 54, 0, 0, [], []) := by decide +kernel
theorem k_402_54 : xm_c402[54]? = some (.aaload, 101, 55, 0, 0, [], []) := by decide +kernel
theorem k_402_55 : xm_c402[55]? = some (.aastore, 102, 56, 0, 0, [], []) := by decide +kernel
theorem k_402_56 : xm_c402[56]? = some (.aload_n 0, 103, 57, 0, 0, [], []) := by decide +kernel
theorem k_402_57 : xm_c402[57]? = some (.getfield 26, 104, 58, 7, 2, [167], []) := by decide +kernel
theorem k_402_58 : xm_c402[58]? = some (.iconst 1, 107, 59, 0, 0, [], []) := by decide +kernel
theorem k_402_59 : xm_c402[59]? = some (.aload_n 1, 108, 60, 1, 0, [], []) := by decide +kernel
theorem k_402_60 : xm_c402[60]? = some (.getfield 26, 109, 61, 7, 2, [167], []) := by decide +kernel
theorem k_402_61 : xm_c402[61]? = some (.iconst 1, 112, 62, 0, 0, [], []) := by decide +kernel
theorem k_402_62 : xm_c402[62]? = some (.aaload, 113, 63, 0, 0, [], []) := by decide +kernel
theorem k_402_63 : xm_c402[63]? = some (.aastore, 114, 64, 0, 0, [], []) := by decide +kernel
theorem k_402_64 : xm_c402[64]? = some (.return_, 115, 0, 0, 0, [], []) := by decide +kernel
theorem xb_402_0 {sc : List Int} {f : Nat → List xm_V → xm_W → xm_R} {w : xm_W} {q : Option xm_V × xm_W} {x0 : Nat} {x1 : Nat}
  (h : xm_O (xm_fr (xm_old sc) w x1 2 0) (fun r1 => xm_O (xm_fr (xm_old sc) w x0 2 0) (fun r2 => xm_O (xm_copy w r1 0 r2 0 36) (fun w3 => xm_O (xm_fi (xm_old sc) w3 x1 2 1) (fun z4 => xm_O (xm_setf w3 x0 2 1 0 (.inl z4)) (fun w5 => xm_O (xm_fi (xm_old sc) w5 x1 2 2) (fun z6 => xm_O (xm_setf w5 x0 2 2 0 (.inl z6)) (fun w7 => xm_O (xm_fi (xm_old sc) w7 x1 2 4) (fun z8 => xm_O (xm_setf w7 x0 2 4 0 (.inl z8)) (fun w9 => xm_E (xm_old sc) xm_sta f xm_c402 22 [some (.inr (.inl (some x0))), some (.inr (.inl (some x1))), some (.inl 0)] [] w9 q)))))))))) :
  xm_E (xm_old sc) xm_sta f xm_c402 0 [some (.inr (.inl (some x0))), some (.inr (.inl (some x1))), none] [] w q :=
  (xs_aload_n k_402_0 rfl (xs_getr k_402_1 rfl h (fun r1 h => (xs_iconst k_402_2 (xs_aload_n k_402_3 rfl (xs_getr k_402_4 rfl h (fun r2 h => (xs_iconst k_402_5 (xs_bipush k_402_6 (xs_copy k_402_7 rfl h (fun w3 h => (xs_aload_n k_402_8 rfl (xs_aload_n k_402_9 rfl (xs_geti0 k_402_10 rfl h (fun z4 h => (xs_put k_402_11 rfl h (fun w5 h => (xs_aload_n k_402_12 rfl (xs_aload_n k_402_13 rfl (xs_geti0 k_402_14 rfl h (fun z6 h => (xs_put k_402_15 rfl h (fun w7 h => (xs_aload_n k_402_16 rfl (xs_aload_n k_402_17 rfl (xs_geti0 k_402_18 rfl h (fun z8 h => (xs_put k_402_19 rfl h (fun w9 h => (xs_iconst k_402_20 (xs_istore_n k_402_21 rfl h)))))))))))))))))))))))))))))))
theorem xb_402_22 {sc : List Int} {f : Nat → List xm_V → xm_W → xm_R} {w : xm_W} {q : Option xm_V × xm_W} {x0 : Nat} {x1 : Nat} {x2 : Int}
  (h : if (x2 : Int) < 5 then (xm_O (xm_fr (xm_old sc) w x0 2 3) (fun r16 => xm_O (xm_refs (xm_old sc) w r16) (fun l17 => xm_O (xm_at l17 x2) (fun r18 => xm_O (xm_fr (xm_old sc) w x1 2 3) (fun r19 => xm_O (xm_refs (xm_old sc) w r19) (fun l20 => xm_O (xm_at l20 x2) (fun r21 => xm_Ov (f 603 [.inr (.inl r18), .inr (.inl r21)] w) (fun w22 => xm_E (xm_old sc) xm_sta f xm_c402 22 [some (.inr (.inl (some x0))), some (.inr (.inl (some x1))), some (.inl (xm_w (x2 + 1)))] [] w22 q)))))))) else (xm_O (xm_fi (xm_old sc) w x1 2 6) (fun z1 => xm_O (xm_setf w x0 2 6 0 (.inl z1)) (fun w2 => xm_O (xm_fr (xm_old sc) w2 x1 2 5) (fun r3 => xm_O (xm_fr (xm_old sc) w2 x0 2 5) (fun r4 => xm_O (xm_copy w2 r3 0 r4 0 200) (fun w5 => xm_O (xm_fr (xm_old sc) w5 x0 2 7) (fun r6 => xm_O (xm_fr (xm_old sc) w5 x1 2 7) (fun r7 => xm_O (xm_refs (xm_old sc) w5 r7) (fun l8 => xm_O (xm_at l8 0) (fun r9 => xm_O (xm_setq w5 r6 0 r9) (fun w10 => xm_O (xm_fr (xm_old sc) w10 x0 2 7) (fun r11 => xm_O (xm_fr (xm_old sc) w10 x1 2 7) (fun r12 => xm_O (xm_refs (xm_old sc) w10 r12) (fun l13 => xm_O (xm_at l13 1) (fun r14 => xm_O (xm_setq w10 r11 1 r14) (fun w15 => q = (none, w15)))))))))))))))))) :
  xm_E (xm_old sc) xm_sta f xm_c402 22 [some (.inr (.inl (some x0))), some (.inr (.inl (some x1))), some (.inl x2)] [] w q :=
  (xs_iload_n k_402_22 rfl (xs_iconst k_402_23 (xs_ic_ge k_402_24 h (fun h => (xs_aload_n k_402_25 rfl (xs_getr k_402_26 rfl h (fun r16 h => (xs_iload_n k_402_27 rfl (xs_aaload k_402_28 h (fun l17 h => h) (fun l17 r18 h => (xs_aload_n k_402_29 rfl (xs_getr k_402_30 rfl h (fun r19 h => (xs_iload_n k_402_31 rfl (xs_aaload k_402_32 h (fun l20 h => h) (fun l20 r21 h => (xs_invv0 k_402_33 xr_603 rfl rfl rfl h (fun w22 h => (xs_iinc k_402_34 rfl rfl (xs_goto k_402_35 h))))))))))))))))) (fun h => (xs_aload_n k_402_36 rfl (xs_aload_n k_402_37 rfl (xs_geti0 k_402_38 rfl h (fun z1 h => (xs_put k_402_39 rfl h (fun w2 h => (xs_aload_n k_402_40 rfl (xs_getr k_402_41 rfl h (fun r3 h => (xs_iconst k_402_42 (xs_aload_n k_402_43 rfl (xs_getr k_402_44 rfl h (fun r4 h => (xs_iconst k_402_45 (xs_sipush k_402_46 (xs_copy k_402_47 rfl h (fun w5 h => (xs_aload_n k_402_48 rfl (xs_getr k_402_49 rfl h (fun r6 h => (xs_iconst k_402_50 (xs_aload_n k_402_51 rfl (xs_getr k_402_52 rfl h (fun r7 h => (xs_iconst k_402_53 (xs_aaload k_402_54 h (fun l8 h => h) (fun l8 r9 h => (xs_aastore k_402_55 h (fun w10 h => (xs_aload_n k_402_56 rfl (xs_getr k_402_57 rfl h (fun r11 h => (xs_iconst k_402_58 (xs_aload_n k_402_59 rfl (xs_getr k_402_60 rfl h (fun r12 h => (xs_iconst k_402_61 (xs_aaload k_402_62 h (fun l13 h => h) (fun l13 r14 h => (xs_aastore k_402_63 h (fun w15 h => (xs_return k_402_64 h))))))))))))))))))))))))))))))))))))))))))))))
/-- ShodBackwards$Moor.keeps(I)I -/
theorem k_403_0 : xm_c403[0]? = some (.aload_n 0, 0, 1, 0, 0, [], []) := by decide +kernel
theorem k_403_1 : xm_c403[1]? = some (.getfield 9, 1, 2, 0, 2, [153], []) := by decide +kernel
theorem k_403_2 : xm_c403[2]? = some (.iload_n 1, 4, 3, 1, 0, [], []) := by decide +kernel
theorem k_403_3 : xm_c403[3]? = some (.iaload, 5, 4, 0, 0, [], []) := by decide +kernel
theorem k_403_4 : xm_c403[4]? = some (.tableswitch 43 0 2 #[26, 34, 41], 6, 5, 17, 0, [], [(0, 5), (1, 10), (2, 15)]) := by decide +kernel
theorem k_403_5 : xm_c403[5]? = some (.bipush 9, 32, 6, 0, 0, [], []) := by decide +kernel
theorem k_403_6 : xm_c403[6]? = some (.aload_n 0, 34, 7, 0, 0, [], []) := by decide +kernel
theorem k_403_7 : xm_c403[7]? = some (.getfield 43, 35, 8, 1, 2, [155], []) := by decide +kernel
theorem k_403_8 : xm_c403[8]? = some (.iadd, 38, 9, 0, 0, [], []) := by decide +kernel
theorem k_403_9 : xm_c403[9]? = some (.ireturn, 39, 0, 0, 0, [], []) := by decide +kernel
theorem k_403_10 : xm_c403[10]? = some (.iconst 4, 40, 11, 0, 0, [], []) := by decide +kernel
theorem k_403_11 : xm_c403[11]? = some (.aload_n 0, 41, 12, 0, 0, [], []) := by decide +kernel
theorem k_403_12 : xm_c403[12]? = some (.getfield 43, 42, 13, 1, 2, [155], []) := by decide +kernel
theorem k_403_13 : xm_c403[13]? = some (.iadd, 45, 14, 0, 0, [], []) := by decide +kernel
theorem k_403_14 : xm_c403[14]? = some (.ireturn, 46, 0, 0, 0, [], []) := by decide +kernel
theorem k_403_15 : xm_c403[15]? = some (.iconst 1, 47, 16, 0, 0, [], []) := by decide +kernel
theorem k_403_16 : xm_c403[16]? = some (.ireturn, 48, 0, 0, 0, [], []) := by decide +kernel
theorem k_403_17 : xm_c403[17]? = some (.iconst 0, 49, 18, 0, 0, [], []) := by decide +kernel
theorem k_403_18 : xm_c403[18]? = some (.ireturn, 50, 0, 0, 0, [], []) := by decide +kernel
theorem xb_403_0 {sc : List Int} {f : Nat → List xm_V → xm_W → xm_R} {w : xm_W} {q : Option xm_V × xm_W} {x0 : Nat} {x1 : Int}
  (h : xm_O (xm_fr (xm_old sc) w x0 2 0) (fun r1 => xm_O (xm_ints (xm_old sc) w r1) (fun l2 => xm_O (xm_at l2 x1) (fun z3 => if (z3 : Int) = 0 then (xm_O (xm_fi (xm_old sc) w x0 2 1) (fun z5 => q = (some (.inl (xm_w (9 + z5))), w))) else (if (z3 : Int) = 1 then (xm_O (xm_fi (xm_old sc) w x0 2 1) (fun z4 => q = (some (.inl (xm_w (4 + z4))), w))) else (if (z3 : Int) = 2 then (q = (some (.inl 1), w)) else (q = (some (.inl 0), w)))))))) :
  xm_E (xm_old sc) xm_sta f xm_c403 0 [some (.inr (.inl (some x0))), some (.inl x1)] [] w q :=
  (xs_aload_n k_403_0 rfl (xs_getr k_403_1 rfl h (fun r1 h => (xs_iload_n k_403_2 rfl (xs_iaload k_403_3 h (fun l2 h => h) (fun l2 z3 h => (xs_tsw k_403_4 (xs_swc h (fun h => (xs_bipush k_403_5 (xs_aload_n k_403_6 rfl (xs_geti0 k_403_7 rfl h (fun z5 h => (xs_iadd k_403_8 (xs_ireturn k_403_9 h))))))) (fun h => (xs_swc h (fun h => (xs_iconst k_403_10 (xs_aload_n k_403_11 rfl (xs_geti0 k_403_12 rfl h (fun z4 h => (xs_iadd k_403_13 (xs_ireturn k_403_14 h))))))) (fun h => (xs_swc h (fun h => (xs_iconst k_403_15 (xs_ireturn k_403_16 h))) (fun h => (xs_iconst k_403_17 (xs_ireturn k_403_18 h)))))))))))))))
/-- ShodBackwards$Moor.passHours(I)V -/
theorem k_404_0 : xm_c404[0]? = some (.iconst 0, 0, 1, 0, 0, [], []) := by decide +kernel
theorem k_404_1 : xm_c404[1]? = some (.istore_n 2, 1, 2, 2, 0, [], []) := by decide +kernel
theorem k_404_2 : xm_c404[2]? = some (.iload_n 2, 2, 3, 2, 0, [], []) := by decide +kernel
theorem k_404_3 : xm_c404[3]? = some (.iload_n 1, 3, 4, 1, 0, [], []) := by decide +kernel
theorem k_404_4 : xm_c404[4]? = some (.if_icmp .ge 13, 4, 5, 9, 0, [], []) := by decide +kernel
theorem k_404_5 : xm_c404[5]? = some (.aload_n 0, 7, 6, 0, 0, [], []) := by decide +kernel
theorem k_404_6 : xm_c404[6]? = some (.invokevirtual 60, 8, 7, 405, 1, [611, 612, 613, 76, 614], []) := by decide +kernel
theorem k_404_7 : xm_c404[7]? = some (.iinc 2 1, 11, 8, 2, 0, [], []) := by decide +kernel
theorem k_404_8 : xm_c404[8]? = some (.goto (-12), 14, 9, 2, 0, [], []) := by decide +kernel
theorem k_404_9 : xm_c404[9]? = some (.return_, 17, 0, 0, 0, [], []) := by decide +kernel
theorem xb_404_0 {sc : List Int} {f : Nat → List xm_V → xm_W → xm_R} {w : xm_W} {q : Option xm_V × xm_W} {x0 : Nat} {x1 : Int}
  (h : xm_E (xm_old sc) xm_sta f xm_c404 2 [some (.inr (.inl (some x0))), some (.inl x1), some (.inl 0)] [] w q) :
  xm_E (xm_old sc) xm_sta f xm_c404 0 [some (.inr (.inl (some x0))), some (.inl x1), none] [] w q :=
  (xs_iconst k_404_0 (xs_istore_n k_404_1 rfl h))
theorem xb_404_2 {sc : List Int} {f : Nat → List xm_V → xm_W → xm_R} {w : xm_W} {q : Option xm_V × xm_W} {x0 : Nat} {x1 : Int} {x2 : Int}
  (h : if (x2 : Int) < x1 then (xm_Ov (f 405 [.inr (.inl (some x0))] w) (fun w1 => xm_E (xm_old sc) xm_sta f xm_c404 2 [some (.inr (.inl (some x0))), some (.inl x1), some (.inl (xm_w (x2 + 1)))] [] w1 q)) else (q = (none, w))) :
  xm_E (xm_old sc) xm_sta f xm_c404 2 [some (.inr (.inl (some x0))), some (.inl x1), some (.inl x2)] [] w q :=
  (xs_iload_n k_404_2 rfl (xs_iload_n k_404_3 rfl (xs_ic_ge k_404_4 h (fun h => (xs_aload_n k_404_5 rfl (xs_invv0 k_404_6 xr_405 rfl rfl rfl h (fun w1 h => (xs_iinc k_404_7 rfl rfl (xs_goto k_404_8 h)))))) (fun h => (xs_return k_404_9 h)))))
/-- ShodBackwards$Moor.passHour()V -/
theorem k_405_0 : xm_c405[0]? = some (.iconst 0, 0, 1, 0, 0, [], []) := by decide +kernel
theorem k_405_1 : xm_c405[1]? = some (.istore_n 1, 1, 2, 1, 0, [], []) := by decide +kernel
theorem k_405_2 : xm_c405[2]? = some (.iload_n 1, 2, 3, 1, 0, [], []) := by decide +kernel
theorem k_405_3 : xm_c405[3]? = some (.aload_n 0, 3, 4, 0, 0, [], []) := by decide +kernel
theorem k_405_4 : xm_c405[4]? = some (.getfield 50, 4, 5, 4, 2, [161], []) := by decide +kernel
theorem k_405_5 : xm_c405[5]? = some (.if_icmp .ge 41, 7, 6, 26, 0, [], []) := by decide +kernel
theorem k_405_6 : xm_c405[6]? = some (.aload_n 0, 10, 7, 0, 0, [], []) := by decide +kernel
theorem k_405_7 : xm_c405[7]? = some (.getfield 17, 11, 8, 3, 2, [159], []) := by decide +kernel
theorem k_405_8 : xm_c405[8]? = some (.iload_n 1, 14, 9, 1, 0, [], []) := by decide +kernel
theorem k_405_9 : xm_c405[9]? = some (.aaload, 15, 10, 0, 0, [], []) := by decide +kernel
theorem k_405_10 : xm_c405[10]? = some (.getfield 63, 16, 11, 5, 4, [133], []) := by decide +kernel
theorem k_405_11 : xm_c405[11]? = some (.aload_n 0, 19, 12, 0, 0, [], []) := by decide +kernel
theorem k_405_12 : xm_c405[12]? = some (.getfield 17, 20, 13, 3, 2, [159], []) := by decide +kernel
theorem k_405_13 : xm_c405[13]? = some (.iload_n 1, 23, 14, 1, 0, [], []) := by decide +kernel
theorem k_405_14 : xm_c405[14]? = some (.aaload, 24, 15, 0, 0, [], []) := by decide +kernel
theorem k_405_15 : xm_c405[15]? = some (.getfield 66, 25, 16, 4, 4, [130], []) := by decide +kernel
theorem k_405_16 : xm_c405[16]? = some (.if_icmp .ge 14, 28, 17, 24, 0, [], []) := by decide +kernel
theorem k_405_17 : xm_c405[17]? = some (.aload_n 0, 31, 18, 0, 0, [], []) := by decide +kernel
theorem k_405_18 : xm_c405[18]? = some (.iload_n 1, 32, 19, 1, 0, [], []) := by decide +kernel
theorem k_405_19 : xm_c405[19]? = some (.aload_n 0, 33, 20, 0, 0, [], []) := by decide +kernel
theorem k_405_20 : xm_c405[20]? = some (.getfield 17, 34, 21, 3, 2, [159], []) := by decide +kernel
theorem k_405_21 : xm_c405[21]? = some (.iload_n 1, 37, 22, 1, 0, [], []) := by decide +kernel
theorem k_405_22 : xm_c405[22]? = some (.aaload, 38, 23, 0, 0, [], []) := by decide +kernel
theorem k_405_23 : xm_c405[23]? = some (.invokevirtual 69, 39, 24, 406, 3, [615, 617, 10, 76, 618], []) := by decide +kernel
theorem k_405_24 : xm_c405[24]? = some (.iinc 1 1, 42, 25, 1, 0, [], []) := by decide +kernel
theorem k_405_25 : xm_c405[25]? = some (.goto (-43), 45, 26, 2, 0, [], []) := by decide +kernel
theorem k_405_26 : xm_c405[26]? = some (.aload_n 0, 48, 27, 0, 0, [], []) := by decide +kernel
theorem k_405_27 : xm_c405[27]? = some (.dup, 49, 28, 0, 0, [], []) := by decide +kernel
theorem k_405_28 : xm_c405[28]? = some (.getfield 47, 50, 29, 2, 2, [157], []) := by decide +kernel
theorem k_405_29 : xm_c405[29]? = some (.iconst 1, 53, 30, 0, 0, [], []) := by decide +kernel
theorem k_405_30 : xm_c405[30]? = some (.iadd, 54, 31, 0, 0, [], []) := by decide +kernel
theorem k_405_31 : xm_c405[31]? = some (.putfield 47, 55, 32, 2, 2, [157], []) := by decide +kernel
theorem k_405_32 : xm_c405[32]? = some (.aload_n 0, 58, 33, 0, 0, [], []) := by decide +kernel
theorem k_405_33 : xm_c405[33]? = some (.invokevirtual 73, 59, 34, 409, 1, [644, 364, 365, 76, 366], []) := by decide +kernel
theorem k_405_34 : xm_c405[34]? = some (.return_, 62, 0, 0, 0, [], []) := by decide +kernel
theorem xb_405_0 {sc : List Int} {f : Nat → List xm_V → xm_W → xm_R} {w : xm_W} {q : Option xm_V × xm_W} {x0 : Nat}
  (h : xm_E (xm_old sc) xm_sta f xm_c405 2 [some (.inr (.inl (some x0))), some (.inl 0)] [] w q) :
  xm_E (xm_old sc) xm_sta f xm_c405 0 [some (.inr (.inl (some x0))), none] [] w q :=
  (xs_iconst k_405_0 (xs_istore_n k_405_1 rfl h))
theorem xb_405_2 {sc : List Int} {f : Nat → List xm_V → xm_W → xm_R} {w : xm_W} {q : Option xm_V × xm_W} {x0 : Nat} {x1 : Int}
  (h : xm_O (xm_fi (xm_old sc) w x0 2 4) (fun z1 => if (x1 : Int) < z1 then (xm_O (xm_fr (xm_old sc) w x0 2 3) (fun r5 => xm_O (xm_refs (xm_old sc) w r5) (fun l6 => xm_O (xm_at l6 x1) (fun r7 => xm_O r7 (fun y8 => xm_O (xm_fi (xm_old sc) w y8 4 5) (fun z9 => xm_O (xm_fr (xm_old sc) w x0 2 3) (fun r10 => xm_O (xm_refs (xm_old sc) w r10) (fun l11 => xm_O (xm_at l11 x1) (fun r12 => xm_O r12 (fun y13 => xm_O (xm_fi (xm_old sc) w y13 4 4) (fun z14 => if (z9 : Int) < z14 then (xm_O (xm_fr (xm_old sc) w x0 2 3) (fun r15 => xm_O (xm_refs (xm_old sc) w r15) (fun l16 => xm_O (xm_at l16 x1) (fun r17 => xm_Ov (f 406 [.inr (.inl (some x0)), .inl x1, .inr (.inl r17)] w) (fun w18 => xm_E (xm_old sc) xm_sta f xm_c405 2 [some (.inr (.inl (some x0))), some (.inl (xm_w (x1 + 1)))] [] w18 q))))) else (xm_E (xm_old sc) xm_sta f xm_c405 2 [some (.inr (.inl (some x0))), some (.inl (xm_w (x1 + 1)))] [] w q)))))))))))) else (xm_O (xm_fi (xm_old sc) w x0 2 2) (fun z2 => xm_O (xm_setf w x0 2 2 0 (.inl (xm_w (z2 + 1)))) (fun w3 => xm_Ov (f 409 [.inr (.inl (some x0))] w3) (fun w4 => q = (none, w4))))))) :
  xm_E (xm_old sc) xm_sta f xm_c405 2 [some (.inr (.inl (some x0))), some (.inl x1)] [] w q :=
  (xs_iload_n k_405_2 rfl (xs_aload_n k_405_3 rfl (xs_geti0 k_405_4 rfl h (fun z1 h => (xs_ic_ge k_405_5 h (fun h => (xs_aload_n k_405_6 rfl (xs_getr k_405_7 rfl h (fun r5 h => (xs_iload_n k_405_8 rfl (xs_aaload k_405_9 h (fun l6 h => h) (fun l6 r7 h => (match r7, h with
 | some y8, h => (xs_geti0 k_405_10 rfl h (fun z9 h => (xs_aload_n k_405_11 rfl (xs_getr k_405_12 rfl h (fun r10 h => (xs_iload_n k_405_13 rfl (xs_aaload k_405_14 h (fun l11 h => h) (fun l11 r12 h => (match r12, h with
 | some y13, h => (xs_geti0 k_405_15 rfl h (fun z14 h => (xs_ic_ge k_405_16 h (fun h => (xs_aload_n k_405_17 rfl (xs_iload_n k_405_18 rfl (xs_aload_n k_405_19 rfl (xs_getr k_405_20 rfl h (fun r15 h => (xs_iload_n k_405_21 rfl (xs_aaload k_405_22 h (fun l16 h => h) (fun l16 r17 h => (xs_invv0 k_405_23 xr_406 rfl rfl rfl h (fun w18 h => (xs_iinc k_405_24 rfl rfl (xs_goto k_405_25 h))))))))))))) (fun h => (xs_iinc k_405_24 rfl rfl (xs_goto k_405_25 h))))))
 | none, h => False.elim h)))))))))
 | none, h => False.elim h)))))))) (fun h => (xs_aload_n k_405_26 rfl (xs_dupr k_405_27 (xs_geti0 k_405_28 rfl h (fun z2 h => (xs_iconst k_405_29 (xs_iadd k_405_30 (xs_put k_405_31 rfl h (fun w3 h => (xs_aload_n k_405_32 rfl (xs_invv0 k_405_33 xr_409 rfl rfl rfl h (fun w4 h => (xs_return k_405_34 h))))))))))))))))))
/-- ShodBackwards$Moor.takeStep(ILShodBackwards$Rider;)V -/
theorem k_406_0 : xm_c406[0]? = some (.aload_n 2, 0, 1, 2, 0, [], []) := by decide +kernel
theorem k_406_1 : xm_c406[1]? = some (.getfield 76, 1, 2, 6, 4, [136], []) := by decide +kernel
theorem k_406_2 : xm_c406[2]? = some (.aload_n 2, 4, 3, 2, 0, [], []) := by decide +kernel
theorem k_406_3 : xm_c406[3]? = some (.getfield 63, 5, 4, 5, 4, [133], []) := by decide +kernel
theorem k_406_4 : xm_c406[4]? = some (.iaload, 8, 5, 0, 0, [], []) := by decide +kernel
theorem k_406_5 : xm_c406[5]? = some (.istore_n 3, 9, 6, 3, 0, [], []) := by decide +kernel
theorem k_406_6 : xm_c406[6]? = some (.aload_n 2, 10, 7, 2, 0, [], []) := by decide +kernel
theorem k_406_7 : xm_c406[7]? = some (.getfield 79, 11, 8, 2, 4, [124], []) := by decide +kernel
theorem k_406_8 : xm_c406[8]? = some (.iload_n 3, 14, 9, 3, 0, [], []) := by decide +kernel
theorem k_406_9 : xm_c406[9]? = some (.invokestatic 82, 15, 10, 150, 2, [619, 620, 0, 75, 621], []) := by decide +kernel
theorem k_406_10 : xm_c406[10]? = some (.istore 4, 18, 11, 4, 0, [], []) := by decide +kernel
theorem k_406_11 : xm_c406[11]? = some (.iload 4, 20, 12, 4, 0, [], []) := by decide +kernel
theorem k_406_12 : xm_c406[12]? = some (.ifCond .lt 65, 22, 13, 44, 0, [], []) := by decide +kernel
theorem k_406_13 : xm_c406[13]? = some (.aload_n 2, 25, 14, 2, 0, [], []) := by decide +kernel
theorem k_406_14 : xm_c406[14]? = some (.getfield 86, 26, 15, 0, 4, [117], []) := by decide +kernel
theorem k_406_15 : xm_c406[15]? = some (.bipush 6, 29, 16, 0, 0, [], []) := by decide +kernel
theorem k_406_16 : xm_c406[16]? = some (.if_icmp .ne 12, 31, 17, 22, 0, [], []) := by decide +kernel
theorem k_406_17 : xm_c406[17]? = some (.aload_n 0, 34, 18, 0, 0, [], []) := by decide +kernel
theorem k_406_18 : xm_c406[18]? = some (.aload_n 2, 35, 19, 2, 0, [], []) := by decide +kernel
theorem k_406_19 : xm_c406[19]? = some (.iload_n 3, 36, 20, 3, 0, [], []) := by decide +kernel
theorem k_406_20 : xm_c406[20]? = some (.invokevirtual 89, 37, 21, 407, 3, [622, 624, 11, 76, 625], []) := by decide +kernel
theorem k_406_21 : xm_c406[21]? = some (.goto 15, 40, 22, 28, 0, [], []) := by decide +kernel
theorem k_406_22 : xm_c406[22]? = some (.aload_n 2, 43, 23, 2, 0, [], []) := by decide +kernel
theorem k_406_23 : xm_c406[23]? = some (.getfield 86, 44, 24, 0, 4, [117], []) := by decide +kernel
theorem k_406_24 : xm_c406[24]? = some (.iload_n 3, 47, 25, 3, 0, [], []) := by decide +kernel
theorem k_406_25 : xm_c406[25]? = some (.aload_n 2, 48, 26, 2, 0, [], []) := by decide +kernel
theorem k_406_26 : xm_c406[26]? = some (.getfield 63, 49, 27, 5, 4, [133], []) := by decide +kernel
theorem k_406_27 : xm_c406[27]? = some (.invokestatic 93, 52, 28, 152, 3, [633, 634, 0, 75, 635], []) := by decide +kernel
theorem k_406_28 : xm_c406[28]? = some (.istore 5, 55, 29, 5, 0, [], []) := by decide +kernel
theorem k_406_29 : xm_c406[29]? = some (.iload 5, 57, 30, 5, 0, [], []) := by decide +kernel
theorem k_406_30 : xm_c406[30]? = some (.ifCond .lt 22, 59, 31, 41, 0, [], []) := by decide +kernel
theorem k_406_31 : xm_c406[31]? = some (.aload_n 0, 62, 32, 0, 0, [], []) := by decide +kernel
theorem k_406_32 : xm_c406[32]? = some (.aload_n 2, 63, 33, 2, 0, [], []) := by decide +kernel
theorem k_406_33 : xm_c406[33]? = some (.getfield 79, 64, 34, 2, 4, [124], []) := by decide +kernel
theorem k_406_34 : xm_c406[34]? = some (.invokevirtual 97, 67, 35, 403, 2, [367, 368, 369, 76, 370], []) := by decide +kernel
theorem k_406_35 : xm_c406[35]? = some (.ifCond .le 11, 70, 36, 41, 0, [], []) := by decide +kernel
theorem k_406_36 : xm_c406[36]? = some (.aload_n 0, 73, 37, 0, 0, [], []) := by decide +kernel
theorem k_406_37 : xm_c406[37]? = some (.iload_n 1, 74, 38, 1, 0, [], []) := by decide +kernel
theorem k_406_38 : xm_c406[38]? = some (.aload_n 2, 75, 39, 2, 0, [], []) := by decide +kernel
theorem k_406_39 : xm_c406[39]? = some (.iload 5, 76, 40, 5, 0, [], []) := by decide +kernel
theorem k_406_40 : xm_c406[40]? = some (.invokevirtual 101, 78, 41, 408, 4, [639, 641, 12, 76, 642], []) := by decide +kernel
theorem k_406_41 : xm_c406[41]? = some (.aload_n 2, 81, 42, 2, 0, [], []) := by decide +kernel
theorem k_406_42 : xm_c406[42]? = some (.iload 4, 82, 43, 4, 0, [], []) := by decide +kernel
theorem k_406_43 : xm_c406[43]? = some (.putfield 79, 84, 44, 2, 4, [124], []) := by decide +kernel
theorem k_406_44 : xm_c406[44]? = some (.aload_n 2, 87, 45, 2, 0, [], []) := by decide +kernel
theorem k_406_45 : xm_c406[45]? = some (.dup, 88, 46, 0, 0, [], []) := by decide +kernel
theorem k_406_46 : xm_c406[46]? = some (.getfield 63, 89, 47, 5, 4, [133], []) := by decide +kernel
theorem k_406_47 : xm_c406[47]? = some (.iconst 1, 92, 48, 0, 0, [], []) := by decide +kernel
theorem k_406_48 : xm_c406[48]? = some (.iadd, 93, 49, 0, 0, [], []) := by decide +kernel
theorem k_406_49 : xm_c406[49]? = some (.putfield 63, 94, 50, 5, 4, [133], []) := by decide +kernel
theorem k_406_50 : xm_c406[50]? = some (.return_, 97, 0, 0, 0, [], []) := by decide +kernel
theorem xb_406_0 {sc : List Int} {f : Nat → List xm_V → xm_W → xm_R} {w : xm_W} {q : Option xm_V × xm_W} {x0 : Nat} {x1 : Int} {x2 : Nat}
  (h : xm_O (xm_fr (xm_old sc) w x2 4 6) (fun r1 => xm_O (xm_fi (xm_old sc) w x2 4 5) (fun z2 => xm_O (xm_ints (xm_old sc) w r1) (fun l3 => xm_O (xm_at l3 z2) (fun z4 => xm_O (xm_fi (xm_old sc) w x2 4 2) (fun z5 => xm_Oi (f 150 [.inl z5, .inl z4] w) (fun z7 w6 => if (z7 : Int) < 0 then (xm_O (xm_fi (xm_old sc) w6 x2 4 5) (fun z8 => xm_O (xm_setf w6 x2 4 5 0 (.inl (xm_w (z8 + 1)))) (fun w9 => q = (none, w9)))) else (xm_O (xm_fi (xm_old sc) w6 x2 4 0) (fun z10 => if (z10 : Int) = 6 then (xm_Oi (f 407 [.inr (.inl (some x0)), .inr (.inl (some x2)), .inl z4] w6) (fun z29 w28 => if (z29 : Int) < 0 then (xm_O (xm_setf w28 x2 4 2 0 (.inl z7)) (fun w30 => xm_O (xm_fi (xm_old sc) w30 x2 4 5) (fun z31 => xm_O (xm_setf w30 x2 4 5 0 (.inl (xm_w (z31 + 1)))) (fun w32 => q = (none, w32))))) else (xm_O (xm_fi (xm_old sc) w28 x2 4 2) (fun z33 => xm_Oi (f 403 [.inr (.inl (some x0)), .inl z33] w28) (fun z35 w34 => if (0 : Int) < z35 then (xm_Ov (f 408 [.inr (.inl (some x0)), .inl x1, .inr (.inl (some x2)), .inl z29] w34) (fun w39 => xm_O (xm_setf w39 x2 4 2 0 (.inl z7)) (fun w40 => xm_O (xm_fi (xm_old sc) w40 x2 4 5) (fun z41 => xm_O (xm_setf w40 x2 4 5 0 (.inl (xm_w (z41 + 1)))) (fun w42 => q = (none, w42)))))) else (xm_O (xm_setf w34 x2 4 2 0 (.inl z7)) (fun w36 => xm_O (xm_fi (xm_old sc) w36 x2 4 5) (fun z37 => xm_O (xm_setf w36 x2 4 5 0 (.inl (xm_w (z37 + 1)))) (fun w38 => q = (none, w38)))))))))) else (xm_O (xm_fi (xm_old sc) w6 x2 4 0) (fun z11 => xm_O (xm_fi (xm_old sc) w6 x2 4 5) (fun z12 => xm_Oi (f 152 [.inl z11, .inl z4, .inl z12] w6) (fun z14 w13 => if (z14 : Int) < 0 then (xm_O (xm_setf w13 x2 4 2 0 (.inl z7)) (fun w15 => xm_O (xm_fi (xm_old sc) w15 x2 4 5) (fun z16 => xm_O (xm_setf w15 x2 4 5 0 (.inl (xm_w (z16 + 1)))) (fun w17 => q = (none, w17))))) else (xm_O (xm_fi (xm_old sc) w13 x2 4 2) (fun z18 => xm_Oi (f 403 [.inr (.inl (some x0)), .inl z18] w13) (fun z20 w19 => if (0 : Int) < z20 then (xm_Ov (f 408 [.inr (.inl (some x0)), .inl x1, .inr (.inl (some x2)), .inl z14] w19) (fun w24 => xm_O (xm_setf w24 x2 4 2 0 (.inl z7)) (fun w25 => xm_O (xm_fi (xm_old sc) w25 x2 4 5) (fun z26 => xm_O (xm_setf w25 x2 4 5 0 (.inl (xm_w (z26 + 1)))) (fun w27 => q = (none, w27)))))) else (xm_O (xm_setf w19 x2 4 2 0 (.inl z7)) (fun w21 => xm_O (xm_fi (xm_old sc) w21 x2 4 5) (fun z22 => xm_O (xm_setf w21 x2 4 5 0 (.inl (xm_w (z22 + 1)))) (fun w23 => q = (none, w23))))))))))))))))))))) :
  xm_E (xm_old sc) xm_sta f xm_c406 0 [some (.inr (.inl (some x0))), some (.inl x1), some (.inr (.inl (some x2))), none, none, none] [] w q :=
  (xs_aload_n k_406_0 rfl (xs_getr k_406_1 rfl h (fun r1 h => (xs_aload_n k_406_2 rfl (xs_geti0 k_406_3 rfl h (fun z2 h => (xs_iaload k_406_4 h (fun l3 h => h) (fun l3 z4 h => (xs_istore_n k_406_5 rfl (xs_aload_n k_406_6 rfl (xs_geti0 k_406_7 rfl h (fun z5 h => (xs_iload_n k_406_8 rfl (xs_invs1 k_406_9 xr_150 rfl rfl rfl h (fun z7 w6 h => (xs_istore k_406_10 rfl (xs_iload k_406_11 rfl (xs_if_lt k_406_12 h (fun h => (xs_aload_n k_406_44 rfl (xs_dupr k_406_45 (xs_geti0 k_406_46 rfl h (fun z8 h => (xs_iconst k_406_47 (xs_iadd k_406_48 (xs_put k_406_49 rfl h (fun w9 h => (xs_return k_406_50 h)))))))))) (fun h => (xs_aload_n k_406_13 rfl (xs_geti0 k_406_14 rfl h (fun z10 h => (xs_bipush k_406_15 (xs_ic_ne k_406_16 h (fun h => (xs_aload_n k_406_17 rfl (xs_aload_n k_406_18 rfl (xs_iload_n k_406_19 rfl (xs_invv1 k_406_20 xr_407 rfl rfl rfl h (fun z29 w28 h => (xs_goto k_406_21 (xs_istore k_406_28 rfl (xs_iload k_406_29 rfl (xs_if_lt k_406_30 h (fun h => (xs_aload_n k_406_41 rfl (xs_iload k_406_42 rfl (xs_put k_406_43 rfl h (fun w30 h => (xs_aload_n k_406_44 rfl (xs_dupr k_406_45 (xs_geti0 k_406_46 rfl h (fun z31 h => (xs_iconst k_406_47 (xs_iadd k_406_48 (xs_put k_406_49 rfl h (fun w32 h => (xs_return k_406_50 h)))))))))))))) (fun h => (xs_aload_n k_406_31 rfl (xs_aload_n k_406_32 rfl (xs_geti0 k_406_33 rfl h (fun z33 h => (xs_invv1 k_406_34 xr_403 rfl rfl rfl h (fun z35 w34 h => (xs_if_le k_406_35 h (fun h => (xs_aload_n k_406_36 rfl (xs_iload_n k_406_37 rfl (xs_aload_n k_406_38 rfl (xs_iload k_406_39 rfl (xs_invv0 k_406_40 xr_408 rfl rfl rfl h (fun w39 h => (xs_aload_n k_406_41 rfl (xs_iload k_406_42 rfl (xs_put k_406_43 rfl h (fun w40 h => (xs_aload_n k_406_44 rfl (xs_dupr k_406_45 (xs_geti0 k_406_46 rfl h (fun z41 h => (xs_iconst k_406_47 (xs_iadd k_406_48 (xs_put k_406_49 rfl h (fun w42 h => (xs_return k_406_50 h)))))))))))))))))))) (fun h => (xs_aload_n k_406_41 rfl (xs_iload k_406_42 rfl (xs_put k_406_43 rfl h (fun w36 h => (xs_aload_n k_406_44 rfl (xs_dupr k_406_45 (xs_geti0 k_406_46 rfl h (fun z37 h => (xs_iconst k_406_47 (xs_iadd k_406_48 (xs_put k_406_49 rfl h (fun w38 h => (xs_return k_406_50 h)))))))))))))))))))))))))))))))) (fun h => (xs_aload_n k_406_22 rfl (xs_geti0 k_406_23 rfl h (fun z11 h => (xs_iload_n k_406_24 rfl (xs_aload_n k_406_25 rfl (xs_geti0 k_406_26 rfl h (fun z12 h => (xs_invs1 k_406_27 xr_152 rfl rfl rfl h (fun z14 w13 h => (xs_istore k_406_28 rfl (xs_iload k_406_29 rfl (xs_if_lt k_406_30 h (fun h => (xs_aload_n k_406_41 rfl (xs_iload k_406_42 rfl (xs_put k_406_43 rfl h (fun w15 h => (xs_aload_n k_406_44 rfl (xs_dupr k_406_45 (xs_geti0 k_406_46 rfl h (fun z16 h => (xs_iconst k_406_47 (xs_iadd k_406_48 (xs_put k_406_49 rfl h (fun w17 h => (xs_return k_406_50 h)))))))))))))) (fun h => (xs_aload_n k_406_31 rfl (xs_aload_n k_406_32 rfl (xs_geti0 k_406_33 rfl h (fun z18 h => (xs_invv1 k_406_34 xr_403 rfl rfl rfl h (fun z20 w19 h => (xs_if_le k_406_35 h (fun h => (xs_aload_n k_406_36 rfl (xs_iload_n k_406_37 rfl (xs_aload_n k_406_38 rfl (xs_iload k_406_39 rfl (xs_invv0 k_406_40 xr_408 rfl rfl rfl h (fun w24 h => (xs_aload_n k_406_41 rfl (xs_iload k_406_42 rfl (xs_put k_406_43 rfl h (fun w25 h => (xs_aload_n k_406_44 rfl (xs_dupr k_406_45 (xs_geti0 k_406_46 rfl h (fun z26 h => (xs_iconst k_406_47 (xs_iadd k_406_48 (xs_put k_406_49 rfl h (fun w27 h => (xs_return k_406_50 h)))))))))))))))))))) (fun h => (xs_aload_n k_406_41 rfl (xs_iload k_406_42 rfl (xs_put k_406_43 rfl h (fun w21 h => (xs_aload_n k_406_44 rfl (xs_dupr k_406_45 (xs_geti0 k_406_46 rfl h (fun z22 h => (xs_iconst k_406_47 (xs_iadd k_406_48 (xs_put k_406_49 rfl h (fun w23 h => (xs_return k_406_50 h)))))))))))))))))))))))))))))))))))))))))))))))))))))))))))
/-- ShodBackwards$Moor.shownByShoes(LShodBackwards$Rider;I)I -/
theorem k_407_0 : xm_c407[0]? = some (.aload_n 0, 0, 1, 0, 0, [], []) := by decide +kernel
theorem k_407_1 : xm_c407[1]? = some (.getfield 26, 1, 2, 7, 2, [167], []) := by decide +kernel
theorem k_407_2 : xm_c407[2]? = some (.iconst 0, 4, 3, 0, 0, [], []) := by decide +kernel
theorem k_407_3 : xm_c407[3]? = some (.aaload, 5, 4, 0, 0, [], []) := by decide +kernel
theorem k_407_4 : xm_c407[4]? = some (.astore_n 3, 6, 5, 3, 0, [], []) := by decide +kernel
theorem k_407_5 : xm_c407[5]? = some (.iload_n 2, 7, 6, 2, 0, [], []) := by decide +kernel
theorem k_407_6 : xm_c407[6]? = some (.aload_n 1, 8, 7, 1, 0, [], []) := by decide +kernel
theorem k_407_7 : xm_c407[7]? = some (.getfield 105, 9, 8, 1, 4, [121], []) := by decide +kernel
theorem k_407_8 : xm_c407[8]? = some (.iadd, 12, 9, 0, 0, [], []) := by decide +kernel
theorem k_407_9 : xm_c407[9]? = some (.istore 4, 13, 10, 4, 0, [], []) := by decide +kernel
theorem k_407_10 : xm_c407[10]? = some (.aload_n 3, 15, 11, 3, 0, [], []) := by decide +kernel
theorem k_407_11 : xm_c407[11]? = some (.ifnull 59, 16, 12, 45, 0, [], []) := by decide +kernel
theorem k_407_12 : xm_c407[12]? = some (.aload_n 0, 19, 13, 0, 0, [], []) := by decide +kernel
theorem k_407_13 : xm_c407[13]? = some (.getfield 30, 20, 14, 8, 2, [169], []) := by decide +kernel
theorem k_407_14 : xm_c407[14]? = some (.iconst 0, 23, 15, 0, 0, [], []) := by decide +kernel
theorem k_407_15 : xm_c407[15]? = some (.iload_n 2, 24, 16, 2, 0, [], []) := by decide +kernel
theorem k_407_16 : xm_c407[16]? = some (.iastore, 25, 17, 0, 0, [], []) := by decide +kernel
theorem k_407_17 : xm_c407[17]? = some (.aload_n 0, 26, 18, 0, 0, [], []) := by decide +kernel
theorem k_407_18 : xm_c407[18]? = some (.getfield 30, 27, 19, 8, 2, [169], []) := by decide +kernel
theorem k_407_19 : xm_c407[19]? = some (.iconst 1, 30, 20, 0, 0, [], []) := by decide +kernel
theorem k_407_20 : xm_c407[20]? = some (.aload_n 1, 31, 21, 1, 0, [], []) := by decide +kernel
theorem k_407_21 : xm_c407[21]? = some (.getfield 63, 32, 22, 5, 4, [133], []) := by decide +kernel
theorem k_407_22 : xm_c407[22]? = some (.iastore, 35, 23, 0, 0, [], []) := by decide +kernel
theorem k_407_23 : xm_c407[23]? = some (.aload_n 0, 36, 24, 0, 0, [], []) := by decide +kernel
theorem k_407_24 : xm_c407[24]? = some (.getfield 30, 37, 25, 8, 2, [169], []) := by decide +kernel
theorem k_407_25 : xm_c407[25]? = some (.iconst 2, 40, 26, 0, 0, [], []) := by decide +kernel
theorem k_407_26 : xm_c407[26]? = some (.aload_n 1, 41, 27, 1, 0, [], []) := by decide +kernel
theorem k_407_27 : xm_c407[27]? = some (.getfield 105, 42, 28, 1, 4, [121], []) := by decide +kernel
theorem k_407_28 : xm_c407[28]? = some (.iastore, 45, 29, 0, 0, [], []) := by decide +kernel
theorem k_407_29 : xm_c407[29]? = some (.aload_n 0, 46, 30, 0, 0, [], []) := by decide +kernel
theorem k_407_30 : xm_c407[30]? = some (.getfield 30, 47, 31, 8, 2, [169], []) := by decide +kernel
theorem k_407_31 : xm_c407[31]? = some (.iconst 3, 50, 32, 0, 0, [], []) := by decide +kernel
theorem k_407_32 : xm_c407[32]? = some (.aload_n 0, 51, 33, 0, 0, [], []) := by decide +kernel
theorem k_407_33 : xm_c407[33]? = some (.getfield 9, 52, 34, 0, 2, [153], []) := by decide +kernel
theorem k_407_34 : xm_c407[34]? = some (.aload_n 1, 55, 35, 1, 0, [], []) := by decide +kernel
theorem k_407_35 : xm_c407[35]? = some (.getfield 79, 56, 36, 2, 4, [124], []) := by decide +kernel
theorem k_407_36 : xm_c407[36]? = some (.iaload, 59, 37, 0, 0, [], []) := by decide +kernel
theorem k_407_37 : xm_c407[37]? = some (.iastore, 60, 38, 0, 0, [], []) := by decide +kernel
theorem k_407_38 : xm_c407[38]? = some (.aload_n 3, 61, 39, 3, 0, [], []) := by decide +kernel
theorem k_407_39 : xm_c407[39]? = some (.aload_n 0, 62, 40, 0, 0, [], []) := by decide +kernel
theorem k_407_40 : xm_c407[40]? = some (.getfield 30, 63, 41, 8, 2, [169], []) := by decide +kernel
theorem k_407_41 : xm_c407[41]? = some (.aload_n 0, 66, 42, 0, 0, [], []) := by decide +kernel
theorem k_407_42 : xm_c407[42]? = some (.getfield 33, 67, 43, 9, 2, [170], []) := by decide +kernel
theorem k_407_43 : xm_c407[43]? = some (.invokevirtual 108, 70, 44, 902, 3, [626, 627, 628, 91, 629], []) := by decide +kernel
theorem k_407_44 : xm_c407[44]? = some (.istore 4, 73, 45, 4, 0, [], []) := by decide +kernel
theorem k_407_45 : xm_c407[45]? = some (.iload 4, 75, 46, 4, 0, [], []) := by decide +kernel
theorem k_407_46 : xm_c407[46]? = some (.ifCond .ge 7, 77, 47, 49, 0, [], []) := by decide +kernel
theorem k_407_47 : xm_c407[47]? = some (.iconst (-1), 80, 48, 0, 0, [], []) := by decide +kernel
theorem k_407_48 : xm_c407[48]? = some (.goto 7, 81, 49, 52, 0, [], []) := by decide +kernel
theorem k_407_49 : xm_c407[49]? = some (.iload 4, 84, 50, 4, 0, [], []) := by decide +kernel
theorem k_407_50 : xm_c407[50]? = some (.iconst 4, 86, 51, 0, 0, [], []) := by decide +kernel
theorem k_407_51 : xm_c407[51]? = some (.irem, 87, 52, 0, 0, [], []) := by decide +kernel
theorem k_407_52 : xm_c407[52]? = some (.ireturn, 88, 0, 0, 0, [], []) := by decide +kernel
theorem xb_407_0 {sc : List Int} {f : Nat → List xm_V → xm_W → xm_R} {w : xm_W} {q : Option xm_V × xm_W} {x0 : Nat} {x1 : Nat} {x2 : Int}
  (h : xm_O (xm_fr (xm_old sc) w x0 2 7) (fun r1 => xm_O (xm_refs (xm_old sc) w r1) (fun l2 => xm_O (xm_at l2 0) (fun r3 => xm_O (xm_fi (xm_old sc) w x1 4 1) (fun z4 => if (r3 : Option Nat) = none then (if ((xm_w (x2 + z4)) : Int) < 0 then (q = (some (.inl (-1)), w)) else ((4 : Int) ≠ 0 ∧ (q = (some (.inl (Int.tmod (xm_w (x2 + z4)) 4)), w)))) else (xm_O (xm_fr (xm_old sc) w x0 2 8) (fun r5 => xm_O (xm_seti w r5 0 x2) (fun w6 => xm_O (xm_fr (xm_old sc) w6 x0 2 8) (fun r7 => xm_O (xm_fi (xm_old sc) w6 x1 4 5) (fun z8 => xm_O (xm_seti w6 r7 1 z8) (fun w9 => xm_O (xm_fr (xm_old sc) w9 x0 2 8) (fun r10 => xm_O (xm_fi (xm_old sc) w9 x1 4 1) (fun z11 => xm_O (xm_seti w9 r10 2 z11) (fun w12 => xm_O (xm_fr (xm_old sc) w12 x0 2 8) (fun r13 => xm_O (xm_fr (xm_old sc) w12 x0 2 0) (fun r14 => xm_O (xm_fi (xm_old sc) w12 x1 4 2) (fun z15 => xm_O (xm_ints (xm_old sc) w12 r14) (fun l16 => xm_O (xm_at l16 z15) (fun z17 => xm_O (xm_seti w12 r13 3 z17) (fun w18 => xm_O (xm_fr (xm_old sc) w18 x0 2 8) (fun r19 => xm_O (xm_fr (xm_old sc) w18 x0 2 9) (fun r20 => xm_Oi (f 902 [.inr (.inl r3), .inr (.inl (some r19)), .inr (.inl (some r20))] w18) (fun z22 w21 => if (z22 : Int) < 0 then (q = (some (.inl (-1)), w21)) else ((4 : Int) ≠ 0 ∧ (q = (some (.inl (Int.tmod z22 4)), w21)))))))))))))))))))))))))) :
  xm_E (xm_old sc) xm_sta f xm_c407 0 [some (.inr (.inl (some x0))), some (.inr (.inl (some x1))), some (.inl x2), none, none] [] w q :=
  (xs_aload_n k_407_0 rfl (xs_getr k_407_1 rfl h (fun r1 h => (xs_iconst k_407_2 (xs_aaload k_407_3 h (fun l2 h => h) (fun l2 r3 h => (xs_astore_n k_407_4 rfl (xs_iload_n k_407_5 rfl (xs_aload_n k_407_6 rfl (xs_geti0 k_407_7 rfl h (fun z4 h => (xs_iadd k_407_8 (xs_istore k_407_9 rfl (xs_aload_n k_407_10 rfl (xs_ifnull k_407_11 h (fun h => (xs_iload k_407_45 rfl (xs_if_ge k_407_46 h (fun h => (xs_iconst k_407_47 (xs_goto k_407_48 (xs_ireturn k_407_52 h)))) (fun h => (xs_iload k_407_49 rfl (xs_iconst k_407_50 (xs_irem k_407_51 h (fun h => (xs_ireturn k_407_52 h))))))))) (fun h => (xs_aload_n k_407_12 rfl (xs_getr k_407_13 rfl h (fun r5 h => (xs_iconst k_407_14 (xs_iload_n k_407_15 rfl (xs_iastore k_407_16 h (fun w6 h => (xs_aload_n k_407_17 rfl (xs_getr k_407_18 rfl h (fun r7 h => (xs_iconst k_407_19 (xs_aload_n k_407_20 rfl (xs_geti0 k_407_21 rfl h (fun z8 h => (xs_iastore k_407_22 h (fun w9 h => (xs_aload_n k_407_23 rfl (xs_getr k_407_24 rfl h (fun r10 h => (xs_iconst k_407_25 (xs_aload_n k_407_26 rfl (xs_geti0 k_407_27 rfl h (fun z11 h => (xs_iastore k_407_28 h (fun w12 h => (xs_aload_n k_407_29 rfl (xs_getr k_407_30 rfl h (fun r13 h => (xs_iconst k_407_31 (xs_aload_n k_407_32 rfl (xs_getr k_407_33 rfl h (fun r14 h => (xs_aload_n k_407_34 rfl (xs_geti0 k_407_35 rfl h (fun z15 h => (xs_iaload k_407_36 h (fun l16 h => h) (fun l16 z17 h => (xs_iastore k_407_37 h (fun w18 h => (xs_aload_n k_407_38 rfl (xs_aload_n k_407_39 rfl (xs_getr k_407_40 rfl h (fun r19 h => (xs_aload_n k_407_41 rfl (xs_getr k_407_42 rfl h (fun r20 h => (xs_invv1 k_407_43 xr_902 rfl rfl rfl h (fun z22 w21 h => (xs_istore k_407_44 rfl (xs_iload k_407_45 rfl (xs_if_ge k_407_46 h (fun h => (xs_iconst k_407_47 (xs_goto k_407_48 (xs_ireturn k_407_52 h)))) (fun h => (xs_iload k_407_49 rfl (xs_iconst k_407_50 (xs_irem k_407_51 h (fun h => (xs_ireturn k_407_52 h)))))))))))))))))))))))))))))))))))))))))))))))))))))))))))))))))))))))))
/-- ShodBackwards$Moor.leave(ILShodBackwards$Rider;I)V -/
theorem k_408_0 : xm_c408[0]? = some (.aload_n 0, 0, 1, 0, 0, [], []) := by decide +kernel
theorem k_408_1 : xm_c408[1]? = some (.getfield 57, 1, 2, 6, 2, [165], []) := by decide +kernel
theorem k_408_2 : xm_c408[2]? = some (.bipush 40, 4, 3, 0, 0, [], []) := by decide +kernel
theorem k_408_3 : xm_c408[3]? = some (.if_icmp .lt 28, 6, 4, 18, 0, [], []) := by decide +kernel
theorem k_408_4 : xm_c408[4]? = some (.aload_n 0, 9, 5, 0, 0, [], []) := by decide +kernel
theorem k_408_5 : xm_c408[5]? = some (.bipush 39, 10, 6, 0, 0, [], []) := by decide +kernel
theorem k_408_6 : xm_c408[6]? = some (.putfield 57, 12, 7, 6, 2, [165], []) := by decide +kernel
theorem k_408_7 : xm_c408[7]? = some (.aload_n 0, 15, 8, 0, 0, [], []) := by decide +kernel
theorem k_408_8 : xm_c408[8]? = some (.getfield 21, 16, 9, 5, 2, [163], []) := by decide +kernel
theorem k_408_9 : xm_c408[9]? = some (.iconst 5, 19, 10, 0, 0, [], []) := by decide +kernel
theorem k_408_10 : xm_c408[10]? = some (.aload_n 0, 20, 11, 0, 0, [], []) := by decide +kernel
theorem k_408_11 : xm_c408[11]? = some (.getfield 21, 21, 12, 5, 2, [163], []) := by decide +kernel
theorem k_408_12 : xm_c408[12]? = some (.iconst 0, 24, 13, 0, 0, [], []) := by decide +kernel
theorem k_408_13 : xm_c408[13]? = some (.aload_n 0, 25, 14, 0, 0, [], []) := by decide +kernel
theorem k_408_14 : xm_c408[14]? = some (.getfield 57, 26, 15, 6, 2, [165], []) := by decide +kernel
theorem k_408_15 : xm_c408[15]? = some (.iconst 5, 29, 16, 0, 0, [], []) := by decide +kernel
theorem k_408_16 : xm_c408[16]? = some (.imul, 30, 17, 0, 0, [], []) := by decide +kernel
theorem k_408_17 : xm_c408[17]? = some (.invokestatic 37, 31, 18, 2, 5, [375, 377, 376, 84], []) := by decide +kernel
theorem k_408_18 : xm_c408[18]? = some (.aload_n 0, 34, 19, 0, 0, [], []) := by decide +kernel
theorem k_408_19 : xm_c408[19]? = some (.getfield 57, 35, 20, 6, 2, [165], []) := by decide +kernel
theorem k_408_20 : xm_c408[20]? = some (.iconst 5, 38, 21, 0, 0, [], []) := by decide +kernel
theorem k_408_21 : xm_c408[21]? = some (.imul, 39, 22, 0, 0, [], []) := by decide +kernel
theorem k_408_22 : xm_c408[22]? = some (.istore 4, 40, 23, 4, 0, [], []) := by decide +kernel
theorem k_408_23 : xm_c408[23]? = some (.aload_n 0, 42, 24, 0, 0, [], []) := by decide +kernel
theorem k_408_24 : xm_c408[24]? = some (.getfield 21, 43, 25, 5, 2, [163], []) := by decide +kernel
theorem k_408_25 : xm_c408[25]? = some (.iload 4, 46, 26, 4, 0, [], []) := by decide +kernel
theorem k_408_26 : xm_c408[26]? = some (.iconst 0, 48, 27, 0, 0, [], []) := by decide +kernel
theorem k_408_27 : xm_c408[27]? = some (.iadd, 49, 28, 0, 0, [], []) := by decide +kernel
theorem k_408_28 : xm_c408[28]? = some (.aload_n 2, 50, 29, 2, 0, [], []) := by decide +kernel
theorem k_408_29 : xm_c408[29]? = some (.getfield 79, 51, 30, 2, 4, [124], []) := by decide +kernel
theorem k_408_30 : xm_c408[30]? = some (.iastore, 54, 31, 0, 0, [], []) := by decide +kernel
theorem k_408_31 : xm_c408[31]? = some (.aload_n 0, 55, 32, 0, 0, [], []) := by decide +kernel
theorem k_408_32 : xm_c408[32]? = some (.getfield 21, 56, 33, 5, 2, [163], []) := by decide +kernel
theorem k_408_33 : xm_c408[33]? = some (.iload 4, 59, 34, 4, 0, [], []) := by decide +kernel
theorem k_408_34 : xm_c408[34]? = some (.iconst 1, 61, 35, 0, 0, [], []) := by decide +kernel
theorem k_408_35 : xm_c408[35]? = some (.iadd, 62, 36, 0, 0, [], []) := by decide +kernel
theorem k_408_36 : xm_c408[36]? = some (.iload_n 3, 63, 37, 3, 0, [], []) := by decide +kernel
theorem k_408_37 : xm_c408[37]? = some (.iastore, 64, 38, 0, 0, [], []) := by decide +kernel
theorem k_408_38 : xm_c408[38]? = some (.aload_n 0, 65, 39, 0, 0, [], []) := by decide +kernel
theorem k_408_39 : xm_c408[39]? = some (.getfield 21, 66, 40, 5, 2, [163], []) := by decide +kernel
theorem k_408_40 : xm_c408[40]? = some (.iload 4, 69, 41, 4, 0, [], []) := by decide +kernel
theorem k_408_41 : xm_c408[41]? = some (.iconst 2, 71, 42, 0, 0, [], []) := by decide +kernel
theorem k_408_42 : xm_c408[42]? = some (.iadd, 72, 43, 0, 0, [], []) := by decide +kernel
theorem k_408_43 : xm_c408[43]? = some (.aload_n 2, 73, 44, 2, 0, [], []) := by decide +kernel
theorem k_408_44 : xm_c408[44]? = some (.getfield 86, 74, 45, 0, 4, [117], []) := by decide +kernel
theorem k_408_45 : xm_c408[45]? = some (.aload_n 2, 77, 46, 2, 0, [], []) := by decide +kernel
theorem k_408_46 : xm_c408[46]? = some (.getfield 105, 78, 47, 1, 4, [121], []) := by decide +kernel
theorem k_408_47 : xm_c408[47]? = some (.aload_n 2, 81, 48, 2, 0, [], []) := by decide +kernel
theorem k_408_48 : xm_c408[48]? = some (.getfield 112, 82, 49, 3, 4, [128], []) := by decide +kernel
theorem k_408_49 : xm_c408[49]? = some (.invokestatic 115, 85, 50, 153, 3, [643, 414, 0, 75, 415], []) := by decide +kernel
theorem k_408_50 : xm_c408[50]? = some (.iastore, 88, 51, 0, 0, [], []) := by decide +kernel
theorem k_408_51 : xm_c408[51]? = some (.aload_n 0, 89, 52, 0, 0, [], []) := by decide +kernel
theorem k_408_52 : xm_c408[52]? = some (.getfield 21, 90, 53, 5, 2, [163], []) := by decide +kernel
theorem k_408_53 : xm_c408[53]? = some (.iload 4, 93, 54, 4, 0, [], []) := by decide +kernel
theorem k_408_54 : xm_c408[54]? = some (.iconst 3, 95, 55, 0, 0, [], []) := by decide +kernel
theorem k_408_55 : xm_c408[55]? = some (.iadd, 96, 56, 0, 0, [], []) := by decide +kernel
theorem k_408_56 : xm_c408[56]? = some (.aload_n 0, 97, 57, 0, 0, [], []) := by decide +kernel
theorem k_408_57 : xm_c408[57]? = some (.getfield 47, 98, 58, 2, 2, [157], []) := by decide +kernel
theorem k_408_58 : xm_c408[58]? = some (.iastore, 101, 59, 0, 0, [], []) := by decide +kernel
theorem k_408_59 : xm_c408[59]? = some (.aload_n 0, 102, 60, 0, 0, [], []) := by decide +kernel
theorem k_408_60 : xm_c408[60]? = some (.getfield 21, 103, 61, 5, 2, [163], []) := by decide +kernel
theorem k_408_61 : xm_c408[61]? = some (.iload 4, 106, 62, 4, 0, [], []) := by decide +kernel
theorem k_408_62 : xm_c408[62]? = some (.iconst 4, 108, 63, 0, 0, [], []) := by decide +kernel
theorem k_408_63 : xm_c408[63]? = some (.iadd, 109, 64, 0, 0, [], []) := by decide +kernel
theorem k_408_64 : xm_c408[64]? = some (.iload_n 1, 110, 65, 1, 0, [], []) := by decide +kernel
theorem k_408_65 : xm_c408[65]? = some (.iastore, 111, 66, 0, 0, [], []) := by decide +kernel
theorem k_408_66 : xm_c408[66]? = some (.aload_n 0, 112, 67, 0, 0, [], []) := by decide +kernel
theorem k_408_67 : xm_c408[67]? = some (.dup, 113, 68, 0, 0, [], []) := by decide +kernel
theorem k_408_68 : xm_c408[68]? = some (.getfield 57, 114, 69, 6, 2, [165], []) := by decide +kernel
theorem k_408_69 : xm_c408[69]? = some (.iconst 1, 117, 70, 0, 0, [], []) := by decide +kernel
theorem k_408_70 : xm_c408[70]? = some (.iadd, 118, 71, 0, 0, [], []) := by decide +kernel
theorem k_408_71 : xm_c408[71]? = some (.putfield 57, 119, 72, 6, 2, [165], []) := by decide +kernel
theorem k_408_72 : xm_c408[72]? = some (.return_, 122, 0, 0, 0, [], []) := by decide +kernel
theorem xb_408_0 {sc : List Int} {f : Nat → List xm_V → xm_W → xm_R} {w : xm_W} {q : Option xm_V × xm_W} {x0 : Nat} {x1 : Int} {x2 : Nat} {x3 : Int}
  (h : xm_O (xm_fi (xm_old sc) w x0 2 6) (fun z1 => if (z1 : Int) < 40 then (xm_O (xm_fi (xm_old sc) w x0 2 6) (fun z2 => xm_O (xm_fr (xm_old sc) w x0 2 5) (fun r3 => xm_O (xm_fi (xm_old sc) w x2 4 2) (fun z4 => xm_O (xm_seti w r3 (xm_w ((xm_w (z2 * 5)) + 0)) z4) (fun w5 => xm_O (xm_fr (xm_old sc) w5 x0 2 5) (fun r6 => xm_O (xm_seti w5 r6 (xm_w ((xm_w (z2 * 5)) + 1)) x3) (fun w7 => xm_O (xm_fr (xm_old sc) w7 x0 2 5) (fun r8 => xm_O (xm_fi (xm_old sc) w7 x2 4 0) (fun z9 => xm_O (xm_fi (xm_old sc) w7 x2 4 1) (fun z10 => xm_O (xm_fi (xm_old sc) w7 x2 4 3) (fun z11 => xm_Oi (f 153 [.inl z9, .inl z10, .inl z11] w7) (fun z13 w12 => xm_O (xm_seti w12 r8 (xm_w ((xm_w (z2 * 5)) + 2)) z13) (fun w14 => xm_O (xm_fr (xm_old sc) w14 x0 2 5) (fun r15 => xm_O (xm_fi (xm_old sc) w14 x0 2 2) (fun z16 => xm_O (xm_seti w14 r15 (xm_w ((xm_w (z2 * 5)) + 3)) z16) (fun w17 => xm_O (xm_fr (xm_old sc) w17 x0 2 5) (fun r18 => xm_O (xm_seti w17 r18 (xm_w ((xm_w (z2 * 5)) + 4)) x1) (fun w19 => xm_O (xm_fi (xm_old sc) w19 x0 2 6) (fun z20 => xm_O (xm_setf w19 x0 2 6 0 (.inl (xm_w (z20 + 1)))) (fun w21 => q = (none, w21))))))))))))))))))))) else (xm_O (xm_setf w x0 2 6 0 (.inl 39)) (fun w22 => xm_O (xm_fr (xm_old sc) w22 x0 2 5) (fun r23 => xm_O (xm_fr (xm_old sc) w22 x0 2 5) (fun r24 => xm_O (xm_fi (xm_old sc) w22 x0 2 6) (fun z25 => xm_O (xm_copy w22 r23 5 r24 0 (xm_w (z25 * 5))) (fun w26 => xm_O (xm_fi (xm_old sc) w26 x0 2 6) (fun z27 => xm_O (xm_fr (xm_old sc) w26 x0 2 5) (fun r28 => xm_O (xm_fi (xm_old sc) w26 x2 4 2) (fun z29 => xm_O (xm_seti w26 r28 (xm_w ((xm_w (z27 * 5)) + 0)) z29) (fun w30 => xm_O (xm_fr (xm_old sc) w30 x0 2 5) (fun r31 => xm_O (xm_seti w30 r31 (xm_w ((xm_w (z27 * 5)) + 1)) x3) (fun w32 => xm_O (xm_fr (xm_old sc) w32 x0 2 5) (fun r33 => xm_O (xm_fi (xm_old sc) w32 x2 4 0) (fun z34 => xm_O (xm_fi (xm_old sc) w32 x2 4 1) (fun z35 => xm_O (xm_fi (xm_old sc) w32 x2 4 3) (fun z36 => xm_Oi (f 153 [.inl z34, .inl z35, .inl z36] w32) (fun z38 w37 => xm_O (xm_seti w37 r33 (xm_w ((xm_w (z27 * 5)) + 2)) z38) (fun w39 => xm_O (xm_fr (xm_old sc) w39 x0 2 5) (fun r40 => xm_O (xm_fi (xm_old sc) w39 x0 2 2) (fun z41 => xm_O (xm_seti w39 r40 (xm_w ((xm_w (z27 * 5)) + 3)) z41) (fun w42 => xm_O (xm_fr (xm_old sc) w42 x0 2 5) (fun r43 => xm_O (xm_seti w42 r43 (xm_w ((xm_w (z27 * 5)) + 4)) x1) (fun w44 => xm_O (xm_fi (xm_old sc) w44 x0 2 6) (fun z45 => xm_O (xm_setf w44 x0 2 6 0 (.inl (xm_w (z45 + 1)))) (fun w46 => q = (none, w46)))))))))))))))))))))))))))) :
  xm_E (xm_old sc) xm_sta f xm_c408 0 [some (.inr (.inl (some x0))), some (.inl x1), some (.inr (.inl (some x2))), some (.inl x3), none] [] w q :=
  (xs_aload_n k_408_0 rfl (xs_geti0 k_408_1 rfl h (fun z1 h => (xs_bipush k_408_2 (xs_ic_lt k_408_3 h (fun h => (xs_aload_n k_408_18 rfl (xs_geti0 k_408_19 rfl h (fun z2 h => (xs_iconst k_408_20 (xs_imul k_408_21 (xs_istore k_408_22 rfl (xs_aload_n k_408_23 rfl (xs_getr k_408_24 rfl h (fun r3 h => (xs_iload k_408_25 rfl (xs_iconst k_408_26 (xs_iadd k_408_27 (xs_aload_n k_408_28 rfl (xs_geti0 k_408_29 rfl h (fun z4 h => (xs_iastore k_408_30 h (fun w5 h => (xs_aload_n k_408_31 rfl (xs_getr k_408_32 rfl h (fun r6 h => (xs_iload k_408_33 rfl (xs_iconst k_408_34 (xs_iadd k_408_35 (xs_iload_n k_408_36 rfl (xs_iastore k_408_37 h (fun w7 h => (xs_aload_n k_408_38 rfl (xs_getr k_408_39 rfl h (fun r8 h => (xs_iload k_408_40 rfl (xs_iconst k_408_41 (xs_iadd k_408_42 (xs_aload_n k_408_43 rfl (xs_geti0 k_408_44 rfl h (fun z9 h => (xs_aload_n k_408_45 rfl (xs_geti0 k_408_46 rfl h (fun z10 h => (xs_aload_n k_408_47 rfl (xs_geti0 k_408_48 rfl h (fun z11 h => (xs_invs1 k_408_49 xr_153 rfl rfl rfl h (fun z13 w12 h => (xs_iastore k_408_50 h (fun w14 h => (xs_aload_n k_408_51 rfl (xs_getr k_408_52 rfl h (fun r15 h => (xs_iload k_408_53 rfl (xs_iconst k_408_54 (xs_iadd k_408_55 (xs_aload_n k_408_56 rfl (xs_geti0 k_408_57 rfl h (fun z16 h => (xs_iastore k_408_58 h (fun w17 h => (xs_aload_n k_408_59 rfl (xs_getr k_408_60 rfl h (fun r18 h => (xs_iload k_408_61 rfl (xs_iconst k_408_62 (xs_iadd k_408_63 (xs_iload_n k_408_64 rfl (xs_iastore k_408_65 h (fun w19 h => (xs_aload_n k_408_66 rfl (xs_dupr k_408_67 (xs_geti0 k_408_68 rfl h (fun z20 h => (xs_iconst k_408_69 (xs_iadd k_408_70 (xs_put k_408_71 rfl h (fun w21 h => (xs_return k_408_72 h))))))))))))))))))))))))))))))))))))))))))))))))))))))))))))))))))))))))))) (fun h => (xs_aload_n k_408_4 rfl (xs_bipush k_408_5 (xs_put k_408_6 rfl h (fun w22 h => (xs_aload_n k_408_7 rfl (xs_getr k_408_8 rfl h (fun r23 h => (xs_iconst k_408_9 (xs_aload_n k_408_10 rfl (xs_getr k_408_11 rfl h (fun r24 h => (xs_iconst k_408_12 (xs_aload_n k_408_13 rfl (xs_geti0 k_408_14 rfl h (fun z25 h => (xs_iconst k_408_15 (xs_imul k_408_16 (xs_copy k_408_17 rfl h (fun w26 h => (xs_aload_n k_408_18 rfl (xs_geti0 k_408_19 rfl h (fun z27 h => (xs_iconst k_408_20 (xs_imul k_408_21 (xs_istore k_408_22 rfl (xs_aload_n k_408_23 rfl (xs_getr k_408_24 rfl h (fun r28 h => (xs_iload k_408_25 rfl (xs_iconst k_408_26 (xs_iadd k_408_27 (xs_aload_n k_408_28 rfl (xs_geti0 k_408_29 rfl h (fun z29 h => (xs_iastore k_408_30 h (fun w30 h => (xs_aload_n k_408_31 rfl (xs_getr k_408_32 rfl h (fun r31 h => (xs_iload k_408_33 rfl (xs_iconst k_408_34 (xs_iadd k_408_35 (xs_iload_n k_408_36 rfl (xs_iastore k_408_37 h (fun w32 h => (xs_aload_n k_408_38 rfl (xs_getr k_408_39 rfl h (fun r33 h => (xs_iload k_408_40 rfl (xs_iconst k_408_41 (xs_iadd k_408_42 (xs_aload_n k_408_43 rfl (xs_geti0 k_408_44 rfl h (fun z34 h => (xs_aload_n k_408_45 rfl (xs_geti0 k_408_46 rfl h (fun z35 h => (xs_aload_n k_408_47 rfl (xs_geti0 k_408_48 rfl h (fun z36 h => (xs_invs1 k_408_49 xr_153 rfl rfl rfl h (fun z38 w37 h => (xs_iastore k_408_50 h (fun w39 h => (xs_aload_n k_408_51 rfl (xs_getr k_408_52 rfl h (fun r40 h => (xs_iload k_408_53 rfl (xs_iconst k_408_54 (xs_iadd k_408_55 (xs_aload_n k_408_56 rfl (xs_geti0 k_408_57 rfl h (fun z41 h => (xs_iastore k_408_58 h (fun w42 h => (xs_aload_n k_408_59 rfl (xs_getr k_408_60 rfl h (fun r43 h => (xs_iload k_408_61 rfl (xs_iconst k_408_62 (xs_iadd k_408_63 (xs_iload_n k_408_64 rfl (xs_iastore k_408_65 h (fun w44 h => (xs_aload_n k_408_66 rfl (xs_dupr k_408_67 (xs_geti0 k_408_68 rfl h (fun z45 h => (xs_iconst k_408_69 (xs_iadd k_408_70 (xs_put k_408_71 rfl h (fun w46 h => (xs_return k_408_72 h)))))))))))))))))))))))))))))))))))))))))))))))))))))))))))))))))))))))))))))))))))))))))))))))))))
/-- ShodBackwards$Moor.fade()V -/
theorem k_409_0 : xm_c409[0]? = some (.iconst 0, 0, 1, 0, 0, [], []) := by decide +kernel
theorem k_409_1 : xm_c409[1]? = some (.istore_n 1, 1, 2, 1, 0, [], []) := by decide +kernel
theorem k_409_2 : xm_c409[2]? = some (.iconst 0, 2, 3, 0, 0, [], []) := by decide +kernel
theorem k_409_3 : xm_c409[3]? = some (.istore_n 2, 3, 4, 2, 0, [], []) := by decide +kernel
theorem k_409_4 : xm_c409[4]? = some (.iload_n 2, 4, 5, 2, 0, [], []) := by decide +kernel
theorem k_409_5 : xm_c409[5]? = some (.aload_n 0, 5, 6, 0, 0, [], []) := by decide +kernel
theorem k_409_6 : xm_c409[6]? = some (.getfield 57, 6, 7, 6, 2, [165], []) := by decide +kernel
theorem k_409_7 : xm_c409[7]? = some (.if_icmp .ge 52, 9, 8, 39, 0, [], []) := by decide +kernel
theorem k_409_8 : xm_c409[8]? = some (.aload_n 0, 12, 9, 0, 0, [], []) := by decide +kernel
theorem k_409_9 : xm_c409[9]? = some (.getfield 21, 13, 10, 5, 2, [163], []) := by decide +kernel
theorem k_409_10 : xm_c409[10]? = some (.iload_n 2, 16, 11, 2, 0, [], []) := by decide +kernel
theorem k_409_11 : xm_c409[11]? = some (.iconst 5, 17, 12, 0, 0, [], []) := by decide +kernel
theorem k_409_12 : xm_c409[12]? = some (.imul, 18, 13, 0, 0, [], []) := by decide +kernel
theorem k_409_13 : xm_c409[13]? = some (.iconst 0, 19, 14, 0, 0, [], []) := by decide +kernel
theorem k_409_14 : xm_c409[14]? = some (.iadd, 20, 15, 0, 0, [], []) := by decide +kernel
theorem k_409_15 : xm_c409[15]? = some (.iaload, 21, 16, 0, 0, [], []) := by decide +kernel
theorem k_409_16 : xm_c409[16]? = some (.istore_n 3, 22, 17, 3, 0, [], []) := by decide +kernel
theorem k_409_17 : xm_c409[17]? = some (.aload_n 0, 23, 18, 0, 0, [], []) := by decide +kernel
theorem k_409_18 : xm_c409[18]? = some (.getfield 47, 24, 19, 2, 2, [157], []) := by decide +kernel
theorem k_409_19 : xm_c409[19]? = some (.aload_n 0, 27, 20, 0, 0, [], []) := by decide +kernel
theorem k_409_20 : xm_c409[20]? = some (.getfield 21, 28, 21, 5, 2, [163], []) := by decide +kernel
theorem k_409_21 : xm_c409[21]? = some (.iload_n 2, 31, 22, 2, 0, [], []) := by decide +kernel
theorem k_409_22 : xm_c409[22]? = some (.iconst 5, 32, 23, 0, 0, [], []) := by decide +kernel
theorem k_409_23 : xm_c409[23]? = some (.imul, 33, 24, 0, 0, [], []) := by decide +kernel
theorem k_409_24 : xm_c409[24]? = some (.iconst 3, 34, 25, 0, 0, [], []) := by decide +kernel
theorem k_409_25 : xm_c409[25]? = some (.iadd, 35, 26, 0, 0, [], []) := by decide +kernel
theorem k_409_26 : xm_c409[26]? = some (.iaload, 36, 27, 0, 0, [], []) := by decide +kernel
theorem k_409_27 : xm_c409[27]? = some (.aload_n 0, 37, 28, 0, 0, [], []) := by decide +kernel
theorem k_409_28 : xm_c409[28]? = some (.iload_n 3, 38, 29, 3, 0, [], []) := by decide +kernel
theorem k_409_29 : xm_c409[29]? = some (.invokevirtual 97, 39, 30, 403, 2, [367, 368, 369, 76, 370], []) := by decide +kernel
theorem k_409_30 : xm_c409[30]? = some (.iadd, 42, 31, 0, 0, [], []) := by decide +kernel
theorem k_409_31 : xm_c409[31]? = some (.if_icmp .gt 12, 43, 32, 37, 0, [], []) := by decide +kernel
theorem k_409_32 : xm_c409[32]? = some (.aload_n 0, 46, 33, 0, 0, [], []) := by decide +kernel
theorem k_409_33 : xm_c409[33]? = some (.iload_n 2, 47, 34, 2, 0, [], []) := by decide +kernel
theorem k_409_34 : xm_c409[34]? = some (.iload_n 1, 48, 35, 1, 0, [], []) := by decide +kernel
theorem k_409_35 : xm_c409[35]? = some (.invokevirtual 118, 49, 36, 411, 3, [371, 373, 1, 76, 374], []) := by decide +kernel
theorem k_409_36 : xm_c409[36]? = some (.iinc 1 1, 52, 37, 1, 0, [], []) := by decide +kernel
theorem k_409_37 : xm_c409[37]? = some (.iinc 2 1, 55, 38, 2, 0, [], []) := by decide +kernel
theorem k_409_38 : xm_c409[38]? = some (.goto (-54), 58, 39, 4, 0, [], []) := by decide +kernel
theorem k_409_39 : xm_c409[39]? = some (.aload_n 0, 61, 40, 0, 0, [], []) := by decide +kernel
theorem k_409_40 : xm_c409[40]? = some (.iload_n 1, 62, 41, 1, 0, [], []) := by decide +kernel
theorem k_409_41 : xm_c409[41]? = some (.putfield 57, 63, 42, 6, 2, [165], []) := by decide +kernel
theorem k_409_42 : xm_c409[42]? = some (.return_, 66, 0, 0, 0, [], []) := by decide +kernel
theorem xb_409_0 {sc : List Int} {f : Nat → List xm_V → xm_W → xm_R} {w : xm_W} {q : Option xm_V × xm_W} {x0 : Nat}
  (h : xm_E (xm_old sc) xm_sta f xm_c409 4 [some (.inr (.inl (some x0))), some (.inl 0), some (.inl 0), none] [] w q) :
  xm_E (xm_old sc) xm_sta f xm_c409 0 [some (.inr (.inl (some x0))), none, none, none] [] w q :=
  (xs_iconst k_409_0 (xs_istore_n k_409_1 rfl (xs_iconst k_409_2 (xs_istore_n k_409_3 rfl h))))
theorem xb_409_4 {sc : List Int} {f : Nat → List xm_V → xm_W → xm_R} {w : xm_W} {q : Option xm_V × xm_W} {x0 : Nat} {x1 : Int} {x2 : Int} {u3 : Option xm_V}
  (h : xm_O (xm_fi (xm_old sc) w x0 2 6) (fun z1 => if (x2 : Int) < z1 then (xm_O (xm_fr (xm_old sc) w x0 2 5) (fun r3 => xm_O (xm_ints (xm_old sc) w r3) (fun l4 => xm_O (xm_at l4 (xm_w ((xm_w (x2 * 5)) + 0))) (fun z5 => xm_O (xm_fi (xm_old sc) w x0 2 2) (fun z6 => xm_O (xm_fr (xm_old sc) w x0 2 5) (fun r7 => xm_O (xm_ints (xm_old sc) w r7) (fun l8 => xm_O (xm_at l8 (xm_w ((xm_w (x2 * 5)) + 3))) (fun z9 => xm_Oi (f 403 [.inr (.inl (some x0)), .inl z5] w) (fun z11 w10 => if ((xm_w (z9 + z11)) : Int) < z6 then (xm_E (xm_old sc) xm_sta f xm_c409 4 [some (.inr (.inl (some x0))), some (.inl x1), some (.inl (xm_w (x2 + 1))), some (.inl z5)] [] w10 q) else (xm_Ov (f 411 [.inr (.inl (some x0)), .inl x2, .inl x1] w10) (fun w12 => xm_E (xm_old sc) xm_sta f xm_c409 4 [some (.inr (.inl (some x0))), some (.inl (xm_w (x1 + 1))), some (.inl (xm_w (x2 + 1))), some (.inl z5)] [] w12 q))))))))))) else (xm_O (xm_setf w x0 2 6 0 (.inl x1)) (fun w2 => q = (none, w2))))) :
  xm_E (xm_old sc) xm_sta f xm_c409 4 [some (.inr (.inl (some x0))), some (.inl x1), some (.inl x2), u3] [] w q :=
  (xs_iload_n k_409_4 rfl (xs_aload_n k_409_5 rfl (xs_geti0 k_409_6 rfl h (fun z1 h => (xs_ic_ge k_409_7 h (fun h => (xs_aload_n k_409_8 rfl (xs_getr k_409_9 rfl h (fun r3 h => (xs_iload_n k_409_10 rfl (xs_iconst k_409_11 (xs_imul k_409_12 (xs_iconst k_409_13 (xs_iadd k_409_14 (xs_iaload k_409_15 h (fun l4 h => h) (fun l4 z5 h => (xs_istore_n k_409_16 rfl (xs_aload_n k_409_17 rfl (xs_geti0 k_409_18 rfl h (fun z6 h => (xs_aload_n k_409_19 rfl (xs_getr k_409_20 rfl h (fun r7 h => (xs_iload_n k_409_21 rfl (xs_iconst k_409_22 (xs_imul k_409_23 (xs_iconst k_409_24 (xs_iadd k_409_25 (xs_iaload k_409_26 h (fun l8 h => h) (fun l8 z9 h => (xs_aload_n k_409_27 rfl (xs_iload_n k_409_28 rfl (xs_invv1 k_409_29 xr_403 rfl rfl rfl h (fun z11 w10 h => (xs_iadd k_409_30 (xs_ic_gt k_409_31 h (fun h => (xs_iinc k_409_37 rfl rfl (xs_goto k_409_38 h))) (fun h => (xs_aload_n k_409_32 rfl (xs_iload_n k_409_33 rfl (xs_iload_n k_409_34 rfl (xs_invv0 k_409_35 xr_411 rfl rfl rfl h (fun w12 h => (xs_iinc k_409_36 rfl rfl (xs_iinc k_409_37 rfl rfl (xs_goto k_409_38 h)))))))))))))))))))))))))))))))))))))))) (fun h => (xs_aload_n k_409_39 rfl (xs_iload_n k_409_40 rfl (xs_put k_409_41 rfl h (fun w2 h => (xs_return k_409_42 h)))))))))))
/-- ShodBackwards$Moor.tread(I)V -/
theorem k_410_0 : xm_c410[0]? = some (.iconst 0, 0, 1, 0, 0, [], []) := by decide +kernel
theorem k_410_1 : xm_c410[1]? = some (.istore_n 2, 1, 2, 2, 0, [], []) := by decide +kernel
theorem k_410_2 : xm_c410[2]? = some (.iconst 0, 2, 3, 0, 0, [], []) := by decide +kernel
theorem k_410_3 : xm_c410[3]? = some (.istore_n 3, 3, 4, 3, 0, [], []) := by decide +kernel
theorem k_410_4 : xm_c410[4]? = some (.iload_n 3, 4, 5, 3, 0, [], []) := by decide +kernel
theorem k_410_5 : xm_c410[5]? = some (.aload_n 0, 5, 6, 0, 0, [], []) := by decide +kernel
theorem k_410_6 : xm_c410[6]? = some (.getfield 57, 6, 7, 6, 2, [165], []) := by decide +kernel
theorem k_410_7 : xm_c410[7]? = some (.if_icmp .ge 32, 9, 8, 25, 0, [], []) := by decide +kernel
theorem k_410_8 : xm_c410[8]? = some (.aload_n 0, 12, 9, 0, 0, [], []) := by decide +kernel
theorem k_410_9 : xm_c410[9]? = some (.getfield 21, 13, 10, 5, 2, [163], []) := by decide +kernel
theorem k_410_10 : xm_c410[10]? = some (.iload_n 3, 16, 11, 3, 0, [], []) := by decide +kernel
theorem k_410_11 : xm_c410[11]? = some (.iconst 5, 17, 12, 0, 0, [], []) := by decide +kernel
theorem k_410_12 : xm_c410[12]? = some (.imul, 18, 13, 0, 0, [], []) := by decide +kernel
theorem k_410_13 : xm_c410[13]? = some (.iconst 0, 19, 14, 0, 0, [], []) := by decide +kernel
theorem k_410_14 : xm_c410[14]? = some (.iadd, 20, 15, 0, 0, [], []) := by decide +kernel
theorem k_410_15 : xm_c410[15]? = some (.iaload, 21, 16, 0, 0, [], []) := by decide +kernel
theorem k_410_16 : xm_c410[16]? = some (.iload_n 1, 22, 17, 1, 0, [], []) := by decide +kernel
theorem k_410_17 : xm_c410[17]? = some (.if_icmp .eq 12, 23, 18, 23, 0, [], []) := by decide +kernel
theorem k_410_18 : xm_c410[18]? = some (.aload_n 0, 26, 19, 0, 0, [], []) := by decide +kernel
theorem k_410_19 : xm_c410[19]? = some (.iload_n 3, 27, 20, 3, 0, [], []) := by decide +kernel
theorem k_410_20 : xm_c410[20]? = some (.iload_n 2, 28, 21, 2, 0, [], []) := by decide +kernel
theorem k_410_21 : xm_c410[21]? = some (.invokevirtual 118, 29, 22, 411, 3, [371, 373, 1, 76, 374], []) := by decide +kernel
theorem k_410_22 : xm_c410[22]? = some (.iinc 2 1, 32, 23, 2, 0, [], []) := by decide +kernel
theorem k_410_23 : xm_c410[23]? = some (.iinc 3 1, 35, 24, 3, 0, [], []) := by decide +kernel
theorem k_410_24 : xm_c410[24]? = some (.goto (-34), 38, 25, 4, 0, [], []) := by decide +kernel
theorem k_410_25 : xm_c410[25]? = some (.aload_n 0, 41, 26, 0, 0, [], []) := by decide +kernel
theorem k_410_26 : xm_c410[26]? = some (.iload_n 2, 42, 27, 2, 0, [], []) := by decide +kernel
theorem k_410_27 : xm_c410[27]? = some (.putfield 57, 43, 28, 6, 2, [165], []) := by decide +kernel
theorem k_410_28 : xm_c410[28]? = some (.return_, 46, 0, 0, 0, [], []) := by decide +kernel
theorem xb_410_0 {sc : List Int} {f : Nat → List xm_V → xm_W → xm_R} {w : xm_W} {q : Option xm_V × xm_W} {x0 : Nat} {x1 : Int}
  (h : xm_E (xm_old sc) xm_sta f xm_c410 4 [some (.inr (.inl (some x0))), some (.inl x1), some (.inl 0), some (.inl 0)] [] w q) :
  xm_E (xm_old sc) xm_sta f xm_c410 0 [some (.inr (.inl (some x0))), some (.inl x1), none, none] [] w q :=
  (xs_iconst k_410_0 (xs_istore_n k_410_1 rfl (xs_iconst k_410_2 (xs_istore_n k_410_3 rfl h))))
theorem xb_410_4 {sc : List Int} {f : Nat → List xm_V → xm_W → xm_R} {w : xm_W} {q : Option xm_V × xm_W} {x0 : Nat} {x1 : Int} {x2 : Int} {x3 : Int}
  (h : xm_O (xm_fi (xm_old sc) w x0 2 6) (fun z1 => if (x3 : Int) < z1 then (xm_O (xm_fr (xm_old sc) w x0 2 5) (fun r3 => xm_O (xm_ints (xm_old sc) w r3) (fun l4 => xm_O (xm_at l4 (xm_w ((xm_w (x3 * 5)) + 0))) (fun z5 => if (z5 : Int) = x1 then (xm_E (xm_old sc) xm_sta f xm_c410 4 [some (.inr (.inl (some x0))), some (.inl x1), some (.inl x2), some (.inl (xm_w (x3 + 1)))] [] w q) else (xm_Ov (f 411 [.inr (.inl (some x0)), .inl x3, .inl x2] w) (fun w6 => xm_E (xm_old sc) xm_sta f xm_c410 4 [some (.inr (.inl (some x0))), some (.inl x1), some (.inl (xm_w (x2 + 1))), some (.inl (xm_w (x3 + 1)))] [] w6 q)))))) else (xm_O (xm_setf w x0 2 6 0 (.inl x2)) (fun w2 => q = (none, w2))))) :
  xm_E (xm_old sc) xm_sta f xm_c410 4 [some (.inr (.inl (some x0))), some (.inl x1), some (.inl x2), some (.inl x3)] [] w q :=
  (xs_iload_n k_410_4 rfl (xs_aload_n k_410_5 rfl (xs_geti0 k_410_6 rfl h (fun z1 h => (xs_ic_ge k_410_7 h (fun h => (xs_aload_n k_410_8 rfl (xs_getr k_410_9 rfl h (fun r3 h => (xs_iload_n k_410_10 rfl (xs_iconst k_410_11 (xs_imul k_410_12 (xs_iconst k_410_13 (xs_iadd k_410_14 (xs_iaload k_410_15 h (fun l4 h => h) (fun l4 z5 h => (xs_iload_n k_410_16 rfl (xs_ic_eq k_410_17 h (fun h => (xs_iinc k_410_23 rfl rfl (xs_goto k_410_24 h))) (fun h => (xs_aload_n k_410_18 rfl (xs_iload_n k_410_19 rfl (xs_iload_n k_410_20 rfl (xs_invv0 k_410_21 xr_411 rfl rfl rfl h (fun w6 h => (xs_iinc k_410_22 rfl rfl (xs_iinc k_410_23 rfl rfl (xs_goto k_410_24 h)))))))))))))))))))))) (fun h => (xs_aload_n k_410_25 rfl (xs_iload_n k_410_26 rfl (xs_put k_410_27 rfl h (fun w2 h => (xs_return k_410_28 h)))))))))))
/-- ShodBackwards$Moor.keepPrint(II)V -/
theorem k_411_0 : xm_c411[0]? = some (.aload_n 0, 0, 1, 0, 0, [], []) := by decide +kernel
theorem k_411_1 : xm_c411[1]? = some (.getfield 21, 1, 2, 5, 2, [163], []) := by decide +kernel
theorem k_411_2 : xm_c411[2]? = some (.iload_n 1, 4, 3, 1, 0, [], []) := by decide +kernel
theorem k_411_3 : xm_c411[3]? = some (.iconst 5, 5, 4, 0, 0, [], []) := by decide +kernel
theorem k_411_4 : xm_c411[4]? = some (.imul, 6, 5, 0, 0, [], []) := by decide +kernel
theorem k_411_5 : xm_c411[5]? = some (.aload_n 0, 7, 6, 0, 0, [], []) := by decide +kernel
theorem k_411_6 : xm_c411[6]? = some (.getfield 21, 8, 7, 5, 2, [163], []) := by decide +kernel
theorem k_411_7 : xm_c411[7]? = some (.iload_n 2, 11, 8, 2, 0, [], []) := by decide +kernel
theorem k_411_8 : xm_c411[8]? = some (.iconst 5, 12, 9, 0, 0, [], []) := by decide +kernel
theorem k_411_9 : xm_c411[9]? = some (.imul, 13, 10, 0, 0, [], []) := by decide +kernel
theorem k_411_10 : xm_c411[10]? = some (.iconst 5, 14, 11, 0, 0, [], []) := by decide +kernel
theorem k_411_11 : xm_c411[11]? = some (.invokestatic 37, 15, 12, 2, 5, [375, 377, 376, 84], []) := by decide +kernel
theorem k_411_12 : xm_c411[12]? = some (.return_, 18, 0, 0, 0, [], []) := by decide +kernel
theorem xb_411_0 {sc : List Int} {f : Nat → List xm_V → xm_W → xm_R} {w : xm_W} {q : Option xm_V × xm_W} {x0 : Nat} {x1 : Int} {x2 : Int}
  (h : xm_O (xm_fr (xm_old sc) w x0 2 5) (fun r1 => xm_O (xm_fr (xm_old sc) w x0 2 5) (fun r2 => xm_O (xm_copy w r1 (xm_w (x1 * 5)) r2 (xm_w (x2 * 5)) 5) (fun w3 => q = (none, w3))))) :
  xm_E (xm_old sc) xm_sta f xm_c411 0 [some (.inr (.inl (some x0))), some (.inl x1), some (.inl x2)] [] w q :=
  (xs_aload_n k_411_0 rfl (xs_getr k_411_1 rfl h (fun r1 h => (xs_iload_n k_411_2 rfl (xs_iconst k_411_3 (xs_imul k_411_4 (xs_aload_n k_411_5 rfl (xs_getr k_411_6 rfl h (fun r2 h => (xs_iload_n k_411_7 rfl (xs_iconst k_411_8 (xs_imul k_411_9 (xs_iconst k_411_10 (xs_copy k_411_11 rfl h (fun w3 h => (xs_return k_411_12 h))))))))))))))))
/-- ShodBackwards$Moor.riderFact(II)I -/
theorem k_412_0 : xm_c412[0]? = some (.iload_n 2, 0, 1, 2, 0, [], []) := by decide +kernel
theorem k_412_1 : xm_c412[1]? = some (.bipush 7, 1, 2, 0, 0, [], []) := by decide +kernel
theorem k_412_2 : xm_c412[2]? = some (.if_icmp .ne 12, 3, 3, 8, 0, [], []) := by decide +kernel
theorem k_412_3 : xm_c412[3]? = some (.aload_n 0, 6, 4, 0, 0, [], []) := by decide +kernel
theorem k_412_4 : xm_c412[4]? = some (.iconst 4, 7, 5, 0, 0, [], []) := by decide +kernel
theorem k_412_5 : xm_c412[5]? = some (.iload_n 1, 8, 6, 1, 0, [], []) := by decide +kernel
theorem k_412_6 : xm_c412[6]? = some (.invokevirtual 122, 9, 7, 414, 3, [405, 407, 3, 76, 408], []) := by decide +kernel
theorem k_412_7 : xm_c412[7]? = some (.goto 13, 12, 8, 14, 0, [], []) := by decide +kernel
theorem k_412_8 : xm_c412[8]? = some (.aload_n 0, 15, 9, 0, 0, [], []) := by decide +kernel
theorem k_412_9 : xm_c412[9]? = some (.getfield 17, 16, 10, 3, 2, [159], []) := by decide +kernel
theorem k_412_10 : xm_c412[10]? = some (.iload_n 1, 19, 11, 1, 0, [], []) := by decide +kernel
theorem k_412_11 : xm_c412[11]? = some (.aaload, 20, 12, 0, 0, [], []) := by decide +kernel
theorem k_412_12 : xm_c412[12]? = some (.iload_n 2, 21, 13, 2, 0, [], []) := by decide +kernel
theorem k_412_13 : xm_c412[13]? = some (.invokevirtual 125, 22, 14, 607, 2, [409, 410, 411, 77, 412], []) := by decide +kernel
theorem k_412_14 : xm_c412[14]? = some (.ireturn, 25, 0, 0, 0, [], []) := by decide +kernel
theorem xb_412_0 {sc : List Int} {f : Nat → List xm_V → xm_W → xm_R} {w : xm_W} {q : Option xm_V × xm_W} {x0 : Nat} {x1 : Int} {x2 : Int}
  (h : if (x2 : Int) = 7 then (xm_Oi (f 414 [.inr (.inl (some x0)), .inl 4, .inl x1] w) (fun z7 w6 => q = (some (.inl z7), w6))) else (xm_O (xm_fr (xm_old sc) w x0 2 3) (fun r1 => xm_O (xm_refs (xm_old sc) w r1) (fun l2 => xm_O (xm_at l2 x1) (fun r3 => xm_Oi (f 607 [.inr (.inl r3), .inl x2] w) (fun z5 w4 => q = (some (.inl z5), w4))))))) :
  xm_E (xm_old sc) xm_sta f xm_c412 0 [some (.inr (.inl (some x0))), some (.inl x1), some (.inl x2)] [] w q :=
  (xs_iload_n k_412_0 rfl (xs_bipush k_412_1 (xs_ic_ne k_412_2 h (fun h => (xs_aload_n k_412_3 rfl (xs_iconst k_412_4 (xs_iload_n k_412_5 rfl (xs_invv1 k_412_6 xr_414 rfl rfl rfl h (fun z7 w6 h => (xs_goto k_412_7 (xs_ireturn k_412_14 h)))))))) (fun h => (xs_aload_n k_412_8 rfl (xs_getr k_412_9 rfl h (fun r1 h => (xs_iload_n k_412_10 rfl (xs_aaload k_412_11 h (fun l2 h => h) (fun l2 r3 h => (xs_iload_n k_412_12 rfl (xs_invv1 k_412_13 xr_607 rfl rfl rfl h (fun z5 w4 h => (xs_ireturn k_412_14 h))))))))))))))
/-- ShodBackwards$Moor.cellFact(II)I -/
theorem k_413_0 : xm_c413[0]? = some (.iload_n 2, 0, 1, 2, 0, [], []) := by decide +kernel
theorem k_413_1 : xm_c413[1]? = some (.tableswitch 76 0 3 #[31, 38, 45, 70], 1, 2, 33, 0, [], [(0, 2), (1, 7), (2, 12), (3, 29)]) := by decide +kernel
theorem k_413_2 : xm_c413[2]? = some (.aload_n 0, 32, 3, 0, 0, [], []) := by decide +kernel
theorem k_413_3 : xm_c413[3]? = some (.getfield 9, 33, 4, 0, 2, [153], []) := by decide +kernel
theorem k_413_4 : xm_c413[4]? = some (.iload_n 1, 36, 5, 1, 0, [], []) := by decide +kernel
theorem k_413_5 : xm_c413[5]? = some (.iaload, 37, 6, 0, 0, [], []) := by decide +kernel
theorem k_413_6 : xm_c413[6]? = some (.ireturn, 38, 0, 0, 0, [], []) := by decide +kernel
theorem k_413_7 : xm_c413[7]? = some (.aload_n 0, 39, 8, 0, 0, [], []) := by decide +kernel
theorem k_413_8 : xm_c413[8]? = some (.iconst 0, 40, 9, 0, 0, [], []) := by decide +kernel
theorem k_413_9 : xm_c413[9]? = some (.iload_n 1, 41, 10, 1, 0, [], []) := by decide +kernel
theorem k_413_10 : xm_c413[10]? = some (.invokevirtual 122, 42, 11, 414, 3, [405, 407, 3, 76, 408], []) := by decide +kernel
theorem k_413_11 : xm_c413[11]? = some (.ireturn, 45, 0, 0, 0, [], []) := by decide +kernel
theorem k_413_12 : xm_c413[12]? = some (.aload_n 0, 46, 13, 0, 0, [], []) := by decide +kernel
theorem k_413_13 : xm_c413[13]? = some (.iload_n 1, 47, 14, 1, 0, [], []) := by decide +kernel
theorem k_413_14 : xm_c413[14]? = some (.invokevirtual 128, 48, 15, 415, 2, [678, 680, 13, 76, 681], []) := by decide +kernel
theorem k_413_15 : xm_c413[15]? = some (.istore_n 3, 51, 16, 3, 0, [], []) := by decide +kernel
theorem k_413_16 : xm_c413[16]? = some (.iload_n 3, 52, 17, 3, 0, [], []) := by decide +kernel
theorem k_413_17 : xm_c413[17]? = some (.ifCond .ge 7, 53, 18, 20, 0, [], []) := by decide +kernel
theorem k_413_18 : xm_c413[18]? = some (.iconst (-1), 56, 19, 0, 0, [], []) := by decide +kernel
theorem k_413_19 : xm_c413[19]? = some (.goto 13, 57, 20, 28, 0, [], []) := by decide +kernel
theorem k_413_20 : xm_c413[20]? = some (.aload_n 0, 60, 21, 0, 0, [], []) := by decide +kernel
theorem k_413_21 : xm_c413[21]? = some (.getfield 21, 61, 22, 5, 2, [163], []) := by decide +kernel
theorem k_413_22 : xm_c413[22]? = some (.iload_n 3, 64, 23, 3, 0, [], []) := by decide +kernel
theorem k_413_23 : xm_c413[23]? = some (.iconst 5, 65, 24, 0, 0, [], []) := by decide +kernel
theorem k_413_24 : xm_c413[24]? = some (.imul, 66, 25, 0, 0, [], []) := by decide +kernel
theorem k_413_25 : xm_c413[25]? = some (.iconst 1, 67, 26, 0, 0, [], []) := by decide +kernel
theorem k_413_26 : xm_c413[26]? = some (.iadd, 68, 27, 0, 0, [], []) := by decide +kernel
theorem k_413_27 : xm_c413[27]? = some (.iaload, 69, 28, 0, 0, [], []) := by decide +kernel
theorem k_413_28 : xm_c413[28]? = some (.ireturn, 70, 0, 0, 0, [], []) := by decide +kernel
theorem k_413_29 : xm_c413[29]? = some (.aload_n 0, 71, 30, 0, 0, [], []) := by decide +kernel
theorem k_413_30 : xm_c413[30]? = some (.iload_n 1, 72, 31, 1, 0, [], []) := by decide +kernel
theorem k_413_31 : xm_c413[31]? = some (.invokevirtual 131, 73, 32, 416, 2, [682, 684, 14, 76, 685], []) := by decide +kernel
theorem k_413_32 : xm_c413[32]? = some (.ireturn, 76, 0, 0, 0, [], []) := by decide +kernel
theorem k_413_33 : xm_c413[33]? = some (.aload_n 0, 77, 34, 0, 0, [], []) := by decide +kernel
theorem k_413_34 : xm_c413[34]? = some (.iload_n 1, 78, 35, 1, 0, [], []) := by decide +kernel
theorem k_413_35 : xm_c413[35]? = some (.invokevirtual 134, 79, 36, 417, 2, [687, 689, 15, 76, 690], []) := by decide +kernel
theorem k_413_36 : xm_c413[36]? = some (.ireturn, 82, 0, 0, 0, [], []) := by decide +kernel
theorem xb_413_0 {sc : List Int} {f : Nat → List xm_V → xm_W → xm_R} {w : xm_W} {q : Option xm_V × xm_W} {x0 : Nat} {x1 : Int} {x2 : Int}
  (h : if (x2 : Int) = 0 then (xm_O (xm_fr (xm_old sc) w x0 2 0) (fun r12 => xm_O (xm_ints (xm_old sc) w r12) (fun l13 => xm_O (xm_at l13 x1) (fun z14 => q = (some (.inl z14), w))))) else (if (x2 : Int) = 1 then (xm_Oi (f 414 [.inr (.inl (some x0)), .inl 0, .inl x1] w) (fun z11 w10 => q = (some (.inl z11), w10))) else (if (x2 : Int) = 2 then (xm_Oi (f 415 [.inr (.inl (some x0)), .inl x1] w) (fun z6 w5 => if (z6 : Int) < 0 then (q = (some (.inl (-1)), w5)) else (xm_O (xm_fr (xm_old sc) w5 x0 2 5) (fun r7 => xm_O (xm_ints (xm_old sc) w5 r7) (fun l8 => xm_O (xm_at l8 (xm_w ((xm_w (z6 * 5)) + 1))) (fun z9 => q = (some (.inl z9), w5))))))) else (if (x2 : Int) = 3 then (xm_Oi (f 416 [.inr (.inl (some x0)), .inl x1] w) (fun z4 w3 => q = (some (.inl z4), w3))) else (xm_Oi (f 417 [.inr (.inl (some x0)), .inl x1] w) (fun z2 w1 => q = (some (.inl z2), w1))))))) :
  xm_E (xm_old sc) xm_sta f xm_c413 0 [some (.inr (.inl (some x0))), some (.inl x1), some (.inl x2), none] [] w q :=
  (xs_iload_n k_413_0 rfl (xs_tsw k_413_1 (xs_swc h (fun h => (xs_aload_n k_413_2 rfl (xs_getr k_413_3 rfl h (fun r12 h => (xs_iload_n k_413_4 rfl (xs_iaload k_413_5 h (fun l13 h => h) (fun l13 z14 h => (xs_ireturn k_413_6 h)))))))) (fun h => (xs_swc h (fun h => (xs_aload_n k_413_7 rfl (xs_iconst k_413_8 (xs_iload_n k_413_9 rfl (xs_invv1 k_413_10 xr_414 rfl rfl rfl h (fun z11 w10 h => (xs_ireturn k_413_11 h))))))) (fun h => (xs_swc h (fun h => (xs_aload_n k_413_12 rfl (xs_iload_n k_413_13 rfl (xs_invv1 k_413_14 xr_415 rfl rfl rfl h (fun z6 w5 h => (xs_istore_n k_413_15 rfl (xs_iload_n k_413_16 rfl (xs_if_ge k_413_17 h (fun h => (xs_iconst k_413_18 (xs_goto k_413_19 (xs_ireturn k_413_28 h)))) (fun h => (xs_aload_n k_413_20 rfl (xs_getr k_413_21 rfl h (fun r7 h => (xs_iload_n k_413_22 rfl (xs_iconst k_413_23 (xs_imul k_413_24 (xs_iconst k_413_25 (xs_iadd k_413_26 (xs_iaload k_413_27 h (fun l8 h => h) (fun l8 z9 h => (xs_ireturn k_413_28 h)))))))))))))))))))) (fun h => (xs_swc h (fun h => (xs_aload_n k_413_29 rfl (xs_iload_n k_413_30 rfl (xs_invv1 k_413_31 xr_416 rfl rfl rfl h (fun z4 w3 h => (xs_ireturn k_413_32 h)))))) (fun h => (xs_aload_n k_413_33 rfl (xs_iload_n k_413_34 rfl (xs_invv1 k_413_35 xr_417 rfl rfl rfl h (fun z2 w1 h => (xs_ireturn k_413_36 h)))))))))))))))
/-- ShodBackwards$Moor.printsWith(II)I -/
theorem k_414_0 : xm_c414[0]? = some (.iconst 0, 0, 1, 0, 0, [], []) := by decide +kernel
theorem k_414_1 : xm_c414[1]? = some (.istore_n 3, 1, 2, 3, 0, [], []) := by decide +kernel
theorem k_414_2 : xm_c414[2]? = some (.iconst 0, 2, 3, 0, 0, [], []) := by decide +kernel
theorem k_414_3 : xm_c414[3]? = some (.istore 4, 3, 4, 4, 0, [], []) := by decide +kernel
theorem k_414_4 : xm_c414[4]? = some (.iload 4, 5, 5, 4, 0, [], []) := by decide +kernel
theorem k_414_5 : xm_c414[5]? = some (.aload_n 0, 7, 6, 0, 0, [], []) := by decide +kernel
theorem k_414_6 : xm_c414[6]? = some (.getfield 57, 8, 7, 6, 2, [165], []) := by decide +kernel
theorem k_414_7 : xm_c414[7]? = some (.if_icmp .ge 27, 11, 8, 21, 0, [], []) := by decide +kernel
theorem k_414_8 : xm_c414[8]? = some (.aload_n 0, 14, 9, 0, 0, [], []) := by decide +kernel
theorem k_414_9 : xm_c414[9]? = some (.getfield 21, 15, 10, 5, 2, [163], []) := by decide +kernel
theorem k_414_10 : xm_c414[10]? = some (.iload 4, 18, 11, 4, 0, [], []) := by decide +kernel
theorem k_414_11 : xm_c414[11]? = some (.iconst 5, 20, 12, 0, 0, [], []) := by decide +kernel
theorem k_414_12 : xm_c414[12]? = some (.imul, 21, 13, 0, 0, [], []) := by decide +kernel
theorem k_414_13 : xm_c414[13]? = some (.iload_n 1, 22, 14, 1, 0, [], []) := by decide +kernel
theorem k_414_14 : xm_c414[14]? = some (.iadd, 23, 15, 0, 0, [], []) := by decide +kernel
theorem k_414_15 : xm_c414[15]? = some (.iaload, 24, 16, 0, 0, [], []) := by decide +kernel
theorem k_414_16 : xm_c414[16]? = some (.iload_n 2, 25, 17, 2, 0, [], []) := by decide +kernel
theorem k_414_17 : xm_c414[17]? = some (.if_icmp .ne 6, 26, 18, 19, 0, [], []) := by decide +kernel
theorem k_414_18 : xm_c414[18]? = some (.iinc 3 1, 29, 19, 3, 0, [], []) := by decide +kernel
theorem k_414_19 : xm_c414[19]? = some (.iinc 4 1, 32, 20, 4, 0, [], []) := by decide +kernel
theorem k_414_20 : xm_c414[20]? = some (.goto (-30), 35, 21, 4, 0, [], []) := by decide +kernel
theorem k_414_21 : xm_c414[21]? = some (.iload_n 3, 38, 22, 3, 0, [], []) := by decide +kernel
theorem k_414_22 : xm_c414[22]? = some (.ireturn, 39, 0, 0, 0, [], []) := by decide +kernel
theorem xb_414_0 {sc : List Int} {f : Nat → List xm_V → xm_W → xm_R} {w : xm_W} {q : Option xm_V × xm_W} {x0 : Nat} {x1 : Int} {x2 : Int}
  (h : xm_E (xm_old sc) xm_sta f xm_c414 4 [some (.inr (.inl (some x0))), some (.inl x1), some (.inl x2), some (.inl 0), some (.inl 0)] [] w q) :
  xm_E (xm_old sc) xm_sta f xm_c414 0 [some (.inr (.inl (some x0))), some (.inl x1), some (.inl x2), none, none] [] w q :=
  (xs_iconst k_414_0 (xs_istore_n k_414_1 rfl (xs_iconst k_414_2 (xs_istore k_414_3 rfl h))))
theorem xb_414_4 {sc : List Int} {f : Nat → List xm_V → xm_W → xm_R} {w : xm_W} {q : Option xm_V × xm_W} {x0 : Nat} {x1 : Int} {x2 : Int} {x3 : Int} {x4 : Int}
  (h : xm_O (xm_fi (xm_old sc) w x0 2 6) (fun z1 => if (x4 : Int) < z1 then (xm_O (xm_fr (xm_old sc) w x0 2 5) (fun r2 => xm_O (xm_ints (xm_old sc) w r2) (fun l3 => xm_O (xm_at l3 (xm_w ((xm_w (x4 * 5)) + x1))) (fun z4 => if (z4 : Int) = x2 then (xm_E (xm_old sc) xm_sta f xm_c414 4 [some (.inr (.inl (some x0))), some (.inl x1), some (.inl x2), some (.inl (xm_w (x3 + 1))), some (.inl (xm_w (x4 + 1)))] [] w q) else (xm_E (xm_old sc) xm_sta f xm_c414 4 [some (.inr (.inl (some x0))), some (.inl x1), some (.inl x2), some (.inl x3), some (.inl (xm_w (x4 + 1)))] [] w q))))) else (q = (some (.inl x3), w)))) :
  xm_E (xm_old sc) xm_sta f xm_c414 4 [some (.inr (.inl (some x0))), some (.inl x1), some (.inl x2), some (.inl x3), some (.inl x4)] [] w q :=
  (xs_iload k_414_4 rfl (xs_aload_n k_414_5 rfl (xs_geti0 k_414_6 rfl h (fun z1 h => (xs_ic_ge k_414_7 h (fun h => (xs_aload_n k_414_8 rfl (xs_getr k_414_9 rfl h (fun r2 h => (xs_iload k_414_10 rfl (xs_iconst k_414_11 (xs_imul k_414_12 (xs_iload_n k_414_13 rfl (xs_iadd k_414_14 (xs_iaload k_414_15 h (fun l3 h => h) (fun l3 z4 h => (xs_iload_n k_414_16 rfl (xs_ic_ne k_414_17 h (fun h => (xs_iinc k_414_18 rfl rfl (xs_iinc k_414_19 rfl rfl (xs_goto k_414_20 h)))) (fun h => (xs_iinc k_414_19 rfl rfl (xs_goto k_414_20 h)))))))))))))))) (fun h => (xs_iload_n k_414_21 rfl (xs_ireturn k_414_22 h))))))))
/-- ShodBackwards$Moor.latestAt(I)I -/
theorem k_415_0 : xm_c415[0]? = some (.iconst (-1), 0, 1, 0, 0, [], []) := by decide +kernel
theorem k_415_1 : xm_c415[1]? = some (.istore_n 2, 1, 2, 2, 0, [], []) := by decide +kernel
theorem k_415_2 : xm_c415[2]? = some (.iconst 0, 2, 3, 0, 0, [], []) := by decide +kernel
theorem k_415_3 : xm_c415[3]? = some (.istore_n 3, 3, 4, 3, 0, [], []) := by decide +kernel
theorem k_415_4 : xm_c415[4]? = some (.iload_n 3, 4, 5, 3, 0, [], []) := by decide +kernel
theorem k_415_5 : xm_c415[5]? = some (.aload_n 0, 5, 6, 0, 0, [], []) := by decide +kernel
theorem k_415_6 : xm_c415[6]? = some (.getfield 57, 6, 7, 6, 2, [165], []) := by decide +kernel
theorem k_415_7 : xm_c415[7]? = some (.if_icmp .ge 25, 9, 8, 22, 0, [], []) := by decide +kernel
theorem k_415_8 : xm_c415[8]? = some (.aload_n 0, 12, 9, 0, 0, [], []) := by decide +kernel
theorem k_415_9 : xm_c415[9]? = some (.getfield 21, 13, 10, 5, 2, [163], []) := by decide +kernel
theorem k_415_10 : xm_c415[10]? = some (.iload_n 3, 16, 11, 3, 0, [], []) := by decide +kernel
theorem k_415_11 : xm_c415[11]? = some (.iconst 5, 17, 12, 0, 0, [], []) := by decide +kernel
theorem k_415_12 : xm_c415[12]? = some (.imul, 18, 13, 0, 0, [], []) := by decide +kernel
theorem k_415_13 : xm_c415[13]? = some (.iconst 0, 19, 14, 0, 0, [], []) := by decide +kernel
theorem k_415_14 : xm_c415[14]? = some (.iadd, 20, 15, 0, 0, [], []) := by decide +kernel
theorem k_415_15 : xm_c415[15]? = some (.iaload, 21, 16, 0, 0, [], []) := by decide +kernel
theorem k_415_16 : xm_c415[16]? = some (.iload_n 1, 22, 17, 1, 0, [], []) := by decide +kernel
theorem k_415_17 : xm_c415[17]? = some (.if_icmp .ne 5, 23, 18, 20, 0, [], []) := by decide +kernel
theorem k_415_18 : xm_c415[18]? = some (.iload_n 3, 26, 19, 3, 0, [], []) := by decide +kernel
theorem k_415_19 : xm_c415[19]? = some (.istore_n 2, 27, 20, 2, 0, [], []) := by decide +kernel
theorem k_415_20 : xm_c415[20]? = some (.iinc 3 1, 28, 21, 3, 0, [], []) := by decide +kernel
theorem k_415_21 : xm_c415[21]? = some (.goto (-27), 31, 22, 4, 0, [], []) := by decide +kernel
theorem k_415_22 : xm_c415[22]? = some (.iload_n 2, 34, 23, 2, 0, [], []) := by decide +kernel
theorem k_415_23 : xm_c415[23]? = some (.ireturn, 35, 0, 0, 0, [], []) := by decide +kernel
theorem xb_415_0 {sc : List Int} {f : Nat → List xm_V → xm_W → xm_R} {w : xm_W} {q : Option xm_V × xm_W} {x0 : Nat} {x1 : Int}
  (h : xm_E (xm_old sc) xm_sta f xm_c415 4 [some (.inr (.inl (some x0))), some (.inl x1), some (.inl (-1)), some (.inl 0)] [] w q) :
  xm_E (xm_old sc) xm_sta f xm_c415 0 [some (.inr (.inl (some x0))), some (.inl x1), none, none] [] w q :=
  (xs_iconst k_415_0 (xs_istore_n k_415_1 rfl (xs_iconst k_415_2 (xs_istore_n k_415_3 rfl h))))
theorem xb_415_4 {sc : List Int} {f : Nat → List xm_V → xm_W → xm_R} {w : xm_W} {q : Option xm_V × xm_W} {x0 : Nat} {x1 : Int} {x2 : Int} {x3 : Int}
  (h : xm_O (xm_fi (xm_old sc) w x0 2 6) (fun z1 => if (x3 : Int) < z1 then (xm_O (xm_fr (xm_old sc) w x0 2 5) (fun r2 => xm_O (xm_ints (xm_old sc) w r2) (fun l3 => xm_O (xm_at l3 (xm_w ((xm_w (x3 * 5)) + 0))) (fun z4 => if (z4 : Int) = x1 then (xm_E (xm_old sc) xm_sta f xm_c415 4 [some (.inr (.inl (some x0))), some (.inl x1), some (.inl x3), some (.inl (xm_w (x3 + 1)))] [] w q) else (xm_E (xm_old sc) xm_sta f xm_c415 4 [some (.inr (.inl (some x0))), some (.inl x1), some (.inl x2), some (.inl (xm_w (x3 + 1)))] [] w q))))) else (q = (some (.inl x2), w)))) :
  xm_E (xm_old sc) xm_sta f xm_c415 4 [some (.inr (.inl (some x0))), some (.inl x1), some (.inl x2), some (.inl x3)] [] w q :=
  (xs_iload_n k_415_4 rfl (xs_aload_n k_415_5 rfl (xs_geti0 k_415_6 rfl h (fun z1 h => (xs_ic_ge k_415_7 h (fun h => (xs_aload_n k_415_8 rfl (xs_getr k_415_9 rfl h (fun r2 h => (xs_iload_n k_415_10 rfl (xs_iconst k_415_11 (xs_imul k_415_12 (xs_iconst k_415_13 (xs_iadd k_415_14 (xs_iaload k_415_15 h (fun l3 h => h) (fun l3 z4 h => (xs_iload_n k_415_16 rfl (xs_ic_ne k_415_17 h (fun h => (xs_iload_n k_415_18 rfl (xs_istore_n k_415_19 rfl (xs_iinc k_415_20 rfl rfl (xs_goto k_415_21 h))))) (fun h => (xs_iinc k_415_20 rfl rfl (xs_goto k_415_21 h)))))))))))))))) (fun h => (xs_iload_n k_415_22 rfl (xs_ireturn k_415_23 h))))))))
/-- ShodBackwards$Moor.deepestAt(I)I -/
theorem k_416_0 : xm_c416[0]? = some (.iconst 0, 0, 1, 0, 0, [], []) := by decide +kernel
theorem k_416_1 : xm_c416[1]? = some (.istore_n 2, 1, 2, 2, 0, [], []) := by decide +kernel
theorem k_416_2 : xm_c416[2]? = some (.iconst 0, 2, 3, 0, 0, [], []) := by decide +kernel
theorem k_416_3 : xm_c416[3]? = some (.istore_n 3, 3, 4, 3, 0, [], []) := by decide +kernel
theorem k_416_4 : xm_c416[4]? = some (.iload_n 3, 4, 5, 3, 0, [], []) := by decide +kernel
theorem k_416_5 : xm_c416[5]? = some (.aload_n 0, 5, 6, 0, 0, [], []) := by decide +kernel
theorem k_416_6 : xm_c416[6]? = some (.getfield 57, 6, 7, 6, 2, [165], []) := by decide +kernel
theorem k_416_7 : xm_c416[7]? = some (.if_icmp .ge 38, 9, 8, 31, 0, [], []) := by decide +kernel
theorem k_416_8 : xm_c416[8]? = some (.aload_n 0, 12, 9, 0, 0, [], []) := by decide +kernel
theorem k_416_9 : xm_c416[9]? = some (.getfield 21, 13, 10, 5, 2, [163], []) := by decide +kernel
theorem k_416_10 : xm_c416[10]? = some (.iload_n 3, 16, 11, 3, 0, [], []) := by decide +kernel
theorem k_416_11 : xm_c416[11]? = some (.iconst 5, 17, 12, 0, 0, [], []) := by decide +kernel
theorem k_416_12 : xm_c416[12]? = some (.imul, 18, 13, 0, 0, [], []) := by decide +kernel
theorem k_416_13 : xm_c416[13]? = some (.iconst 0, 19, 14, 0, 0, [], []) := by decide +kernel
theorem k_416_14 : xm_c416[14]? = some (.iadd, 20, 15, 0, 0, [], []) := by decide +kernel
theorem k_416_15 : xm_c416[15]? = some (.iaload, 21, 16, 0, 0, [], []) := by decide +kernel
theorem k_416_16 : xm_c416[16]? = some (.iload_n 1, 22, 17, 1, 0, [], []) := by decide +kernel
theorem k_416_17 : xm_c416[17]? = some (.if_icmp .ne 18, 23, 18, 29, 0, [], []) := by decide +kernel
theorem k_416_18 : xm_c416[18]? = some (.iload_n 2, 26, 19, 2, 0, [], []) := by decide +kernel
theorem k_416_19 : xm_c416[19]? = some (.aload_n 0, 27, 20, 0, 0, [], []) := by decide +kernel
theorem k_416_20 : xm_c416[20]? = some (.getfield 21, 28, 21, 5, 2, [163], []) := by decide +kernel
theorem k_416_21 : xm_c416[21]? = some (.iload_n 3, 31, 22, 3, 0, [], []) := by decide +kernel
theorem k_416_22 : xm_c416[22]? = some (.iconst 5, 32, 23, 0, 0, [], []) := by decide +kernel
theorem k_416_23 : xm_c416[23]? = some (.imul, 33, 24, 0, 0, [], []) := by decide +kernel
theorem k_416_24 : xm_c416[24]? = some (.iconst 2, 34, 25, 0, 0, [], []) := by decide +kernel
theorem k_416_25 : xm_c416[25]? = some (.iadd, 35, 26, 0, 0, [], []) := by decide +kernel
theorem k_416_26 : xm_c416[26]? = some (.iaload, 36, 27, 0, 0, [], []) := by decide +kernel
theorem k_416_27 : xm_c416[27]? = some (.invokestatic 137, 37, 28, 3, 2, [686, 516, 87, 517], []) := by decide +kernel
theorem k_416_28 : xm_c416[28]? = some (.istore_n 2, 40, 29, 2, 0, [], []) := by decide +kernel
theorem k_416_29 : xm_c416[29]? = some (.iinc 3 1, 41, 30, 3, 0, [], []) := by decide +kernel
theorem k_416_30 : xm_c416[30]? = some (.goto (-40), 44, 31, 4, 0, [], []) := by decide +kernel
theorem k_416_31 : xm_c416[31]? = some (.iload_n 2, 47, 32, 2, 0, [], []) := by decide +kernel
theorem k_416_32 : xm_c416[32]? = some (.ireturn, 48, 0, 0, 0, [], []) := by decide +kernel
theorem xb_416_0 {sc : List Int} {f : Nat → List xm_V → xm_W → xm_R} {w : xm_W} {q : Option xm_V × xm_W} {x0 : Nat} {x1 : Int}
  (h : xm_E (xm_old sc) xm_sta f xm_c416 4 [some (.inr (.inl (some x0))), some (.inl x1), some (.inl 0), some (.inl 0)] [] w q) :
  xm_E (xm_old sc) xm_sta f xm_c416 0 [some (.inr (.inl (some x0))), some (.inl x1), none, none] [] w q :=
  (xs_iconst k_416_0 (xs_istore_n k_416_1 rfl (xs_iconst k_416_2 (xs_istore_n k_416_3 rfl h))))
theorem xb_416_4 {sc : List Int} {f : Nat → List xm_V → xm_W → xm_R} {w : xm_W} {q : Option xm_V × xm_W} {x0 : Nat} {x1 : Int} {x2 : Int} {x3 : Int}
  (h : xm_O (xm_fi (xm_old sc) w x0 2 6) (fun z1 => if (x3 : Int) < z1 then (xm_O (xm_fr (xm_old sc) w x0 2 5) (fun r2 => xm_O (xm_ints (xm_old sc) w r2) (fun l3 => xm_O (xm_at l3 (xm_w ((xm_w (x3 * 5)) + 0))) (fun z4 => if (z4 : Int) = x1 then (xm_O (xm_fr (xm_old sc) w x0 2 5) (fun r5 => xm_O (xm_ints (xm_old sc) w r5) (fun l6 => xm_O (xm_at l6 (xm_w ((xm_w (x3 * 5)) + 2))) (fun z7 => xm_E (xm_old sc) xm_sta f xm_c416 4 [some (.inr (.inl (some x0))), some (.inl x1), some (.inl (if x2 < z7 then z7 else x2)), some (.inl (xm_w (x3 + 1)))] [] w q)))) else (xm_E (xm_old sc) xm_sta f xm_c416 4 [some (.inr (.inl (some x0))), some (.inl x1), some (.inl x2), some (.inl (xm_w (x3 + 1)))] [] w q))))) else (q = (some (.inl x2), w)))) :
  xm_E (xm_old sc) xm_sta f xm_c416 4 [some (.inr (.inl (some x0))), some (.inl x1), some (.inl x2), some (.inl x3)] [] w q :=
  (xs_iload_n k_416_4 rfl (xs_aload_n k_416_5 rfl (xs_geti0 k_416_6 rfl h (fun z1 h => (xs_ic_ge k_416_7 h (fun h => (xs_aload_n k_416_8 rfl (xs_getr k_416_9 rfl h (fun r2 h => (xs_iload_n k_416_10 rfl (xs_iconst k_416_11 (xs_imul k_416_12 (xs_iconst k_416_13 (xs_iadd k_416_14 (xs_iaload k_416_15 h (fun l3 h => h) (fun l3 z4 h => (xs_iload_n k_416_16 rfl (xs_ic_ne k_416_17 h (fun h => (xs_iload_n k_416_18 rfl (xs_aload_n k_416_19 rfl (xs_getr k_416_20 rfl h (fun r5 h => (xs_iload_n k_416_21 rfl (xs_iconst k_416_22 (xs_imul k_416_23 (xs_iconst k_416_24 (xs_iadd k_416_25 (xs_iaload k_416_26 h (fun l6 h => h) (fun l6 z7 h => (xs_max k_416_27 (xs_istore_n k_416_28 rfl (xs_iinc k_416_29 rfl rfl (xs_goto k_416_30 h)))))))))))))))) (fun h => (xs_iinc k_416_29 rfl rfl (xs_goto k_416_30 h)))))))))))))))) (fun h => (xs_iload_n k_416_31 rfl (xs_ireturn k_416_32 h))))))))
/-- ShodBackwards$Moor.doubtOf(I)I -/
theorem k_417_0 : xm_c417[0]? = some (.aload_n 0, 0, 1, 0, 0, [], []) := by decide +kernel
theorem k_417_1 : xm_c417[1]? = some (.iload_n 1, 1, 2, 1, 0, [], []) := by decide +kernel
theorem k_417_2 : xm_c417[2]? = some (.invokevirtual 128, 2, 3, 415, 2, [678, 680, 13, 76, 681], []) := by decide +kernel
theorem k_417_3 : xm_c417[3]? = some (.istore_n 2, 5, 4, 2, 0, [], []) := by decide +kernel
theorem k_417_4 : xm_c417[4]? = some (.iload_n 2, 6, 5, 2, 0, [], []) := by decide +kernel
theorem k_417_5 : xm_c417[5]? = some (.ifCond .ge 8, 7, 6, 8, 0, [], []) := by decide +kernel
theorem k_417_6 : xm_c417[6]? = some (.bipush 99, 10, 7, 0, 0, [], []) := by decide +kernel
theorem k_417_7 : xm_c417[7]? = some (.goto 18, 12, 8, 19, 0, [], []) := by decide +kernel
theorem k_417_8 : xm_c417[8]? = some (.aload_n 0, 15, 9, 0, 0, [], []) := by decide +kernel
theorem k_417_9 : xm_c417[9]? = some (.getfield 47, 16, 10, 2, 2, [157], []) := by decide +kernel
theorem k_417_10 : xm_c417[10]? = some (.aload_n 0, 19, 11, 0, 0, [], []) := by decide +kernel
theorem k_417_11 : xm_c417[11]? = some (.getfield 21, 20, 12, 5, 2, [163], []) := by decide +kernel
theorem k_417_12 : xm_c417[12]? = some (.iload_n 2, 23, 13, 2, 0, [], []) := by decide +kernel
theorem k_417_13 : xm_c417[13]? = some (.iconst 5, 24, 14, 0, 0, [], []) := by decide +kernel
theorem k_417_14 : xm_c417[14]? = some (.imul, 25, 15, 0, 0, [], []) := by decide +kernel
theorem k_417_15 : xm_c417[15]? = some (.iconst 3, 26, 16, 0, 0, [], []) := by decide +kernel
theorem k_417_16 : xm_c417[16]? = some (.iadd, 27, 17, 0, 0, [], []) := by decide +kernel
theorem k_417_17 : xm_c417[17]? = some (.iaload, 28, 18, 0, 0, [], []) := by decide +kernel
theorem k_417_18 : xm_c417[18]? = some (.isub, 29, 19, 0, 0, [], []) := by decide +kernel
theorem k_417_19 : xm_c417[19]? = some (.istore_n 3, 30, 20, 3, 0, [], []) := by decide +kernel
theorem k_417_20 : xm_c417[20]? = some (.aload_n 0, 31, 21, 0, 0, [], []) := by decide +kernel
theorem k_417_21 : xm_c417[21]? = some (.getfield 26, 32, 22, 7, 2, [167], []) := by decide +kernel
theorem k_417_22 : xm_c417[22]? = some (.iconst 1, 35, 23, 0, 0, [], []) := by decide +kernel
theorem k_417_23 : xm_c417[23]? = some (.aaload, 36, 24, 0, 0, [], []) := by decide +kernel
theorem k_417_24 : xm_c417[24]? = some (.astore 4, 37, 25, 4, 0, [], []) := by decide +kernel
theorem k_417_25 : xm_c417[25]? = some (.aload 4, 39, 26, 4, 0, [], []) := by decide +kernel
theorem k_417_26 : xm_c417[26]? = some (.ifnonnull 5, 41, 27, 29, 0, [], []) := by decide +kernel
theorem k_417_27 : xm_c417[27]? = some (.iload_n 3, 44, 28, 3, 0, [], []) := by decide +kernel
theorem k_417_28 : xm_c417[28]? = some (.ireturn, 45, 0, 0, 0, [], []) := by decide +kernel
theorem k_417_29 : xm_c417[29]? = some (.aload_n 0, 46, 30, 0, 0, [], []) := by decide +kernel
theorem k_417_30 : xm_c417[30]? = some (.getfield 30, 47, 31, 8, 2, [169], []) := by decide +kernel
theorem k_417_31 : xm_c417[31]? = some (.iconst 0, 50, 32, 0, 0, [], []) := by decide +kernel
theorem k_417_32 : xm_c417[32]? = some (.aload_n 0, 51, 33, 0, 0, [], []) := by decide +kernel
theorem k_417_33 : xm_c417[33]? = some (.iconst 0, 52, 34, 0, 0, [], []) := by decide +kernel
theorem k_417_34 : xm_c417[34]? = some (.iload_n 1, 53, 35, 1, 0, [], []) := by decide +kernel
theorem k_417_35 : xm_c417[35]? = some (.invokevirtual 122, 54, 36, 414, 3, [405, 407, 3, 76, 408], []) := by decide +kernel
theorem k_417_36 : xm_c417[36]? = some (.iastore, 57, 37, 0, 0, [], []) := by decide +kernel
theorem k_417_37 : xm_c417[37]? = some (.aload_n 0, 58, 38, 0, 0, [], []) := by decide +kernel
theorem k_417_38 : xm_c417[38]? = some (.getfield 30, 59, 39, 8, 2, [169], []) := by decide +kernel
theorem k_417_39 : xm_c417[39]? = some (.iconst 1, 62, 40, 0, 0, [], []) := by decide +kernel
theorem k_417_40 : xm_c417[40]? = some (.aload_n 0, 63, 41, 0, 0, [], []) := by decide +kernel
theorem k_417_41 : xm_c417[41]? = some (.iload_n 1, 64, 42, 1, 0, [], []) := by decide +kernel
theorem k_417_42 : xm_c417[42]? = some (.invokevirtual 131, 65, 43, 416, 2, [682, 684, 14, 76, 685], []) := by decide +kernel
theorem k_417_43 : xm_c417[43]? = some (.iastore, 68, 44, 0, 0, [], []) := by decide +kernel
theorem k_417_44 : xm_c417[44]? = some (.aload_n 0, 69, 45, 0, 0, [], []) := by decide +kernel
theorem k_417_45 : xm_c417[45]? = some (.getfield 30, 70, 46, 8, 2, [169], []) := by decide +kernel
theorem k_417_46 : xm_c417[46]? = some (.iconst 2, 73, 47, 0, 0, [], []) := by decide +kernel
theorem k_417_47 : xm_c417[47]? = some (.iload_n 3, 74, 48, 3, 0, [], []) := by decide +kernel
theorem k_417_48 : xm_c417[48]? = some (.iastore, 75, 49, 0, 0, [], []) := by decide +kernel
theorem k_417_49 : xm_c417[49]? = some (.iconst 0, 76, 50, 0, 0, [], []) := by decide +kernel
theorem k_417_50 : xm_c417[50]? = some (.bipush 99, 77, 51, 0, 0, [], []) := by decide +kernel
theorem k_417_51 : xm_c417[51]? = some (.aload 4, 79, 52, 4, 0, [], []) := by decide +kernel
theorem k_417_52 : xm_c417[52]? = some (.aload_n 0, 81, 53, 0, 0, [], []) := by decide +kernel
theorem k_417_53 : xm_c417[53]? = some (.getfield 30, 82, 54, 8, 2, [169], []) := by decide +kernel
theorem k_417_54 : xm_c417[54]? = some (.aload_n 0, 85, 55, 0, 0, [], []) := by decide +kernel
theorem k_417_55 : xm_c417[55]? = some (.getfield 33, 86, 56, 9, 2, [170], []) := by decide +kernel
theorem k_417_56 : xm_c417[56]? = some (.invokevirtual 108, 89, 57, 902, 3, [626, 627, 628, 91, 629], []) := by decide +kernel
theorem k_417_57 : xm_c417[57]? = some (.invokestatic 142, 92, 58, 4, 2, [691, 519, 87, 520], []) := by decide +kernel
theorem k_417_58 : xm_c417[58]? = some (.invokestatic 137, 95, 59, 3, 2, [686, 516, 87, 517], []) := by decide +kernel
theorem k_417_59 : xm_c417[59]? = some (.ireturn, 98, 0, 0, 0, [], []) := by decide +kernel
theorem xb_417_0 {sc : List Int} {f : Nat → List xm_V → xm_W → xm_R} {w : xm_W} {q : Option xm_V × xm_W} {x0 : Nat} {x1 : Int}
  (h : xm_Oi (f 415 [.inr (.inl (some x0)), .inl x1] w) (fun z2 w1 => if (z2 : Int) < 0 then (xm_O (xm_fr (xm_old sc) w1 x0 2 7) (fun r24 => xm_O (xm_refs (xm_old sc) w1 r24) (fun l25 => xm_O (xm_at l25 1) (fun r26 => if (r26 : Option Nat) = none then (q = (some (.inl 99), w1)) else (xm_O (xm_fr (xm_old sc) w1 x0 2 8) (fun r27 => xm_Oi (f 414 [.inr (.inl (some x0)), .inl 0, .inl x1] w1) (fun z29 w28 => xm_O (xm_seti w28 r27 0 z29) (fun w30 => xm_O (xm_fr (xm_old sc) w30 x0 2 8) (fun r31 => xm_Oi (f 416 [.inr (.inl (some x0)), .inl x1] w30) (fun z33 w32 => xm_O (xm_seti w32 r31 1 z33) (fun w34 => xm_O (xm_fr (xm_old sc) w34 x0 2 8) (fun r35 => xm_O (xm_seti w34 r35 2 99) (fun w36 => xm_O (xm_fr (xm_old sc) w36 x0 2 8) (fun r37 => xm_O (xm_fr (xm_old sc) w36 x0 2 9) (fun r38 => xm_Oi (f 902 [.inr (.inl r26), .inr (.inl (some r37)), .inr (.inl (some r38))] w36) (fun z40 w39 => q = (some (.inl (if 0 < (if z40 < 99 then z40 else 99) then (if z40 < 99 then z40 else 99) else 0)), w39))))))))))))))))) else (xm_O (xm_fi (xm_old sc) w1 x0 2 2) (fun z3 => xm_O (xm_fr (xm_old sc) w1 x0 2 5) (fun r4 => xm_O (xm_ints (xm_old sc) w1 r4) (fun l5 => xm_O (xm_at l5 (xm_w ((xm_w (z2 * 5)) + 3))) (fun z6 => xm_O (xm_fr (xm_old sc) w1 x0 2 7) (fun r7 => xm_O (xm_refs (xm_old sc) w1 r7) (fun l8 => xm_O (xm_at l8 1) (fun r9 => if (r9 : Option Nat) = none then (q = (some (.inl (xm_w (z3 - z6))), w1)) else (xm_O (xm_fr (xm_old sc) w1 x0 2 8) (fun r10 => xm_Oi (f 414 [.inr (.inl (some x0)), .inl 0, .inl x1] w1) (fun z12 w11 => xm_O (xm_seti w11 r10 0 z12) (fun w13 => xm_O (xm_fr (xm_old sc) w13 x0 2 8) (fun r14 => xm_Oi (f 416 [.inr (.inl (some x0)), .inl x1] w13) (fun z16 w15 => xm_O (xm_seti w15 r14 1 z16) (fun w17 => xm_O (xm_fr (xm_old sc) w17 x0 2 8) (fun r18 => xm_O (xm_seti w17 r18 2 (xm_w (z3 - z6))) (fun w19 => xm_O (xm_fr (xm_old sc) w19 x0 2 8) (fun r20 => xm_O (xm_fr (xm_old sc) w19 x0 2 9) (fun r21 => xm_Oi (f 902 [.inr (.inl r9), .inr (.inl (some r20)), .inr (.inl (some r21))] w19) (fun z23 w22 => q = (some (.inl (if 0 < (if z23 < 99 then z23 else 99) then (if z23 < 99 then z23 else 99) else 0)), w22))))))))))))))))))))))) :
  xm_E (xm_old sc) xm_sta f xm_c417 0 [some (.inr (.inl (some x0))), some (.inl x1), none, none, none] [] w q :=
  (xs_aload_n k_417_0 rfl (xs_iload_n k_417_1 rfl (xs_invv1 k_417_2 xr_415 rfl rfl rfl h (fun z2 w1 h => (xs_istore_n k_417_3 rfl (xs_iload_n k_417_4 rfl (xs_if_ge k_417_5 h (fun h => (xs_bipush k_417_6 (xs_goto k_417_7 (xs_istore_n k_417_19 rfl (xs_aload_n k_417_20 rfl (xs_getr k_417_21 rfl h (fun r24 h => (xs_iconst k_417_22 (xs_aaload k_417_23 h (fun l25 h => h) (fun l25 r26 h => (xs_astore k_417_24 rfl (xs_aload k_417_25 rfl (xs_ifnonnull k_417_26 h (fun h => (xs_iload_n k_417_27 rfl (xs_ireturn k_417_28 h))) (fun h => (xs_aload_n k_417_29 rfl (xs_getr k_417_30 rfl h (fun r27 h => (xs_iconst k_417_31 (xs_aload_n k_417_32 rfl (xs_iconst k_417_33 (xs_iload_n k_417_34 rfl (xs_invv1 k_417_35 xr_414 rfl rfl rfl h (fun z29 w28 h => (xs_iastore k_417_36 h (fun w30 h => (xs_aload_n k_417_37 rfl (xs_getr k_417_38 rfl h (fun r31 h => (xs_iconst k_417_39 (xs_aload_n k_417_40 rfl (xs_iload_n k_417_41 rfl (xs_invv1 k_417_42 xr_416 rfl rfl rfl h (fun z33 w32 h => (xs_iastore k_417_43 h (fun w34 h => (xs_aload_n k_417_44 rfl (xs_getr k_417_45 rfl h (fun r35 h => (xs_iconst k_417_46 (xs_iload_n k_417_47 rfl (xs_iastore k_417_48 h (fun w36 h => (xs_iconst k_417_49 (xs_bipush k_417_50 (xs_aload k_417_51 rfl (xs_aload_n k_417_52 rfl (xs_getr k_417_53 rfl h (fun r37 h => (xs_aload_n k_417_54 rfl (xs_getr k_417_55 rfl h (fun r38 h => (xs_invv1 k_417_56 xr_902 rfl rfl rfl h (fun z40 w39 h => (xs_min1 k_417_57 (xs_max k_417_58 (xs_ireturn k_417_59 h)))))))))))))))))))))))))))))))))))))))))))))))))))))))) (fun h => (xs_aload_n k_417_8 rfl (xs_geti0 k_417_9 rfl h (fun z3 h => (xs_aload_n k_417_10 rfl (xs_getr k_417_11 rfl h (fun r4 h => (xs_iload_n k_417_12 rfl (xs_iconst k_417_13 (xs_imul k_417_14 (xs_iconst k_417_15 (xs_iadd k_417_16 (xs_iaload k_417_17 h (fun l5 h => h) (fun l5 z6 h => (xs_isub k_417_18 (xs_istore_n k_417_19 rfl (xs_aload_n k_417_20 rfl (xs_getr k_417_21 rfl h (fun r7 h => (xs_iconst k_417_22 (xs_aaload k_417_23 h (fun l8 h => h) (fun l8 r9 h => (xs_astore k_417_24 rfl (xs_aload k_417_25 rfl (xs_ifnonnull k_417_26 h (fun h => (xs_iload_n k_417_27 rfl (xs_ireturn k_417_28 h))) (fun h => (xs_aload_n k_417_29 rfl (xs_getr k_417_30 rfl h (fun r10 h => (xs_iconst k_417_31 (xs_aload_n k_417_32 rfl (xs_iconst k_417_33 (xs_iload_n k_417_34 rfl (xs_invv1 k_417_35 xr_414 rfl rfl rfl h (fun z12 w11 h => (xs_iastore k_417_36 h (fun w13 h => (xs_aload_n k_417_37 rfl (xs_getr k_417_38 rfl h (fun r14 h => (xs_iconst k_417_39 (xs_aload_n k_417_40 rfl (xs_iload_n k_417_41 rfl (xs_invv1 k_417_42 xr_416 rfl rfl rfl h (fun z16 w15 h => (xs_iastore k_417_43 h (fun w17 h => (xs_aload_n k_417_44 rfl (xs_getr k_417_45 rfl h (fun r18 h => (xs_iconst k_417_46 (xs_iload_n k_417_47 rfl (xs_iastore k_417_48 h (fun w19 h => (xs_iconst k_417_49 (xs_bipush k_417_50 (xs_aload k_417_51 rfl (xs_aload_n k_417_52 rfl (xs_getr k_417_53 rfl h (fun r20 h => (xs_aload_n k_417_54 rfl (xs_getr k_417_55 rfl h (fun r21 h => (xs_invv1 k_417_56 xr_902 rfl rfl rfl h (fun z23 w22 h => (xs_min1 k_417_57 (xs_max k_417_58 (xs_ireturn k_417_59 h)))))))))))))))))))))))))))))))))))))))))))))))))))))))))))))))))))))))))))
/-- ShodBackwards$Moor.trail(IIII)I -/
theorem k_418_0 : xm_c418[0]? = some (.iload_n 1, 0, 1, 1, 0, [], []) := by decide +kernel
theorem k_418_1 : xm_c418[1]? = some (.istore 5, 1, 2, 5, 0, [], []) := by decide +kernel
theorem k_418_2 : xm_c418[2]? = some (.iconst 0, 3, 3, 0, 0, [], []) := by decide +kernel
theorem k_418_3 : xm_c418[3]? = some (.istore 6, 4, 4, 6, 0, [], []) := by decide +kernel
theorem k_418_4 : xm_c418[4]? = some (.iload 6, 6, 5, 6, 0, [], []) := by decide +kernel
theorem k_418_5 : xm_c418[5]? = some (.iload_n 3, 8, 6, 3, 0, [], []) := by decide +kernel
theorem k_418_6 : xm_c418[6]? = some (.if_icmp .ge 71, 9, 7, 39, 0, [], []) := by decide +kernel
theorem k_418_7 : xm_c418[7]? = some (.aload_n 0, 12, 8, 0, 0, [], []) := by decide +kernel
theorem k_418_8 : xm_c418[8]? = some (.iload 5, 13, 9, 5, 0, [], []) := by decide +kernel
theorem k_418_9 : xm_c418[9]? = some (.invokevirtual 128, 15, 10, 415, 2, [678, 680, 13, 76, 681], []) := by decide +kernel
theorem k_418_10 : xm_c418[10]? = some (.istore 7, 18, 11, 7, 0, [], []) := by decide +kernel
theorem k_418_11 : xm_c418[11]? = some (.iload 7, 20, 12, 7, 0, [], []) := by decide +kernel
theorem k_418_12 : xm_c418[12]? = some (.ifCond .ge 6, 22, 13, 14, 0, [], []) := by decide +kernel
theorem k_418_13 : xm_c418[13]? = some (.goto 55, 25, 14, 39, 0, [], []) := by decide +kernel
theorem k_418_14 : xm_c418[14]? = some (.aload_n 0, 28, 15, 0, 0, [], []) := by decide +kernel
theorem k_418_15 : xm_c418[15]? = some (.getfield 21, 29, 16, 5, 2, [163], []) := by decide +kernel
theorem k_418_16 : xm_c418[16]? = some (.iload 7, 32, 17, 7, 0, [], []) := by decide +kernel
theorem k_418_17 : xm_c418[17]? = some (.iconst 5, 34, 18, 0, 0, [], []) := by decide +kernel
theorem k_418_18 : xm_c418[18]? = some (.imul, 35, 19, 0, 0, [], []) := by decide +kernel
theorem k_418_19 : xm_c418[19]? = some (.iconst 1, 36, 20, 0, 0, [], []) := by decide +kernel
theorem k_418_20 : xm_c418[20]? = some (.iadd, 37, 21, 0, 0, [], []) := by decide +kernel
theorem k_418_21 : xm_c418[21]? = some (.iaload, 38, 22, 0, 0, [], []) := by decide +kernel
theorem k_418_22 : xm_c418[22]? = some (.istore 8, 39, 23, 8, 0, [], []) := by decide +kernel
theorem k_418_23 : xm_c418[23]? = some (.iload 5, 41, 24, 5, 0, [], []) := by decide +kernel
theorem k_418_24 : xm_c418[24]? = some (.iload_n 2, 43, 25, 2, 0, [], []) := by decide +kernel
theorem k_418_25 : xm_c418[25]? = some (.ifCond .ne 8, 44, 26, 28, 0, [], []) := by decide +kernel
theorem k_418_26 : xm_c418[26]? = some (.iload 8, 47, 27, 8, 0, [], []) := by decide +kernel
theorem k_418_27 : xm_c418[27]? = some (.goto 8, 49, 28, 30, 0, [], []) := by decide +kernel
theorem k_418_28 : xm_c418[28]? = some (.iload 8, 52, 29, 8, 0, [], []) := by decide +kernel
theorem k_418_29 : xm_c418[29]? = some (.invokestatic 145, 54, 30, 151, 1, [700, 637, 0, 75, 638], []) := by decide +kernel
theorem k_418_30 : xm_c418[30]? = some (.invokestatic 82, 57, 31, 150, 2, [619, 620, 0, 75, 621], []) := by decide +kernel
theorem k_418_31 : xm_c418[31]? = some (.istore 9, 60, 32, 9, 0, [], []) := by decide +kernel
theorem k_418_32 : xm_c418[32]? = some (.iload 9, 62, 33, 9, 0, [], []) := by decide +kernel
theorem k_418_33 : xm_c418[33]? = some (.ifCond .ge 6, 64, 34, 35, 0, [], []) := by decide +kernel
theorem k_418_34 : xm_c418[34]? = some (.goto 13, 67, 35, 39, 0, [], []) := by decide +kernel
theorem k_418_35 : xm_c418[35]? = some (.iload 9, 70, 36, 9, 0, [], []) := by decide +kernel
theorem k_418_36 : xm_c418[36]? = some (.istore 5, 72, 37, 5, 0, [], []) := by decide +kernel
theorem k_418_37 : xm_c418[37]? = some (.iinc 6 1, 74, 38, 6, 0, [], []) := by decide +kernel
theorem k_418_38 : xm_c418[38]? = some (.goto (-71), 77, 39, 4, 0, [], []) := by decide +kernel
theorem k_418_39 : xm_c418[39]? = some (.iload 4, 80, 40, 4, 0, [], []) := by decide +kernel
theorem k_418_40 : xm_c418[40]? = some (.ifCond .ne 8, 82, 41, 43, 0, [], []) := by decide +kernel
theorem k_418_41 : xm_c418[41]? = some (.iload 5, 85, 42, 5, 0, [], []) := by decide +kernel
theorem k_418_42 : xm_c418[42]? = some (.goto 5, 87, 43, 44, 0, [], []) := by decide +kernel
theorem k_418_43 : xm_c418[43]? = some (.iload 6, 90, 44, 6, 0, [], []) := by decide +kernel
theorem k_418_44 : xm_c418[44]? = some (.ireturn, 92, 0, 0, 0, [], []) := by decide +kernel
theorem xb_418_0 {sc : List Int} {f : Nat → List xm_V → xm_W → xm_R} {w : xm_W} {q : Option xm_V × xm_W} {x0 : Nat} {x1 : Int} {x2 : Int} {x3 : Int} {x4 : Int}
  (h : xm_E (xm_old sc) xm_sta f xm_c418 4 [some (.inr (.inl (some x0))), some (.inl x1), some (.inl x2), some (.inl x3), some (.inl x4), some (.inl x1), some (.inl 0), none, none, none] [] w q) :
  xm_E (xm_old sc) xm_sta f xm_c418 0 [some (.inr (.inl (some x0))), some (.inl x1), some (.inl x2), some (.inl x3), some (.inl x4), none, none, none, none, none] [] w q :=
  (xs_iload_n k_418_0 rfl (xs_istore k_418_1 rfl (xs_iconst k_418_2 (xs_istore k_418_3 rfl h))))
theorem xb_418_4 {sc : List Int} {f : Nat → List xm_V → xm_W → xm_R} {w : xm_W} {q : Option xm_V × xm_W} {x0 : Nat} {x1 : Int} {x2 : Int} {x3 : Int} {x4 : Int} {x5 : Int} {x6 : Int} {u7 : Option xm_V} {u8 : Option xm_V} {u9 : Option xm_V}
  (h : if (x6 : Int) < x3 then (xm_Oi (f 415 [.inr (.inl (some x0)), .inl x5] w) (fun z2 w1 => if (z2 : Int) < 0 then (if (x4 : Int) = 0 then (q = (some (.inl x5), w1)) else (q = (some (.inl x6), w1))) else (xm_O (xm_fr (xm_old sc) w1 x0 2 5) (fun r3 => xm_O (xm_ints (xm_old sc) w1 r3) (fun l4 => xm_O (xm_at l4 (xm_w ((xm_w (z2 * 5)) + 1))) (fun z5 => if (x2 : Int) = 0 then (xm_Oi (f 150 [.inl x5, .inl z5] w1) (fun z11 w10 => if (z11 : Int) < 0 then (if (x4 : Int) = 0 then (q = (some (.inl x5), w10)) else (q = (some (.inl x6), w10))) else (xm_E (xm_old sc) xm_sta f xm_c418 4 [some (.inr (.inl (some x0))), some (.inl x1), some (.inl x2), some (.inl x3), some (.inl x4), some (.inl z11), some (.inl (xm_w (x6 + 1))), some (.inl z2), some (.inl z5), some (.inl z11)] [] w10 q))) else (xm_Oi (f 151 [.inl z5] w1) (fun z7 w6 => xm_Oi (f 150 [.inl x5, .inl z7] w6) (fun z9 w8 => if (z9 : Int) < 0 then (if (x4 : Int) = 0 then (q = (some (.inl x5), w8)) else (q = (some (.inl x6), w8))) else (xm_E (xm_old sc) xm_sta f xm_c418 4 [some (.inr (.inl (some x0))), some (.inl x1), some (.inl x2), some (.inl x3), some (.inl x4), some (.inl z9), some (.inl (xm_w (x6 + 1))), some (.inl z2), some (.inl z5), some (.inl z9)] [] w8 q)))))))))) else (if (x4 : Int) = 0 then (q = (some (.inl x5), w)) else (q = (some (.inl x6), w)))) :
  xm_E (xm_old sc) xm_sta f xm_c418 4 [some (.inr (.inl (some x0))), some (.inl x1), some (.inl x2), some (.inl x3), some (.inl x4), some (.inl x5), some (.inl x6), u7, u8, u9] [] w q :=
  (xs_iload k_418_4 rfl (xs_iload_n k_418_5 rfl (xs_ic_ge k_418_6 h (fun h => (xs_aload_n k_418_7 rfl (xs_iload k_418_8 rfl (xs_invv1 k_418_9 xr_415 rfl rfl rfl h (fun z2 w1 h => (xs_istore k_418_10 rfl (xs_iload k_418_11 rfl (xs_if_ge k_418_12 h (fun h => (xs_goto k_418_13 (xs_iload k_418_39 rfl (xs_if_ne k_418_40 h (fun h => (xs_iload k_418_41 rfl (xs_goto k_418_42 (xs_ireturn k_418_44 h)))) (fun h => (xs_iload k_418_43 rfl (xs_ireturn k_418_44 h))))))) (fun h => (xs_aload_n k_418_14 rfl (xs_getr k_418_15 rfl h (fun r3 h => (xs_iload k_418_16 rfl (xs_iconst k_418_17 (xs_imul k_418_18 (xs_iconst k_418_19 (xs_iadd k_418_20 (xs_iaload k_418_21 h (fun l4 h => h) (fun l4 z5 h => (xs_istore k_418_22 rfl (xs_iload k_418_23 rfl (xs_iload_n k_418_24 rfl (xs_if_ne k_418_25 h (fun h => (xs_iload k_418_26 rfl (xs_goto k_418_27 (xs_invs1 k_418_30 xr_150 rfl rfl rfl h (fun z11 w10 h => (xs_istore k_418_31 rfl (xs_iload k_418_32 rfl (xs_if_ge k_418_33 h (fun h => (xs_goto k_418_34 (xs_iload k_418_39 rfl (xs_if_ne k_418_40 h (fun h => (xs_iload k_418_41 rfl (xs_goto k_418_42 (xs_ireturn k_418_44 h)))) (fun h => (xs_iload k_418_43 rfl (xs_ireturn k_418_44 h))))))) (fun h => (xs_iload k_418_35 rfl (xs_istore k_418_36 rfl (xs_iinc k_418_37 rfl rfl (xs_goto k_418_38 h))))))))))))) (fun h => (xs_iload k_418_28 rfl (xs_invs1 k_418_29 xr_151 rfl rfl rfl h (fun z7 w6 h => (xs_invs1 k_418_30 xr_150 rfl rfl rfl h (fun z9 w8 h => (xs_istore k_418_31 rfl (xs_iload k_418_32 rfl (xs_if_ge k_418_33 h (fun h => (xs_goto k_418_34 (xs_iload k_418_39 rfl (xs_if_ne k_418_40 h (fun h => (xs_iload k_418_41 rfl (xs_goto k_418_42 (xs_ireturn k_418_44 h)))) (fun h => (xs_iload k_418_43 rfl (xs_ireturn k_418_44 h))))))) (fun h => (xs_iload k_418_35 rfl (xs_istore k_418_36 rfl (xs_iinc k_418_37 rfl rfl (xs_goto k_418_38 h))))))))))))))))))))))))))))))))))))) (fun h => (xs_iload k_418_39 rfl (xs_if_ne k_418_40 h (fun h => (xs_iload k_418_41 rfl (xs_goto k_418_42 (xs_ireturn k_418_44 h)))) (fun h => (xs_iload k_418_43 rfl (xs_ireturn k_418_44 h)))))))))
/-- ShodBackwards$Moor.wouldLeaveAll(IIII)Z -/
theorem k_419_0 : xm_c419[0]? = some (.aload_n 0, 0, 1, 0, 0, [], []) := by decide +kernel
theorem k_419_1 : xm_c419[1]? = some (.getfield 17, 1, 2, 3, 2, [159], []) := by decide +kernel
theorem k_419_2 : xm_c419[2]? = some (.iload_n 1, 4, 3, 1, 0, [], []) := by decide +kernel
theorem k_419_3 : xm_c419[3]? = some (.aaload, 5, 4, 0, 0, [], []) := by decide +kernel
theorem k_419_4 : xm_c419[4]? = some (.astore 5, 6, 5, 5, 0, [], []) := by decide +kernel
theorem k_419_5 : xm_c419[5]? = some (.iload_n 2, 8, 6, 2, 0, [], []) := by decide +kernel
theorem k_419_6 : xm_c419[6]? = some (.aload 5, 9, 7, 5, 0, [], []) := by decide +kernel
theorem k_419_7 : xm_c419[7]? = some (.getfield 105, 11, 8, 1, 4, [121], []) := by decide +kernel
theorem k_419_8 : xm_c419[8]? = some (.aload 5, 14, 9, 5, 0, [], []) := by decide +kernel
theorem k_419_9 : xm_c419[9]? = some (.getfield 112, 16, 10, 3, 4, [128], []) := by decide +kernel
theorem k_419_10 : xm_c419[10]? = some (.invokestatic 115, 19, 11, 153, 3, [643, 414, 0, 75, 415], []) := by decide +kernel
theorem k_419_11 : xm_c419[11]? = some (.istore 6, 22, 12, 6, 0, [], []) := by decide +kernel
theorem k_419_12 : xm_c419[12]? = some (.iload_n 3, 24, 13, 3, 0, [], []) := by decide +kernel
theorem k_419_13 : xm_c419[13]? = some (.istore 7, 25, 14, 7, 0, [], []) := by decide +kernel
theorem k_419_14 : xm_c419[14]? = some (.aload_n 0, 27, 15, 0, 0, [], []) := by decide +kernel
theorem k_419_15 : xm_c419[15]? = some (.iload_n 1, 28, 16, 1, 0, [], []) := by decide +kernel
theorem k_419_16 : xm_c419[16]? = some (.iconst 0, 29, 17, 0, 0, [], []) := by decide +kernel
theorem k_419_17 : xm_c419[17]? = some (.invokevirtual 148, 30, 18, 420, 3, [735, 737, 17, 76, 738], []) := by decide +kernel
theorem k_419_18 : xm_c419[18]? = some (.istore 8, 33, 19, 8, 0, [], []) := by decide +kernel
theorem k_419_19 : xm_c419[19]? = some (.iconst 0, 35, 20, 0, 0, [], []) := by decide +kernel
theorem k_419_20 : xm_c419[20]? = some (.istore 9, 36, 21, 9, 0, [], []) := by decide +kernel
theorem k_419_21 : xm_c419[21]? = some (.iload 9, 38, 22, 9, 0, [], []) := by decide +kernel
theorem k_419_22 : xm_c419[22]? = some (.aload 5, 40, 23, 5, 0, [], []) := by decide +kernel
theorem k_419_23 : xm_c419[23]? = some (.getfield 66, 42, 24, 4, 4, [130], []) := by decide +kernel
theorem k_419_24 : xm_c419[24]? = some (.if_icmp .ge 124, 45, 25, 85, 0, [], []) := by decide +kernel
theorem k_419_25 : xm_c419[25]? = some (.iload 4, 48, 26, 4, 0, [], []) := by decide +kernel
theorem k_419_26 : xm_c419[26]? = some (.iload 9, 50, 27, 9, 0, [], []) := by decide +kernel
theorem k_419_27 : xm_c419[27]? = some (.iadd, 52, 28, 0, 0, [], []) := by decide +kernel
theorem k_419_28 : xm_c419[28]? = some (.aload_n 0, 53, 29, 0, 0, [], []) := by decide +kernel
theorem k_419_29 : xm_c419[29]? = some (.getfield 47, 54, 30, 2, 2, [157], []) := by decide +kernel
theorem k_419_30 : xm_c419[30]? = some (.if_icmp .ge 112, 57, 31, 85, 0, [], []) := by decide +kernel
theorem k_419_31 : xm_c419[31]? = some (.aload 5, 60, 32, 5, 0, [], []) := by decide +kernel
theorem k_419_32 : xm_c419[32]? = some (.getfield 76, 62, 33, 6, 4, [136], []) := by decide +kernel
theorem k_419_33 : xm_c419[33]? = some (.iload 9, 65, 34, 9, 0, [], []) := by decide +kernel
theorem k_419_34 : xm_c419[34]? = some (.iaload, 67, 35, 0, 0, [], []) := by decide +kernel
theorem k_419_35 : xm_c419[35]? = some (.istore 10, 68, 36, 10, 0, [], []) := by decide +kernel
theorem k_419_36 : xm_c419[36]? = some (.iload 7, 70, 37, 7, 0, [], []) := by decide +kernel
theorem k_419_37 : xm_c419[37]? = some (.iload 10, 72, 38, 10, 0, [], []) := by decide +kernel
theorem k_419_38 : xm_c419[38]? = some (.invokestatic 82, 74, 39, 150, 2, [619, 620, 0, 75, 621], []) := by decide +kernel
theorem k_419_39 : xm_c419[39]? = some (.istore 11, 77, 40, 11, 0, [], []) := by decide +kernel
theorem k_419_40 : xm_c419[40]? = some (.iload 11, 79, 41, 11, 0, [], []) := by decide +kernel
theorem k_419_41 : xm_c419[41]? = some (.ifCond .ge 6, 81, 42, 43, 0, [], []) := by decide +kernel
theorem k_419_42 : xm_c419[42]? = some (.goto 79, 84, 43, 83, 0, [], []) := by decide +kernel
theorem k_419_43 : xm_c419[43]? = some (.iload_n 2, 87, 44, 2, 0, [], []) := by decide +kernel
theorem k_419_44 : xm_c419[44]? = some (.iload 10, 88, 45, 10, 0, [], []) := by decide +kernel
theorem k_419_45 : xm_c419[45]? = some (.iload 9, 90, 46, 9, 0, [], []) := by decide +kernel
theorem k_419_46 : xm_c419[46]? = some (.invokestatic 93, 92, 47, 152, 3, [633, 634, 0, 75, 635], []) := by decide +kernel
theorem k_419_47 : xm_c419[47]? = some (.istore 12, 95, 48, 12, 0, [], []) := by decide +kernel
theorem k_419_48 : xm_c419[48]? = some (.iload 12, 97, 49, 12, 0, [], []) := by decide +kernel
theorem k_419_49 : xm_c419[49]? = some (.ifCond .lt 60, 99, 50, 81, 0, [], []) := by decide +kernel
theorem k_419_50 : xm_c419[50]? = some (.aload_n 0, 102, 51, 0, 0, [], []) := by decide +kernel
theorem k_419_51 : xm_c419[51]? = some (.getfield 47, 103, 52, 2, 2, [157], []) := by decide +kernel
theorem k_419_52 : xm_c419[52]? = some (.iload 4, 106, 53, 4, 0, [], []) := by decide +kernel
theorem k_419_53 : xm_c419[53]? = some (.iload 9, 108, 54, 9, 0, [], []) := by decide +kernel
theorem k_419_54 : xm_c419[54]? = some (.iadd, 110, 55, 0, 0, [], []) := by decide +kernel
theorem k_419_55 : xm_c419[55]? = some (.aload_n 0, 111, 56, 0, 0, [], []) := by decide +kernel
theorem k_419_56 : xm_c419[56]? = some (.iload 7, 112, 57, 7, 0, [], []) := by decide +kernel
theorem k_419_57 : xm_c419[57]? = some (.invokevirtual 97, 114, 58, 403, 2, [367, 368, 369, 76, 370], []) := by decide +kernel
theorem k_419_58 : xm_c419[58]? = some (.iadd, 117, 59, 0, 0, [], []) := by decide +kernel
theorem k_419_59 : xm_c419[59]? = some (.if_icmp .gt 41, 118, 60, 81, 0, [], []) := by decide +kernel
theorem k_419_60 : xm_c419[60]? = some (.iload 8, 121, 61, 8, 0, [], []) := by decide +kernel
theorem k_419_61 : xm_c419[61]? = some (.ifCond .lt 23, 123, 62, 72, 0, [], []) := by decide +kernel
theorem k_419_62 : xm_c419[62]? = some (.aload_n 0, 126, 63, 0, 0, [], []) := by decide +kernel
theorem k_419_63 : xm_c419[63]? = some (.iload 8, 127, 64, 8, 0, [], []) := by decide +kernel
theorem k_419_64 : xm_c419[64]? = some (.iload 7, 129, 65, 7, 0, [], []) := by decide +kernel
theorem k_419_65 : xm_c419[65]? = some (.iload 12, 131, 66, 12, 0, [], []) := by decide +kernel
theorem k_419_66 : xm_c419[66]? = some (.iload 6, 133, 67, 6, 0, [], []) := by decide +kernel
theorem k_419_67 : xm_c419[67]? = some (.iload 4, 135, 68, 4, 0, [], []) := by decide +kernel
theorem k_419_68 : xm_c419[68]? = some (.iload 9, 137, 69, 9, 0, [], []) := by decide +kernel
theorem k_419_69 : xm_c419[69]? = some (.iadd, 139, 70, 0, 0, [], []) := by decide +kernel
theorem k_419_70 : xm_c419[70]? = some (.invokevirtual 151, 140, 71, 421, 6, [739, 741, 18, 76, 742], []) := by decide +kernel
theorem k_419_71 : xm_c419[71]? = some (.ifCond .ne 5, 143, 72, 74, 0, [], []) := by decide +kernel
theorem k_419_72 : xm_c419[72]? = some (.iconst 0, 146, 73, 0, 0, [], []) := by decide +kernel
theorem k_419_73 : xm_c419[73]? = some (.ireturn, 147, 0, 0, 0, [], []) := by decide +kernel
theorem k_419_74 : xm_c419[74]? = some (.aload_n 0, 148, 75, 0, 0, [], []) := by decide +kernel
theorem k_419_75 : xm_c419[75]? = some (.iload_n 1, 149, 76, 1, 0, [], []) := by decide +kernel
theorem k_419_76 : xm_c419[76]? = some (.iload 8, 150, 77, 8, 0, [], []) := by decide +kernel
theorem k_419_77 : xm_c419[77]? = some (.iconst 1, 152, 78, 0, 0, [], []) := by decide +kernel
theorem k_419_78 : xm_c419[78]? = some (.iadd, 153, 79, 0, 0, [], []) := by decide +kernel
theorem k_419_79 : xm_c419[79]? = some (.invokevirtual 148, 154, 80, 420, 3, [735, 737, 17, 76, 738], []) := by decide +kernel
theorem k_419_80 : xm_c419[80]? = some (.istore 8, 157, 81, 8, 0, [], []) := by decide +kernel
theorem k_419_81 : xm_c419[81]? = some (.iload 11, 159, 82, 11, 0, [], []) := by decide +kernel
theorem k_419_82 : xm_c419[82]? = some (.istore 7, 161, 83, 7, 0, [], []) := by decide +kernel
theorem k_419_83 : xm_c419[83]? = some (.iinc 9 1, 163, 84, 9, 0, [], []) := by decide +kernel
theorem k_419_84 : xm_c419[84]? = some (.goto (-128), 166, 85, 21, 0, [], []) := by decide +kernel
theorem k_419_85 : xm_c419[85]? = some (.iload 8, 169, 86, 8, 0, [], []) := by decide +kernel
theorem k_419_86 : xm_c419[86]? = some (.ifCond .ge 7, 171, 87, 89, 0, [], []) := by decide +kernel
theorem k_419_87 : xm_c419[87]? = some (.iconst 1, 174, 88, 0, 0, [], []) := by decide +kernel
theorem k_419_88 : xm_c419[88]? = some (.goto 4, 175, 89, 90, 0, [], []) := by decide +kernel
theorem k_419_89 : xm_c419[89]? = some (.iconst 0, 178, 90, 0, 0, [], []) := by decide +kernel
theorem k_419_90 : xm_c419[90]? = some (.ireturn, 179, 0, 0, 0, [], []) := by decide +kernel
theorem xb_419_0 {sc : List Int} {f : Nat → List xm_V → xm_W → xm_R} {w : xm_W} {q : Option xm_V × xm_W} {x0 : Nat} {x1 : Int} {x2 : Int} {x3 : Int} {x4 : Int}
  (h : xm_O (xm_fr (xm_old sc) w x0 2 3) (fun r1 => xm_O (xm_refs (xm_old sc) w r1) (fun l2 => xm_O (xm_at l2 x1) (fun r3 => xm_O r3 (fun y4 => xm_O (xm_fi (xm_old sc) w y4 4 1) (fun z5 => xm_O (xm_fi (xm_old sc) w y4 4 3) (fun z6 => xm_Oi (f 153 [.inl x2, .inl z5, .inl z6] w) (fun z8 w7 => xm_Oi (f 420 [.inr (.inl (some x0)), .inl x1, .inl 0] w7) (fun z10 w9 => xm_E (xm_old sc) xm_sta f xm_c419 21 [some (.inr (.inl (some x0))), some (.inl x1), some (.inl x2), some (.inl x3), some (.inl x4), some (.inr (.inl (some y4))), some (.inl z8), some (.inl x3), some (.inl z10), some (.inl 0), none, none, none] [] w9 q))))))))) :
  xm_E (xm_old sc) xm_sta f xm_c419 0 [some (.inr (.inl (some x0))), some (.inl x1), some (.inl x2), some (.inl x3), some (.inl x4), none, none, none, none, none, none, none, none] [] w q :=
  (xs_aload_n k_419_0 rfl (xs_getr k_419_1 rfl h (fun r1 h => (xs_iload_n k_419_2 rfl (xs_aaload k_419_3 h (fun l2 h => h) (fun l2 r3 h => (xs_astore k_419_4 rfl (xs_iload_n k_419_5 rfl (xs_aload k_419_6 rfl (match r3, h with
 | some y4, h => (xs_geti0 k_419_7 rfl h (fun z5 h => (xs_aload k_419_8 rfl (xs_geti0 k_419_9 rfl h (fun z6 h => (xs_invs1 k_419_10 xr_153 rfl rfl rfl h (fun z8 w7 h => (xs_istore k_419_11 rfl (xs_iload_n k_419_12 rfl (xs_istore k_419_13 rfl (xs_aload_n k_419_14 rfl (xs_iload_n k_419_15 rfl (xs_iconst k_419_16 (xs_invv1 k_419_17 xr_420 rfl rfl rfl h (fun z10 w9 h => (xs_istore k_419_18 rfl (xs_iconst k_419_19 (xs_istore k_419_20 rfl h))))))))))))))))))
 | none, h => False.elim h))))))))))
theorem xb_419_21 {sc : List Int} {f : Nat → List xm_V → xm_W → xm_R} {w : xm_W} {q : Option xm_V × xm_W} {x0 : Nat} {x1 : Int} {x2 : Int} {x3 : Int} {x4 : Int} {x5 : Option Nat} {x6 : Int} {x7 : Int} {x8 : Int} {x9 : Int} {u10 : Option xm_V} {u11 : Option xm_V} {u12 : Option xm_V}
  (h : xm_O x5 (fun y1 => xm_O (xm_fi (xm_old sc) w y1 4 4) (fun z2 => if (x9 : Int) < z2 then (xm_O (xm_fi (xm_old sc) w x0 2 2) (fun z3 => if ((xm_w (x4 + x9)) : Int) < z3 then (xm_O (xm_fr (xm_old sc) w y1 4 6) (fun r4 => xm_O (xm_ints (xm_old sc) w r4) (fun l5 => xm_O (xm_at l5 x9) (fun z6 => xm_Oi (f 150 [.inl x7, .inl z6] w) (fun z8 w7 => if (z8 : Int) < 0 then (xm_E (xm_old sc) xm_sta f xm_c419 21 [some (.inr (.inl (some x0))), some (.inl x1), some (.inl x2), some (.inl x3), some (.inl x4), some (.inr (.inl (some y1))), some (.inl x6), some (.inl x7), some (.inl x8), some (.inl (xm_w (x9 + 1))), some (.inl z6), some (.inl z8), u12] [] w7 q) else (xm_Oi (f 152 [.inl x2, .inl z6, .inl x9] w7) (fun z10 w9 => if (z10 : Int) < 0 then (xm_E (xm_old sc) xm_sta f xm_c419 21 [some (.inr (.inl (some x0))), some (.inl x1), some (.inl x2), some (.inl x3), some (.inl x4), some (.inr (.inl (some y1))), some (.inl x6), some (.inl z8), some (.inl x8), some (.inl (xm_w (x9 + 1))), some (.inl z6), some (.inl z8), some (.inl z10)] [] w9 q) else (xm_O (xm_fi (xm_old sc) w9 x0 2 2) (fun z11 => xm_Oi (f 403 [.inr (.inl (some x0)), .inl x7] w9) (fun z13 w12 => if ((xm_w ((xm_w (x4 + x9)) + z13)) : Int) < z11 then (xm_E (xm_old sc) xm_sta f xm_c419 21 [some (.inr (.inl (some x0))), some (.inl x1), some (.inl x2), some (.inl x3), some (.inl x4), some (.inr (.inl (some y1))), some (.inl x6), some (.inl z8), some (.inl x8), some (.inl (xm_w (x9 + 1))), some (.inl z6), some (.inl z8), some (.inl z10)] [] w12 q) else (if (x8 : Int) < 0 then (q = (some (.inl 0), w12)) else (xm_Oi (f 421 [.inr (.inl (some x0)), .inl x8, .inl x7, .inl z10, .inl x6, .inl (xm_w (x4 + x9))] w12) (fun z15 w14 => if (z15 : Int) = 0 then (q = (some (.inl 0), w14)) else (xm_Oi (f 420 [.inr (.inl (some x0)), .inl x1, .inl (xm_w (x8 + 1))] w14) (fun z17 w16 => xm_E (xm_old sc) xm_sta f xm_c419 21 [some (.inr (.inl (some x0))), some (.inl x1), some (.inl x2), some (.inl x3), some (.inl x4), some (.inr (.inl (some y1))), some (.inl x6), some (.inl z8), some (.inl z17), some (.inl (xm_w (x9 + 1))), some (.inl z6), some (.inl z8), some (.inl z10)] [] w16 q))))))))))))))) else (if (x8 : Int) < 0 then (q = (some (.inl 1), w)) else (q = (some (.inl 0), w))))) else (if (x8 : Int) < 0 then (q = (some (.inl 1), w)) else (q = (some (.inl 0), w)))))) :
  xm_E (xm_old sc) xm_sta f xm_c419 21 [some (.inr (.inl (some x0))), some (.inl x1), some (.inl x2), some (.inl x3), some (.inl x4), some (.inr (.inl x5)), some (.inl x6), some (.inl x7), some (.inl x8), some (.inl x9), u10, u11, u12] [] w q :=
  (xs_iload k_419_21 rfl (xs_aload k_419_22 rfl (match x5, h with
 | some y1, h => (xs_geti0 k_419_23 rfl h (fun z2 h => (xs_ic_ge k_419_24 h (fun h => (xs_iload k_419_25 rfl (xs_iload k_419_26 rfl (xs_iadd k_419_27 (xs_aload_n k_419_28 rfl (xs_geti0 k_419_29 rfl h (fun z3 h => (xs_ic_ge k_419_30 h (fun h => (xs_aload k_419_31 rfl (xs_getr k_419_32 rfl h (fun r4 h => (xs_iload k_419_33 rfl (xs_iaload k_419_34 h (fun l5 h => h) (fun l5 z6 h => (xs_istore k_419_35 rfl (xs_iload k_419_36 rfl (xs_iload k_419_37 rfl (xs_invs1 k_419_38 xr_150 rfl rfl rfl h (fun z8 w7 h => (xs_istore k_419_39 rfl (xs_iload k_419_40 rfl (xs_if_ge k_419_41 h (fun h => (xs_goto k_419_42 (xs_iinc k_419_83 rfl rfl (xs_goto k_419_84 h)))) (fun h => (xs_iload_n k_419_43 rfl (xs_iload k_419_44 rfl (xs_iload k_419_45 rfl (xs_invs1 k_419_46 xr_152 rfl rfl rfl h (fun z10 w9 h => (xs_istore k_419_47 rfl (xs_iload k_419_48 rfl (xs_if_lt k_419_49 h (fun h => (xs_iload k_419_81 rfl (xs_istore k_419_82 rfl (xs_iinc k_419_83 rfl rfl (xs_goto k_419_84 h))))) (fun h => (xs_aload_n k_419_50 rfl (xs_geti0 k_419_51 rfl h (fun z11 h => (xs_iload k_419_52 rfl (xs_iload k_419_53 rfl (xs_iadd k_419_54 (xs_aload_n k_419_55 rfl (xs_iload k_419_56 rfl (xs_invv1 k_419_57 xr_403 rfl rfl rfl h (fun z13 w12 h => (xs_iadd k_419_58 (xs_ic_gt k_419_59 h (fun h => (xs_iload k_419_81 rfl (xs_istore k_419_82 rfl (xs_iinc k_419_83 rfl rfl (xs_goto k_419_84 h))))) (fun h => (xs_iload k_419_60 rfl (xs_if_lt k_419_61 h (fun h => (xs_iconst k_419_72 (xs_ireturn k_419_73 h))) (fun h => (xs_aload_n k_419_62 rfl (xs_iload k_419_63 rfl (xs_iload k_419_64 rfl (xs_iload k_419_65 rfl (xs_iload k_419_66 rfl (xs_iload k_419_67 rfl (xs_iload k_419_68 rfl (xs_iadd k_419_69 (xs_invv2 k_419_70 xr_421 rfl rfl rfl h (fun z15 w14 h => (xs_if_ne k_419_71 h (fun h => (xs_iconst k_419_72 (xs_ireturn k_419_73 h))) (fun h => (xs_aload_n k_419_74 rfl (xs_iload_n k_419_75 rfl (xs_iload k_419_76 rfl (xs_iconst k_419_77 (xs_iadd k_419_78 (xs_invv1 k_419_79 xr_420 rfl rfl rfl h (fun z17 w16 h => (xs_istore k_419_80 rfl (xs_iload k_419_81 rfl (xs_istore k_419_82 rfl (xs_iinc k_419_83 rfl rfl (xs_goto k_419_84 h))))))))))))))))))))))))))))))))))))))))))))))))))))))))))))))))) (fun h => (xs_iload k_419_85 rfl (xs_if_ge k_419_86 h (fun h => (xs_iconst k_419_87 (xs_goto k_419_88 (xs_ireturn k_419_90 h)))) (fun h => (xs_iconst k_419_89 (xs_ireturn k_419_90 h)))))))))))))) (fun h => (xs_iload k_419_85 rfl (xs_if_ge k_419_86 h (fun h => (xs_iconst k_419_87 (xs_goto k_419_88 (xs_ireturn k_419_90 h)))) (fun h => (xs_iconst k_419_89 (xs_ireturn k_419_90 h)))))))))
 | none, h => False.elim h)))
/-- ShodBackwards$Moor.printOf(II)I -/
theorem k_420_0 : xm_c420[0]? = some (.iload_n 2, 0, 1, 2, 0, [], []) := by decide +kernel
theorem k_420_1 : xm_c420[1]? = some (.istore_n 3, 1, 2, 3, 0, [], []) := by decide +kernel
theorem k_420_2 : xm_c420[2]? = some (.iload_n 3, 2, 3, 3, 0, [], []) := by decide +kernel
theorem k_420_3 : xm_c420[3]? = some (.aload_n 0, 3, 4, 0, 0, [], []) := by decide +kernel
theorem k_420_4 : xm_c420[4]? = some (.getfield 57, 4, 5, 6, 2, [165], []) := by decide +kernel
theorem k_420_5 : xm_c420[5]? = some (.if_icmp .ge 25, 7, 6, 20, 0, [], []) := by decide +kernel
theorem k_420_6 : xm_c420[6]? = some (.aload_n 0, 10, 7, 0, 0, [], []) := by decide +kernel
theorem k_420_7 : xm_c420[7]? = some (.getfield 21, 11, 8, 5, 2, [163], []) := by decide +kernel
theorem k_420_8 : xm_c420[8]? = some (.iload_n 3, 14, 9, 3, 0, [], []) := by decide +kernel
theorem k_420_9 : xm_c420[9]? = some (.iconst 5, 15, 10, 0, 0, [], []) := by decide +kernel
theorem k_420_10 : xm_c420[10]? = some (.imul, 16, 11, 0, 0, [], []) := by decide +kernel
theorem k_420_11 : xm_c420[11]? = some (.iconst 4, 17, 12, 0, 0, [], []) := by decide +kernel
theorem k_420_12 : xm_c420[12]? = some (.iadd, 18, 13, 0, 0, [], []) := by decide +kernel
theorem k_420_13 : xm_c420[13]? = some (.iaload, 19, 14, 0, 0, [], []) := by decide +kernel
theorem k_420_14 : xm_c420[14]? = some (.iload_n 1, 20, 15, 1, 0, [], []) := by decide +kernel
theorem k_420_15 : xm_c420[15]? = some (.if_icmp .ne 5, 21, 16, 18, 0, [], []) := by decide +kernel
theorem k_420_16 : xm_c420[16]? = some (.iload_n 3, 24, 17, 3, 0, [], []) := by decide +kernel
theorem k_420_17 : xm_c420[17]? = some (.ireturn, 25, 0, 0, 0, [], []) := by decide +kernel
theorem k_420_18 : xm_c420[18]? = some (.iinc 3 1, 26, 19, 3, 0, [], []) := by decide +kernel
theorem k_420_19 : xm_c420[19]? = some (.goto (-27), 29, 20, 2, 0, [], []) := by decide +kernel
theorem k_420_20 : xm_c420[20]? = some (.iconst (-1), 32, 21, 0, 0, [], []) := by decide +kernel
theorem k_420_21 : xm_c420[21]? = some (.ireturn, 33, 0, 0, 0, [], []) := by decide +kernel
theorem xb_420_0 {sc : List Int} {f : Nat → List xm_V → xm_W → xm_R} {w : xm_W} {q : Option xm_V × xm_W} {x0 : Nat} {x1 : Int} {x2 : Int}
  (h : xm_E (xm_old sc) xm_sta f xm_c420 2 [some (.inr (.inl (some x0))), some (.inl x1), some (.inl x2), some (.inl x2)] [] w q) :
  xm_E (xm_old sc) xm_sta f xm_c420 0 [some (.inr (.inl (some x0))), some (.inl x1), some (.inl x2), none] [] w q :=
  (xs_iload_n k_420_0 rfl (xs_istore_n k_420_1 rfl h))
theorem xb_420_2 {sc : List Int} {f : Nat → List xm_V → xm_W → xm_R} {w : xm_W} {q : Option xm_V × xm_W} {x0 : Nat} {x1 : Int} {x2 : Int} {x3 : Int}
  (h : xm_O (xm_fi (xm_old sc) w x0 2 6) (fun z1 => if (x3 : Int) < z1 then (xm_O (xm_fr (xm_old sc) w x0 2 5) (fun r2 => xm_O (xm_ints (xm_old sc) w r2) (fun l3 => xm_O (xm_at l3 (xm_w ((xm_w (x3 * 5)) + 4))) (fun z4 => if (z4 : Int) = x1 then (q = (some (.inl x3), w)) else (xm_E (xm_old sc) xm_sta f xm_c420 2 [some (.inr (.inl (some x0))), some (.inl x1), some (.inl x2), some (.inl (xm_w (x3 + 1)))] [] w q))))) else (q = (some (.inl (-1)), w)))) :
  xm_E (xm_old sc) xm_sta f xm_c420 2 [some (.inr (.inl (some x0))), some (.inl x1), some (.inl x2), some (.inl x3)] [] w q :=
  (xs_iload_n k_420_2 rfl (xs_aload_n k_420_3 rfl (xs_geti0 k_420_4 rfl h (fun z1 h => (xs_ic_ge k_420_5 h (fun h => (xs_aload_n k_420_6 rfl (xs_getr k_420_7 rfl h (fun r2 h => (xs_iload_n k_420_8 rfl (xs_iconst k_420_9 (xs_imul k_420_10 (xs_iconst k_420_11 (xs_iadd k_420_12 (xs_iaload k_420_13 h (fun l3 h => h) (fun l3 z4 h => (xs_iload_n k_420_14 rfl (xs_ic_ne k_420_15 h (fun h => (xs_iload_n k_420_16 rfl (xs_ireturn k_420_17 h))) (fun h => (xs_iinc k_420_18 rfl rfl (xs_goto k_420_19 h)))))))))))))))) (fun h => (xs_iconst k_420_20 (xs_ireturn k_420_21 h))))))))
/-- ShodBackwards$Moor.isPrint(IIIII)Z -/
theorem k_421_0 : xm_c421[0]? = some (.iload_n 1, 0, 1, 1, 0, [], []) := by decide +kernel
theorem k_421_1 : xm_c421[1]? = some (.iconst 5, 1, 2, 0, 0, [], []) := by decide +kernel
theorem k_421_2 : xm_c421[2]? = some (.imul, 2, 3, 0, 0, [], []) := by decide +kernel
theorem k_421_3 : xm_c421[3]? = some (.istore 6, 3, 4, 6, 0, [], []) := by decide +kernel
theorem k_421_4 : xm_c421[4]? = some (.aload_n 0, 5, 5, 0, 0, [], []) := by decide +kernel
theorem k_421_5 : xm_c421[5]? = some (.getfield 21, 6, 6, 5, 2, [163], []) := by decide +kernel
theorem k_421_6 : xm_c421[6]? = some (.iload 6, 9, 7, 6, 0, [], []) := by decide +kernel
theorem k_421_7 : xm_c421[7]? = some (.iconst 0, 11, 8, 0, 0, [], []) := by decide +kernel
theorem k_421_8 : xm_c421[8]? = some (.iadd, 12, 9, 0, 0, [], []) := by decide +kernel
theorem k_421_9 : xm_c421[9]? = some (.iaload, 13, 10, 0, 0, [], []) := by decide +kernel
theorem k_421_10 : xm_c421[10]? = some (.iload_n 2, 14, 11, 2, 0, [], []) := by decide +kernel
theorem k_421_11 : xm_c421[11]? = some (.if_icmp .ne 48, 15, 12, 38, 0, [], []) := by decide +kernel
theorem k_421_12 : xm_c421[12]? = some (.aload_n 0, 18, 13, 0, 0, [], []) := by decide +kernel
theorem k_421_13 : xm_c421[13]? = some (.getfield 21, 19, 14, 5, 2, [163], []) := by decide +kernel
theorem k_421_14 : xm_c421[14]? = some (.iload 6, 22, 15, 6, 0, [], []) := by decide +kernel
theorem k_421_15 : xm_c421[15]? = some (.iconst 1, 24, 16, 0, 0, [], []) := by decide +kernel
theorem k_421_16 : xm_c421[16]? = some (.iadd, 25, 17, 0, 0, [], []) := by decide +kernel
theorem k_421_17 : xm_c421[17]? = some (.iaload, 26, 18, 0, 0, [], []) := by decide +kernel
theorem k_421_18 : xm_c421[18]? = some (.iload_n 3, 27, 19, 3, 0, [], []) := by decide +kernel
theorem k_421_19 : xm_c421[19]? = some (.if_icmp .ne 35, 28, 20, 38, 0, [], []) := by decide +kernel
theorem k_421_20 : xm_c421[20]? = some (.aload_n 0, 31, 21, 0, 0, [], []) := by decide +kernel
theorem k_421_21 : xm_c421[21]? = some (.getfield 21, 32, 22, 5, 2, [163], []) := by decide +kernel
theorem k_421_22 : xm_c421[22]? = some (.iload 6, 35, 23, 6, 0, [], []) := by decide +kernel
theorem k_421_23 : xm_c421[23]? = some (.iconst 2, 37, 24, 0, 0, [], []) := by decide +kernel
theorem k_421_24 : xm_c421[24]? = some (.iadd, 38, 25, 0, 0, [], []) := by decide +kernel
theorem k_421_25 : xm_c421[25]? = some (.iaload, 39, 26, 0, 0, [], []) := by decide +kernel
theorem k_421_26 : xm_c421[26]? = some (.iload 4, 40, 27, 4, 0, [], []) := by decide +kernel
theorem k_421_27 : xm_c421[27]? = some (.if_icmp .ne 21, 42, 28, 38, 0, [], []) := by decide +kernel
theorem k_421_28 : xm_c421[28]? = some (.aload_n 0, 45, 29, 0, 0, [], []) := by decide +kernel
theorem k_421_29 : xm_c421[29]? = some (.getfield 21, 46, 30, 5, 2, [163], []) := by decide +kernel
theorem k_421_30 : xm_c421[30]? = some (.iload 6, 49, 31, 6, 0, [], []) := by decide +kernel
theorem k_421_31 : xm_c421[31]? = some (.iconst 3, 51, 32, 0, 0, [], []) := by decide +kernel
theorem k_421_32 : xm_c421[32]? = some (.iadd, 52, 33, 0, 0, [], []) := by decide +kernel
theorem k_421_33 : xm_c421[33]? = some (.iaload, 53, 34, 0, 0, [], []) := by decide +kernel
theorem k_421_34 : xm_c421[34]? = some (.iload 5, 54, 35, 5, 0, [], []) := by decide +kernel
theorem k_421_35 : xm_c421[35]? = some (.if_icmp .ne 7, 56, 36, 38, 0, [], []) := by decide +kernel
theorem k_421_36 : xm_c421[36]? = some (.iconst 1, 59, 37, 0, 0, [], []) := by decide +kernel
theorem k_421_37 : xm_c421[37]? = some (.goto 4, 60, 38, 39, 0, [], []) := by decide +kernel
theorem k_421_38 : xm_c421[38]? = some (.iconst 0, 63, 39, 0, 0, [], []) := by decide +kernel
theorem k_421_39 : xm_c421[39]? = some (.ireturn, 64, 0, 0, 0, [], []) := by decide +kernel
theorem xb_421_0 {sc : List Int} {f : Nat → List xm_V → xm_W → xm_R} {w : xm_W} {q : Option xm_V × xm_W} {x0 : Nat} {x1 : Int} {x2 : Int} {x3 : Int} {x4 : Int} {x5 : Int}
  (h : xm_O (xm_fr (xm_old sc) w x0 2 5) (fun r1 => xm_O (xm_ints (xm_old sc) w r1) (fun l2 => xm_O (xm_at l2 (xm_w ((xm_w (x1 * 5)) + 0))) (fun z3 => if (z3 : Int) = x2 then (xm_O (xm_fr (xm_old sc) w x0 2 5) (fun r4 => xm_O (xm_ints (xm_old sc) w r4) (fun l5 => xm_O (xm_at l5 (xm_w ((xm_w (x1 * 5)) + 1))) (fun z6 => if (z6 : Int) = x3 then (xm_O (xm_fr (xm_old sc) w x0 2 5) (fun r7 => xm_O (xm_ints (xm_old sc) w r7) (fun l8 => xm_O (xm_at l8 (xm_w ((xm_w (x1 * 5)) + 2))) (fun z9 => if (z9 : Int) = x4 then (xm_O (xm_fr (xm_old sc) w x0 2 5) (fun r10 => xm_O (xm_ints (xm_old sc) w r10) (fun l11 => xm_O (xm_at l11 (xm_w ((xm_w (x1 * 5)) + 3))) (fun z12 => if (z12 : Int) = x5 then (q = (some (.inl 1), w)) else (q = (some (.inl 0), w)))))) else (q = (some (.inl 0), w)))))) else (q = (some (.inl 0), w)))))) else (q = (some (.inl 0), w)))))) :
  xm_E (xm_old sc) xm_sta f xm_c421 0 [some (.inr (.inl (some x0))), some (.inl x1), some (.inl x2), some (.inl x3), some (.inl x4), some (.inl x5), none] [] w q :=
  (xs_iload_n k_421_0 rfl (xs_iconst k_421_1 (xs_imul k_421_2 (xs_istore k_421_3 rfl (xs_aload_n k_421_4 rfl (xs_getr k_421_5 rfl h (fun r1 h => (xs_iload k_421_6 rfl (xs_iconst k_421_7 (xs_iadd k_421_8 (xs_iaload k_421_9 h (fun l2 h => h) (fun l2 z3 h => (xs_iload_n k_421_10 rfl (xs_ic_ne k_421_11 h (fun h => (xs_aload_n k_421_12 rfl (xs_getr k_421_13 rfl h (fun r4 h => (xs_iload k_421_14 rfl (xs_iconst k_421_15 (xs_iadd k_421_16 (xs_iaload k_421_17 h (fun l5 h => h) (fun l5 z6 h => (xs_iload_n k_421_18 rfl (xs_ic_ne k_421_19 h (fun h => (xs_aload_n k_421_20 rfl (xs_getr k_421_21 rfl h (fun r7 h => (xs_iload k_421_22 rfl (xs_iconst k_421_23 (xs_iadd k_421_24 (xs_iaload k_421_25 h (fun l8 h => h) (fun l8 z9 h => (xs_iload k_421_26 rfl (xs_ic_ne k_421_27 h (fun h => (xs_aload_n k_421_28 rfl (xs_getr k_421_29 rfl h (fun r10 h => (xs_iload k_421_30 rfl (xs_iconst k_421_31 (xs_iadd k_421_32 (xs_iaload k_421_33 h (fun l11 h => h) (fun l11 z12 h => (xs_iload k_421_34 rfl (xs_ic_ne k_421_35 h (fun h => (xs_iconst k_421_36 (xs_goto k_421_37 (xs_ireturn k_421_39 h)))) (fun h => (xs_iconst k_421_38 (xs_ireturn k_421_39 h)))))))))))))) (fun h => (xs_iconst k_421_38 (xs_ireturn k_421_39 h)))))))))))))) (fun h => (xs_iconst k_421_38 (xs_ireturn k_421_39 h)))))))))))))) (fun h => (xs_iconst k_421_38 (xs_ireturn k_421_39 h)))))))))))))))))
