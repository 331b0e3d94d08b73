/-! every field and row of the world by its number -/
section yz_sec
variable {o : xm_W} {m : Nat → Nat → Int} {t : xm_W} {v z x : Int}
theorem yr_0_0 : xm_fr o (yy_W m t) 0 8 0 = some 1 := yy_fr rfl (by decide) rfl
theorem yr_0_1 : xm_fr o (yy_W m t) 0 8 1 = some 18 := yy_fr rfl (by decide) rfl
theorem yr_0_2 : xm_fr o (yy_W m t) 0 8 2 = some 35 := yy_fr rfl (by decide) rfl
theorem yr_0_3 : xm_fr o (yy_W m t) 0 8 3 = some 38 := yy_fr rfl (by decide) rfl
theorem yr_0_4 : xm_fr o (yy_W m t) 0 8 4 = some 55 := yy_fr rfl (by decide) rfl
theorem yf_0_5 : xm_fi o (yy_W m t) 0 8 5 = some (m 0 5) := yy_fi rfl (by decide) rfl
theorem ys_0_5 : xm_setf (yy_W m t) 0 8 5 0 (.inl v) = some (yy_W (yy_s m 0 5 v) t) := yy_setf rfl (by decide) rfl rfl
theorem yr_0_6 : xm_fr o (yy_W m t) 0 8 6 = some 58 := yy_fr rfl (by decide) rfl
theorem yr_0_7 : xm_fr o (yy_W m t) 0 8 7 = some 61 := yy_fr rfl (by decide) rfl
theorem yr_0_8 : xm_fr o (yy_W m t) 0 8 8 = some 63 := yy_fr rfl (by decide) rfl
theorem yr_0_9 : xm_fr o (yy_W m t) 0 8 9 = some 64 := yy_fr rfl (by decide) rfl
theorem yr_0_10 : xm_fr o (yy_W m t) 0 8 10 = some 65 := yy_fr rfl (by decide) rfl
theorem yr_1_0 : xm_fr o (yy_W m t) 1 2 0 = some 2 := yy_fr rfl (by decide) rfl
theorem yf_1_1 : xm_fi o (yy_W m t) 1 2 1 = some (m 1 1) := yy_fi rfl (by decide) rfl
theorem ys_1_1 : xm_setf (yy_W m t) 1 2 1 0 (.inl v) = some (yy_W (yy_s m 1 1 v) t) := yy_setf rfl (by decide) rfl rfl
theorem yf_1_2 : xm_fi o (yy_W m t) 1 2 2 = some (m 1 2) := yy_fi rfl (by decide) rfl
theorem ys_1_2 : xm_setf (yy_W m t) 1 2 2 0 (.inl v) = some (yy_W (yy_s m 1 2 v) t) := yy_setf rfl (by decide) rfl rfl
theorem yr_1_3 : xm_fr o (yy_W m t) 1 2 3 = some 3 := yy_fr rfl (by decide) rfl
theorem yf_1_4 : xm_fi o (yy_W m t) 1 2 4 = some (m 1 4) := yy_fi rfl (by decide) rfl
theorem ys_1_4 : xm_setf (yy_W m t) 1 2 4 0 (.inl v) = some (yy_W (yy_s m 1 4 v) t) := yy_setf rfl (by decide) rfl rfl
theorem yr_1_5 : xm_fr o (yy_W m t) 1 2 5 = some 4 := yy_fr rfl (by decide) rfl
theorem yf_1_6 : xm_fi o (yy_W m t) 1 2 6 = some (m 1 6) := yy_fi rfl (by decide) rfl
theorem ys_1_6 : xm_setf (yy_W m t) 1 2 6 0 (.inl v) = some (yy_W (yy_s m 1 6 v) t) := yy_setf rfl (by decide) rfl rfl
theorem yr_1_7 : xm_fr o (yy_W m t) 1 2 7 = some 5 := yy_fr rfl (by decide) rfl
theorem yr_1_8 : xm_fr o (yy_W m t) 1 2 8 = some 6 := yy_fr rfl (by decide) rfl
theorem yr_1_9 : xm_fr o (yy_W m t) 1 2 9 = some 7 := yy_fr rfl (by decide) rfl
theorem yi_2 : xm_ints o (yy_W m t) 2 = some (yy_R 36 (m 2)) := yy_ints rfl
theorem yt_2 (h0 : 0 ≤ z) (h1 : z < 36) : xm_seti (yy_W m t) 2 z x = some (yy_W (yy_s m 2 z.toNat x) t) := yy_seti rfl h0 h1
theorem yq_3 : xm_refs o (yy_W m t) 3 = some (yy_qs (m 3) 0 [10, 12, 14, 16, 18]) := yy_refs rfl (by decide)
theorem yi_4 : xm_ints o (yy_W m t) 4 = some (yy_R 200 (m 4)) := yy_ints rfl
theorem yt_4 (h0 : 0 ≤ z) (h1 : z < 200) : xm_seti (yy_W m t) 4 z x = some (yy_W (yy_s m 4 z.toNat x) t) := yy_seti rfl h0 h1
theorem yq_5 : xm_refs o (yy_W m t) 5 = some (yy_qs (m 5) 0 [1, 1]) := yy_refs rfl (by decide)
theorem yi_6 : xm_ints o (yy_W m t) 6 = some (yy_R 4 (m 6)) := yy_ints rfl
theorem yt_6 (h0 : 0 ≤ z) (h1 : z < 4) : xm_seti (yy_W m t) 6 z x = some (yy_W (yy_s m 6 z.toNat x) t) := yy_seti rfl h0 h1
theorem yi_7 : xm_ints o (yy_W m t) 7 = some (yy_R 60 (m 7)) := yy_ints rfl
theorem yt_7 (h0 : 0 ≤ z) (h1 : z < 60) : xm_seti (yy_W m t) 7 z x = some (yy_W (yy_s m 7 z.toNat x) t) := yy_seti rfl h0 h1
theorem yf_8_0 : xm_fi o (yy_W m t) 8 4 0 = some (m 8 0) := yy_fi rfl (by decide) rfl
theorem ys_8_0 : xm_setf (yy_W m t) 8 4 0 0 (.inl v) = some (yy_W (yy_s m 8 0 v) t) := yy_setf rfl (by decide) rfl rfl
theorem yf_8_1 : xm_fi o (yy_W m t) 8 4 1 = some (m 8 1) := yy_fi rfl (by decide) rfl
theorem ys_8_1 : xm_setf (yy_W m t) 8 4 1 0 (.inl v) = some (yy_W (yy_s m 8 1 v) t) := yy_setf rfl (by decide) rfl rfl
theorem yf_8_2 : xm_fi o (yy_W m t) 8 4 2 = some (m 8 2) := yy_fi rfl (by decide) rfl
theorem ys_8_2 : xm_setf (yy_W m t) 8 4 2 0 (.inl v) = some (yy_W (yy_s m 8 2 v) t) := yy_setf rfl (by decide) rfl rfl
theorem yf_8_3 : xm_fi o (yy_W m t) 8 4 3 = some (m 8 3) := yy_fi rfl (by decide) rfl
theorem ys_8_3 : xm_setf (yy_W m t) 8 4 3 0 (.inl v) = some (yy_W (yy_s m 8 3 v) t) := yy_setf rfl (by decide) rfl rfl
theorem yf_8_4 : xm_fi o (yy_W m t) 8 4 4 = some (m 8 4) := yy_fi rfl (by decide) rfl
theorem ys_8_4 : xm_setf (yy_W m t) 8 4 4 0 (.inl v) = some (yy_W (yy_s m 8 4 v) t) := yy_setf rfl (by decide) rfl rfl
theorem yf_8_5 : xm_fi o (yy_W m t) 8 4 5 = some (m 8 5) := yy_fi rfl (by decide) rfl
theorem ys_8_5 : xm_setf (yy_W m t) 8 4 5 0 (.inl v) = some (yy_W (yy_s m 8 5 v) t) := yy_setf rfl (by decide) rfl rfl
theorem yr_8_6 : xm_fr o (yy_W m t) 8 4 6 = some 9 := yy_fr rfl (by decide) rfl
theorem yi_9 : xm_ints o (yy_W m t) 9 = some (yy_R 12 (m 9)) := yy_ints rfl
theorem yt_9 (h0 : 0 ≤ z) (h1 : z < 12) : xm_seti (yy_W m t) 9 z x = some (yy_W (yy_s m 9 z.toNat x) t) := yy_seti rfl h0 h1
theorem yf_10_0 : xm_fi o (yy_W m t) 10 4 0 = some (m 10 0) := yy_fi rfl (by decide) rfl
theorem ys_10_0 : xm_setf (yy_W m t) 10 4 0 0 (.inl v) = some (yy_W (yy_s m 10 0 v) t) := yy_setf rfl (by decide) rfl rfl
theorem yf_10_1 : xm_fi o (yy_W m t) 10 4 1 = some (m 10 1) := yy_fi rfl (by decide) rfl
theorem ys_10_1 : xm_setf (yy_W m t) 10 4 1 0 (.inl v) = some (yy_W (yy_s m 10 1 v) t) := yy_setf rfl (by decide) rfl rfl
theorem yf_10_2 : xm_fi o (yy_W m t) 10 4 2 = some (m 10 2) := yy_fi rfl (by decide) rfl
theorem ys_10_2 : xm_setf (yy_W m t) 10 4 2 0 (.inl v) = some (yy_W (yy_s m 10 2 v) t) := yy_setf rfl (by decide) rfl rfl
theorem yf_10_3 : xm_fi o (yy_W m t) 10 4 3 = some (m 10 3) := yy_fi rfl (by decide) rfl
theorem ys_10_3 : xm_setf (yy_W m t) 10 4 3 0 (.inl v) = some (yy_W (yy_s m 10 3 v) t) := yy_setf rfl (by decide) rfl rfl
theorem yf_10_4 : xm_fi o (yy_W m t) 10 4 4 = some (m 10 4) := yy_fi rfl (by decide) rfl
theorem ys_10_4 : xm_setf (yy_W m t) 10 4 4 0 (.inl v) = some (yy_W (yy_s m 10 4 v) t) := yy_setf rfl (by decide) rfl rfl
theorem yf_10_5 : xm_fi o (yy_W m t) 10 4 5 = some (m 10 5) := yy_fi rfl (by decide) rfl
theorem ys_10_5 : xm_setf (yy_W m t) 10 4 5 0 (.inl v) = some (yy_W (yy_s m 10 5 v) t) := yy_setf rfl (by decide) rfl rfl
theorem yr_10_6 : xm_fr o (yy_W m t) 10 4 6 = some 11 := yy_fr rfl (by decide) rfl
theorem yi_11 : xm_ints o (yy_W m t) 11 = some (yy_R 12 (m 11)) := yy_ints rfl
theorem yt_11 (h0 : 0 ≤ z) (h1 : z < 12) : xm_seti (yy_W m t) 11 z x = some (yy_W (yy_s m 11 z.toNat x) t) := yy_seti rfl h0 h1
theorem yf_12_0 : xm_fi o (yy_W m t) 12 4 0 = some (m 12 0) := yy_fi rfl (by decide) rfl
theorem ys_12_0 : xm_setf (yy_W m t) 12 4 0 0 (.inl v) = some (yy_W (yy_s m 12 0 v) t) := yy_setf rfl (by decide) rfl rfl
theorem yf_12_1 : xm_fi o (yy_W m t) 12 4 1 = some (m 12 1) := yy_fi rfl (by decide) rfl
theorem ys_12_1 : xm_setf (yy_W m t) 12 4 1 0 (.inl v) = some (yy_W (yy_s m 12 1 v) t) := yy_setf rfl (by decide) rfl rfl
theorem yf_12_2 : xm_fi o (yy_W m t) 12 4 2 = some (m 12 2) := yy_fi rfl (by decide) rfl
theorem ys_12_2 : xm_setf (yy_W m t) 12 4 2 0 (.inl v) = some (yy_W (yy_s m 12 2 v) t) := yy_setf rfl (by decide) rfl rfl
theorem yf_12_3 : xm_fi o (yy_W m t) 12 4 3 = some (m 12 3) := yy_fi rfl (by decide) rfl
theorem ys_12_3 : xm_setf (yy_W m t) 12 4 3 0 (.inl v) = some (yy_W (yy_s m 12 3 v) t) := yy_setf rfl (by decide) rfl rfl
theorem yf_12_4 : xm_fi o (yy_W m t) 12 4 4 = some (m 12 4) := yy_fi rfl (by decide) rfl
theorem ys_12_4 : xm_setf (yy_W m t) 12 4 4 0 (.inl v) = some (yy_W (yy_s m 12 4 v) t) := yy_setf rfl (by decide) rfl rfl
theorem yf_12_5 : xm_fi o (yy_W m t) 12 4 5 = some (m 12 5) := yy_fi rfl (by decide) rfl
theorem ys_12_5 : xm_setf (yy_W m t) 12 4 5 0 (.inl v) = some (yy_W (yy_s m 12 5 v) t) := yy_setf rfl (by decide) rfl rfl
theorem yr_12_6 : xm_fr o (yy_W m t) 12 4 6 = some 13 := yy_fr rfl (by decide) rfl
theorem yi_13 : xm_ints o (yy_W m t) 13 = some (yy_R 12 (m 13)) := yy_ints rfl
theorem yt_13 (h0 : 0 ≤ z) (h1 : z < 12) : xm_seti (yy_W m t) 13 z x = some (yy_W (yy_s m 13 z.toNat x) t) := yy_seti rfl h0 h1
theorem yf_14_0 : xm_fi o (yy_W m t) 14 4 0 = some (m 14 0) := yy_fi rfl (by decide) rfl
theorem ys_14_0 : xm_setf (yy_W m t) 14 4 0 0 (.inl v) = some (yy_W (yy_s m 14 0 v) t) := yy_setf rfl (by decide) rfl rfl
theorem yf_14_1 : xm_fi o (yy_W m t) 14 4 1 = some (m 14 1) := yy_fi rfl (by decide) rfl
theorem ys_14_1 : xm_setf (yy_W m t) 14 4 1 0 (.inl v) = some (yy_W (yy_s m 14 1 v) t) := yy_setf rfl (by decide) rfl rfl
theorem yf_14_2 : xm_fi o (yy_W m t) 14 4 2 = some (m 14 2) := yy_fi rfl (by decide) rfl
theorem ys_14_2 : xm_setf (yy_W m t) 14 4 2 0 (.inl v) = some (yy_W (yy_s m 14 2 v) t) := yy_setf rfl (by decide) rfl rfl
theorem yf_14_3 : xm_fi o (yy_W m t) 14 4 3 = some (m 14 3) := yy_fi rfl (by decide) rfl
theorem ys_14_3 : xm_setf (yy_W m t) 14 4 3 0 (.inl v) = some (yy_W (yy_s m 14 3 v) t) := yy_setf rfl (by decide) rfl rfl
theorem yf_14_4 : xm_fi o (yy_W m t) 14 4 4 = some (m 14 4) := yy_fi rfl (by decide) rfl
theorem ys_14_4 : xm_setf (yy_W m t) 14 4 4 0 (.inl v) = some (yy_W (yy_s m 14 4 v) t) := yy_setf rfl (by decide) rfl rfl
theorem yf_14_5 : xm_fi o (yy_W m t) 14 4 5 = some (m 14 5) := yy_fi rfl (by decide) rfl
theorem ys_14_5 : xm_setf (yy_W m t) 14 4 5 0 (.inl v) = some (yy_W (yy_s m 14 5 v) t) := yy_setf rfl (by decide) rfl rfl
theorem yr_14_6 : xm_fr o (yy_W m t) 14 4 6 = some 15 := yy_fr rfl (by decide) rfl
theorem yi_15 : xm_ints o (yy_W m t) 15 = some (yy_R 12 (m 15)) := yy_ints rfl
theorem yt_15 (h0 : 0 ≤ z) (h1 : z < 12) : xm_seti (yy_W m t) 15 z x = some (yy_W (yy_s m 15 z.toNat x) t) := yy_seti rfl h0 h1
theorem yf_16_0 : xm_fi o (yy_W m t) 16 4 0 = some (m 16 0) := yy_fi rfl (by decide) rfl
theorem ys_16_0 : xm_setf (yy_W m t) 16 4 0 0 (.inl v) = some (yy_W (yy_s m 16 0 v) t) := yy_setf rfl (by decide) rfl rfl
theorem yf_16_1 : xm_fi o (yy_W m t) 16 4 1 = some (m 16 1) := yy_fi rfl (by decide) rfl
theorem ys_16_1 : xm_setf (yy_W m t) 16 4 1 0 (.inl v) = some (yy_W (yy_s m 16 1 v) t) := yy_setf rfl (by decide) rfl rfl
theorem yf_16_2 : xm_fi o (yy_W m t) 16 4 2 = some (m 16 2) := yy_fi rfl (by decide) rfl
theorem ys_16_2 : xm_setf (yy_W m t) 16 4 2 0 (.inl v) = some (yy_W (yy_s m 16 2 v) t) := yy_setf rfl (by decide) rfl rfl
theorem yf_16_3 : xm_fi o (yy_W m t) 16 4 3 = some (m 16 3) := yy_fi rfl (by decide) rfl
theorem ys_16_3 : xm_setf (yy_W m t) 16 4 3 0 (.inl v) = some (yy_W (yy_s m 16 3 v) t) := yy_setf rfl (by decide) rfl rfl
theorem yf_16_4 : xm_fi o (yy_W m t) 16 4 4 = some (m 16 4) := yy_fi rfl (by decide) rfl
theorem ys_16_4 : xm_setf (yy_W m t) 16 4 4 0 (.inl v) = some (yy_W (yy_s m 16 4 v) t) := yy_setf rfl (by decide) rfl rfl
theorem yf_16_5 : xm_fi o (yy_W m t) 16 4 5 = some (m 16 5) := yy_fi rfl (by decide) rfl
theorem ys_16_5 : xm_setf (yy_W m t) 16 4 5 0 (.inl v) = some (yy_W (yy_s m 16 5 v) t) := yy_setf rfl (by decide) rfl rfl
theorem yr_16_6 : xm_fr o (yy_W m t) 16 4 6 = some 17 := yy_fr rfl (by decide) rfl
theorem yi_17 : xm_ints o (yy_W m t) 17 = some (yy_R 12 (m 17)) := yy_ints rfl
theorem yt_17 (h0 : 0 ≤ z) (h1 : z < 12) : xm_seti (yy_W m t) 17 z x = some (yy_W (yy_s m 17 z.toNat x) t) := yy_seti rfl h0 h1
theorem yr_18_0 : xm_fr o (yy_W m t) 18 2 0 = some 19 := yy_fr rfl (by decide) rfl
theorem yf_18_1 : xm_fi o (yy_W m t) 18 2 1 = some (m 18 1) := yy_fi rfl (by decide) rfl
theorem ys_18_1 : xm_setf (yy_W m t) 18 2 1 0 (.inl v) = some (yy_W (yy_s m 18 1 v) t) := yy_setf rfl (by decide) rfl rfl
theorem yf_18_2 : xm_fi o (yy_W m t) 18 2 2 = some (m 18 2) := yy_fi rfl (by decide) rfl
theorem ys_18_2 : xm_setf (yy_W m t) 18 2 2 0 (.inl v) = some (yy_W (yy_s m 18 2 v) t) := yy_setf rfl (by decide) rfl rfl
theorem yr_18_3 : xm_fr o (yy_W m t) 18 2 3 = some 20 := yy_fr rfl (by decide) rfl
theorem yf_18_4 : xm_fi o (yy_W m t) 18 2 4 = some (m 18 4) := yy_fi rfl (by decide) rfl
theorem ys_18_4 : xm_setf (yy_W m t) 18 2 4 0 (.inl v) = some (yy_W (yy_s m 18 4 v) t) := yy_setf rfl (by decide) rfl rfl
theorem yr_18_5 : xm_fr o (yy_W m t) 18 2 5 = some 21 := yy_fr rfl (by decide) rfl
theorem yf_18_6 : xm_fi o (yy_W m t) 18 2 6 = some (m 18 6) := yy_fi rfl (by decide) rfl
theorem ys_18_6 : xm_setf (yy_W m t) 18 2 6 0 (.inl v) = some (yy_W (yy_s m 18 6 v) t) := yy_setf rfl (by decide) rfl rfl
theorem yr_18_7 : xm_fr o (yy_W m t) 18 2 7 = some 22 := yy_fr rfl (by decide) rfl
theorem yr_18_8 : xm_fr o (yy_W m t) 18 2 8 = some 23 := yy_fr rfl (by decide) rfl
theorem yr_18_9 : xm_fr o (yy_W m t) 18 2 9 = some 24 := yy_fr rfl (by decide) rfl
theorem yi_19 : xm_ints o (yy_W m t) 19 = some (yy_R 36 (m 19)) := yy_ints rfl
theorem yt_19 (h0 : 0 ≤ z) (h1 : z < 36) : xm_seti (yy_W m t) 19 z x = some (yy_W (yy_s m 19 z.toNat x) t) := yy_seti rfl h0 h1
theorem yq_20 : xm_refs o (yy_W m t) 20 = some (yy_qs (m 20) 0 [27, 29, 31, 33, 35]) := yy_refs rfl (by decide)
theorem yi_21 : xm_ints o (yy_W m t) 21 = some (yy_R 200 (m 21)) := yy_ints rfl
theorem yt_21 (h0 : 0 ≤ z) (h1 : z < 200) : xm_seti (yy_W m t) 21 z x = some (yy_W (yy_s m 21 z.toNat x) t) := yy_seti rfl h0 h1
theorem yq_22 : xm_refs o (yy_W m t) 22 = some (yy_qs (m 22) 0 [1, 1]) := yy_refs rfl (by decide)
theorem yi_23 : xm_ints o (yy_W m t) 23 = some (yy_R 4 (m 23)) := yy_ints rfl
theorem yt_23 (h0 : 0 ≤ z) (h1 : z < 4) : xm_seti (yy_W m t) 23 z x = some (yy_W (yy_s m 23 z.toNat x) t) := yy_seti rfl h0 h1
theorem yi_24 : xm_ints o (yy_W m t) 24 = some (yy_R 60 (m 24)) := yy_ints rfl
theorem yt_24 (h0 : 0 ≤ z) (h1 : z < 60) : xm_seti (yy_W m t) 24 z x = some (yy_W (yy_s m 24 z.toNat x) t) := yy_seti rfl h0 h1
theorem yf_25_0 : xm_fi o (yy_W m t) 25 4 0 = some (m 25 0) := yy_fi rfl (by decide) rfl
theorem ys_25_0 : xm_setf (yy_W m t) 25 4 0 0 (.inl v) = some (yy_W (yy_s m 25 0 v) t) := yy_setf rfl (by decide) rfl rfl
theorem yf_25_1 : xm_fi o (yy_W m t) 25 4 1 = some (m 25 1) := yy_fi rfl (by decide) rfl
theorem ys_25_1 : xm_setf (yy_W m t) 25 4 1 0 (.inl v) = some (yy_W (yy_s m 25 1 v) t) := yy_setf rfl (by decide) rfl rfl
theorem yf_25_2 : xm_fi o (yy_W m t) 25 4 2 = some (m 25 2) := yy_fi rfl (by decide) rfl
theorem ys_25_2 : xm_setf (yy_W m t) 25 4 2 0 (.inl v) = some (yy_W (yy_s m 25 2 v) t) := yy_setf rfl (by decide) rfl rfl
theorem yf_25_3 : xm_fi o (yy_W m t) 25 4 3 = some (m 25 3) := yy_fi rfl (by decide) rfl
theorem ys_25_3 : xm_setf (yy_W m t) 25 4 3 0 (.inl v) = some (yy_W (yy_s m 25 3 v) t) := yy_setf rfl (by decide) rfl rfl
theorem yf_25_4 : xm_fi o (yy_W m t) 25 4 4 = some (m 25 4) := yy_fi rfl (by decide) rfl
theorem ys_25_4 : xm_setf (yy_W m t) 25 4 4 0 (.inl v) = some (yy_W (yy_s m 25 4 v) t) := yy_setf rfl (by decide) rfl rfl
theorem yf_25_5 : xm_fi o (yy_W m t) 25 4 5 = some (m 25 5) := yy_fi rfl (by decide) rfl
theorem ys_25_5 : xm_setf (yy_W m t) 25 4 5 0 (.inl v) = some (yy_W (yy_s m 25 5 v) t) := yy_setf rfl (by decide) rfl rfl
theorem yr_25_6 : xm_fr o (yy_W m t) 25 4 6 = some 26 := yy_fr rfl (by decide) rfl
theorem yi_26 : xm_ints o (yy_W m t) 26 = some (yy_R 12 (m 26)) := yy_ints rfl
theorem yt_26 (h0 : 0 ≤ z) (h1 : z < 12) : xm_seti (yy_W m t) 26 z x = some (yy_W (yy_s m 26 z.toNat x) t) := yy_seti rfl h0 h1
theorem yf_27_0 : xm_fi o (yy_W m t) 27 4 0 = some (m 27 0) := yy_fi rfl (by decide) rfl
theorem ys_27_0 : xm_setf (yy_W m t) 27 4 0 0 (.inl v) = some (yy_W (yy_s m 27 0 v) t) := yy_setf rfl (by decide) rfl rfl
theorem yf_27_1 : xm_fi o (yy_W m t) 27 4 1 = some (m 27 1) := yy_fi rfl (by decide) rfl
theorem ys_27_1 : xm_setf (yy_W m t) 27 4 1 0 (.inl v) = some (yy_W (yy_s m 27 1 v) t) := yy_setf rfl (by decide) rfl rfl
theorem yf_27_2 : xm_fi o (yy_W m t) 27 4 2 = some (m 27 2) := yy_fi rfl (by decide) rfl
theorem ys_27_2 : xm_setf (yy_W m t) 27 4 2 0 (.inl v) = some (yy_W (yy_s m 27 2 v) t) := yy_setf rfl (by decide) rfl rfl
theorem yf_27_3 : xm_fi o (yy_W m t) 27 4 3 = some (m 27 3) := yy_fi rfl (by decide) rfl
theorem ys_27_3 : xm_setf (yy_W m t) 27 4 3 0 (.inl v) = some (yy_W (yy_s m 27 3 v) t) := yy_setf rfl (by decide) rfl rfl
theorem yf_27_4 : xm_fi o (yy_W m t) 27 4 4 = some (m 27 4) := yy_fi rfl (by decide) rfl
theorem ys_27_4 : xm_setf (yy_W m t) 27 4 4 0 (.inl v) = some (yy_W (yy_s m 27 4 v) t) := yy_setf rfl (by decide) rfl rfl
theorem yf_27_5 : xm_fi o (yy_W m t) 27 4 5 = some (m 27 5) := yy_fi rfl (by decide) rfl
theorem ys_27_5 : xm_setf (yy_W m t) 27 4 5 0 (.inl v) = some (yy_W (yy_s m 27 5 v) t) := yy_setf rfl (by decide) rfl rfl
theorem yr_27_6 : xm_fr o (yy_W m t) 27 4 6 = some 28 := yy_fr rfl (by decide) rfl
theorem yi_28 : xm_ints o (yy_W m t) 28 = some (yy_R 12 (m 28)) := yy_ints rfl
theorem yt_28 (h0 : 0 ≤ z) (h1 : z < 12) : xm_seti (yy_W m t) 28 z x = some (yy_W (yy_s m 28 z.toNat x) t) := yy_seti rfl h0 h1
theorem yf_29_0 : xm_fi o (yy_W m t) 29 4 0 = some (m 29 0) := yy_fi rfl (by decide) rfl
theorem ys_29_0 : xm_setf (yy_W m t) 29 4 0 0 (.inl v) = some (yy_W (yy_s m 29 0 v) t) := yy_setf rfl (by decide) rfl rfl
theorem yf_29_1 : xm_fi o (yy_W m t) 29 4 1 = some (m 29 1) := yy_fi rfl (by decide) rfl
theorem ys_29_1 : xm_setf (yy_W m t) 29 4 1 0 (.inl v) = some (yy_W (yy_s m 29 1 v) t) := yy_setf rfl (by decide) rfl rfl
theorem yf_29_2 : xm_fi o (yy_W m t) 29 4 2 = some (m 29 2) := yy_fi rfl (by decide) rfl
theorem ys_29_2 : xm_setf (yy_W m t) 29 4 2 0 (.inl v) = some (yy_W (yy_s m 29 2 v) t) := yy_setf rfl (by decide) rfl rfl
theorem yf_29_3 : xm_fi o (yy_W m t) 29 4 3 = some (m 29 3) := yy_fi rfl (by decide) rfl
theorem ys_29_3 : xm_setf (yy_W m t) 29 4 3 0 (.inl v) = some (yy_W (yy_s m 29 3 v) t) := yy_setf rfl (by decide) rfl rfl
theorem yf_29_4 : xm_fi o (yy_W m t) 29 4 4 = some (m 29 4) := yy_fi rfl (by decide) rfl
theorem ys_29_4 : xm_setf (yy_W m t) 29 4 4 0 (.inl v) = some (yy_W (yy_s m 29 4 v) t) := yy_setf rfl (by decide) rfl rfl
theorem yf_29_5 : xm_fi o (yy_W m t) 29 4 5 = some (m 29 5) := yy_fi rfl (by decide) rfl
theorem ys_29_5 : xm_setf (yy_W m t) 29 4 5 0 (.inl v) = some (yy_W (yy_s m 29 5 v) t) := yy_setf rfl (by decide) rfl rfl
theorem yr_29_6 : xm_fr o (yy_W m t) 29 4 6 = some 30 := yy_fr rfl (by decide) rfl
theorem yi_30 : xm_ints o (yy_W m t) 30 = some (yy_R 12 (m 30)) := yy_ints rfl
theorem yt_30 (h0 : 0 ≤ z) (h1 : z < 12) : xm_seti (yy_W m t) 30 z x = some (yy_W (yy_s m 30 z.toNat x) t) := yy_seti rfl h0 h1
theorem yf_31_0 : xm_fi o (yy_W m t) 31 4 0 = some (m 31 0) := yy_fi rfl (by decide) rfl
theorem ys_31_0 : xm_setf (yy_W m t) 31 4 0 0 (.inl v) = some (yy_W (yy_s m 31 0 v) t) := yy_setf rfl (by decide) rfl rfl
theorem yf_31_1 : xm_fi o (yy_W m t) 31 4 1 = some (m 31 1) := yy_fi rfl (by decide) rfl
theorem ys_31_1 : xm_setf (yy_W m t) 31 4 1 0 (.inl v) = some (yy_W (yy_s m 31 1 v) t) := yy_setf rfl (by decide) rfl rfl
theorem yf_31_2 : xm_fi o (yy_W m t) 31 4 2 = some (m 31 2) := yy_fi rfl (by decide) rfl
theorem ys_31_2 : xm_setf (yy_W m t) 31 4 2 0 (.inl v) = some (yy_W (yy_s m 31 2 v) t) := yy_setf rfl (by decide) rfl rfl
theorem yf_31_3 : xm_fi o (yy_W m t) 31 4 3 = some (m 31 3) := yy_fi rfl (by decide) rfl
theorem ys_31_3 : xm_setf (yy_W m t) 31 4 3 0 (.inl v) = some (yy_W (yy_s m 31 3 v) t) := yy_setf rfl (by decide) rfl rfl
theorem yf_31_4 : xm_fi o (yy_W m t) 31 4 4 = some (m 31 4) := yy_fi rfl (by decide) rfl
theorem ys_31_4 : xm_setf (yy_W m t) 31 4 4 0 (.inl v) = some (yy_W (yy_s m 31 4 v) t) := yy_setf rfl (by decide) rfl rfl
theorem yf_31_5 : xm_fi o (yy_W m t) 31 4 5 = some (m 31 5) := yy_fi rfl (by decide) rfl
theorem ys_31_5 : xm_setf (yy_W m t) 31 4 5 0 (.inl v) = some (yy_W (yy_s m 31 5 v) t) := yy_setf rfl (by decide) rfl rfl
theorem yr_31_6 : xm_fr o (yy_W m t) 31 4 6 = some 32 := yy_fr rfl (by decide) rfl
theorem yi_32 : xm_ints o (yy_W m t) 32 = some (yy_R 12 (m 32)) := yy_ints rfl
theorem yt_32 (h0 : 0 ≤ z) (h1 : z < 12) : xm_seti (yy_W m t) 32 z x = some (yy_W (yy_s m 32 z.toNat x) t) := yy_seti rfl h0 h1
theorem yf_33_0 : xm_fi o (yy_W m t) 33 4 0 = some (m 33 0) := yy_fi rfl (by decide) rfl
theorem ys_33_0 : xm_setf (yy_W m t) 33 4 0 0 (.inl v) = some (yy_W (yy_s m 33 0 v) t) := yy_setf rfl (by decide) rfl rfl
theorem yf_33_1 : xm_fi o (yy_W m t) 33 4 1 = some (m 33 1) := yy_fi rfl (by decide) rfl
theorem ys_33_1 : xm_setf (yy_W m t) 33 4 1 0 (.inl v) = some (yy_W (yy_s m 33 1 v) t) := yy_setf rfl (by decide) rfl rfl
theorem yf_33_2 : xm_fi o (yy_W m t) 33 4 2 = some (m 33 2) := yy_fi rfl (by decide) rfl
theorem ys_33_2 : xm_setf (yy_W m t) 33 4 2 0 (.inl v) = some (yy_W (yy_s m 33 2 v) t) := yy_setf rfl (by decide) rfl rfl
theorem yf_33_3 : xm_fi o (yy_W m t) 33 4 3 = some (m 33 3) := yy_fi rfl (by decide) rfl
theorem ys_33_3 : xm_setf (yy_W m t) 33 4 3 0 (.inl v) = some (yy_W (yy_s m 33 3 v) t) := yy_setf rfl (by decide) rfl rfl
theorem yf_33_4 : xm_fi o (yy_W m t) 33 4 4 = some (m 33 4) := yy_fi rfl (by decide) rfl
theorem ys_33_4 : xm_setf (yy_W m t) 33 4 4 0 (.inl v) = some (yy_W (yy_s m 33 4 v) t) := yy_setf rfl (by decide) rfl rfl
theorem yf_33_5 : xm_fi o (yy_W m t) 33 4 5 = some (m 33 5) := yy_fi rfl (by decide) rfl
theorem ys_33_5 : xm_setf (yy_W m t) 33 4 5 0 (.inl v) = some (yy_W (yy_s m 33 5 v) t) := yy_setf rfl (by decide) rfl rfl
theorem yr_33_6 : xm_fr o (yy_W m t) 33 4 6 = some 34 := yy_fr rfl (by decide) rfl
theorem yi_34 : xm_ints o (yy_W m t) 34 = some (yy_R 12 (m 34)) := yy_ints rfl
theorem yt_34 (h0 : 0 ≤ z) (h1 : z < 12) : xm_seti (yy_W m t) 34 z x = some (yy_W (yy_s m 34 z.toNat x) t) := yy_seti rfl h0 h1
theorem yr_35_0 : xm_fr o (yy_W m t) 35 1 0 = some 36 := yy_fr rfl (by decide) rfl
theorem yf_35_1 : xm_fi o (yy_W m t) 35 1 1 = some (m 35 1) := yy_fi rfl (by decide) rfl
theorem ys_35_1 : xm_setf (yy_W m t) 35 1 1 0 (.inl v) = some (yy_W (yy_s m 35 1 v) t) := yy_setf rfl (by decide) rfl rfl
theorem yr_35_2 : xm_fr o (yy_W m t) 35 1 2 = some 37 := yy_fr rfl (by decide) rfl
theorem yf_35_3 : xm_fi o (yy_W m t) 35 1 3 = some (m 35 3) := yy_fi rfl (by decide) rfl
theorem ys_35_3 : xm_setf (yy_W m t) 35 1 3 0 (.inl v) = some (yy_W (yy_s m 35 3 v) t) := yy_setf rfl (by decide) rfl rfl
theorem yf_35_4 : xm_fi o (yy_W m t) 35 1 4 = some (m 35 4) := yy_fi rfl (by decide) rfl
theorem ys_35_4 : xm_setf (yy_W m t) 35 1 4 0 (.inl v) = some (yy_W (yy_s m 35 4 v) t) := yy_setf rfl (by decide) rfl rfl
theorem yi_36 : xm_ints o (yy_W m t) 36 = some (yy_R 60 (m 36)) := yy_ints rfl
theorem yt_36 (h0 : 0 ≤ z) (h1 : z < 60) : xm_seti (yy_W m t) 36 z x = some (yy_W (yy_s m 36 z.toNat x) t) := yy_seti rfl h0 h1
theorem yi_37 : xm_ints o (yy_W m t) 37 = some (yy_R 24 (m 37)) := yy_ints rfl
theorem yt_37 (h0 : 0 ≤ z) (h1 : z < 24) : xm_seti (yy_W m t) 37 z x = some (yy_W (yy_s m 37 z.toNat x) t) := yy_seti rfl h0 h1
theorem yr_38_0 : xm_fr o (yy_W m t) 38 2 0 = some 39 := yy_fr rfl (by decide) rfl
theorem yf_38_1 : xm_fi o (yy_W m t) 38 2 1 = some (m 38 1) := yy_fi rfl (by decide) rfl
theorem ys_38_1 : xm_setf (yy_W m t) 38 2 1 0 (.inl v) = some (yy_W (yy_s m 38 1 v) t) := yy_setf rfl (by decide) rfl rfl
theorem yf_38_2 : xm_fi o (yy_W m t) 38 2 2 = some (m 38 2) := yy_fi rfl (by decide) rfl
theorem ys_38_2 : xm_setf (yy_W m t) 38 2 2 0 (.inl v) = some (yy_W (yy_s m 38 2 v) t) := yy_setf rfl (by decide) rfl rfl
theorem yr_38_3 : xm_fr o (yy_W m t) 38 2 3 = some 40 := yy_fr rfl (by decide) rfl
theorem yf_38_4 : xm_fi o (yy_W m t) 38 2 4 = some (m 38 4) := yy_fi rfl (by decide) rfl
theorem ys_38_4 : xm_setf (yy_W m t) 38 2 4 0 (.inl v) = some (yy_W (yy_s m 38 4 v) t) := yy_setf rfl (by decide) rfl rfl
theorem yr_38_5 : xm_fr o (yy_W m t) 38 2 5 = some 41 := yy_fr rfl (by decide) rfl
theorem yf_38_6 : xm_fi o (yy_W m t) 38 2 6 = some (m 38 6) := yy_fi rfl (by decide) rfl
theorem ys_38_6 : xm_setf (yy_W m t) 38 2 6 0 (.inl v) = some (yy_W (yy_s m 38 6 v) t) := yy_setf rfl (by decide) rfl rfl
theorem yr_38_7 : xm_fr o (yy_W m t) 38 2 7 = some 42 := yy_fr rfl (by decide) rfl
theorem yr_38_8 : xm_fr o (yy_W m t) 38 2 8 = some 43 := yy_fr rfl (by decide) rfl
theorem yr_38_9 : xm_fr o (yy_W m t) 38 2 9 = some 44 := yy_fr rfl (by decide) rfl
theorem yi_39 : xm_ints o (yy_W m t) 39 = some (yy_R 36 (m 39)) := yy_ints rfl
theorem yt_39 (h0 : 0 ≤ z) (h1 : z < 36) : xm_seti (yy_W m t) 39 z x = some (yy_W (yy_s m 39 z.toNat x) t) := yy_seti rfl h0 h1
theorem yq_40 : xm_refs o (yy_W m t) 40 = some (yy_qs (m 40) 0 [47, 49, 51, 53, 55]) := yy_refs rfl (by decide)
theorem yi_41 : xm_ints o (yy_W m t) 41 = some (yy_R 200 (m 41)) := yy_ints rfl
theorem yt_41 (h0 : 0 ≤ z) (h1 : z < 200) : xm_seti (yy_W m t) 41 z x = some (yy_W (yy_s m 41 z.toNat x) t) := yy_seti rfl h0 h1
theorem yq_42 : xm_refs o (yy_W m t) 42 = some (yy_qs (m 42) 0 [1, 1]) := yy_refs rfl (by decide)
theorem yi_43 : xm_ints o (yy_W m t) 43 = some (yy_R 4 (m 43)) := yy_ints rfl
theorem yt_43 (h0 : 0 ≤ z) (h1 : z < 4) : xm_seti (yy_W m t) 43 z x = some (yy_W (yy_s m 43 z.toNat x) t) := yy_seti rfl h0 h1
theorem yi_44 : xm_ints o (yy_W m t) 44 = some (yy_R 60 (m 44)) := yy_ints rfl
theorem yt_44 (h0 : 0 ≤ z) (h1 : z < 60) : xm_seti (yy_W m t) 44 z x = some (yy_W (yy_s m 44 z.toNat x) t) := yy_seti rfl h0 h1
theorem yf_45_0 : xm_fi o (yy_W m t) 45 4 0 = some (m 45 0) := yy_fi rfl (by decide) rfl
theorem ys_45_0 : xm_setf (yy_W m t) 45 4 0 0 (.inl v) = some (yy_W (yy_s m 45 0 v) t) := yy_setf rfl (by decide) rfl rfl
theorem yf_45_1 : xm_fi o (yy_W m t) 45 4 1 = some (m 45 1) := yy_fi rfl (by decide) rfl
theorem ys_45_1 : xm_setf (yy_W m t) 45 4 1 0 (.inl v) = some (yy_W (yy_s m 45 1 v) t) := yy_setf rfl (by decide) rfl rfl
theorem yf_45_2 : xm_fi o (yy_W m t) 45 4 2 = some (m 45 2) := yy_fi rfl (by decide) rfl
theorem ys_45_2 : xm_setf (yy_W m t) 45 4 2 0 (.inl v) = some (yy_W (yy_s m 45 2 v) t) := yy_setf rfl (by decide) rfl rfl
theorem yf_45_3 : xm_fi o (yy_W m t) 45 4 3 = some (m 45 3) := yy_fi rfl (by decide) rfl
theorem ys_45_3 : xm_setf (yy_W m t) 45 4 3 0 (.inl v) = some (yy_W (yy_s m 45 3 v) t) := yy_setf rfl (by decide) rfl rfl
theorem yf_45_4 : xm_fi o (yy_W m t) 45 4 4 = some (m 45 4) := yy_fi rfl (by decide) rfl
theorem ys_45_4 : xm_setf (yy_W m t) 45 4 4 0 (.inl v) = some (yy_W (yy_s m 45 4 v) t) := yy_setf rfl (by decide) rfl rfl
theorem yf_45_5 : xm_fi o (yy_W m t) 45 4 5 = some (m 45 5) := yy_fi rfl (by decide) rfl
theorem ys_45_5 : xm_setf (yy_W m t) 45 4 5 0 (.inl v) = some (yy_W (yy_s m 45 5 v) t) := yy_setf rfl (by decide) rfl rfl
theorem yr_45_6 : xm_fr o (yy_W m t) 45 4 6 = some 46 := yy_fr rfl (by decide) rfl
theorem yi_46 : xm_ints o (yy_W m t) 46 = some (yy_R 12 (m 46)) := yy_ints rfl
theorem yt_46 (h0 : 0 ≤ z) (h1 : z < 12) : xm_seti (yy_W m t) 46 z x = some (yy_W (yy_s m 46 z.toNat x) t) := yy_seti rfl h0 h1
theorem yf_47_0 : xm_fi o (yy_W m t) 47 4 0 = some (m 47 0) := yy_fi rfl (by decide) rfl
theorem ys_47_0 : xm_setf (yy_W m t) 47 4 0 0 (.inl v) = some (yy_W (yy_s m 47 0 v) t) := yy_setf rfl (by decide) rfl rfl
theorem yf_47_1 : xm_fi o (yy_W m t) 47 4 1 = some (m 47 1) := yy_fi rfl (by decide) rfl
theorem ys_47_1 : xm_setf (yy_W m t) 47 4 1 0 (.inl v) = some (yy_W (yy_s m 47 1 v) t) := yy_setf rfl (by decide) rfl rfl
theorem yf_47_2 : xm_fi o (yy_W m t) 47 4 2 = some (m 47 2) := yy_fi rfl (by decide) rfl
theorem ys_47_2 : xm_setf (yy_W m t) 47 4 2 0 (.inl v) = some (yy_W (yy_s m 47 2 v) t) := yy_setf rfl (by decide) rfl rfl
theorem yf_47_3 : xm_fi o (yy_W m t) 47 4 3 = some (m 47 3) := yy_fi rfl (by decide) rfl
theorem ys_47_3 : xm_setf (yy_W m t) 47 4 3 0 (.inl v) = some (yy_W (yy_s m 47 3 v) t) := yy_setf rfl (by decide) rfl rfl
theorem yf_47_4 : xm_fi o (yy_W m t) 47 4 4 = some (m 47 4) := yy_fi rfl (by decide) rfl
theorem ys_47_4 : xm_setf (yy_W m t) 47 4 4 0 (.inl v) = some (yy_W (yy_s m 47 4 v) t) := yy_setf rfl (by decide) rfl rfl
theorem yf_47_5 : xm_fi o (yy_W m t) 47 4 5 = some (m 47 5) := yy_fi rfl (by decide) rfl
theorem ys_47_5 : xm_setf (yy_W m t) 47 4 5 0 (.inl v) = some (yy_W (yy_s m 47 5 v) t) := yy_setf rfl (by decide) rfl rfl
theorem yr_47_6 : xm_fr o (yy_W m t) 47 4 6 = some 48 := yy_fr rfl (by decide) rfl
theorem yi_48 : xm_ints o (yy_W m t) 48 = some (yy_R 12 (m 48)) := yy_ints rfl
theorem yt_48 (h0 : 0 ≤ z) (h1 : z < 12) : xm_seti (yy_W m t) 48 z x = some (yy_W (yy_s m 48 z.toNat x) t) := yy_seti rfl h0 h1
theorem yf_49_0 : xm_fi o (yy_W m t) 49 4 0 = some (m 49 0) := yy_fi rfl (by decide) rfl
theorem ys_49_0 : xm_setf (yy_W m t) 49 4 0 0 (.inl v) = some (yy_W (yy_s m 49 0 v) t) := yy_setf rfl (by decide) rfl rfl
theorem yf_49_1 : xm_fi o (yy_W m t) 49 4 1 = some (m 49 1) := yy_fi rfl (by decide) rfl
theorem ys_49_1 : xm_setf (yy_W m t) 49 4 1 0 (.inl v) = some (yy_W (yy_s m 49 1 v) t) := yy_setf rfl (by decide) rfl rfl
theorem yf_49_2 : xm_fi o (yy_W m t) 49 4 2 = some (m 49 2) := yy_fi rfl (by decide) rfl
theorem ys_49_2 : xm_setf (yy_W m t) 49 4 2 0 (.inl v) = some (yy_W (yy_s m 49 2 v) t) := yy_setf rfl (by decide) rfl rfl
theorem yf_49_3 : xm_fi o (yy_W m t) 49 4 3 = some (m 49 3) := yy_fi rfl (by decide) rfl
theorem ys_49_3 : xm_setf (yy_W m t) 49 4 3 0 (.inl v) = some (yy_W (yy_s m 49 3 v) t) := yy_setf rfl (by decide) rfl rfl
theorem yf_49_4 : xm_fi o (yy_W m t) 49 4 4 = some (m 49 4) := yy_fi rfl (by decide) rfl
theorem ys_49_4 : xm_setf (yy_W m t) 49 4 4 0 (.inl v) = some (yy_W (yy_s m 49 4 v) t) := yy_setf rfl (by decide) rfl rfl
theorem yf_49_5 : xm_fi o (yy_W m t) 49 4 5 = some (m 49 5) := yy_fi rfl (by decide) rfl
theorem ys_49_5 : xm_setf (yy_W m t) 49 4 5 0 (.inl v) = some (yy_W (yy_s m 49 5 v) t) := yy_setf rfl (by decide) rfl rfl
theorem yr_49_6 : xm_fr o (yy_W m t) 49 4 6 = some 50 := yy_fr rfl (by decide) rfl
theorem yi_50 : xm_ints o (yy_W m t) 50 = some (yy_R 12 (m 50)) := yy_ints rfl
theorem yt_50 (h0 : 0 ≤ z) (h1 : z < 12) : xm_seti (yy_W m t) 50 z x = some (yy_W (yy_s m 50 z.toNat x) t) := yy_seti rfl h0 h1
theorem yf_51_0 : xm_fi o (yy_W m t) 51 4 0 = some (m 51 0) := yy_fi rfl (by decide) rfl
theorem ys_51_0 : xm_setf (yy_W m t) 51 4 0 0 (.inl v) = some (yy_W (yy_s m 51 0 v) t) := yy_setf rfl (by decide) rfl rfl
theorem yf_51_1 : xm_fi o (yy_W m t) 51 4 1 = some (m 51 1) := yy_fi rfl (by decide) rfl
theorem ys_51_1 : xm_setf (yy_W m t) 51 4 1 0 (.inl v) = some (yy_W (yy_s m 51 1 v) t) := yy_setf rfl (by decide) rfl rfl
theorem yf_51_2 : xm_fi o (yy_W m t) 51 4 2 = some (m 51 2) := yy_fi rfl (by decide) rfl
theorem ys_51_2 : xm_setf (yy_W m t) 51 4 2 0 (.inl v) = some (yy_W (yy_s m 51 2 v) t) := yy_setf rfl (by decide) rfl rfl
theorem yf_51_3 : xm_fi o (yy_W m t) 51 4 3 = some (m 51 3) := yy_fi rfl (by decide) rfl
theorem ys_51_3 : xm_setf (yy_W m t) 51 4 3 0 (.inl v) = some (yy_W (yy_s m 51 3 v) t) := yy_setf rfl (by decide) rfl rfl
theorem yf_51_4 : xm_fi o (yy_W m t) 51 4 4 = some (m 51 4) := yy_fi rfl (by decide) rfl
theorem ys_51_4 : xm_setf (yy_W m t) 51 4 4 0 (.inl v) = some (yy_W (yy_s m 51 4 v) t) := yy_setf rfl (by decide) rfl rfl
theorem yf_51_5 : xm_fi o (yy_W m t) 51 4 5 = some (m 51 5) := yy_fi rfl (by decide) rfl
theorem ys_51_5 : xm_setf (yy_W m t) 51 4 5 0 (.inl v) = some (yy_W (yy_s m 51 5 v) t) := yy_setf rfl (by decide) rfl rfl
theorem yr_51_6 : xm_fr o (yy_W m t) 51 4 6 = some 52 := yy_fr rfl (by decide) rfl
theorem yi_52 : xm_ints o (yy_W m t) 52 = some (yy_R 12 (m 52)) := yy_ints rfl
theorem yt_52 (h0 : 0 ≤ z) (h1 : z < 12) : xm_seti (yy_W m t) 52 z x = some (yy_W (yy_s m 52 z.toNat x) t) := yy_seti rfl h0 h1
theorem yf_53_0 : xm_fi o (yy_W m t) 53 4 0 = some (m 53 0) := yy_fi rfl (by decide) rfl
theorem ys_53_0 : xm_setf (yy_W m t) 53 4 0 0 (.inl v) = some (yy_W (yy_s m 53 0 v) t) := yy_setf rfl (by decide) rfl rfl
theorem yf_53_1 : xm_fi o (yy_W m t) 53 4 1 = some (m 53 1) := yy_fi rfl (by decide) rfl
theorem ys_53_1 : xm_setf (yy_W m t) 53 4 1 0 (.inl v) = some (yy_W (yy_s m 53 1 v) t) := yy_setf rfl (by decide) rfl rfl
theorem yf_53_2 : xm_fi o (yy_W m t) 53 4 2 = some (m 53 2) := yy_fi rfl (by decide) rfl
theorem ys_53_2 : xm_setf (yy_W m t) 53 4 2 0 (.inl v) = some (yy_W (yy_s m 53 2 v) t) := yy_setf rfl (by decide) rfl rfl
theorem yf_53_3 : xm_fi o (yy_W m t) 53 4 3 = some (m 53 3) := yy_fi rfl (by decide) rfl
theorem ys_53_3 : xm_setf (yy_W m t) 53 4 3 0 (.inl v) = some (yy_W (yy_s m 53 3 v) t) := yy_setf rfl (by decide) rfl rfl
theorem yf_53_4 : xm_fi o (yy_W m t) 53 4 4 = some (m 53 4) := yy_fi rfl (by decide) rfl
theorem ys_53_4 : xm_setf (yy_W m t) 53 4 4 0 (.inl v) = some (yy_W (yy_s m 53 4 v) t) := yy_setf rfl (by decide) rfl rfl
theorem yf_53_5 : xm_fi o (yy_W m t) 53 4 5 = some (m 53 5) := yy_fi rfl (by decide) rfl
theorem ys_53_5 : xm_setf (yy_W m t) 53 4 5 0 (.inl v) = some (yy_W (yy_s m 53 5 v) t) := yy_setf rfl (by decide) rfl rfl
theorem yr_53_6 : xm_fr o (yy_W m t) 53 4 6 = some 54 := yy_fr rfl (by decide) rfl
theorem yi_54 : xm_ints o (yy_W m t) 54 = some (yy_R 12 (m 54)) := yy_ints rfl
theorem yt_54 (h0 : 0 ≤ z) (h1 : z < 12) : xm_seti (yy_W m t) 54 z x = some (yy_W (yy_s m 54 z.toNat x) t) := yy_seti rfl h0 h1
theorem yr_55_0 : xm_fr o (yy_W m t) 55 1 0 = some 56 := yy_fr rfl (by decide) rfl
theorem yf_55_1 : xm_fi o (yy_W m t) 55 1 1 = some (m 55 1) := yy_fi rfl (by decide) rfl
theorem ys_55_1 : xm_setf (yy_W m t) 55 1 1 0 (.inl v) = some (yy_W (yy_s m 55 1 v) t) := yy_setf rfl (by decide) rfl rfl
theorem yr_55_2 : xm_fr o (yy_W m t) 55 1 2 = some 57 := yy_fr rfl (by decide) rfl
theorem yf_55_3 : xm_fi o (yy_W m t) 55 1 3 = some (m 55 3) := yy_fi rfl (by decide) rfl
theorem ys_55_3 : xm_setf (yy_W m t) 55 1 3 0 (.inl v) = some (yy_W (yy_s m 55 3 v) t) := yy_setf rfl (by decide) rfl rfl
theorem yf_55_4 : xm_fi o (yy_W m t) 55 1 4 = some (m 55 4) := yy_fi rfl (by decide) rfl
theorem ys_55_4 : xm_setf (yy_W m t) 55 1 4 0 (.inl v) = some (yy_W (yy_s m 55 4 v) t) := yy_setf rfl (by decide) rfl rfl
theorem yi_56 : xm_ints o (yy_W m t) 56 = some (yy_R 60 (m 56)) := yy_ints rfl
theorem yt_56 (h0 : 0 ≤ z) (h1 : z < 60) : xm_seti (yy_W m t) 56 z x = some (yy_W (yy_s m 56 z.toNat x) t) := yy_seti rfl h0 h1
theorem yi_57 : xm_ints o (yy_W m t) 57 = some (yy_R 24 (m 57)) := yy_ints rfl
theorem yt_57 (h0 : 0 ≤ z) (h1 : z < 24) : xm_seti (yy_W m t) 57 z x = some (yy_W (yy_s m 57 z.toNat x) t) := yy_seti rfl h0 h1
theorem yf_58_1 : xm_fi o (yy_W m t) 58 3 1 = some (m 58 1) := yy_fi rfl (by decide) rfl
theorem ys_58_1 : xm_setf (yy_W m t) 58 3 1 0 (.inl v) = some (yy_W (yy_s m 58 1 v) t) := yy_setf rfl (by decide) rfl rfl
theorem yf_58_3 : xm_fi o (yy_W m t) 58 3 3 = some (m 58 3) := yy_fi rfl (by decide) rfl
theorem ys_58_3 : xm_setf (yy_W m t) 58 3 3 0 (.inl v) = some (yy_W (yy_s m 58 3 v) t) := yy_setf rfl (by decide) rfl rfl
theorem yr_58_4 : xm_fr o (yy_W m t) 58 3 4 = some 60 := yy_fr rfl (by decide) rfl
theorem yf_58_5 : xm_fi o (yy_W m t) 58 3 5 = some (m 58 5) := yy_fi rfl (by decide) rfl
theorem ys_58_5 : xm_setf (yy_W m t) 58 3 5 0 (.inl v) = some (yy_W (yy_s m 58 5 v) t) := yy_setf rfl (by decide) rfl rfl
theorem yi_59 : xm_ints o (yy_W m t) 59 = some (yy_R 0 (m 59)) := yy_ints rfl
theorem yt_59 (h0 : 0 ≤ z) (h1 : z < 0) : xm_seti (yy_W m t) 59 z x = some (yy_W (yy_s m 59 z.toNat x) t) := yy_seti rfl h0 h1
theorem yi_60 : xm_ints o (yy_W m t) 60 = some (yy_R 60 (m 60)) := yy_ints rfl
theorem yt_60 (h0 : 0 ≤ z) (h1 : z < 60) : xm_seti (yy_W m t) 60 z x = some (yy_W (yy_s m 60 z.toNat x) t) := yy_seti rfl h0 h1
theorem yr_61_0 : xm_fr o (yy_W m t) 61 6 0 = some 62 := yy_fr rfl (by decide) rfl
theorem yf_61_1 : xm_fi o (yy_W m t) 61 6 1 = some (m 61 1) := yy_fi rfl (by decide) rfl
theorem ys_61_1 : xm_setf (yy_W m t) 61 6 1 0 (.inl v) = some (yy_W (yy_s m 61 1 v) t) := yy_setf rfl (by decide) rfl rfl
theorem yf_61_2 : xm_fi o (yy_W m t) 61 6 2 = some (m 61 2) := yy_fi rfl (by decide) rfl
theorem ys_61_2 : xm_setf (yy_W m t) 61 6 2 0 (.inl v) = some (yy_W (yy_s m 61 2 v) t) := yy_setf rfl (by decide) rfl rfl
theorem yf_61_3 : xm_fi o (yy_W m t) 61 6 3 = some (m 61 3) := yy_fi rfl (by decide) rfl
theorem ys_61_3 : xm_setf (yy_W m t) 61 6 3 0 (.inl v) = some (yy_W (yy_s m 61 3 v) t) := yy_setf rfl (by decide) rfl rfl
theorem yf_61_4 : xm_fi o (yy_W m t) 61 6 4 = some (m 61 4) := yy_fi rfl (by decide) rfl
theorem ys_61_4 : xm_setf (yy_W m t) 61 6 4 0 (.inl v) = some (yy_W (yy_s m 61 4 v) t) := yy_setf rfl (by decide) rfl rfl
theorem yi_62 : xm_ints o (yy_W m t) 62 = some (yy_R 30 (m 62)) := yy_ints rfl
theorem yt_62 (h0 : 0 ≤ z) (h1 : z < 30) : xm_seti (yy_W m t) 62 z x = some (yy_W (yy_s m 62 z.toNat x) t) := yy_seti rfl h0 h1
theorem yf_63_0 : xm_fi o (yy_W m t) 63 0 0 = some (m 63 0) := yy_fi rfl (by decide) rfl
theorem ys_63_0 (h : xm_fit 1 (.inl v) = true) : xm_setf (yy_W m t) 63 0 0 1 (.inl v) = some (yy_W (yy_s m 63 0 v) t) := yy_setf rfl (by decide) rfl h
theorem yf_63_1 : xm_fi o (yy_W m t) 63 0 1 = some (m 63 1) := yy_fi rfl (by decide) rfl
theorem ys_63_1 : xm_setf (yy_W m t) 63 0 1 0 (.inl v) = some (yy_W (yy_s m 63 1 v) t) := yy_setf rfl (by decide) rfl rfl
theorem yf_63_2 : xm_fi o (yy_W m t) 63 0 2 = some (m 63 2) := yy_fi rfl (by decide) rfl
theorem ys_63_2 : xm_setf (yy_W m t) 63 0 2 0 (.inl v) = some (yy_W (yy_s m 63 2 v) t) := yy_setf rfl (by decide) rfl rfl
theorem yf_63_3 : xm_fi o (yy_W m t) 63 0 3 = some (m 63 3) := yy_fi rfl (by decide) rfl
theorem ys_63_3 : xm_setf (yy_W m t) 63 0 3 0 (.inl v) = some (yy_W (yy_s m 63 3 v) t) := yy_setf rfl (by decide) rfl rfl
theorem yf_63_4 : xm_fi o (yy_W m t) 63 0 4 = some (m 63 4) := yy_fi rfl (by decide) rfl
theorem ys_63_4 : xm_setf (yy_W m t) 63 0 4 0 (.inl v) = some (yy_W (yy_s m 63 4 v) t) := yy_setf rfl (by decide) rfl rfl
theorem yq_64 : xm_refs o (yy_W m t) 64 = some (yy_qs (m 64) 0 [68, 70, 72, 74]) := yy_refs rfl (by decide)
theorem yi_65 : xm_ints o (yy_W m t) 65 = some (yy_R 7 (m 65)) := yy_ints rfl
theorem yt_65 (h0 : 0 ≤ z) (h1 : z < 7) : xm_seti (yy_W m t) 65 z x = some (yy_W (yy_s m 65 z.toNat x) t) := yy_seti rfl h0 h1
theorem yf_66_0 : xm_fi o (yy_W m t) 66 5 0 = some (m 66 0) := yy_fi rfl (by decide) rfl
theorem ys_66_0 : xm_setf (yy_W m t) 66 5 0 0 (.inl v) = some (yy_W (yy_s m 66 0 v) t) := yy_setf rfl (by decide) rfl rfl
theorem yf_66_1 : xm_fi o (yy_W m t) 66 5 1 = some (m 66 1) := yy_fi rfl (by decide) rfl
theorem ys_66_1 : xm_setf (yy_W m t) 66 5 1 0 (.inl v) = some (yy_W (yy_s m 66 1 v) t) := yy_setf rfl (by decide) rfl rfl
theorem yr_66_2 : xm_fr o (yy_W m t) 66 5 2 = some 67 := yy_fr rfl (by decide) rfl
theorem yi_67 : xm_ints o (yy_W m t) 67 = some (yy_R 24 (m 67)) := yy_ints rfl
theorem yt_67 (h0 : 0 ≤ z) (h1 : z < 24) : xm_seti (yy_W m t) 67 z x = some (yy_W (yy_s m 67 z.toNat x) t) := yy_seti rfl h0 h1
theorem yf_68_0 : xm_fi o (yy_W m t) 68 5 0 = some (m 68 0) := yy_fi rfl (by decide) rfl
theorem ys_68_0 : xm_setf (yy_W m t) 68 5 0 0 (.inl v) = some (yy_W (yy_s m 68 0 v) t) := yy_setf rfl (by decide) rfl rfl
theorem yf_68_1 : xm_fi o (yy_W m t) 68 5 1 = some (m 68 1) := yy_fi rfl (by decide) rfl
theorem ys_68_1 : xm_setf (yy_W m t) 68 5 1 0 (.inl v) = some (yy_W (yy_s m 68 1 v) t) := yy_setf rfl (by decide) rfl rfl
theorem yr_68_2 : xm_fr o (yy_W m t) 68 5 2 = some 69 := yy_fr rfl (by decide) rfl
theorem yi_69 : xm_ints o (yy_W m t) 69 = some (yy_R 24 (m 69)) := yy_ints rfl
theorem yt_69 (h0 : 0 ≤ z) (h1 : z < 24) : xm_seti (yy_W m t) 69 z x = some (yy_W (yy_s m 69 z.toNat x) t) := yy_seti rfl h0 h1
theorem yf_70_0 : xm_fi o (yy_W m t) 70 5 0 = some (m 70 0) := yy_fi rfl (by decide) rfl
theorem ys_70_0 : xm_setf (yy_W m t) 70 5 0 0 (.inl v) = some (yy_W (yy_s m 70 0 v) t) := yy_setf rfl (by decide) rfl rfl
theorem yf_70_1 : xm_fi o (yy_W m t) 70 5 1 = some (m 70 1) := yy_fi rfl (by decide) rfl
theorem ys_70_1 : xm_setf (yy_W m t) 70 5 1 0 (.inl v) = some (yy_W (yy_s m 70 1 v) t) := yy_setf rfl (by decide) rfl rfl
theorem yr_70_2 : xm_fr o (yy_W m t) 70 5 2 = some 71 := yy_fr rfl (by decide) rfl
theorem yi_71 : xm_ints o (yy_W m t) 71 = some (yy_R 24 (m 71)) := yy_ints rfl
theorem yt_71 (h0 : 0 ≤ z) (h1 : z < 24) : xm_seti (yy_W m t) 71 z x = some (yy_W (yy_s m 71 z.toNat x) t) := yy_seti rfl h0 h1
theorem yf_72_0 : xm_fi o (yy_W m t) 72 5 0 = some (m 72 0) := yy_fi rfl (by decide) rfl
theorem ys_72_0 : xm_setf (yy_W m t) 72 5 0 0 (.inl v) = some (yy_W (yy_s m 72 0 v) t) := yy_setf rfl (by decide) rfl rfl
theorem yf_72_1 : xm_fi o (yy_W m t) 72 5 1 = some (m 72 1) := yy_fi rfl (by decide) rfl
theorem ys_72_1 : xm_setf (yy_W m t) 72 5 1 0 (.inl v) = some (yy_W (yy_s m 72 1 v) t) := yy_setf rfl (by decide) rfl rfl
theorem yr_72_2 : xm_fr o (yy_W m t) 72 5 2 = some 73 := yy_fr rfl (by decide) rfl
theorem yi_73 : xm_ints o (yy_W m t) 73 = some (yy_R 24 (m 73)) := yy_ints rfl
theorem yt_73 (h0 : 0 ≤ z) (h1 : z < 24) : xm_seti (yy_W m t) 73 z x = some (yy_W (yy_s m 73 z.toNat x) t) := yy_seti rfl h0 h1
theorem yr_74_0 : xm_fr o (yy_W m t) 74 9 0 = some 75 := yy_fr rfl (by decide) rfl
theorem yr_74_1 : xm_fr o (yy_W m t) 74 9 1 = some 76 := yy_fr rfl (by decide) rfl
theorem yr_74_2 : xm_fr o (yy_W m t) 74 9 2 = some 77 := yy_fr rfl (by decide) rfl
theorem yf_74_3 : xm_fi o (yy_W m t) 74 9 3 = some (m 74 3) := yy_fi rfl (by decide) rfl
theorem ys_74_3 : xm_setf (yy_W m t) 74 9 3 0 (.inl v) = some (yy_W (yy_s m 74 3 v) t) := yy_setf rfl (by decide) rfl rfl
theorem yf_74_4 : xm_fi o (yy_W m t) 74 9 4 = some (m 74 4) := yy_fi rfl (by decide) rfl
theorem ys_74_4 : xm_setf (yy_W m t) 74 9 4 0 (.inl v) = some (yy_W (yy_s m 74 4 v) t) := yy_setf rfl (by decide) rfl rfl
theorem yr_74_5 : xm_fr o (yy_W m t) 74 9 5 = some 78 := yy_fr rfl (by decide) rfl
theorem yf_74_6 : xm_fi o (yy_W m t) 74 9 6 = some (m 74 6) := yy_fi rfl (by decide) rfl
theorem ys_74_6 : xm_setf (yy_W m t) 74 9 6 0 (.inl v) = some (yy_W (yy_s m 74 6 v) t) := yy_setf rfl (by decide) rfl rfl
theorem yf_74_7 : xm_fi o (yy_W m t) 74 9 7 = some (m 74 7) := yy_fi rfl (by decide) rfl
theorem ys_74_7 : xm_setf (yy_W m t) 74 9 7 0 (.inl v) = some (yy_W (yy_s m 74 7 v) t) := yy_setf rfl (by decide) rfl rfl
theorem yf_74_8 : xm_fi o (yy_W m t) 74 9 8 = some (m 74 8) := yy_fi rfl (by decide) rfl
theorem ys_74_8 : xm_setf (yy_W m t) 74 9 8 0 (.inl v) = some (yy_W (yy_s m 74 8 v) t) := yy_setf rfl (by decide) rfl rfl
theorem yf_74_9 : xm_fi o (yy_W m t) 74 9 9 = some (m 74 9) := yy_fi rfl (by decide) rfl
theorem ys_74_9 : xm_setf (yy_W m t) 74 9 9 0 (.inl v) = some (yy_W (yy_s m 74 9 v) t) := yy_setf rfl (by decide) rfl rfl
theorem yr_74_10 : xm_fr o (yy_W m t) 74 9 10 = some 79 := yy_fr rfl (by decide) rfl
theorem yr_74_11 : xm_fr o (yy_W m t) 74 9 11 = some 80 := yy_fr rfl (by decide) rfl
theorem yr_74_12 : xm_fr o (yy_W m t) 74 9 12 = some 81 := yy_fr rfl (by decide) rfl
theorem yf_74_13 : xm_fi o (yy_W m t) 74 9 13 = some (m 74 13) := yy_fi rfl (by decide) rfl
theorem ys_74_13 : xm_setf (yy_W m t) 74 9 13 0 (.inl v) = some (yy_W (yy_s m 74 13 v) t) := yy_setf rfl (by decide) rfl rfl
theorem yr_74_14 : xm_fr o (yy_W m t) 74 9 14 = some 82 := yy_fr rfl (by decide) rfl
theorem yf_74_15 : xm_fi o (yy_W m t) 74 9 15 = some (m 74 15) := yy_fi rfl (by decide) rfl
theorem ys_74_15 : xm_setf (yy_W m t) 74 9 15 0 (.inl v) = some (yy_W (yy_s m 74 15 v) t) := yy_setf rfl (by decide) rfl rfl
theorem yf_74_16 : xm_fi o (yy_W m t) 74 9 16 = some (m 74 16) := yy_fi rfl (by decide) rfl
theorem ys_74_16 : xm_setf (yy_W m t) 74 9 16 0 (.inl v) = some (yy_W (yy_s m 74 16 v) t) := yy_setf rfl (by decide) rfl rfl
theorem yf_74_17 : xm_fi o (yy_W m t) 74 9 17 = some (m 74 17) := yy_fi rfl (by decide) rfl
theorem ys_74_17 (h : xm_fit 1 (.inl v) = true) : xm_setf (yy_W m t) 74 9 17 1 (.inl v) = some (yy_W (yy_s m 74 17 v) t) := yy_setf rfl (by decide) rfl h
theorem yr_74_18 : xm_fr o (yy_W m t) 74 9 18 = some 83 := yy_fr rfl (by decide) rfl
theorem yr_74_19 : xm_fr o (yy_W m t) 74 9 19 = some 84 := yy_fr rfl (by decide) rfl
theorem yr_74_20 : xm_fr o (yy_W m t) 74 9 20 = some 85 := yy_fr rfl (by decide) rfl
theorem yr_74_21 : xm_fr o (yy_W m t) 74 9 21 = some 86 := yy_fr rfl (by decide) rfl
theorem yi_75 : xm_ints o (yy_W m t) 75 = some (yy_R 673 (m 75)) := yy_ints rfl
theorem yt_75 (h0 : 0 ≤ z) (h1 : z < 673) : xm_seti (yy_W m t) 75 z x = some (yy_W (yy_s m 75 z.toNat x) t) := yy_seti rfl h0 h1
theorem yi_76 : xm_ints o (yy_W m t) 76 = some (yy_R 673 (m 76)) := yy_ints rfl
theorem yt_76 (h0 : 0 ≤ z) (h1 : z < 673) : xm_seti (yy_W m t) 76 z x = some (yy_W (yy_s m 76 z.toNat x) t) := yy_seti rfl h0 h1
theorem yi_77 : xm_ints o (yy_W m t) 77 = some (yy_R 339 (m 77)) := yy_ints rfl
theorem yt_77 (h0 : 0 ≤ z) (h1 : z < 339) : xm_seti (yy_W m t) 77 z x = some (yy_W (yy_s m 77 z.toNat x) t) := yy_seti rfl h0 h1
theorem yi_78 : xm_ints o (yy_W m t) 78 = some (yy_R 7 (m 78)) := yy_ints rfl
theorem yt_78 (h0 : 0 ≤ z) (h1 : z < 7) : xm_seti (yy_W m t) 78 z x = some (yy_W (yy_s m 78 z.toNat x) t) := yy_seti rfl h0 h1
theorem yi_79 : xm_ints o (yy_W m t) 79 = some (yy_R 124 (m 79)) := yy_ints rfl
theorem yt_79 (h0 : 0 ≤ z) (h1 : z < 124) : xm_seti (yy_W m t) 79 z x = some (yy_W (yy_s m 79 z.toNat x) t) := yy_seti rfl h0 h1
theorem yi_80 : xm_ints o (yy_W m t) 80 = some (yy_R 128 (m 80)) := yy_ints rfl
theorem yt_80 (h0 : 0 ≤ z) (h1 : z < 128) : xm_seti (yy_W m t) 80 z x = some (yy_W (yy_s m 80 z.toNat x) t) := yy_seti rfl h0 h1
theorem yi_81 : xm_ints o (yy_W m t) 81 = some (yy_R 64 (m 81)) := yy_ints rfl
theorem yt_81 (h0 : 0 ≤ z) (h1 : z < 64) : xm_seti (yy_W m t) 81 z x = some (yy_W (yy_s m 81 z.toNat x) t) := yy_seti rfl h0 h1
theorem yi_82 : xm_ints o (yy_W m t) 82 = some (yy_R 30 (m 82)) := yy_ints rfl
theorem yt_82 (h0 : 0 ≤ z) (h1 : z < 30) : xm_seti (yy_W m t) 82 z x = some (yy_W (yy_s m 82 z.toNat x) t) := yy_seti rfl h0 h1
theorem yi_83 : xm_ints o (yy_W m t) 83 = some (yy_R 4 (m 83)) := yy_ints rfl
theorem yt_83 (h0 : 0 ≤ z) (h1 : z < 4) : xm_seti (yy_W m t) 83 z x = some (yy_W (yy_s m 83 z.toNat x) t) := yy_seti rfl h0 h1
theorem yi_84 : xm_ints o (yy_W m t) 84 = some (yy_R 4 (m 84)) := yy_ints rfl
theorem yt_84 (h0 : 0 ≤ z) (h1 : z < 4) : xm_seti (yy_W m t) 84 z x = some (yy_W (yy_s m 84 z.toNat x) t) := yy_seti rfl h0 h1
theorem yi_85 : xm_ints o (yy_W m t) 85 = some (yy_R 96 (m 85)) := yy_ints rfl
theorem yt_85 (h0 : 0 ≤ z) (h1 : z < 96) : xm_seti (yy_W m t) 85 z x = some (yy_W (yy_s m 85 z.toNat x) t) := yy_seti rfl h0 h1
theorem yi_86 : xm_ints o (yy_W m t) 86 = some (yy_R 24 (m 86)) := yy_ints rfl
theorem yt_86 (h0 : 0 ≤ z) (h1 : z < 24) : xm_seti (yy_W m t) 86 z x = some (yy_W (yy_s m 86 z.toNat x) t) := yy_seti rfl h0 h1
end yz_sec
