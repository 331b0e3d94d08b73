/-! every field and row of the world by its number -/
section yz_sec
variable {o : xm_W} {m : Nat → Nat → Int} {t : xm_W} {v z x : Int}
theorem yr_0_0 : xm_fr o (yy_W m t) 0 8 0 = some 1 := yy_fr rfl (by decide) rfl
theorem yr_0_1 : xm_fr o (yy_W m t) 0 8 1 = some 18 := yy_fr rfl (by decide) rfl
theorem yr_0_2 : xm_fr o (yy_W m t) 0 8 2 = some 35 := yy_fr rfl (by decide) rfl
theorem yr_0_3 : xm_fr o (yy_W m t) 0 8 3 = some 38 := yy_fr rfl (by decide) rfl
theorem yr_0_4 : xm_fr o (yy_W m t) 0 8 4 = some 55 := yy_fr rfl (by decide) rfl
theorem yf_0_5 : xm_fi o (yy_W m t) 0 8 5 = some (m 0 5) := yy_fi rfl (by decide) rfl
theorem ys_0_5 : xm_setf (yy_W m t) 0 8 5 0 (.inl v) = some (yy_W (yy_s m 0 5 v) t) := yy_setf rfl (by decide) rfl rfl
theorem yr_0_6 : xm_fr o (yy_W m t) 0 8 6 = some 58 := yy_fr rfl (by decide) rfl
theorem yr_0_7 : xm_fr o (yy_W m t) 0 8 7 = some 61 := yy_fr rfl (by decide) rfl
theorem yr_0_8 : xm_fr o (yy_W m t) 0 8 8 = some 63 := yy_fr rfl (by decide) rfl
theorem yr_0_9 : xm_fr o (yy_W m t) 0 8 9 = some 64 := yy_fr rfl (by decide) rfl
theorem yr_0_10 : xm_fr o (yy_W m t) 0 8 10 = some 65 := yy_fr rfl (by decide) rfl
theorem yr_1_0 : xm_fr o (yy_W m t) 1 2 0 = some 2 := yy_fr rfl (by decide) rfl
theorem yf_1_1 : xm_fi o (yy_W m t) 1 2 1 = some (m 1 1) := yy_fi rfl (by decide) rfl
theorem ys_1_1 : xm_setf (yy_W m t) 1 2 1 0 (.inl v) = some (yy_W (yy_s m 1 1 v) t) := yy_setf rfl (by decide) rfl rfl
theorem yf_1_2 : xm_fi o (yy_W m t) 1 2 2 = some (m 1 2) := yy_fi rfl (by decide) rfl
theorem ys_1_2 : xm_setf (yy_W m t) 1 2 2 0 (.inl v) = some (yy_W (yy_s m 1 2 v) t) := yy_setf rfl (by decide) rfl rfl
theorem yr_1_3 : xm_fr o (yy_W m t) 1 2 3 = some 3 := yy_fr rfl (by decide) rfl
theorem yf_1_4 : xm_fi o (yy_W m t) 1 2 4 = some (m 1 4) := yy_fi rfl (by decide) rfl
theorem ys_1_4 : xm_setf (yy_W m t) 1 2 4 0 (.inl v) = some (yy_W (yy_s m 1 4 v) t) := yy_setf rfl (by decide) rfl rfl
theorem yr_1_5 : xm_fr o (yy_W m t) 1 2 5 = some 4 := yy_fr rfl (by decide) rfl
theorem yf_1_6 : xm_fi o (yy_W m t) 1 2 6 = some (m 1 6) := yy_fi rfl (by decide) rfl
theorem ys_1_6 : xm_setf (yy_W m t) 1 2 6 0 (.inl v) = some (yy_W (yy_s m 1 6 v) t) := yy_setf rfl (by decide) rfl rfl
theorem yr_1_7 : xm_fr o (yy_W m t) 1 2 7 = some 5 := yy_fr rfl (by decide) rfl
theorem yr_1_8 : xm_fr o (yy_W m t) 1 2 8 = some 6 := yy_fr rfl (by decide) rfl
theorem yr_1_9 : xm_fr o (yy_W m t) 1 2 9 = some 7 := yy_fr rfl (by decide) rfl
theorem yi_2 : xm_ints o (yy_W m t) 2 = some (yy_R 36 (m 2)) := yy_ints rfl
theorem yt_2 (h0 : 0 ≤ z) (h1 : z < 36) : xm_seti (yy_W m t) 2 z x = some (yy_W (yy_s m 2 z.toNat x) t) := yy_seti rfl h0 h1
theorem yq_3 : xm_refs o (yy_W m t) 3 = some (yy_qs (m 3) 0 [10, 12, 14, 16, 18]) := yy_refs rfl (by decide)
theorem yi_4 : xm_ints o (yy_W m t) 4 = some (yy_R 200 (m 4)) := yy_ints rfl
theorem yt_4 (h0 : 0 ≤ z) (h1 : z < 200) : xm_seti (yy_W m t) 4 z x = some (yy_W (yy_s m 4 z.toNat x) t) := yy_seti rfl h0 h1
theorem yq_5 : xm_refs o (yy_W m t) 5 = some (yy_qs (m 5) 0 [1, 1]) := yy_refs rfl (by decide)
theorem yi_6 : xm_ints o (yy_W m t) 6 = some (yy_R 4 (m 6)) := yy_ints rfl
theorem yt_6 (h0 : 0 ≤ z) (h1 : z < 4) : xm_seti (yy_W m t) 6 z x = some (yy_W (yy_s m 6 z.toNat x) t) := yy_seti rfl h0 h1
theorem yi_7 : xm_ints o (yy_W m t) 7 = some (yy_R 60 (m 7)) := yy_ints rfl
theorem yt_7 (h0 : 0 ≤ z) (h1 : z < 60) : xm_seti (yy_W m t) 7 z x = some (yy_W (yy_s m 7 z.toNat x) t) := yy_seti rfl h0 h1
theorem yf_8_0 : xm_fi o (yy_W m t) 8 4 0 = some (m 8 0) := yy_fi rfl (by decide) rfl
theorem ys_8_0 : xm_setf (yy_W m t) 8 4 0 0 (.inl v) = some (yy_W (yy_s m 8 0 v) t) := yy_setf rfl (by decide) rfl rfl
theorem yf_8_1 : xm_fi o (yy_W m t) 8 4 1 = some (m 8 1) := yy_fi rfl (by decide) rfl
theorem ys_8_1 : xm_setf (yy_W m t) 8 4 1 0 (.inl v) = some (yy_W (yy_s m 8 1 v) t) := yy_setf rfl (by decide) rfl rfl
theorem yf_8_2 : xm_fi o (yy_W m t) 8 4 2 = some (m 8 2) := yy_fi rfl (by decide) rfl
theorem ys_8_2 : xm_setf (yy_W m t) 8 4 2 0 (.inl v) = some (yy_W (yy_s m 8 2 v) t) := yy_setf rfl (by decide) rfl rfl
theorem yf_8_3 : xm_fi o (yy_W m t) 8 4 3 = some (m 8 3) := yy_fi rfl (by decide) rfl
theorem ys_8_3 : xm_setf (yy_W m t) 8 4 3 0 (.inl v) = some (yy_W (yy_s m 8 3 v) t) := yy_setf rfl (by decide) rfl rfl
theorem yf_8_4 : xm_fi o (yy_W m t) 8 4 4 = some (m 8 4) := yy_fi rfl (by decide) rfl
theorem ys_8_4 : xm_setf (yy_W m t) 8 4 4 0 (.inl v) = some (yy_W (yy_s m 8 4 v) t) := yy_setf rfl (by decide) rfl rfl
theorem yf_8_5 : xm_fi o (yy_W m t) 8 4 5 = some (m 8 5) := yy_fi rfl (by decide) rfl
theorem ys_8_5 : xm_setf (yy_W m t) 8 4 5 0 (.inl v) = some (yy_W (yy_s m 8 5 v) t) := yy_setf rfl (by decide) rfl rfl
theorem yr_8_6 : xm_fr o (yy_W m t) 8 4 6 = some 9 := yy_fr rfl (by decide) rfl
theorem yi_9 : xm_ints o (yy_W m t) 9 = some (yy_R 12 (m 9)) := yy_ints rfl
theorem yt_9 (h0 : 0 ≤ z) (h1 : z < 12) : xm_seti (yy_W m t) 9 z x = some (yy_W (yy_s m 9 z.toNat x) t) := yy_seti rfl h0 h1
theorem yf_10_0 : xm_fi o (yy_W m t) 10 4 0 = some (m 10 0) := yy_fi rfl (by decide) rfl
theorem ys_10_0 : xm_setf (yy_W m t) 10 4 0 0 (.inl v) = some (yy_W (yy_s m 10 0 v) t) := yy_setf rfl (by decide) rfl rfl
theorem yf_10_1 : xm_fi o (yy_W m t) 10 4 1 = some (m 10 1) := yy_fi rfl (by decide) rfl
theorem ys_10_1 : xm_setf (yy_W m t) 10 4 1 0 (.inl v) = some (yy_W (yy_s m 10 1 v) t) := yy_setf rfl (by decide) rfl rfl
theorem yf_10_2 : xm_fi o (yy_W m t) 10 4 2 = some (m 10 2) := yy_fi rfl (by decide) rfl
theorem ys_10_2 : xm_setf (yy_W m t) 10 4 2 0 (.inl v) = some (yy_W (yy_s m 10 2 v) t) := yy_setf rfl (by decide) rfl rfl
theorem yf_10_3 : xm_fi o (yy_W m t) 10 4 3 = some (m 10 3) := yy_fi rfl (by decide) rfl
theorem ys_10_3 : xm_setf (yy_W m t) 10 4 3 0 (.inl v) = some (yy_W (yy_s m 10 3 v) t) := yy_setf rfl (by decide) rfl rfl
theorem yf_10_4 : xm_fi o (yy_W m t) 10 4 4 = some (m 10 4) := yy_fi rfl (by decide) rfl
theorem ys_10_4 : xm_setf (yy_W m t) 10 4 4 0 (.inl v) = some (yy_W (yy_s m 10 4 v) t) := yy_setf rfl (by decide) rfl rfl
theorem yf_10_5 : xm_fi o (yy_W m t) 10 4 5 = some (m 10 5) := yy_fi rfl (by decide) rfl
theorem ys_10_5 : xm_setf (yy_W m t) 10 4 5 0 (.inl v) = some (yy_W (yy_s m 10 5 v) t) := yy_setf rfl (by decide) rfl rfl
theorem yr_10_6 : xm_fr o (yy_W m t) 10 4 6 = some 11 := yy_fr rfl (by decide) rfl
theorem yi_11 : xm_ints o (yy_W m t) 11 = some (yy_R 12 (m 11)) := yy_ints rfl
theorem yt_11 (h0 : 0 ≤ z) (h1 : z < 12) : xm_seti (yy_W m t) 11 z x = some (yy_W (yy_s m 11 z.toNat x) t) := yy_seti rfl h0 h1
theorem yf_12_0 : xm_fi o (yy_W m t) 12 4 0 = some (m 12 0) := yy_fi rfl (by decide) rfl
theorem ys_12_0 : xm_setf (yy_W m t) 12 4 0 0 (.inl v) = some (yy_W (yy_s m 12 0 v) t) := yy_setf rfl (by decide) rfl rfl
theorem yf_12_1 : xm_fi o (yy_W m t) 12 4 1 = some (m 12 1) := yy_fi rfl (by decide) rfl
theorem ys_12_1 : xm_setf (yy_W m t) 12 4 1 0 (.inl v) = some (yy_W (yy_s m 12 1 v) t) := yy_setf rfl (by decide) rfl rfl
theorem yf_12_2 : xm_fi o (yy_W m t) 12 4 2 = some (m 12 2) := yy_fi rfl (by decide) rfl
theorem ys_12_2 : xm_setf (yy_W m t) 12 4 2 0 (.inl v) = some (yy_W (yy_s m 12 2 v) t) := yy_setf rfl (by decide) rfl rfl
theorem yf_12_3 : xm_fi o (yy_W m t) 12 4 3 = some (m 12 3) := yy_fi rfl (by decide) rfl
theorem ys_12_3 : xm_setf (yy_W m t) 12 4 3 0 (.inl v) = some (yy_W (yy_s m 12 3 v) t) := yy_setf rfl (by decide) rfl rfl
theorem yf_12_4 : xm_fi o (yy_W m t) 12 4 4 = some (m 12 4) := yy_fi rfl (by decide) rfl
theorem ys_12_4 : xm_setf (yy_W m t) 12 4 4 0 (.inl v) = some (yy_W (yy_s m 12 4 v) t) := yy_setf rfl (by decide) rfl rfl
theorem yf_12_5 : xm_fi o (yy_W m t) 12 4 5 = some (m 12 5) := yy_fi rfl (by decide) rfl
theorem ys_12_5 : xm_setf (yy_W m t) 12 4 5 0 (.inl v) = some (yy_W (yy_s m 12 5 v) t) := yy_setf rfl (by decide) rfl rfl
theorem yr_12_6 : xm_fr o (yy_W m t) 12 4 6 = some 13 := yy_fr rfl (by decide) rfl
theorem yi_13 : xm_ints o (yy_W m t) 13 = some (yy_R 12 (m 13)) := yy_ints rfl
theorem yt_13 (h0 : 0 ≤ z) (h1 : z < 12) : xm_seti (yy_W m t) 13 z x = some (yy_W (yy_s m 13 z.toNat x) t) := yy_seti rfl h0 h1
theorem yf_14_0 : xm_fi o (yy_W m t) 14 4 0 = some (m 14 0) := yy_fi rfl (by decide) rfl
theorem ys_14_0 : xm_setf (yy_W m t) 14 4 0 0 (.inl v) = some (yy_W (yy_s m 14 0 v) t) := yy_setf rfl (by decide) rfl rfl
theorem yf_14_1 : xm_fi o (yy_W m t) 14 4 1 = some (m 14 1) := yy_fi rfl (by decide) rfl
theorem ys_14_1 : xm_setf (yy_W m t) 14 4 1 0 (.inl v) = some (yy_W (yy_s m 14 1 v) t) := yy_setf rfl (by decide) rfl rfl
theorem yf_14_2 : xm_fi o (yy_W m t) 14 4 2 = some (m 14 2) := yy_fi rfl (by decide) rfl
theorem ys_14_2 : xm_setf (yy_W m t) 14 4 2 0 (.inl v) = some (yy_W (yy_s m 14 2 v) t) := yy_setf rfl (by decide) rfl rfl
theorem yf_14_3 : xm_fi o (yy_W m t) 14 4 3 = some (m 14 3) := yy_fi rfl (by decide) rfl
theorem ys_14_3 : xm_setf (yy_W m t) 14 4 3 0 (.inl v) = some (yy_W (yy_s m 14 3 v) t) := yy_setf rfl (by decide) rfl rfl
theorem yf_14_4 : xm_fi o (yy_W m t) 14 4 4 = some (m 14 4) := yy_fi rfl (by decide) rfl
theorem ys_14_4 : xm_setf (yy_W m t) 14 4 4 0 (.inl v) = some (yy_W (yy_s m 14 4 v) t) := yy_setf rfl (by decide) rfl rfl
theorem yf_14_5 : xm_fi o (yy_W m t) 14 4 5 = some (m 14 5) := yy_fi rfl (by decide) rfl
theorem ys_14_5 : xm_setf (yy_W m t) 14 4 5 0 (.inl v) = some (yy_W (yy_s m 14 5 v) t) := yy_setf rfl (by decide) rfl rfl
theorem yr_14_6 : xm_fr o (yy_W m t) 14 4 6 = some 15 := yy_fr rfl (by decide) rfl
theorem yi_15 : xm_ints o (yy_W m t) 15 = some (yy_R 12 (m 15)) := yy_ints rfl
theorem yt_15 (h0 : 0 ≤ z) (h1 : z < 12) : xm_seti (yy_W m t) 15 z x = some (yy_W (yy_s m 15 z.toNat x) t) := yy_seti rfl h0 h1
theorem yf_16_0 : xm_fi o (yy_W m t) 16 4 0 = some (m 16 0) := yy_fi rfl (by decide) rfl
theorem ys_16_0 : xm_setf (yy_W m t) 16 4 0 0 (.inl v) = some (yy_W (yy_s m 16 0 v) t) := yy_setf rfl (by decide) rfl rfl
theorem yf_16_1 : xm_fi o (yy_W m t) 16 4 1 = some (m 16 1) := yy_fi rfl (by decide) rfl
theorem ys_16_1 : xm_setf (yy_W m t) 16 4 1 0 (.inl v) = some (yy_W (yy_s m 16 1 v) t) := yy_setf rfl (by decide) rfl rfl
theorem yf_16_2 : xm_fi o (yy_W m t) 16 4 2 = some (m 16 2) := yy_fi rfl (by decide) rfl
theorem ys_16_2 : xm_setf (yy_W m t) 16 4 2 0 (.inl v) = some (yy_W (yy_s m 16 2 v) t) := yy_setf rfl (by decide) rfl rfl
theorem yf_16_3 : xm_fi o (yy_W m t) 16 4 3 = some (m 16 3) := yy_fi rfl (by decide) rfl
theorem ys_16_3 : xm_setf (yy_W m t) 16 4 3 0 (.inl v) = some (yy_W (yy_s m 16 3 v) t) := yy_setf rfl (by decide) rfl rfl
theorem yf_16_4 : xm_fi o (yy_W m t) 16 4 4 = some (m 16 4) := yy_fi rfl (by decide) rfl
theorem ys_16_4 : xm_setf (yy_W m t) 16 4 4 0 (.inl v) = some (yy_W (yy_s m 16 4 v) t) := yy_setf rfl (by decide) rfl rfl
theorem yf_16_5 : xm_fi o (yy_W m t) 16 4 5 = some (m 16 5) := yy_fi rfl (by decide) rfl
theorem ys_16_5 : xm_setf (yy_W m t) 16 4 5 0 (.inl v) = some (yy_W (yy_s m 16 5 v) t) := yy_setf rfl (by decide) rfl rfl
theorem yr_16_6 : xm_fr o (yy_W m t) 16 4 6 = some 17 := yy_fr rfl (by decide) rfl
theorem yi_17 : xm_ints o (yy_W m t) 17 = some (yy_R 12 (m 17)) := yy_ints rfl
theorem yt_17 (h0 : 0 ≤ z) (h1 : z < 12) : xm_seti (yy_W m t) 17 z x = some (yy_W (yy_s m 17 z.toNat x) t) := yy_seti rfl h0 h1
theorem yr_18_0 : xm_fr o (yy_W m t) 18 2 0 = some 19 := yy_fr rfl (by decide) rfl
theorem yf_18_1 : xm_fi o (yy_W m t) 18 2 1 = some (m 18 1) := yy_fi rfl (by decide) rfl
theorem ys_18_1 : xm_setf (yy_W m t) 18 2 1 0 (.inl v) = some (yy_W (yy_s m 18 1 v) t) := yy_setf rfl (by decide) rfl rfl
theorem yf_18_2 : xm_fi o (yy_W m t) 18 2 2 = some (m 18 2) := yy_fi rfl (by decide) rfl
theorem ys_18_2 : xm_setf (yy_W m t) 18 2 2 0 (.inl v) = some (yy_W (yy_s m 18 2 v) t) := yy_setf rfl (by decide) rfl rfl
theorem yr_18_3 : xm_fr o (yy_W m t) 18 2 3 = some 20 := yy_fr rfl (by decide) rfl
theorem yf_18_4 : xm_fi o (yy_W m t) 18 2 4 = some (m 18 4) := yy_fi rfl (by decide) rfl
theorem ys_18_4 : xm_setf (yy_W m t) 18 2 4 0 (.inl v) = some (yy_W (yy_s m 18 4 v) t) := yy_setf rfl (by decide) rfl rfl
theorem yr_18_5 : xm_fr o (yy_W m t) 18 2 5 = some 21 := yy_fr rfl (by decide) rfl
theorem yf_18_6 : xm_fi o (yy_W m t) 18 2 6 = some (m 18 6) := yy_fi rfl (by decide) rfl
theorem ys_18_6 : xm_setf (yy_W m t) 18 2 6 0 (.inl v) = some (yy_W (yy_s m 18 6 v) t) := yy_setf rfl (by decide) rfl rfl
theorem yr_18_7 : xm_fr o (yy_W m t) 18 2 7 = some 22 := yy_fr rfl (by decide) rfl
theorem yr_18_8 : xm_fr o (yy_W m t) 18 2 8 = some 23 := yy_fr rfl (by decide) rfl
theorem yr_18_9 : xm_fr o (yy_W m t) 18 2 9 = some 24 := yy_fr rfl (by decide) rfl
theorem yi_19 : xm_ints o (yy_W m t) 19 = some (yy_R 36 (m 19)) := yy_ints rfl
theorem yt_19 (h0 : 0 ≤ z) (h1 : z < 36) : xm_seti (yy_W m t) 19 z x = some (yy_W (yy_s m 19 z.toNat x) t) := yy_seti rfl h0 h1
theorem yq_20 : xm_refs o (yy_W m t) 20 = some (yy_qs (m 20) 0 [27, 29, 31, 33, 35]) := yy_refs rfl (by decide)
theorem yi_21 : xm_ints o (yy_W m t) 21 = some (yy_R 200 (m 21)) := yy_ints rfl
theorem yt_21 (h0 : 0 ≤ z) (h1 : z < 200) : xm_seti (yy_W m t) 21 z x = some (yy_W (yy_s m 21 z.toNat x) t) := yy_seti rfl h0 h1
theorem yq_22 : xm_refs o (yy_W m t) 22 = some (yy_qs (m 22) 0 [1, 1]) := yy_refs rfl (by decide)
theorem yi_23 : xm_ints o (yy_W m t) 23 = some (yy_R 4 (m 23)) := yy_ints rfl
theorem yt_23 (h0 : 0 ≤ z) (h1 : z < 4) : xm_seti (yy_W m t) 23 z x = some (yy_W (yy_s m 23 z.toNat x) t) := yy_seti rfl h0 h1
theorem yi_24 : xm_ints o (yy_W m t) 24 = some (yy_R 60 (m 24)) := yy_ints rfl
theorem yt_24 (h0 : 0 ≤ z) (h1 : z < 60) : xm_seti (yy_W m t) 24 z x = some (yy_W (yy_s m 24 z.toNat x) t) := yy_seti rfl h0 h1
theorem yf_25_0 : xm_fi o (yy_W m t) 25 4 0 = some (m 25 0) := yy_fi rfl (by decide) rfl
theorem ys_25_0 : xm_setf (yy_W m t) 25 4 0 0 (.inl v) = some (yy_W (yy_s m 25 0 v) t) := yy_setf rfl (by decide) rfl rfl
theorem yf_25_1 : xm_fi o (yy_W m t) 25 4 1 = some (m 25 1) := yy_fi rfl (by decide) rfl
theorem ys_25_1 : xm_setf (yy_W m t) 25 4 1 0 (.inl v) = some (yy_W (yy_s m 25 1 v) t) := yy_setf rfl (by decide) rfl rfl
theorem yf_25_2 : xm_fi o (yy_W m t) 25 4 2 = some (m 25 2) := yy_fi rfl (by decide) rfl
theorem ys_25_2 : xm_setf (yy_W m t) 25 4 2 0 (.inl v) = some (yy_W (yy_s m 25 2 v) t) := yy_setf rfl (by decide) rfl rfl
theorem yf_25_3 : xm_fi o (yy_W m t) 25 4 3 = some (m 25 3) := yy_fi rfl (by decide) rfl
theorem ys_25_3 : xm_setf (yy_W m t) 25 4 3 0 (.inl v) = some (yy_W (yy_s m 25 3 v) t) := yy_setf rfl (by decide) rfl rfl
theorem yf_25_4 : xm_fi o (yy_W m t) 25 4 4 = some (m 25 4) := yy_fi rfl (by decide) rfl
theorem ys_25_4 : xm_setf (yy_W m t) 25 4 4 0 (.inl v) = some (yy_W (yy_s m 25 4 v) t) := yy_setf rfl (by decide) rfl rfl
theorem yf_25_5 : xm_fi o (yy_W m t) 25 4 5 = some (m 25 5) := yy_fi rfl (by decide) rfl
theorem ys_25_5 : xm_setf (yy_W m t) 25 4 5 0 (.inl v) = some (yy_W (yy_s m 25 5 v) t) := yy_setf rfl (by decide) rfl rfl
theorem yr_25_6 : xm_fr o (yy_W m t) 25 4 6 = some 26 := yy_fr rfl (by decide) rfl
theorem yi_26 : xm_ints o (yy_W m t) 26 = some (yy_R 12 (m 26)) := yy_ints rfl
theorem yt_26 (h0 : 0 ≤ z) (h1 : z < 12) : xm_seti (yy_W m t) 26 z x = some (yy_W (yy_s m 26 z.toNat x) t) := yy_seti rfl h0 h1
theorem yf_27_0 : xm_fi o (yy_W m t) 27 4 0 = some (m 27 0) := yy_fi rfl (by decide) rfl
theorem ys_27_0 : xm_setf (yy_W m t) 27 4 0 0 (.inl v) = some (yy_W (yy_s m 27 0 v) t) := yy_setf rfl (by decide) rfl rfl
theorem yf_27_1 : xm_fi o (yy_W m t) 27 4 1 = some (m 27 1) := yy_fi rfl (by decide) rfl
theorem ys_27_1 : xm_setf (yy_W m t) 27 4 1 0 (.inl v) = some (yy_W (yy_s m 27 1 v) t) := yy_setf rfl (by decide) rfl rfl
theorem yf_27_2 : xm_fi o (yy_W m t) 27 4 2 = some (m 27 2) := yy_fi rfl (by decide) rfl
theorem ys_27_2 : xm_setf (yy_W m t) 27 4 2 0 (.inl v) = some (yy_W (yy_s m 27 2 v) t) := yy_setf rfl (by decide) rfl rfl
theorem yf_27_3 : xm_fi o (yy_W m t) 27 4 3 = some (m 27 3) := yy_fi rfl (by decide) rfl
theorem ys_27_3 : xm_setf (yy_W m t) 27 4 3 0 (.inl v) = some (yy_W (yy_s m 27 3 v) t) := yy_setf rfl (by decide) rfl rfl
theorem yf_27_4 : xm_fi o (yy_W m t) 27 4 4 = some (m 27 4) := yy_fi rfl (by decide) rfl
theorem ys_27_4 : xm_setf (yy_W m t) 27 4 4 0 (.inl v) = some (yy_W (yy_s m 27 4 v) t) := yy_setf rfl (by decide) rfl rfl
theorem yf_27_5 : xm_fi o (yy_W m t) 27 4 5 = some (m 27 5) := yy_fi rfl (by decide) rfl
theorem ys_27_5 : xm_setf (yy_W m t) 27 4 5 0 (.inl v) = some (yy_W (yy_s m 27 5 v) t) := yy_setf rfl (by decide) rfl rfl
theorem yr_27_6 : xm_fr o (yy_W m t) 27 4 6 = some 28 := yy_fr rfl (by decide) rfl
theorem yi_28 : xm_ints o (yy_W m t) 28 = some (yy_R 12 (m 28)) := yy_ints rfl
theorem yt_28 (h0 : 0 ≤ z) (h1 : z < 12) : xm_seti (yy_W m t) 28 z x = some (yy_W (yy_s m 28 z.toNat x) t) := yy_seti rfl h0 h1
theorem yf_29_0 : xm_fi o (yy_W m t) 29 4 0 = some (m 29 0) := yy_fi rfl (by decide) rfl
theorem ys_29_0 : xm_setf (yy_W m t) 29 4 0 0 (.inl v) = some (yy_W (yy_s m 29 0 v) t) := yy_setf rfl (by decide) rfl rfl
theorem yf_29_1 : xm_fi o (yy_W m t) 29 4 1 = some (m 29 1) := yy_fi rfl (by decide) rfl
theorem ys_29_1 : xm_setf (yy_W m t) 29 4 1 0 (.inl v) = some (yy_W (yy_s m 29 1 v) t) := yy_setf rfl (by decide) rfl rfl
theorem yf_29_2 : xm_fi o (yy_W m t) 29 4 2 = some (m 29 2) := yy_fi rfl (by decide) rfl
theorem ys_29_2 : xm_setf (yy_W m t) 29 4 2 0 (.inl v) = some (yy_W (yy_s m 29 2 v) t) := yy_setf rfl (by decide) rfl rfl
theorem yf_29_3 : xm_fi o (yy_W m t) 29 4 3 = some (m 29 3) := yy_fi rfl (by decide) rfl
theorem ys_29_3 : xm_setf (yy_W m t) 29 4 3 0 (.inl v) = some (yy_W (yy_s m 29 3 v) t) := yy_setf rfl (by decide) rfl rfl
theorem yf_29_4 : xm_fi o (yy_W m t) 29 4 4 = some (m 29 4) := yy_fi rfl (by decide) rfl
theorem ys_29_4 : xm_setf (yy_W m t) 29 4 4 0 (.inl v) = some (yy_W (yy_s m 29 4 v) t) := yy_setf rfl (by decide) rfl rfl
theorem yf_29_5 : xm_fi o (yy_W m t) 29 4 5 = some (m 29 5) := yy_fi rfl (by decide) rfl
theorem ys_29_5 : xm_setf (yy_W m t) 29 4 5 0 (.inl v) = some (yy_W (yy_s m 29 5 v) t) := yy_setf rfl (by decide) rfl rfl
theorem yr_29_6 : xm_fr o (yy_W m t) 29 4 6 = some 30 := yy_fr rfl (by decide) rfl
theorem yi_30 : xm_ints o (yy_W m t) 30 = some (yy_R 12 (m 30)) := yy_ints rfl
theorem yt_30 (h0 : 0 ≤ z) (h1 : z < 12) : xm_seti (yy_W m t) 30 z x = some (yy_W (yy_s m 30 z.toNat x) t) := yy_seti rfl h0 h1
theorem yf_31_0 : xm_fi o (yy_W m t) 31 4 0 = some (m 31 0) := yy_fi rfl (by decide) rfl
theorem ys_31_0 : xm_setf (yy_W m t) 31 4 0 0 (.inl v) = some (yy_W (yy_s m 31 0 v) t) := yy_setf rfl (by decide) rfl rfl
theorem yf_31_1 : xm_fi o (yy_W m t) 31 4 1 = some (m 31 1) := yy_fi rfl (by decide) rfl
theorem ys_31_1 : xm_setf (yy_W m t) 31 4 1 0 (.inl v) = some (yy_W (yy_s m 31 1 v) t) := yy_setf rfl (by decide) rfl rfl
theorem yf_31_2 : xm_fi o (yy_W m t) 31 4 2 = some (m 31 2) := yy_fi rfl (by decide) rfl
theorem ys_31_2 : xm_setf (yy_W m t) 31 4 2 0 (.inl v) = some (yy_W (yy_s m 31 2 v) t) := yy_setf rfl (by decide) rfl rfl
theorem yf_31_3 : xm_fi o (yy_W m t) 31 4 3 = some (m 31 3) := yy_fi rfl (by decide) rfl
theorem ys_31_3 : xm_setf (yy_W m t) 31 4 3 0 (.inl v) = some (yy_W (yy_s m 31 3 v) t) := yy_setf rfl (by decide) rfl rfl
theorem yf_31_4 : xm_fi o (yy_W m t) 31 4 4 = some (m 31 4) := yy_fi rfl (by decide) rfl
theorem ys_31_4 : xm_setf (yy_W m t) 31 4 4 0 (.inl v) = some (yy_W (yy_s m 31 4 v) t) := yy_setf rfl (by decide) rfl rfl
theorem yf_31_5 : xm_fi o (yy_W m t) 31 4 5 = some (m 31 5) := yy_fi rfl (by decide) rfl
theorem ys_31_5 : xm_setf (yy_W m t) 31 4 5 0 (.inl v) = some (yy_W (yy_s m 31 5 v) t) := yy_setf rfl (by decide) rfl rfl
theorem yr_31_6 : xm_fr o (yy_W m t) 31 4 6 = some 32 := yy_fr rfl (by decide) rfl
theorem yi_32 : xm_ints o (yy_W m t) 32 = some (yy_R 12 (m 32)) := yy_ints rfl
theorem yt_32 (h0 : 0 ≤ z) (h1 : z < 12) : xm_seti (yy_W m t) 32 z x = some (yy_W (yy_s m 32 z.toNat x) t) := yy_seti rfl h0 h1
theorem yf_33_0 : xm_fi o (yy_W m t) 33 4 0 = some (m 33 0) := yy_fi rfl (by decide) rfl
theorem ys_33_0 : xm_setf (yy_W m t) 33 4 0 0 (.inl v) = some (yy_W (yy_s m 33 0 v) t) := yy_setf rfl (by decide) rfl rfl
theorem yf_33_1 : xm_fi o (yy_W m t) 33 4 1 = some (m 33 1) := yy_fi rfl (by decide) rfl
theorem ys_33_1 : xm_setf (yy_W m t) 33 4 1 0 (.inl v) = some (yy_W (yy_s m 33 1 v) t) := yy_setf rfl (by decide) rfl rfl
theorem yf_33_2 : xm_fi o (yy_W m t) 33 4 2 = some (m 33 2) := yy_fi rfl (by decide) rfl
theorem ys_33_2 : xm_setf (yy_W m t) 33 4 2 0 (.inl v) = some (yy_W (yy_s m 33 2 v) t) := yy_setf rfl (by decide) rfl rfl
theorem yf_33_3 : xm_fi o (yy_W m t) 33 4 3 = some (m 33 3) := yy_fi rfl (by decide) rfl
theorem ys_33_3 : xm_setf (yy_W m t) 33 4 3 0 (.inl v) = some (yy_W (yy_s m 33 3 v) t) := yy_setf rfl (by decide) rfl rfl
theorem yf_33_4 : xm_fi o (yy_W m t) 33 4 4 = some (m 33 4) := yy_fi rfl (by decide) rfl
theorem ys_33_4 : xm_setf (yy_W m t) 33 4 4 0 (.inl v) = some (yy_W (yy_s m 33 4 v) t) := yy_setf rfl (by decide) rfl rfl
theorem yf_33_5 : xm_fi o (yy_W m t) 33 4 5 = some (m 33 5) := yy_fi rfl (by decide) rfl
theorem ys_33_5 : xm_setf (yy_W m t) 33 4 5 0 (.inl v) = some (yy_W (yy_s m 33 5 v) t) := yy_setf rfl (by decide) rfl rfl
theorem yr_33_6 : xm_fr o (yy_W m t) 33 4 6 = some 34 := yy_fr rfl (by decide) rfl
theorem yi_34 : xm_ints o (yy_W m t) 34 = some (yy_R 12 (m 34)) := yy_ints rfl
theorem yt_34 (h0 : 0 ≤ z) (h1 : z < 12) : xm_seti (yy_W m t) 34 z x = some (yy_W (yy_s m 34 z.toNat x) t) := yy_seti rfl h0 h1
theorem yr_35_0 : xm_fr o (yy_W m t) 35 1 0 = some 36 := yy_fr rfl (by decide) rfl
theorem yf_35_1 : xm_fi o (yy_W m t) 35 1 1 = some (m 35 1) := yy_fi rfl (by decide) rfl
theorem ys_35_1 : xm_setf (yy_W m t) 35 1 1 0 (.inl v) = some (yy_W (yy_s m 35 1 v) t) := yy_setf rfl (by decide) rfl rfl
theorem yr_35_2 : xm_fr o (yy_W m t) 35 1 2 = some 37 := yy_fr rfl (by decide) rfl
theorem yf_35_3 : xm_fi o (yy_W m t) 35 1 3 = some (m 35 3) := yy_fi rfl (by decide) rfl
theorem ys_35_3 : xm_setf (yy_W m t) 35 1 3 0 (.inl v) = some (yy_W (yy_s m 35 3 v) t) := yy_setf rfl (by decide) rfl rfl
theorem yf_35_4 : xm_fi o (yy_W m t) 35 1 4 = some (m 35 4) := yy_fi rfl (by decide) rfl
theorem ys_35_4 : xm_setf (yy_W m t) 35 1 4 0 (.inl v) = some (yy_W (yy_s m 35 4 v) t) := yy_setf rfl (by decide) rfl rfl
theorem yi_36 : xm_ints o (yy_W m t) 36 = some (yy_R 60 (m 36)) := yy_ints rfl
theorem yt_36 (h0 : 0 ≤ z) (h1 : z < 60) : xm_seti (yy_W m t) 36 z x = some (yy_W (yy_s m 36 z.toNat x) t) := yy_seti rfl h0 h1
theorem yi_37 : xm_ints o (yy_W m t) 37 = some (yy_R 24 (m 37)) := yy_ints rfl
theorem yt_37 (h0 : 0 ≤ z) (h1 : z < 24) : xm_seti (yy_W m t) 37 z x = some (yy_W (yy_s m 37 z.toNat x) t) := yy_seti rfl h0 h1
theorem yr_38_0 : xm_fr o (yy_W m t) 38 2 0 = some 39 := yy_fr rfl (by decide) rfl
theorem yf_38_1 : xm_fi o (yy_W m t) 38 2 1 = some (m 38 1) := yy_fi rfl (by decide) rfl
theorem ys_38_1 : xm_setf (yy_W m t) 38 2 1 0 (.inl v) = some (yy_W (yy_s m 38 1 v) t) := yy_setf rfl (by decide) rfl rfl
theorem yf_38_2 : xm_fi o (yy_W m t) 38 2 2 = some (m 38 2) := yy_fi rfl (by decide) rfl
theorem ys_38_2 : xm_setf (yy_W m t) 38 2 2 0 (.inl v) = some (yy_W (yy_s m 38 2 v) t) := yy_setf rfl (by decide) rfl rfl
theorem yr_38_3 : xm_fr o (yy_W m t) 38 2 3 = some 40 := yy_fr rfl (by decide) rfl
theorem yf_38_4 : xm_fi o (yy_W m t) 38 2 4 = some (m 38 4) := yy_fi rfl (by decide) rfl
theorem ys_38_4 : xm_setf (yy_W m t) 38 2 4 0 (.inl v) = some (yy_W (yy_s m 38 4 v) t) := yy_setf rfl (by decide) rfl rfl
theorem yr_38_5 : xm_fr o (yy_W m t) 38 2 5 = some 41 := yy_fr rfl (by decide) rfl
theorem yf_38_6 : xm_fi o (yy_W m t) 38 2 6 = some (m 38 6) := yy_fi rfl (by decide) rfl
theorem ys_38_6 : xm_setf (yy_W m t) 38 2 6 0 (.inl v) = some (yy_W (yy_s m 38 6 v) t) := yy_setf rfl (by decide) rfl rfl
theorem yr_38_7 : xm_fr o (yy_W m t) 38 2 7 = some 42 := yy_fr rfl (by decide) rfl
theorem yr_38_8 : xm_fr o (yy_W m t) 38 2 8 = some 43 := yy_fr rfl (by decide) rfl
theorem yr_38_9 : xm_fr o (yy_W m t) 38 2 9 = some 44 := yy_fr rfl (by decide) rfl
theorem yi_39 : xm_ints o (yy_W m t) 39 = some (yy_R 36 (m 39)) := yy_ints rfl
theorem yt_39 (h0 : 0 ≤ z) (h1 : z < 36) : xm_seti (yy_W m t) 39 z x = some (yy_W (yy_s m 39 z.toNat x) t) := yy_seti rfl h0 h1
theorem yq_40 : xm_refs o (yy_W m t) 40 = some (yy_qs (m 40) 0 [47, 49, 51, 53, 55]) := yy_refs rfl (by decide)
theorem yi_41 : xm_ints o (yy_W m t) 41 = some (yy_R 200 (m 41)) := yy_ints rfl
theorem yt_41 (h0 : 0 ≤ z) (h1 : z < 200) : xm_seti (yy_W m t) 41 z x = some (yy_W (yy_s m 41 z.toNat x) t) := yy_seti rfl h0 h1
theorem yq_42 : xm_refs o (yy_W m t) 42 = some (yy_qs (m 42) 0 [1, 1]) := yy_refs rfl (by decide)
theorem yi_43 : xm_ints o (yy_W m t) 43 = some (yy_R 4 (m 43)) := yy_ints rfl
theorem yt_43 (h0 : 0 ≤ z) (h1 : z < 4) : xm_seti (yy_W m t) 43 z x = some (yy_W (yy_s m 43 z.toNat x) t) := yy_seti rfl h0 h1
theorem yi_44 : xm_ints o (yy_W m t) 44 = some (yy_R 60 (m 44)) := yy_ints rfl
theorem yt_44 (h0 : 0 ≤ z) (h1 : z < 60) : xm_seti (yy_W m t) 44 z x = some (yy_W (yy_s m 44 z.toNat x) t) := yy_seti rfl h0 h1
theorem yf_45_0 : xm_fi o (yy_W m t) 45 4 0 = some (m 45 0) := yy_fi rfl (by decide) rfl
theorem ys_45_0 : xm_setf (yy_W m t) 45 4 0 0 (.inl v) = some (yy_W (yy_s m 45 0 v) t) := yy_setf rfl (by decide) rfl rfl
theorem yf_45_1 : xm_fi o (yy_W m t) 45 4 1 = some (m 45 1) := yy_fi rfl (by decide) rfl
theorem ys_45_1 : xm_setf (yy_W m t) 45 4 1 0 (.inl v) = some (yy_W (yy_s m 45 1 v) t) := yy_setf rfl (by decide) rfl rfl
theorem yf_45_2 : xm_fi o (yy_W m t) 45 4 2 = some (m 45 2) := yy_fi rfl (by decide) rfl
theorem ys_45_2 : xm_setf (yy_W m t) 45 4 2 0 (.inl v) = some (yy_W (yy_s m 45 2 v) t) := yy_setf rfl (by decide) rfl rfl
theorem yf_45_3 : xm_fi o (yy_W m t) 45 4 3 = some (m 45 3) := yy_fi rfl (by decide) rfl
theorem ys_45_3 : xm_setf (yy_W m t) 45 4 3 0 (.inl v) = some (yy_W (yy_s m 45 3 v) t) := yy_setf rfl (by decide) rfl rfl
theorem yf_45_4 : xm_fi o (yy_W m t) 45 4 4 = some (m 45 4) := yy_fi rfl (by decide) rfl
theorem ys_45_4 : xm_setf (yy_W m t) 45 4 4 0 (.inl v) = some (yy_W (yy_s m 45 4 v) t) := yy_setf rfl (by decide) rfl rfl
theorem yf_45_5 : xm_fi o (yy_W m t) 45 4 5 = some (m 45 5) := yy_fi rfl (by decide) rfl
theorem ys_45_5 : xm_setf (yy_W m t) 45 4 5 0 (.inl v) = some (yy_W (yy_s m 45 5 v) t) := yy_setf rfl (by decide) rfl rfl
theorem yr_45_6 : xm_fr o (yy_W m t) 45 4 6 = some 46 := yy_fr rfl (by decide) rfl
theorem yi_46 : xm_ints o (yy_W m t) 46 = some (yy_R 12 (m 46)) := yy_ints rfl
theorem yt_46 (h0 : 0 ≤ z) (h1 : z < 12) : xm_seti (yy_W m t) 46 z x = some (yy_W (yy_s m 46 z.toNat x) t) := yy_seti rfl h0 h1
theorem yf_47_0 : xm_fi o (yy_W m t) 47 4 0 = some (m 47 0) := yy_fi rfl (by decide) rfl
theorem ys_47_0 : xm_setf (yy_W m t) 47 4 0 0 (.inl v) = some (yy_W (yy_s m 47 0 v) t) := yy_setf rfl (by decide) rfl rfl
theorem yf_47_1 : xm_fi o (yy_W m t) 47 4 1 = some (m 47 1) := yy_fi rfl (by decide) rfl
theorem ys_47_1 : xm_setf (yy_W m t) 47 4 1 0 (.inl v) = some (yy_W (yy_s m 47 1 v) t) := yy_setf rfl (by decide) rfl rfl
theorem yf_47_2 : xm_fi o (yy_W m t) 47 4 2 = some (m 47 2) := yy_fi rfl (by decide) rfl
theorem ys_47_2 : xm_setf (yy_W m t) 47 4 2 0 (.inl v) = some (yy_W (yy_s m 47 2 v) t) := yy_setf rfl (by decide) rfl rfl
theorem yf_47_3 : xm_fi o (yy_W m t) 47 4 3 = some (m 47 3) := yy_fi rfl (by decide) rfl
theorem ys_47_3 : xm_setf (yy_W m t) 47 4 3 0 (.inl v) = some (yy_W (yy_s m 47 3 v) t) := yy_setf rfl (by decide) rfl rfl
theorem yf_47_4 : xm_fi o (yy_W m t) 47 4 4 = some (m 47 4) := yy_fi rfl (by decide) rfl
theorem ys_47_4 : xm_setf (yy_W m t) 47 4 4 0 (.inl v) = some (yy_W (yy_s m 47 4 v) t) := yy_setf rfl (by decide) rfl rfl
theorem yf_47_5 : xm_fi o (yy_W m t) 47 4 5 = some (m 47 5) := yy_fi rfl (by decide) rfl
theorem ys_47_5 : xm_setf (yy_W m t) 47 4 5 0 (.inl v) = some (yy_W (yy_s m 47 5 v) t) := yy_setf rfl (by decide) rfl rfl
theorem yr_47_6 : xm_fr o (yy_W m t) 47 4 6 = some 48 := yy_fr rfl (by decide) rfl
theorem yi_48 : xm_ints o (yy_W m t) 48 = some (yy_R 12 (m 48)) := yy_ints rfl
theorem yt_48 (h0 : 0 ≤ z) (h1 : z < 12) : xm_seti (yy_W m t) 48 z x = some (yy_W (yy_s m 48 z.toNat x) t) := yy_seti rfl h0 h1
theorem yf_49_0 : xm_fi o (yy_W m t) 49 4 0 = some (m 49 0) := yy_fi rfl (by decide) rfl
theorem ys_49_0 : xm_setf (yy_W m t) 49 4 0 0 (.inl v) = some (yy_W (yy_s m 49 0 v) t) := yy_setf rfl (by decide) rfl rfl
theorem yf_49_1 : xm_fi o (yy_W m t) 49 4 1 = some (m 49 1) := yy_fi rfl (by decide) rfl
theorem ys_49_1 : xm_setf (yy_W m t) 49 4 1 0 (.inl v) = some (yy_W (yy_s m 49 1 v) t) := yy_setf rfl (by decide) rfl rfl
theorem yf_49_2 : xm_fi o (yy_W m t) 49 4 2 = some (m 49 2) := yy_fi rfl (by decide) rfl
theorem ys_49_2 : xm_setf (yy_W m t) 49 4 2 0 (.inl v) = some (yy_W (yy_s m 49 2 v) t) := yy_setf rfl (by decide) rfl rfl
theorem yf_49_3 : xm_fi o (yy_W m t) 49 4 3 = some (m 49 3) := yy_fi rfl (by decide) rfl
theorem ys_49_3 : xm_setf (yy_W m t) 49 4 3 0 (.inl v) = some (yy_W (yy_s m 49 3 v) t) := yy_setf rfl (by decide) rfl rfl
theorem yf_49_4 : xm_fi o (yy_W m t) 49 4 4 = some (m 49 4) := yy_fi rfl (by decide) rfl
theorem ys_49_4 : xm_setf (yy_W m t) 49 4 4 0 (.inl v) = some (yy_W (yy_s m 49 4 v) t) := yy_setf rfl (by decide) rfl rfl
theorem yf_49_5 : xm_fi o (yy_W m t) 49 4 5 = some (m 49 5) := yy_fi rfl (by decide) rfl
theorem ys_49_5 : xm_setf (yy_W m t) 49 4 5 0 (.inl v) = some (yy_W (yy_s m 49 5 v) t) := yy_setf rfl (by decide) rfl rfl
theorem yr_49_6 : xm_fr o (yy_W m t) 49 4 6 = some 50 := yy_fr rfl (by decide) rfl
theorem yi_50 : xm_ints o (yy_W m t) 50 = some (yy_R 12 (m 50)) := yy_ints rfl
theorem yt_50 (h0 : 0 ≤ z) (h1 : z < 12) : xm_seti (yy_W m t) 50 z x = some (yy_W (yy_s m 50 z.toNat x) t) := yy_seti rfl h0 h1
theorem yf_51_0 : xm_fi o (yy_W m t) 51 4 0 = some (m 51 0) := yy_fi rfl (by decide) rfl
theorem ys_51_0 : xm_setf (yy_W m t) 51 4 0 0 (.inl v) = some (yy_W (yy_s m 51 0 v) t) := yy_setf rfl (by decide) rfl rfl
theorem yf_51_1 : xm_fi o (yy_W m t) 51 4 1 = some (m 51 1) := yy_fi rfl (by decide) rfl
theorem ys_51_1 : xm_setf (yy_W m t) 51 4 1 0 (.inl v) = some (yy_W (yy_s m 51 1 v) t) := yy_setf rfl (by decide) rfl rfl
theorem yf_51_2 : xm_fi o (yy_W m t) 51 4 2 = some (m 51 2) := yy_fi rfl (by decide) rfl
theorem ys_51_2 : xm_setf (yy_W m t) 51 4 2 0 (.inl v) = some (yy_W (yy_s m 51 2 v) t) := yy_setf rfl (by decide) rfl rfl
theorem yf_51_3 : xm_fi o (yy_W m t) 51 4 3 = some (m 51 3) := yy_fi rfl (by decide) rfl
theorem ys_51_3 : xm_setf (yy_W m t) 51 4 3 0 (.inl v) = some (yy_W (yy_s m 51 3 v) t) := yy_setf rfl (by decide) rfl rfl
theorem yf_51_4 : xm_fi o (yy_W m t) 51 4 4 = some (m 51 4) := yy_fi rfl (by decide) rfl
theorem ys_51_4 : xm_setf (yy_W m t) 51 4 4 0 (.inl v) = some (yy_W (yy_s m 51 4 v) t) := yy_setf rfl (by decide) rfl rfl
theorem yf_51_5 : xm_fi o (yy_W m t) 51 4 5 = some (m 51 5) := yy_fi rfl (by decide) rfl
theorem ys_51_5 : xm_setf (yy_W m t) 51 4 5 0 (.inl v) = some (yy_W (yy_s m 51 5 v) t) := yy_setf rfl (by decide) rfl rfl
theorem yr_51_6 : xm_fr o (yy_W m t) 51 4 6 = some 52 := yy_fr rfl (by decide) rfl
theorem yi_52 : xm_ints o (yy_W m t) 52 = some (yy_R 12 (m 52)) := yy_ints rfl
theorem yt_52 (h0 : 0 ≤ z) (h1 : z < 12) : xm_seti (yy_W m t) 52 z x = some (yy_W (yy_s m 52 z.toNat x) t) := yy_seti rfl h0 h1
theorem yf_53_0 : xm_fi o (yy_W m t) 53 4 0 = some (m 53 0) := yy_fi rfl (by decide) rfl
theorem ys_53_0 : xm_setf (yy_W m t) 53 4 0 0 (.inl v) = some (yy_W (yy_s m 53 0 v) t) := yy_setf rfl (by decide) rfl rfl
theorem yf_53_1 : xm_fi o (yy_W m t) 53 4 1 = some (m 53 1) := yy_fi rfl (by decide) rfl
theorem ys_53_1 : xm_setf (yy_W m t) 53 4 1 0 (.inl v) = some (yy_W (yy_s m 53 1 v) t) := yy_setf rfl (by decide) rfl rfl
theorem yf_53_2 : xm_fi o (yy_W m t) 53 4 2 = some (m 53 2) := yy_fi rfl (by decide) rfl
theorem ys_53_2 : xm_setf (yy_W m t) 53 4 2 0 (.inl v) = some (yy_W (yy_s m 53 2 v) t) := yy_setf rfl (by decide) rfl rfl
theorem yf_53_3 : xm_fi o (yy_W m t) 53 4 3 = some (m 53 3) := yy_fi rfl (by decide) rfl
theorem ys_53_3 : xm_setf (yy_W m t) 53 4 3 0 (.inl v) = some (yy_W (yy_s m 53 3 v) t) := yy_setf rfl (by decide) rfl rfl
theorem yf_53_4 : xm_fi o (yy_W m t) 53 4 4 = some (m 53 4) := yy_fi rfl (by decide) rfl
theorem ys_53_4 : xm_setf (yy_W m t) 53 4 4 0 (.inl v) = some (yy_W (yy_s m 53 4 v) t) := yy_setf rfl (by decide) rfl rfl
theorem yf_53_5 : xm_fi o (yy_W m t) 53 4 5 = some (m 53 5) := yy_fi rfl (by decide) rfl
theorem ys_53_5 : xm_setf (yy_W m t) 53 4 5 0 (.inl v) = some (yy_W (yy_s m 53 5 v) t) := yy_setf rfl (by decide) rfl rfl
theorem yr_53_6 : xm_fr o (yy_W m t) 53 4 6 = some 54 := yy_fr rfl (by decide) rfl
theorem yi_54 : xm_ints o (yy_W m t) 54 = some (yy_R 12 (m 54)) := yy_ints rfl
theorem yt_54 (h0 : 0 ≤ z) (h1 : z < 12) : xm_seti (yy_W m t) 54 z x = some (yy_W (yy_s m 54 z.toNat x) t) := yy_seti rfl h0 h1
theorem yr_55_0 : xm_fr o (yy_W m t) 55 1 0 = some 56 := yy_fr rfl (by decide) rfl
theorem yf_55_1 : xm_fi o (yy_W m t) 55 1 1 = some (m 55 1) := yy_fi rfl (by decide) rfl
theorem ys_55_1 : xm_setf (yy_W m t) 55 1 1 0 (.inl v) = some (yy_W (yy_s m 55 1 v) t) := yy_setf rfl (by decide) rfl rfl
theorem yr_55_2 : xm_fr o (yy_W m t) 55 1 2 = some 57 := yy_fr rfl (by decide) rfl
theorem yf_55_3 : xm_fi o (yy_W m t) 55 1 3 = some (m 55 3) := yy_fi rfl (by decide) rfl
theorem ys_55_3 : xm_setf (yy_W m t) 55 1 3 0 (.inl v) = some (yy_W (yy_s m 55 3 v) t) := yy_setf rfl (by decide) rfl rfl
theorem yf_55_4 : xm_fi o (yy_W m t) 55 1 4 = some (m 55 4) := yy_fi rfl (by decide) rfl
theorem ys_55_4 : xm_setf (yy_W m t) 55 1 4 0 (.inl v) = some (yy_W (yy_s m 55 4 v) t) := yy_setf rfl (by decide) rfl rfl
theorem yi_56 : xm_ints o (yy_W m t) 56 = some (yy_R 60 (m 56)) := yy_ints rfl
theorem yt_56 (h0 : 0 ≤ z) (h1 : z < 60) : xm_seti (yy_W m t) 56 z x = some (yy_W (yy_s m 56 z.toNat x) t) := yy_seti rfl h0 h1
theorem yi_57 : xm_ints o (yy_W m t) 57 = some (yy_R 24 (m 57)) := yy_ints rfl
theorem yt_57 (h0 : 0 ≤ z) (h1 : z < 24) : xm_seti (yy_W m t) 57 z x = some (yy_W (yy_s m 57 z.toNat x) t) := yy_seti rfl h0 h1
theorem yf_58_1 : xm_fi o (yy_W m t) 58 3 1 = some (m 58 1) := yy_fi rfl (by decide) rfl
theorem ys_58_1 : xm_setf (yy_W m t) 58 3 1 0 (.inl v) = some (yy_W (yy_s m 58 1 v) t) := yy_setf rfl (by decide) rfl rfl
theorem yf_58_3 : xm_fi o (yy_W m t) 58 3 3 = some (m 58 3) := yy_fi rfl (by decide) rfl
theorem ys_58_3 : xm_setf (yy_W m t) 58 3 3 0 (.inl v) = some (yy_W (yy_s m 58 3 v) t) := yy_setf rfl (by decide) rfl rfl
theorem yr_58_4 : xm_fr o (yy_W m t) 58 3 4 = some 60 := yy_fr rfl (by decide) rfl
theorem yf_58_5 : xm_fi o (yy_W m t) 58 3 5 = some (m 58 5) := yy_fi rfl (by decide) rfl
theorem ys_58_5 : xm_setf (yy_W m t) 58 3 5 0 (.inl v) = some (yy_W (yy_s m 58 5 v) t) := yy_setf rfl (by decide) rfl rfl
theorem yi_59 : xm_ints o (yy_W m t) 59 = some (yy_R 0 (m 59)) := yy_ints rfl
theorem yt_59 (h0 : 0 ≤ z) (h1 : z < 0) : xm_seti (yy_W m t) 59 z x = some (yy_W (yy_s m 59 z.toNat x) t) := yy_seti rfl h0 h1
theorem yi_60 : xm_ints o (yy_W m t) 60 = some (yy_R 60 (m 60)) := yy_ints rfl
theorem yt_60 (h0 : 0 ≤ z) (h1 : z < 60) : xm_seti (yy_W m t) 60 z x = some (yy_W (yy_s m 60 z.toNat x) t) := yy_seti rfl h0 h1
theorem yr_61_0 : xm_fr o (yy_W m t) 61 6 0 = some 62 := yy_fr rfl (by decide) rfl
theorem yf_61_1 : xm_fi o (yy_W m t) 61 6 1 = some (m 61 1) := yy_fi rfl (by decide) rfl
theorem ys_61_1 : xm_setf (yy_W m t) 61 6 1 0 (.inl v) = some (yy_W (yy_s m 61 1 v) t) := yy_setf rfl (by decide) rfl rfl
theorem yf_61_2 : xm_fi o (yy_W m t) 61 6 2 = some (m 61 2) := yy_fi rfl (by decide) rfl
theorem ys_61_2 : xm_setf (yy_W m t) 61 6 2 0 (.inl v) = some (yy_W (yy_s m 61 2 v) t) := yy_setf rfl (by decide) rfl rfl
theorem yf_61_3 : xm_fi o (yy_W m t) 61 6 3 = some (m 61 3) := yy_fi rfl (by decide) rfl
theorem ys_61_3 : xm_setf (yy_W m t) 61 6 3 0 (.inl v) = some (yy_W (yy_s m 61 3 v) t) := yy_setf rfl (by decide) rfl rfl
theorem yf_61_4 : xm_fi o (yy_W m t) 61 6 4 = some (m 61 4) := yy_fi rfl (by decide) rfl
theorem ys_61_4 : xm_setf (yy_W m t) 61 6 4 0 (.inl v) = some (yy_W (yy_s m 61 4 v) t) := yy_setf rfl (by decide) rfl rfl
theorem yi_62 : xm_ints o (yy_W m t) 62 = some (yy_R 30 (m 62)) := yy_ints rfl
theorem yt_62 (h0 : 0 ≤ z) (h1 : z < 30) : xm_seti (yy_W m t) 62 z x = some (yy_W (yy_s m 62 z.toNat x) t) := yy_seti rfl h0 h1
theorem yf_63_0 : xm_fi o (yy_W m t) 63 0 0 = some (m 63 0) := yy_fi rfl (by decide) rfl
theorem ys_63_0 (h : xm_fit 1 (.inl v) = true) : xm_setf (yy_W m t) 63 0 0 1 (.inl v) = some (yy_W (yy_s m 63 0 v) t) := yy_setf rfl (by decide) rfl h
theorem yf_63_1 : xm_fi o (yy_W m t) 63 0 1 = some (m 63 1) := yy_fi rfl (by decide) rfl
theorem ys_63_1 : xm_setf (yy_W m t) 63 0 1 0 (.inl v) = some (yy_W (yy_s m 63 1 v) t) := yy_setf rfl (by decide) rfl rfl
theorem yf_63_2 : xm_fi o (yy_W m t) 63 0 2 = some (m 63 2) := yy_fi rfl (by decide) rfl
theorem ys_63_2 : xm_setf (yy_W m t) 63 0 2 0 (.inl v) = some (yy_W (yy_s m 63 2 v) t) := yy_setf rfl (by decide) rfl rfl
theorem yf_63_3 : xm_fi o (yy_W m t) 63 0 3 = some (m 63 3) := yy_fi rfl (by decide) rfl
theorem ys_63_3 : xm_setf (yy_W m t) 63 0 3 0 (.inl v) = some (yy_W (yy_s m 63 3 v) t) := yy_setf rfl (by decide) rfl rfl
theorem yf_63_4 : xm_fi o (yy_W m t) 63 0 4 = some (m 63 4) := yy_fi rfl (by decide) rfl
theorem ys_63_4 : xm_setf (yy_W m t) 63 0 4 0 (.inl v) = some (yy_W (yy_s m 63 4 v) t) := yy_setf rfl (by decide) rfl rfl
theorem yq_64 : xm_refs o (yy_W m t) 64 = some (yy_qs (m 64) 0 [68, 70, 72, 74]) := yy_refs rfl (by decide)
theorem yi_65 : xm_ints o (yy_W m t) 65 = some (yy_R 7 (m 65)) := yy_ints rfl
theorem yt_65 (h0 : 0 ≤ z) (h1 : z < 7) : xm_seti (yy_W m t) 65 z x = some (yy_W (yy_s m 65 z.toNat x) t) := yy_seti rfl h0 h1
theorem yf_66_0 : xm_fi o (yy_W m t) 66 5 0 = some (m 66 0) := yy_fi rfl (by decide) rfl
theorem ys_66_0 : xm_setf (yy_W m t) 66 5 0 0 (.inl v) = some (yy_W (yy_s m 66 0 v) t) := yy_setf rfl (by decide) rfl rfl
theorem yf_66_1 : xm_fi o (yy_W m t) 66 5 1 = some (m 66 1) := yy_fi rfl (by decide) rfl
theorem ys_66_1 : xm_setf (yy_W m t) 66 5 1 0 (.inl v) = some (yy_W (yy_s m 66 1 v) t) := yy_setf rfl (by decide) rfl rfl
theorem yr_66_2 : xm_fr o (yy_W m t) 66 5 2 = some 67 := yy_fr rfl (by decide) rfl
theorem yi_67 : xm_ints o (yy_W m t) 67 = some (yy_R 24 (m 67)) := yy_ints rfl
theorem yt_67 (h0 : 0 ≤ z) (h1 : z < 24) : xm_seti (yy_W m t) 67 z x = some (yy_W (yy_s m 67 z.toNat x) t) := yy_seti rfl h0 h1
theorem yf_68_0 : xm_fi o (yy_W m t) 68 5 0 = some (m 68 0) := yy_fi rfl (by decide) rfl
theorem ys_68_0 : xm_setf (yy_W m t) 68 5 0 0 (.inl v) = some (yy_W (yy_s m 68 0 v) t) := yy_setf rfl (by decide) rfl rfl
theorem yf_68_1 : xm_fi o (yy_W m t) 68 5 1 = some (m 68 1) := yy_fi rfl (by decide) rfl
theorem ys_68_1 : xm_setf (yy_W m t) 68 5 1 0 (.inl v) = some (yy_W (yy_s m 68 1 v) t) := yy_setf rfl (by decide) rfl rfl
theorem yr_68_2 : xm_fr o (yy_W m t) 68 5 2 = some 69 := yy_fr rfl (by decide) rfl
theorem yi_69 : xm_ints o (yy_W m t) 69 = some (yy_R 24 (m 69)) := yy_ints rfl
theorem yt_69 (h0 : 0 ≤ z) (h1 : z < 24) : xm_seti (yy_W m t) 69 z x = some (yy_W (yy_s m 69 z.toNat x) t) := yy_seti rfl h0 h1
theorem yf_70_0 : xm_fi o (yy_W m t) 70 5 0 = some (m 70 0) := yy_fi rfl (by decide) rfl
theorem ys_70_0 : xm_setf (yy_W m t) 70 5 0 0 (.inl v) = some (yy_W (yy_s m 70 0 v) t) := yy_setf rfl (by decide) rfl rfl
theorem yf_70_1 : xm_fi o (yy_W m t) 70 5 1 = some (m 70 1) := yy_fi rfl (by decide) rfl
theorem ys_70_1 : xm_setf (yy_W m t) 70 5 1 0 (.inl v) = some (yy_W (yy_s m 70 1 v) t) := yy_setf rfl (by decide) rfl rfl
theorem yr_70_2 : xm_fr o (yy_W m t) 70 5 2 = some 71 := yy_fr rfl (by decide) rfl
theorem yi_71 : xm_ints o (yy_W m t) 71 = some (yy_R 24 (m 71)) := yy_ints rfl
theorem yt_71 (h0 : 0 ≤ z) (h1 : z < 24) : xm_seti (yy_W m t) 71 z x = some (yy_W (yy_s m 71 z.toNat x) t) := yy_seti rfl h0 h1
theorem yf_72_0 : xm_fi o (yy_W m t) 72 5 0 = some (m 72 0) := yy_fi rfl (by decide) rfl
theorem ys_72_0 : xm_setf (yy_W m t) 72 5 0 0 (.inl v) = some (yy_W (yy_s m 72 0 v) t) := yy_setf rfl (by decide) rfl rfl
theorem yf_72_1 : xm_fi o (yy_W m t) 72 5 1 = some (m 72 1) := yy_fi rfl (by decide) rfl
theorem ys_72_1 : xm_setf (yy_W m t) 72 5 1 0 (.inl v) = some (yy_W (yy_s m 72 1 v) t) := yy_setf rfl (by decide) rfl rfl
theorem yr_72_2 : xm_fr o (yy_W m t) 72 5 2 = some 73 := yy_fr rfl (by decide) rfl
theorem yi_73 : xm_ints o (yy_W m t) 73 = some (yy_R 24 (m 73)) := yy_ints rfl
theorem yt_73 (h0 : 0 ≤ z) (h1 : z < 24) : xm_seti (yy_W m t) 73 z x = some (yy_W (yy_s m 73 z.toNat x) t) := yy_seti rfl h0 h1
theorem yr_74_0 : xm_fr o (yy_W m t) 74 9 0 = some 75 := yy_fr rfl (by decide) rfl
theorem yr_74_1 : xm_fr o (yy_W m t) 74 9 1 = some 76 := yy_fr rfl (by decide) rfl
theorem yr_74_2 : xm_fr o (yy_W m t) 74 9 2 = some 77 := yy_fr rfl (by decide) rfl
theorem yf_74_3 : xm_fi o (yy_W m t) 74 9 3 = some (m 74 3) := yy_fi rfl (by decide) rfl
theorem ys_74_3 : xm_setf (yy_W m t) 74 9 3 0 (.inl v) = some (yy_W (yy_s m 74 3 v) t) := yy_setf rfl (by decide) rfl rfl
theorem yf_74_4 : xm_fi o (yy_W m t) 74 9 4 = some (m 74 4) := yy_fi rfl (by decide) rfl
theorem ys_74_4 : xm_setf (yy_W m t) 74 9 4 0 (.inl v) = some (yy_W (yy_s m 74 4 v) t) := yy_setf rfl (by decide) rfl rfl
theorem yr_74_5 : xm_fr o (yy_W m t) 74 9 5 = some 78 := yy_fr rfl (by decide) rfl
theorem yf_74_6 : xm_fi o (yy_W m t) 74 9 6 = some (m 74 6) := yy_fi rfl (by decide) rfl
theorem ys_74_6 : xm_setf (yy_W m t) 74 9 6 0 (.inl v) = some (yy_W (yy_s m 74 6 v) t) := yy_setf rfl (by decide) rfl rfl
theorem yf_74_7 : xm_fi o (yy_W m t) 74 9 7 = some (m 74 7) := yy_fi rfl (by decide) rfl
theorem ys_74_7 : xm_setf (yy_W m t) 74 9 7 0 (.inl v) = some (yy_W (yy_s m 74 7 v) t) := yy_setf rfl (by decide) rfl rfl
theorem yf_74_8 : xm_fi o (yy_W m t) 74 9 8 = some (m 74 8) := yy_fi rfl (by decide) rfl
theorem ys_74_8 : xm_setf (yy_W m t) 74 9 8 0 (.inl v) = some (yy_W (yy_s m 74 8 v) t) := yy_setf rfl (by decide) rfl rfl
theorem yf_74_9 : xm_fi o (yy_W m t) 74 9 9 = some (m 74 9) := yy_fi rfl (by decide) rfl
theorem ys_74_9 : xm_setf (yy_W m t) 74 9 9 0 (.inl v) = some (yy_W (yy_s m 74 9 v) t) := yy_setf rfl (by decide) rfl rfl
theorem yr_74_10 : xm_fr o (yy_W m t) 74 9 10 = some 79 := yy_fr rfl (by decide) rfl
theorem yr_74_11 : xm_fr o (yy_W m t) 74 9 11 = some 80 := yy_fr rfl (by decide) rfl
theorem yr_74_12 : xm_fr o (yy_W m t) 74 9 12 = some 81 := yy_fr rfl (by decide) rfl
theorem yf_74_13 : xm_fi o (yy_W m t) 74 9 13 = some (m 74 13) := yy_fi rfl (by decide) rfl
theorem ys_74_13 : xm_setf (yy_W m t) 74 9 13 0 (.inl v) = some (yy_W (yy_s m 74 13 v) t) := yy_setf rfl (by decide) rfl rfl
theorem yr_74_14 : xm_fr o (yy_W m t) 74 9 14 = some 82 := yy_fr rfl (by decide) rfl
theorem yf_74_15 : xm_fi o (yy_W m t) 74 9 15 = some (m 74 15) := yy_fi rfl (by decide) rfl
theorem ys_74_15 : xm_setf (yy_W m t) 74 9 15 0 (.inl v) = some (yy_W (yy_s m 74 15 v) t) := yy_setf rfl (by decide) rfl rfl
theorem yf_74_16 : xm_fi o (yy_W m t) 74 9 16 = some (m 74 16) := yy_fi rfl (by decide) rfl
theorem ys_74_16 : xm_setf (yy_W m t) 74 9 16 0 (.inl v) = some (yy_W (yy_s m 74 16 v) t) := yy_setf rfl (by decide) rfl rfl
theorem yf_74_17 : xm_fi o (yy_W m t) 74 9 17 = some (m 74 17) := yy_fi rfl (by decide) rfl
theorem ys_74_17 (h : xm_fit 1 (.inl v) = true) : xm_setf (yy_W m t) 74 9 17 1 (.inl v) = some (yy_W (yy_s m 74 17 v) t) := yy_setf rfl (by decide) rfl h
theorem yr_74_18 : xm_fr o (yy_W m t) 74 9 18 = some 83 := yy_fr rfl (by decide) rfl
theorem yr_74_19 : xm_fr o (yy_W m t) 74 9 19 = some 84 := yy_fr rfl (by decide) rfl
theorem yr_74_20 : xm_fr o (yy_W m t) 74 9 20 = some 85 := yy_fr rfl (by decide) rfl
theorem yr_74_21 : xm_fr o (yy_W m t) 74 9 21 = some 86 := yy_fr rfl (by decide) rfl
theorem yi_75 : xm_ints o (yy_W m t) 75 = some (yy_R 673 (m 75)) := yy_ints rfl
theorem yt_75 (h0 : 0 ≤ z) (h1 : z < 673) : xm_seti (yy_W m t) 75 z x = some (yy_W (yy_s m 75 z.toNat x) t) := yy_seti rfl h0 h1
theorem yi_76 : xm_ints o (yy_W m t) 76 = some (yy_R 673 (m 76)) := yy_ints rfl
theorem yt_76 (h0 : 0 ≤ z) (h1 : z < 673) : xm_seti (yy_W m t) 76 z x = some (yy_W (yy_s m 76 z.toNat x) t) := yy_seti rfl h0 h1
theorem yi_77 : xm_ints o (yy_W m t) 77 = some (yy_R 339 (m 77)) := yy_ints rfl
theorem yt_77 (h0 : 0 ≤ z) (h1 : z < 339) : xm_seti (yy_W m t) 77 z x = some (yy_W (yy_s m 77 z.toNat x) t) := yy_seti rfl h0 h1
theorem yi_78 : xm_ints o (yy_W m t) 78 = some (yy_R 7 (m 78)) := yy_ints rfl
theorem yt_78 (h0 : 0 ≤ z) (h1 : z < 7) : xm_seti (yy_W m t) 78 z x = some (yy_W (yy_s m 78 z.toNat x) t) := yy_seti rfl h0 h1
theorem yi_79 : xm_ints o (yy_W m t) 79 = some (yy_R 124 (m 79)) := yy_ints rfl
theorem yt_79 (h0 : 0 ≤ z) (h1 : z < 124) : xm_seti (yy_W m t) 79 z x = some (yy_W (yy_s m 79 z.toNat x) t) := yy_seti rfl h0 h1
theorem yi_80 : xm_ints o (yy_W m t) 80 = some (yy_R 128 (m 80)) := yy_ints rfl
theorem yt_80 (h0 : 0 ≤ z) (h1 : z < 128) : xm_seti (yy_W m t) 80 z x = some (yy_W (yy_s m 80 z.toNat x) t) := yy_seti rfl h0 h1
theorem yi_81 : xm_ints o (yy_W m t) 81 = some (yy_R 64 (m 81)) := yy_ints rfl
theorem yt_81 (h0 : 0 ≤ z) (h1 : z < 64) : xm_seti (yy_W m t) 81 z x = some (yy_W (yy_s m 81 z.toNat x) t) := yy_seti rfl h0 h1
theorem yi_82 : xm_ints o (yy_W m t) 82 = some (yy_R 30 (m 82)) := yy_ints rfl
theorem yt_82 (h0 : 0 ≤ z) (h1 : z < 30) : xm_seti (yy_W m t) 82 z x = some (yy_W (yy_s m 82 z.toNat x) t) := yy_seti rfl h0 h1
theorem yi_83 : xm_ints o (yy_W m t) 83 = some (yy_R 4 (m 83)) := yy_ints rfl
theorem yt_83 (h0 : 0 ≤ z) (h1 : z < 4) : xm_seti (yy_W m t) 83 z x = some (yy_W (yy_s m 83 z.toNat x) t) := yy_seti rfl h0 h1
theorem yi_84 : xm_ints o (yy_W m t) 84 = some (yy_R 4 (m 84)) := yy_ints rfl
theorem yt_84 (h0 : 0 ≤ z) (h1 : z < 4) : xm_seti (yy_W m t) 84 z x = some (yy_W (yy_s m 84 z.toNat x) t) := yy_seti rfl h0 h1
theorem yi_85 : xm_ints o (yy_W m t) 85 = some (yy_R 96 (m 85)) := yy_ints rfl
theorem yt_85 (h0 : 0 ≤ z) (h1 : z < 96) : xm_seti (yy_W m t) 85 z x = some (yy_W (yy_s m 85 z.toNat x) t) := yy_seti rfl h0 h1
theorem yi_86 : xm_ints o (yy_W m t) 86 = some (yy_R 24 (m 86)) := yy_ints rfl
theorem yt_86 (h0 : 0 ≤ z) (h1 : z < 24) : xm_seti (yy_W m t) 86 z x = some (yy_W (yy_s m 86 z.toNat x) t) := yy_seti rfl h0 h1
theorem zr_0_0 {F : _ → Prop} : xm_O (xm_fr o (yy_W m t) 0 8 0) F = F 1 := congrArg (fun x => xm_O x F) (yr_0_0)
theorem zr_0_1 {F : _ → Prop} : xm_O (xm_fr o (yy_W m t) 0 8 1) F = F 18 := congrArg (fun x => xm_O x F) (yr_0_1)
theorem zr_0_2 {F : _ → Prop} : xm_O (xm_fr o (yy_W m t) 0 8 2) F = F 35 := congrArg (fun x => xm_O x F) (yr_0_2)
theorem zr_0_3 {F : _ → Prop} : xm_O (xm_fr o (yy_W m t) 0 8 3) F = F 38 := congrArg (fun x => xm_O x F) (yr_0_3)
theorem zr_0_4 {F : _ → Prop} : xm_O (xm_fr o (yy_W m t) 0 8 4) F = F 55 := congrArg (fun x => xm_O x F) (yr_0_4)
theorem zf_0_5 {F : _ → Prop} : xm_O (xm_fi o (yy_W m t) 0 8 5) F = F (m 0 5) := congrArg (fun x => xm_O x F) (yf_0_5)
theorem zs_0_5 {F : _ → Prop} : xm_O (xm_setf (yy_W m t) 0 8 5 0 (.inl v)) F = F (yy_W (yy_s m 0 5 v) t) := congrArg (fun x => xm_O x F) (ys_0_5)
theorem zr_0_6 {F : _ → Prop} : xm_O (xm_fr o (yy_W m t) 0 8 6) F = F 58 := congrArg (fun x => xm_O x F) (yr_0_6)
theorem zr_0_7 {F : _ → Prop} : xm_O (xm_fr o (yy_W m t) 0 8 7) F = F 61 := congrArg (fun x => xm_O x F) (yr_0_7)
theorem zr_0_8 {F : _ → Prop} : xm_O (xm_fr o (yy_W m t) 0 8 8) F = F 63 := congrArg (fun x => xm_O x F) (yr_0_8)
theorem zr_0_9 {F : _ → Prop} : xm_O (xm_fr o (yy_W m t) 0 8 9) F = F 64 := congrArg (fun x => xm_O x F) (yr_0_9)
theorem zr_0_10 {F : _ → Prop} : xm_O (xm_fr o (yy_W m t) 0 8 10) F = F 65 := congrArg (fun x => xm_O x F) (yr_0_10)
theorem zr_1_0 {F : _ → Prop} : xm_O (xm_fr o (yy_W m t) 1 2 0) F = F 2 := congrArg (fun x => xm_O x F) (yr_1_0)
theorem zf_1_1 {F : _ → Prop} : xm_O (xm_fi o (yy_W m t) 1 2 1) F = F (m 1 1) := congrArg (fun x => xm_O x F) (yf_1_1)
theorem zs_1_1 {F : _ → Prop} : xm_O (xm_setf (yy_W m t) 1 2 1 0 (.inl v)) F = F (yy_W (yy_s m 1 1 v) t) := congrArg (fun x => xm_O x F) (ys_1_1)
theorem zf_1_2 {F : _ → Prop} : xm_O (xm_fi o (yy_W m t) 1 2 2) F = F (m 1 2) := congrArg (fun x => xm_O x F) (yf_1_2)
theorem zs_1_2 {F : _ → Prop} : xm_O (xm_setf (yy_W m t) 1 2 2 0 (.inl v)) F = F (yy_W (yy_s m 1 2 v) t) := congrArg (fun x => xm_O x F) (ys_1_2)
theorem zr_1_3 {F : _ → Prop} : xm_O (xm_fr o (yy_W m t) 1 2 3) F = F 3 := congrArg (fun x => xm_O x F) (yr_1_3)
theorem zf_1_4 {F : _ → Prop} : xm_O (xm_fi o (yy_W m t) 1 2 4) F = F (m 1 4) := congrArg (fun x => xm_O x F) (yf_1_4)
theorem zs_1_4 {F : _ → Prop} : xm_O (xm_setf (yy_W m t) 1 2 4 0 (.inl v)) F = F (yy_W (yy_s m 1 4 v) t) := congrArg (fun x => xm_O x F) (ys_1_4)
theorem zr_1_5 {F : _ → Prop} : xm_O (xm_fr o (yy_W m t) 1 2 5) F = F 4 := congrArg (fun x => xm_O x F) (yr_1_5)
theorem zf_1_6 {F : _ → Prop} : xm_O (xm_fi o (yy_W m t) 1 2 6) F = F (m 1 6) := congrArg (fun x => xm_O x F) (yf_1_6)
theorem zs_1_6 {F : _ → Prop} : xm_O (xm_setf (yy_W m t) 1 2 6 0 (.inl v)) F = F (yy_W (yy_s m 1 6 v) t) := congrArg (fun x => xm_O x F) (ys_1_6)
theorem zr_1_7 {F : _ → Prop} : xm_O (xm_fr o (yy_W m t) 1 2 7) F = F 5 := congrArg (fun x => xm_O x F) (yr_1_7)
theorem zr_1_8 {F : _ → Prop} : xm_O (xm_fr o (yy_W m t) 1 2 8) F = F 6 := congrArg (fun x => xm_O x F) (yr_1_8)
theorem zr_1_9 {F : _ → Prop} : xm_O (xm_fr o (yy_W m t) 1 2 9) F = F 7 := congrArg (fun x => xm_O x F) (yr_1_9)
theorem zi_2 {F : _ → Prop} : xm_O (xm_ints o (yy_W m t) 2) F = F (yy_R 36 (m 2)) := congrArg (fun x => xm_O x F) (yi_2)
theorem zt_2 {F : _ → Prop} (h0 : 0 ≤ z) (h1 : z < 36) : xm_O (xm_seti (yy_W m t) 2 z x) F = F (yy_W (yy_s m 2 z.toNat x) t) := congrArg (fun x => xm_O x F) (yt_2 h0 h1)
theorem zq_3 {F : _ → Prop} : xm_O (xm_refs o (yy_W m t) 3) F = F (yy_qs (m 3) 0 [10, 12, 14, 16, 18]) := congrArg (fun x => xm_O x F) (yq_3)
theorem zi_4 {F : _ → Prop} : xm_O (xm_ints o (yy_W m t) 4) F = F (yy_R 200 (m 4)) := congrArg (fun x => xm_O x F) (yi_4)
theorem zt_4 {F : _ → Prop} (h0 : 0 ≤ z) (h1 : z < 200) : xm_O (xm_seti (yy_W m t) 4 z x) F = F (yy_W (yy_s m 4 z.toNat x) t) := congrArg (fun x => xm_O x F) (yt_4 h0 h1)
theorem zq_5 {F : _ → Prop} : xm_O (xm_refs o (yy_W m t) 5) F = F (yy_qs (m 5) 0 [1, 1]) := congrArg (fun x => xm_O x F) (yq_5)
theorem zi_6 {F : _ → Prop} : xm_O (xm_ints o (yy_W m t) 6) F = F (yy_R 4 (m 6)) := congrArg (fun x => xm_O x F) (yi_6)
theorem zt_6 {F : _ → Prop} (h0 : 0 ≤ z) (h1 : z < 4) : xm_O (xm_seti (yy_W m t) 6 z x) F = F (yy_W (yy_s m 6 z.toNat x) t) := congrArg (fun x => xm_O x F) (yt_6 h0 h1)
theorem zi_7 {F : _ → Prop} : xm_O (xm_ints o (yy_W m t) 7) F = F (yy_R 60 (m 7)) := congrArg (fun x => xm_O x F) (yi_7)
theorem zt_7 {F : _ → Prop} (h0 : 0 ≤ z) (h1 : z < 60) : xm_O (xm_seti (yy_W m t) 7 z x) F = F (yy_W (yy_s m 7 z.toNat x) t) := congrArg (fun x => xm_O x F) (yt_7 h0 h1)
theorem zf_8_0 {F : _ → Prop} : xm_O (xm_fi o (yy_W m t) 8 4 0) F = F (m 8 0) := congrArg (fun x => xm_O x F) (yf_8_0)
theorem zs_8_0 {F : _ → Prop} : xm_O (xm_setf (yy_W m t) 8 4 0 0 (.inl v)) F = F (yy_W (yy_s m 8 0 v) t) := congrArg (fun x => xm_O x F) (ys_8_0)
theorem zf_8_1 {F : _ → Prop} : xm_O (xm_fi o (yy_W m t) 8 4 1) F = F (m 8 1) := congrArg (fun x => xm_O x F) (yf_8_1)
theorem zs_8_1 {F : _ → Prop} : xm_O (xm_setf (yy_W m t) 8 4 1 0 (.inl v)) F = F (yy_W (yy_s m 8 1 v) t) := congrArg (fun x => xm_O x F) (ys_8_1)
theorem zf_8_2 {F : _ → Prop} : xm_O (xm_fi o (yy_W m t) 8 4 2) F = F (m 8 2) := congrArg (fun x => xm_O x F) (yf_8_2)
theorem zs_8_2 {F : _ → Prop} : xm_O (xm_setf (yy_W m t) 8 4 2 0 (.inl v)) F = F (yy_W (yy_s m 8 2 v) t) := congrArg (fun x => xm_O x F) (ys_8_2)
theorem zf_8_3 {F : _ → Prop} : xm_O (xm_fi o (yy_W m t) 8 4 3) F = F (m 8 3) := congrArg (fun x => xm_O x F) (yf_8_3)
theorem zs_8_3 {F : _ → Prop} : xm_O (xm_setf (yy_W m t) 8 4 3 0 (.inl v)) F = F (yy_W (yy_s m 8 3 v) t) := congrArg (fun x => xm_O x F) (ys_8_3)
theorem zf_8_4 {F : _ → Prop} : xm_O (xm_fi o (yy_W m t) 8 4 4) F = F (m 8 4) := congrArg (fun x => xm_O x F) (yf_8_4)
theorem zs_8_4 {F : _ → Prop} : xm_O (xm_setf (yy_W m t) 8 4 4 0 (.inl v)) F = F (yy_W (yy_s m 8 4 v) t) := congrArg (fun x => xm_O x F) (ys_8_4)
theorem zf_8_5 {F : _ → Prop} : xm_O (xm_fi o (yy_W m t) 8 4 5) F = F (m 8 5) := congrArg (fun x => xm_O x F) (yf_8_5)
theorem zs_8_5 {F : _ → Prop} : xm_O (xm_setf (yy_W m t) 8 4 5 0 (.inl v)) F = F (yy_W (yy_s m 8 5 v) t) := congrArg (fun x => xm_O x F) (ys_8_5)
theorem zr_8_6 {F : _ → Prop} : xm_O (xm_fr o (yy_W m t) 8 4 6) F = F 9 := congrArg (fun x => xm_O x F) (yr_8_6)
theorem zi_9 {F : _ → Prop} : xm_O (xm_ints o (yy_W m t) 9) F = F (yy_R 12 (m 9)) := congrArg (fun x => xm_O x F) (yi_9)
theorem zt_9 {F : _ → Prop} (h0 : 0 ≤ z) (h1 : z < 12) : xm_O (xm_seti (yy_W m t) 9 z x) F = F (yy_W (yy_s m 9 z.toNat x) t) := congrArg (fun x => xm_O x F) (yt_9 h0 h1)
theorem zf_10_0 {F : _ → Prop} : xm_O (xm_fi o (yy_W m t) 10 4 0) F = F (m 10 0) := congrArg (fun x => xm_O x F) (yf_10_0)
theorem zs_10_0 {F : _ → Prop} : xm_O (xm_setf (yy_W m t) 10 4 0 0 (.inl v)) F = F (yy_W (yy_s m 10 0 v) t) := congrArg (fun x => xm_O x F) (ys_10_0)
theorem zf_10_1 {F : _ → Prop} : xm_O (xm_fi o (yy_W m t) 10 4 1) F = F (m 10 1) := congrArg (fun x => xm_O x F) (yf_10_1)
theorem zs_10_1 {F : _ → Prop} : xm_O (xm_setf (yy_W m t) 10 4 1 0 (.inl v)) F = F (yy_W (yy_s m 10 1 v) t) := congrArg (fun x => xm_O x F) (ys_10_1)
theorem zf_10_2 {F : _ → Prop} : xm_O (xm_fi o (yy_W m t) 10 4 2) F = F (m 10 2) := congrArg (fun x => xm_O x F) (yf_10_2)
theorem zs_10_2 {F : _ → Prop} : xm_O (xm_setf (yy_W m t) 10 4 2 0 (.inl v)) F = F (yy_W (yy_s m 10 2 v) t) := congrArg (fun x => xm_O x F) (ys_10_2)
theorem zf_10_3 {F : _ → Prop} : xm_O (xm_fi o (yy_W m t) 10 4 3) F = F (m 10 3) := congrArg (fun x => xm_O x F) (yf_10_3)
theorem zs_10_3 {F : _ → Prop} : xm_O (xm_setf (yy_W m t) 10 4 3 0 (.inl v)) F = F (yy_W (yy_s m 10 3 v) t) := congrArg (fun x => xm_O x F) (ys_10_3)
theorem zf_10_4 {F : _ → Prop} : xm_O (xm_fi o (yy_W m t) 10 4 4) F = F (m 10 4) := congrArg (fun x => xm_O x F) (yf_10_4)
theorem zs_10_4 {F : _ → Prop} : xm_O (xm_setf (yy_W m t) 10 4 4 0 (.inl v)) F = F (yy_W (yy_s m 10 4 v) t) := congrArg (fun x => xm_O x F) (ys_10_4)
theorem zf_10_5 {F : _ → Prop} : xm_O (xm_fi o (yy_W m t) 10 4 5) F = F (m 10 5) := congrArg (fun x => xm_O x F) (yf_10_5)
theorem zs_10_5 {F : _ → Prop} : xm_O (xm_setf (yy_W m t) 10 4 5 0 (.inl v)) F = F (yy_W (yy_s m 10 5 v) t) := congrArg (fun x => xm_O x F) (ys_10_5)
theorem zr_10_6 {F : _ → Prop} : xm_O (xm_fr o (yy_W m t) 10 4 6) F = F 11 := congrArg (fun x => xm_O x F) (yr_10_6)
theorem zi_11 {F : _ → Prop} : xm_O (xm_ints o (yy_W m t) 11) F = F (yy_R 12 (m 11)) := congrArg (fun x => xm_O x F) (yi_11)
theorem zt_11 {F : _ → Prop} (h0 : 0 ≤ z) (h1 : z < 12) : xm_O (xm_seti (yy_W m t) 11 z x) F = F (yy_W (yy_s m 11 z.toNat x) t) := congrArg (fun x => xm_O x F) (yt_11 h0 h1)
theorem zf_12_0 {F : _ → Prop} : xm_O (xm_fi o (yy_W m t) 12 4 0) F = F (m 12 0) := congrArg (fun x => xm_O x F) (yf_12_0)
theorem zs_12_0 {F : _ → Prop} : xm_O (xm_setf (yy_W m t) 12 4 0 0 (.inl v)) F = F (yy_W (yy_s m 12 0 v) t) := congrArg (fun x => xm_O x F) (ys_12_0)
theorem zf_12_1 {F : _ → Prop} : xm_O (xm_fi o (yy_W m t) 12 4 1) F = F (m 12 1) := congrArg (fun x => xm_O x F) (yf_12_1)
theorem zs_12_1 {F : _ → Prop} : xm_O (xm_setf (yy_W m t) 12 4 1 0 (.inl v)) F = F (yy_W (yy_s m 12 1 v) t) := congrArg (fun x => xm_O x F) (ys_12_1)
theorem zf_12_2 {F : _ → Prop} : xm_O (xm_fi o (yy_W m t) 12 4 2) F = F (m 12 2) := congrArg (fun x => xm_O x F) (yf_12_2)
theorem zs_12_2 {F : _ → Prop} : xm_O (xm_setf (yy_W m t) 12 4 2 0 (.inl v)) F = F (yy_W (yy_s m 12 2 v) t) := congrArg (fun x => xm_O x F) (ys_12_2)
theorem zf_12_3 {F : _ → Prop} : xm_O (xm_fi o (yy_W m t) 12 4 3) F = F (m 12 3) := congrArg (fun x => xm_O x F) (yf_12_3)
theorem zs_12_3 {F : _ → Prop} : xm_O (xm_setf (yy_W m t) 12 4 3 0 (.inl v)) F = F (yy_W (yy_s m 12 3 v) t) := congrArg (fun x => xm_O x F) (ys_12_3)
theorem zf_12_4 {F : _ → Prop} : xm_O (xm_fi o (yy_W m t) 12 4 4) F = F (m 12 4) := congrArg (fun x => xm_O x F) (yf_12_4)
theorem zs_12_4 {F : _ → Prop} : xm_O (xm_setf (yy_W m t) 12 4 4 0 (.inl v)) F = F (yy_W (yy_s m 12 4 v) t) := congrArg (fun x => xm_O x F) (ys_12_4)
theorem zf_12_5 {F : _ → Prop} : xm_O (xm_fi o (yy_W m t) 12 4 5) F = F (m 12 5) := congrArg (fun x => xm_O x F) (yf_12_5)
theorem zs_12_5 {F : _ → Prop} : xm_O (xm_setf (yy_W m t) 12 4 5 0 (.inl v)) F = F (yy_W (yy_s m 12 5 v) t) := congrArg (fun x => xm_O x F) (ys_12_5)
theorem zr_12_6 {F : _ → Prop} : xm_O (xm_fr o (yy_W m t) 12 4 6) F = F 13 := congrArg (fun x => xm_O x F) (yr_12_6)
theorem zi_13 {F : _ → Prop} : xm_O (xm_ints o (yy_W m t) 13) F = F (yy_R 12 (m 13)) := congrArg (fun x => xm_O x F) (yi_13)
theorem zt_13 {F : _ → Prop} (h0 : 0 ≤ z) (h1 : z < 12) : xm_O (xm_seti (yy_W m t) 13 z x) F = F (yy_W (yy_s m 13 z.toNat x) t) := congrArg (fun x => xm_O x F) (yt_13 h0 h1)
theorem zf_14_0 {F : _ → Prop} : xm_O (xm_fi o (yy_W m t) 14 4 0) F = F (m 14 0) := congrArg (fun x => xm_O x F) (yf_14_0)
theorem zs_14_0 {F : _ → Prop} : xm_O (xm_setf (yy_W m t) 14 4 0 0 (.inl v)) F = F (yy_W (yy_s m 14 0 v) t) := congrArg (fun x => xm_O x F) (ys_14_0)
theorem zf_14_1 {F : _ → Prop} : xm_O (xm_fi o (yy_W m t) 14 4 1) F = F (m 14 1) := congrArg (fun x => xm_O x F) (yf_14_1)
theorem zs_14_1 {F : _ → Prop} : xm_O (xm_setf (yy_W m t) 14 4 1 0 (.inl v)) F = F (yy_W (yy_s m 14 1 v) t) := congrArg (fun x => xm_O x F) (ys_14_1)
theorem zf_14_2 {F : _ → Prop} : xm_O (xm_fi o (yy_W m t) 14 4 2) F = F (m 14 2) := congrArg (fun x => xm_O x F) (yf_14_2)
theorem zs_14_2 {F : _ → Prop} : xm_O (xm_setf (yy_W m t) 14 4 2 0 (.inl v)) F = F (yy_W (yy_s m 14 2 v) t) := congrArg (fun x => xm_O x F) (ys_14_2)
theorem zf_14_3 {F : _ → Prop} : xm_O (xm_fi o (yy_W m t) 14 4 3) F = F (m 14 3) := congrArg (fun x => xm_O x F) (yf_14_3)
theorem zs_14_3 {F : _ → Prop} : xm_O (xm_setf (yy_W m t) 14 4 3 0 (.inl v)) F = F (yy_W (yy_s m 14 3 v) t) := congrArg (fun x => xm_O x F) (ys_14_3)
theorem zf_14_4 {F : _ → Prop} : xm_O (xm_fi o (yy_W m t) 14 4 4) F = F (m 14 4) := congrArg (fun x => xm_O x F) (yf_14_4)
theorem zs_14_4 {F : _ → Prop} : xm_O (xm_setf (yy_W m t) 14 4 4 0 (.inl v)) F = F (yy_W (yy_s m 14 4 v) t) := congrArg (fun x => xm_O x F) (ys_14_4)
theorem zf_14_5 {F : _ → Prop} : xm_O (xm_fi o (yy_W m t) 14 4 5) F = F (m 14 5) := congrArg (fun x => xm_O x F) (yf_14_5)
theorem zs_14_5 {F : _ → Prop} : xm_O (xm_setf (yy_W m t) 14 4 5 0 (.inl v)) F = F (yy_W (yy_s m 14 5 v) t) := congrArg (fun x => xm_O x F) (ys_14_5)
theorem zr_14_6 {F : _ → Prop} : xm_O (xm_fr o (yy_W m t) 14 4 6) F = F 15 := congrArg (fun x => xm_O x F) (yr_14_6)
theorem zi_15 {F : _ → Prop} : xm_O (xm_ints o (yy_W m t) 15) F = F (yy_R 12 (m 15)) := congrArg (fun x => xm_O x F) (yi_15)
theorem zt_15 {F : _ → Prop} (h0 : 0 ≤ z) (h1 : z < 12) : xm_O (xm_seti (yy_W m t) 15 z x) F = F (yy_W (yy_s m 15 z.toNat x) t) := congrArg (fun x => xm_O x F) (yt_15 h0 h1)
theorem zf_16_0 {F : _ → Prop} : xm_O (xm_fi o (yy_W m t) 16 4 0) F = F (m 16 0) := congrArg (fun x => xm_O x F) (yf_16_0)
theorem zs_16_0 {F : _ → Prop} : xm_O (xm_setf (yy_W m t) 16 4 0 0 (.inl v)) F = F (yy_W (yy_s m 16 0 v) t) := congrArg (fun x => xm_O x F) (ys_16_0)
theorem zf_16_1 {F : _ → Prop} : xm_O (xm_fi o (yy_W m t) 16 4 1) F = F (m 16 1) := congrArg (fun x => xm_O x F) (yf_16_1)
theorem zs_16_1 {F : _ → Prop} : xm_O (xm_setf (yy_W m t) 16 4 1 0 (.inl v)) F = F (yy_W (yy_s m 16 1 v) t) := congrArg (fun x => xm_O x F) (ys_16_1)
theorem zf_16_2 {F : _ → Prop} : xm_O (xm_fi o (yy_W m t) 16 4 2) F = F (m 16 2) := congrArg (fun x => xm_O x F) (yf_16_2)
theorem zs_16_2 {F : _ → Prop} : xm_O (xm_setf (yy_W m t) 16 4 2 0 (.inl v)) F = F (yy_W (yy_s m 16 2 v) t) := congrArg (fun x => xm_O x F) (ys_16_2)
theorem zf_16_3 {F : _ → Prop} : xm_O (xm_fi o (yy_W m t) 16 4 3) F = F (m 16 3) := congrArg (fun x => xm_O x F) (yf_16_3)
theorem zs_16_3 {F : _ → Prop} : xm_O (xm_setf (yy_W m t) 16 4 3 0 (.inl v)) F = F (yy_W (yy_s m 16 3 v) t) := congrArg (fun x => xm_O x F) (ys_16_3)
theorem zf_16_4 {F : _ → Prop} : xm_O (xm_fi o (yy_W m t) 16 4 4) F = F (m 16 4) := congrArg (fun x => xm_O x F) (yf_16_4)
theorem zs_16_4 {F : _ → Prop} : xm_O (xm_setf (yy_W m t) 16 4 4 0 (.inl v)) F = F (yy_W (yy_s m 16 4 v) t) := congrArg (fun x => xm_O x F) (ys_16_4)
theorem zf_16_5 {F : _ → Prop} : xm_O (xm_fi o (yy_W m t) 16 4 5) F = F (m 16 5) := congrArg (fun x => xm_O x F) (yf_16_5)
theorem zs_16_5 {F : _ → Prop} : xm_O (xm_setf (yy_W m t) 16 4 5 0 (.inl v)) F = F (yy_W (yy_s m 16 5 v) t) := congrArg (fun x => xm_O x F) (ys_16_5)
theorem zr_16_6 {F : _ → Prop} : xm_O (xm_fr o (yy_W m t) 16 4 6) F = F 17 := congrArg (fun x => xm_O x F) (yr_16_6)
theorem zi_17 {F : _ → Prop} : xm_O (xm_ints o (yy_W m t) 17) F = F (yy_R 12 (m 17)) := congrArg (fun x => xm_O x F) (yi_17)
theorem zt_17 {F : _ → Prop} (h0 : 0 ≤ z) (h1 : z < 12) : xm_O (xm_seti (yy_W m t) 17 z x) F = F (yy_W (yy_s m 17 z.toNat x) t) := congrArg (fun x => xm_O x F) (yt_17 h0 h1)
theorem zr_18_0 {F : _ → Prop} : xm_O (xm_fr o (yy_W m t) 18 2 0) F = F 19 := congrArg (fun x => xm_O x F) (yr_18_0)
theorem zf_18_1 {F : _ → Prop} : xm_O (xm_fi o (yy_W m t) 18 2 1) F = F (m 18 1) := congrArg (fun x => xm_O x F) (yf_18_1)
theorem zs_18_1 {F : _ → Prop} : xm_O (xm_setf (yy_W m t) 18 2 1 0 (.inl v)) F = F (yy_W (yy_s m 18 1 v) t) := congrArg (fun x => xm_O x F) (ys_18_1)
theorem zf_18_2 {F : _ → Prop} : xm_O (xm_fi o (yy_W m t) 18 2 2) F = F (m 18 2) := congrArg (fun x => xm_O x F) (yf_18_2)
theorem zs_18_2 {F : _ → Prop} : xm_O (xm_setf (yy_W m t) 18 2 2 0 (.inl v)) F = F (yy_W (yy_s m 18 2 v) t) := congrArg (fun x => xm_O x F) (ys_18_2)
theorem zr_18_3 {F : _ → Prop} : xm_O (xm_fr o (yy_W m t) 18 2 3) F = F 20 := congrArg (fun x => xm_O x F) (yr_18_3)
theorem zf_18_4 {F : _ → Prop} : xm_O (xm_fi o (yy_W m t) 18 2 4) F = F (m 18 4) := congrArg (fun x => xm_O x F) (yf_18_4)
theorem zs_18_4 {F : _ → Prop} : xm_O (xm_setf (yy_W m t) 18 2 4 0 (.inl v)) F = F (yy_W (yy_s m 18 4 v) t) := congrArg (fun x => xm_O x F) (ys_18_4)
theorem zr_18_5 {F : _ → Prop} : xm_O (xm_fr o (yy_W m t) 18 2 5) F = F 21 := congrArg (fun x => xm_O x F) (yr_18_5)
theorem zf_18_6 {F : _ → Prop} : xm_O (xm_fi o (yy_W m t) 18 2 6) F = F (m 18 6) := congrArg (fun x => xm_O x F) (yf_18_6)
theorem zs_18_6 {F : _ → Prop} : xm_O (xm_setf (yy_W m t) 18 2 6 0 (.inl v)) F = F (yy_W (yy_s m 18 6 v) t) := congrArg (fun x => xm_O x F) (ys_18_6)
theorem zr_18_7 {F : _ → Prop} : xm_O (xm_fr o (yy_W m t) 18 2 7) F = F 22 := congrArg (fun x => xm_O x F) (yr_18_7)
theorem zr_18_8 {F : _ → Prop} : xm_O (xm_fr o (yy_W m t) 18 2 8) F = F 23 := congrArg (fun x => xm_O x F) (yr_18_8)
theorem zr_18_9 {F : _ → Prop} : xm_O (xm_fr o (yy_W m t) 18 2 9) F = F 24 := congrArg (fun x => xm_O x F) (yr_18_9)
theorem zi_19 {F : _ → Prop} : xm_O (xm_ints o (yy_W m t) 19) F = F (yy_R 36 (m 19)) := congrArg (fun x => xm_O x F) (yi_19)
theorem zt_19 {F : _ → Prop} (h0 : 0 ≤ z) (h1 : z < 36) : xm_O (xm_seti (yy_W m t) 19 z x) F = F (yy_W (yy_s m 19 z.toNat x) t) := congrArg (fun x => xm_O x F) (yt_19 h0 h1)
theorem zq_20 {F : _ → Prop} : xm_O (xm_refs o (yy_W m t) 20) F = F (yy_qs (m 20) 0 [27, 29, 31, 33, 35]) := congrArg (fun x => xm_O x F) (yq_20)
theorem zi_21 {F : _ → Prop} : xm_O (xm_ints o (yy_W m t) 21) F = F (yy_R 200 (m 21)) := congrArg (fun x => xm_O x F) (yi_21)
theorem zt_21 {F : _ → Prop} (h0 : 0 ≤ z) (h1 : z < 200) : xm_O (xm_seti (yy_W m t) 21 z x) F = F (yy_W (yy_s m 21 z.toNat x) t) := congrArg (fun x => xm_O x F) (yt_21 h0 h1)
theorem zq_22 {F : _ → Prop} : xm_O (xm_refs o (yy_W m t) 22) F = F (yy_qs (m 22) 0 [1, 1]) := congrArg (fun x => xm_O x F) (yq_22)
theorem zi_23 {F : _ → Prop} : xm_O (xm_ints o (yy_W m t) 23) F = F (yy_R 4 (m 23)) := congrArg (fun x => xm_O x F) (yi_23)
theorem zt_23 {F : _ → Prop} (h0 : 0 ≤ z) (h1 : z < 4) : xm_O (xm_seti (yy_W m t) 23 z x) F = F (yy_W (yy_s m 23 z.toNat x) t) := congrArg (fun x => xm_O x F) (yt_23 h0 h1)
theorem zi_24 {F : _ → Prop} : xm_O (xm_ints o (yy_W m t) 24) F = F (yy_R 60 (m 24)) := congrArg (fun x => xm_O x F) (yi_24)
theorem zt_24 {F : _ → Prop} (h0 : 0 ≤ z) (h1 : z < 60) : xm_O (xm_seti (yy_W m t) 24 z x) F = F (yy_W (yy_s m 24 z.toNat x) t) := congrArg (fun x => xm_O x F) (yt_24 h0 h1)
theorem zf_25_0 {F : _ → Prop} : xm_O (xm_fi o (yy_W m t) 25 4 0) F = F (m 25 0) := congrArg (fun x => xm_O x F) (yf_25_0)
theorem zs_25_0 {F : _ → Prop} : xm_O (xm_setf (yy_W m t) 25 4 0 0 (.inl v)) F = F (yy_W (yy_s m 25 0 v) t) := congrArg (fun x => xm_O x F) (ys_25_0)
theorem zf_25_1 {F : _ → Prop} : xm_O (xm_fi o (yy_W m t) 25 4 1) F = F (m 25 1) := congrArg (fun x => xm_O x F) (yf_25_1)
theorem zs_25_1 {F : _ → Prop} : xm_O (xm_setf (yy_W m t) 25 4 1 0 (.inl v)) F = F (yy_W (yy_s m 25 1 v) t) := congrArg (fun x => xm_O x F) (ys_25_1)
theorem zf_25_2 {F : _ → Prop} : xm_O (xm_fi o (yy_W m t) 25 4 2) F = F (m 25 2) := congrArg (fun x => xm_O x F) (yf_25_2)
theorem zs_25_2 {F : _ → Prop} : xm_O (xm_setf (yy_W m t) 25 4 2 0 (.inl v)) F = F (yy_W (yy_s m 25 2 v) t) := congrArg (fun x => xm_O x F) (ys_25_2)
theorem zf_25_3 {F : _ → Prop} : xm_O (xm_fi o (yy_W m t) 25 4 3) F = F (m 25 3) := congrArg (fun x => xm_O x F) (yf_25_3)
theorem zs_25_3 {F : _ → Prop} : xm_O (xm_setf (yy_W m t) 25 4 3 0 (.inl v)) F = F (yy_W (yy_s m 25 3 v) t) := congrArg (fun x => xm_O x F) (ys_25_3)
theorem zf_25_4 {F : _ → Prop} : xm_O (xm_fi o (yy_W m t) 25 4 4) F = F (m 25 4) := congrArg (fun x => xm_O x F) (yf_25_4)
theorem zs_25_4 {F : _ → Prop} : xm_O (xm_setf (yy_W m t) 25 4 4 0 (.inl v)) F = F (yy_W (yy_s m 25 4 v) t) := congrArg (fun x => xm_O x F) (ys_25_4)
theorem zf_25_5 {F : _ → Prop} : xm_O (xm_fi o (yy_W m t) 25 4 5) F = F (m 25 5) := congrArg (fun x => xm_O x F) (yf_25_5)
theorem zs_25_5 {F : _ → Prop} : xm_O (xm_setf (yy_W m t) 25 4 5 0 (.inl v)) F = F (yy_W (yy_s m 25 5 v) t) := congrArg (fun x => xm_O x F) (ys_25_5)
theorem zr_25_6 {F : _ → Prop} : xm_O (xm_fr o (yy_W m t) 25 4 6) F = F 26 := congrArg (fun x => xm_O x F) (yr_25_6)
theorem zi_26 {F : _ → Prop} : xm_O (xm_ints o (yy_W m t) 26) F = F (yy_R 12 (m 26)) := congrArg (fun x => xm_O x F) (yi_26)
theorem zt_26 {F : _ → Prop} (h0 : 0 ≤ z) (h1 : z < 12) : xm_O (xm_seti (yy_W m t) 26 z x) F = F (yy_W (yy_s m 26 z.toNat x) t) := congrArg (fun x => xm_O x F) (yt_26 h0 h1)
theorem zf_27_0 {F : _ → Prop} : xm_O (xm_fi o (yy_W m t) 27 4 0) F = F (m 27 0) := congrArg (fun x => xm_O x F) (yf_27_0)
theorem zs_27_0 {F : _ → Prop} : xm_O (xm_setf (yy_W m t) 27 4 0 0 (.inl v)) F = F (yy_W (yy_s m 27 0 v) t) := congrArg (fun x => xm_O x F) (ys_27_0)
theorem zf_27_1 {F : _ → Prop} : xm_O (xm_fi o (yy_W m t) 27 4 1) F = F (m 27 1) := congrArg (fun x => xm_O x F) (yf_27_1)
theorem zs_27_1 {F : _ → Prop} : xm_O (xm_setf (yy_W m t) 27 4 1 0 (.inl v)) F = F (yy_W (yy_s m 27 1 v) t) := congrArg (fun x => xm_O x F) (ys_27_1)
theorem zf_27_2 {F : _ → Prop} : xm_O (xm_fi o (yy_W m t) 27 4 2) F = F (m 27 2) := congrArg (fun x => xm_O x F) (yf_27_2)
theorem zs_27_2 {F : _ → Prop} : xm_O (xm_setf (yy_W m t) 27 4 2 0 (.inl v)) F = F (yy_W (yy_s m 27 2 v) t) := congrArg (fun x => xm_O x F) (ys_27_2)
theorem zf_27_3 {F : _ → Prop} : xm_O (xm_fi o (yy_W m t) 27 4 3) F = F (m 27 3) := congrArg (fun x => xm_O x F) (yf_27_3)
theorem zs_27_3 {F : _ → Prop} : xm_O (xm_setf (yy_W m t) 27 4 3 0 (.inl v)) F = F (yy_W (yy_s m 27 3 v) t) := congrArg (fun x => xm_O x F) (ys_27_3)
theorem zf_27_4 {F : _ → Prop} : xm_O (xm_fi o (yy_W m t) 27 4 4) F = F (m 27 4) := congrArg (fun x => xm_O x F) (yf_27_4)
theorem zs_27_4 {F : _ → Prop} : xm_O (xm_setf (yy_W m t) 27 4 4 0 (.inl v)) F = F (yy_W (yy_s m 27 4 v) t) := congrArg (fun x => xm_O x F) (ys_27_4)
theorem zf_27_5 {F : _ → Prop} : xm_O (xm_fi o (yy_W m t) 27 4 5) F = F (m 27 5) := congrArg (fun x => xm_O x F) (yf_27_5)
theorem zs_27_5 {F : _ → Prop} : xm_O (xm_setf (yy_W m t) 27 4 5 0 (.inl v)) F = F (yy_W (yy_s m 27 5 v) t) := congrArg (fun x => xm_O x F) (ys_27_5)
theorem zr_27_6 {F : _ → Prop} : xm_O (xm_fr o (yy_W m t) 27 4 6) F = F 28 := congrArg (fun x => xm_O x F) (yr_27_6)
theorem zi_28 {F : _ → Prop} : xm_O (xm_ints o (yy_W m t) 28) F = F (yy_R 12 (m 28)) := congrArg (fun x => xm_O x F) (yi_28)
theorem zt_28 {F : _ → Prop} (h0 : 0 ≤ z) (h1 : z < 12) : xm_O (xm_seti (yy_W m t) 28 z x) F = F (yy_W (yy_s m 28 z.toNat x) t) := congrArg (fun x => xm_O x F) (yt_28 h0 h1)
theorem zf_29_0 {F : _ → Prop} : xm_O (xm_fi o (yy_W m t) 29 4 0) F = F (m 29 0) := congrArg (fun x => xm_O x F) (yf_29_0)
theorem zs_29_0 {F : _ → Prop} : xm_O (xm_setf (yy_W m t) 29 4 0 0 (.inl v)) F = F (yy_W (yy_s m 29 0 v) t) := congrArg (fun x => xm_O x F) (ys_29_0)
theorem zf_29_1 {F : _ → Prop} : xm_O (xm_fi o (yy_W m t) 29 4 1) F = F (m 29 1) := congrArg (fun x => xm_O x F) (yf_29_1)
theorem zs_29_1 {F : _ → Prop} : xm_O (xm_setf (yy_W m t) 29 4 1 0 (.inl v)) F = F (yy_W (yy_s m 29 1 v) t) := congrArg (fun x => xm_O x F) (ys_29_1)
theorem zf_29_2 {F : _ → Prop} : xm_O (xm_fi o (yy_W m t) 29 4 2) F = F (m 29 2) := congrArg (fun x => xm_O x F) (yf_29_2)
theorem zs_29_2 {F : _ → Prop} : xm_O (xm_setf (yy_W m t) 29 4 2 0 (.inl v)) F = F (yy_W (yy_s m 29 2 v) t) := congrArg (fun x => xm_O x F) (ys_29_2)
theorem zf_29_3 {F : _ → Prop} : xm_O (xm_fi o (yy_W m t) 29 4 3) F = F (m 29 3) := congrArg (fun x => xm_O x F) (yf_29_3)
theorem zs_29_3 {F : _ → Prop} : xm_O (xm_setf (yy_W m t) 29 4 3 0 (.inl v)) F = F (yy_W (yy_s m 29 3 v) t) := congrArg (fun x => xm_O x F) (ys_29_3)
theorem zf_29_4 {F : _ → Prop} : xm_O (xm_fi o (yy_W m t) 29 4 4) F = F (m 29 4) := congrArg (fun x => xm_O x F) (yf_29_4)
theorem zs_29_4 {F : _ → Prop} : xm_O (xm_setf (yy_W m t) 29 4 4 0 (.inl v)) F = F (yy_W (yy_s m 29 4 v) t) := congrArg (fun x => xm_O x F) (ys_29_4)
theorem zf_29_5 {F : _ → Prop} : xm_O (xm_fi o (yy_W m t) 29 4 5) F = F (m 29 5) := congrArg (fun x => xm_O x F) (yf_29_5)
theorem zs_29_5 {F : _ → Prop} : xm_O (xm_setf (yy_W m t) 29 4 5 0 (.inl v)) F = F (yy_W (yy_s m 29 5 v) t) := congrArg (fun x => xm_O x F) (ys_29_5)
theorem zr_29_6 {F : _ → Prop} : xm_O (xm_fr o (yy_W m t) 29 4 6) F = F 30 := congrArg (fun x => xm_O x F) (yr_29_6)
theorem zi_30 {F : _ → Prop} : xm_O (xm_ints o (yy_W m t) 30) F = F (yy_R 12 (m 30)) := congrArg (fun x => xm_O x F) (yi_30)
theorem zt_30 {F : _ → Prop} (h0 : 0 ≤ z) (h1 : z < 12) : xm_O (xm_seti (yy_W m t) 30 z x) F = F (yy_W (yy_s m 30 z.toNat x) t) := congrArg (fun x => xm_O x F) (yt_30 h0 h1)
theorem zf_31_0 {F : _ → Prop} : xm_O (xm_fi o (yy_W m t) 31 4 0) F = F (m 31 0) := congrArg (fun x => xm_O x F) (yf_31_0)
theorem zs_31_0 {F : _ → Prop} : xm_O (xm_setf (yy_W m t) 31 4 0 0 (.inl v)) F = F (yy_W (yy_s m 31 0 v) t) := congrArg (fun x => xm_O x F) (ys_31_0)
theorem zf_31_1 {F : _ → Prop} : xm_O (xm_fi o (yy_W m t) 31 4 1) F = F (m 31 1) := congrArg (fun x => xm_O x F) (yf_31_1)
theorem zs_31_1 {F : _ → Prop} : xm_O (xm_setf (yy_W m t) 31 4 1 0 (.inl v)) F = F (yy_W (yy_s m 31 1 v) t) := congrArg (fun x => xm_O x F) (ys_31_1)
theorem zf_31_2 {F : _ → Prop} : xm_O (xm_fi o (yy_W m t) 31 4 2) F = F (m 31 2) := congrArg (fun x => xm_O x F) (yf_31_2)
theorem zs_31_2 {F : _ → Prop} : xm_O (xm_setf (yy_W m t) 31 4 2 0 (.inl v)) F = F (yy_W (yy_s m 31 2 v) t) := congrArg (fun x => xm_O x F) (ys_31_2)
theorem zf_31_3 {F : _ → Prop} : xm_O (xm_fi o (yy_W m t) 31 4 3) F = F (m 31 3) := congrArg (fun x => xm_O x F) (yf_31_3)
theorem zs_31_3 {F : _ → Prop} : xm_O (xm_setf (yy_W m t) 31 4 3 0 (.inl v)) F = F (yy_W (yy_s m 31 3 v) t) := congrArg (fun x => xm_O x F) (ys_31_3)
theorem zf_31_4 {F : _ → Prop} : xm_O (xm_fi o (yy_W m t) 31 4 4) F = F (m 31 4) := congrArg (fun x => xm_O x F) (yf_31_4)
theorem zs_31_4 {F : _ → Prop} : xm_O (xm_setf (yy_W m t) 31 4 4 0 (.inl v)) F = F (yy_W (yy_s m 31 4 v) t) := congrArg (fun x => xm_O x F) (ys_31_4)
theorem zf_31_5 {F : _ → Prop} : xm_O (xm_fi o (yy_W m t) 31 4 5) F = F (m 31 5) := congrArg (fun x => xm_O x F) (yf_31_5)
theorem zs_31_5 {F : _ → Prop} : xm_O (xm_setf (yy_W m t) 31 4 5 0 (.inl v)) F = F (yy_W (yy_s m 31 5 v) t) := congrArg (fun x => xm_O x F) (ys_31_5)
theorem zr_31_6 {F : _ → Prop} : xm_O (xm_fr o (yy_W m t) 31 4 6) F = F 32 := congrArg (fun x => xm_O x F) (yr_31_6)
theorem zi_32 {F : _ → Prop} : xm_O (xm_ints o (yy_W m t) 32) F = F (yy_R 12 (m 32)) := congrArg (fun x => xm_O x F) (yi_32)
theorem zt_32 {F : _ → Prop} (h0 : 0 ≤ z) (h1 : z < 12) : xm_O (xm_seti (yy_W m t) 32 z x) F = F (yy_W (yy_s m 32 z.toNat x) t) := congrArg (fun x => xm_O x F) (yt_32 h0 h1)
theorem zf_33_0 {F : _ → Prop} : xm_O (xm_fi o (yy_W m t) 33 4 0) F = F (m 33 0) := congrArg (fun x => xm_O x F) (yf_33_0)
theorem zs_33_0 {F : _ → Prop} : xm_O (xm_setf (yy_W m t) 33 4 0 0 (.inl v)) F = F (yy_W (yy_s m 33 0 v) t) := congrArg (fun x => xm_O x F) (ys_33_0)
theorem zf_33_1 {F : _ → Prop} : xm_O (xm_fi o (yy_W m t) 33 4 1) F = F (m 33 1) := congrArg (fun x => xm_O x F) (yf_33_1)
theorem zs_33_1 {F : _ → Prop} : xm_O (xm_setf (yy_W m t) 33 4 1 0 (.inl v)) F = F (yy_W (yy_s m 33 1 v) t) := congrArg (fun x => xm_O x F) (ys_33_1)
theorem zf_33_2 {F : _ → Prop} : xm_O (xm_fi o (yy_W m t) 33 4 2) F = F (m 33 2) := congrArg (fun x => xm_O x F) (yf_33_2)
theorem zs_33_2 {F : _ → Prop} : xm_O (xm_setf (yy_W m t) 33 4 2 0 (.inl v)) F = F (yy_W (yy_s m 33 2 v) t) := congrArg (fun x => xm_O x F) (ys_33_2)
theorem zf_33_3 {F : _ → Prop} : xm_O (xm_fi o (yy_W m t) 33 4 3) F = F (m 33 3) := congrArg (fun x => xm_O x F) (yf_33_3)
theorem zs_33_3 {F : _ → Prop} : xm_O (xm_setf (yy_W m t) 33 4 3 0 (.inl v)) F = F (yy_W (yy_s m 33 3 v) t) := congrArg (fun x => xm_O x F) (ys_33_3)
theorem zf_33_4 {F : _ → Prop} : xm_O (xm_fi o (yy_W m t) 33 4 4) F = F (m 33 4) := congrArg (fun x => xm_O x F) (yf_33_4)
theorem zs_33_4 {F : _ → Prop} : xm_O (xm_setf (yy_W m t) 33 4 4 0 (.inl v)) F = F (yy_W (yy_s m 33 4 v) t) := congrArg (fun x => xm_O x F) (ys_33_4)
theorem zf_33_5 {F : _ → Prop} : xm_O (xm_fi o (yy_W m t) 33 4 5) F = F (m 33 5) := congrArg (fun x => xm_O x F) (yf_33_5)
theorem zs_33_5 {F : _ → Prop} : xm_O (xm_setf (yy_W m t) 33 4 5 0 (.inl v)) F = F (yy_W (yy_s m 33 5 v) t) := congrArg (fun x => xm_O x F) (ys_33_5)
theorem zr_33_6 {F : _ → Prop} : xm_O (xm_fr o (yy_W m t) 33 4 6) F = F 34 := congrArg (fun x => xm_O x F) (yr_33_6)
theorem zi_34 {F : _ → Prop} : xm_O (xm_ints o (yy_W m t) 34) F = F (yy_R 12 (m 34)) := congrArg (fun x => xm_O x F) (yi_34)
theorem zt_34 {F : _ → Prop} (h0 : 0 ≤ z) (h1 : z < 12) : xm_O (xm_seti (yy_W m t) 34 z x) F = F (yy_W (yy_s m 34 z.toNat x) t) := congrArg (fun x => xm_O x F) (yt_34 h0 h1)
theorem zr_35_0 {F : _ → Prop} : xm_O (xm_fr o (yy_W m t) 35 1 0) F = F 36 := congrArg (fun x => xm_O x F) (yr_35_0)
theorem zf_35_1 {F : _ → Prop} : xm_O (xm_fi o (yy_W m t) 35 1 1) F = F (m 35 1) := congrArg (fun x => xm_O x F) (yf_35_1)
theorem zs_35_1 {F : _ → Prop} : xm_O (xm_setf (yy_W m t) 35 1 1 0 (.inl v)) F = F (yy_W (yy_s m 35 1 v) t) := congrArg (fun x => xm_O x F) (ys_35_1)
theorem zr_35_2 {F : _ → Prop} : xm_O (xm_fr o (yy_W m t) 35 1 2) F = F 37 := congrArg (fun x => xm_O x F) (yr_35_2)
theorem zf_35_3 {F : _ → Prop} : xm_O (xm_fi o (yy_W m t) 35 1 3) F = F (m 35 3) := congrArg (fun x => xm_O x F) (yf_35_3)
theorem zs_35_3 {F : _ → Prop} : xm_O (xm_setf (yy_W m t) 35 1 3 0 (.inl v)) F = F (yy_W (yy_s m 35 3 v) t) := congrArg (fun x => xm_O x F) (ys_35_3)
theorem zf_35_4 {F : _ → Prop} : xm_O (xm_fi o (yy_W m t) 35 1 4) F = F (m 35 4) := congrArg (fun x => xm_O x F) (yf_35_4)
theorem zs_35_4 {F : _ → Prop} : xm_O (xm_setf (yy_W m t) 35 1 4 0 (.inl v)) F = F (yy_W (yy_s m 35 4 v) t) := congrArg (fun x => xm_O x F) (ys_35_4)
theorem zi_36 {F : _ → Prop} : xm_O (xm_ints o (yy_W m t) 36) F = F (yy_R 60 (m 36)) := congrArg (fun x => xm_O x F) (yi_36)
theorem zt_36 {F : _ → Prop} (h0 : 0 ≤ z) (h1 : z < 60) : xm_O (xm_seti (yy_W m t) 36 z x) F = F (yy_W (yy_s m 36 z.toNat x) t) := congrArg (fun x => xm_O x F) (yt_36 h0 h1)
theorem zi_37 {F : _ → Prop} : xm_O (xm_ints o (yy_W m t) 37) F = F (yy_R 24 (m 37)) := congrArg (fun x => xm_O x F) (yi_37)
theorem zt_37 {F : _ → Prop} (h0 : 0 ≤ z) (h1 : z < 24) : xm_O (xm_seti (yy_W m t) 37 z x) F = F (yy_W (yy_s m 37 z.toNat x) t) := congrArg (fun x => xm_O x F) (yt_37 h0 h1)
theorem zr_38_0 {F : _ → Prop} : xm_O (xm_fr o (yy_W m t) 38 2 0) F = F 39 := congrArg (fun x => xm_O x F) (yr_38_0)
theorem zf_38_1 {F : _ → Prop} : xm_O (xm_fi o (yy_W m t) 38 2 1) F = F (m 38 1) := congrArg (fun x => xm_O x F) (yf_38_1)
theorem zs_38_1 {F : _ → Prop} : xm_O (xm_setf (yy_W m t) 38 2 1 0 (.inl v)) F = F (yy_W (yy_s m 38 1 v) t) := congrArg (fun x => xm_O x F) (ys_38_1)
theorem zf_38_2 {F : _ → Prop} : xm_O (xm_fi o (yy_W m t) 38 2 2) F = F (m 38 2) := congrArg (fun x => xm_O x F) (yf_38_2)
theorem zs_38_2 {F : _ → Prop} : xm_O (xm_setf (yy_W m t) 38 2 2 0 (.inl v)) F = F (yy_W (yy_s m 38 2 v) t) := congrArg (fun x => xm_O x F) (ys_38_2)
theorem zr_38_3 {F : _ → Prop} : xm_O (xm_fr o (yy_W m t) 38 2 3) F = F 40 := congrArg (fun x => xm_O x F) (yr_38_3)
theorem zf_38_4 {F : _ → Prop} : xm_O (xm_fi o (yy_W m t) 38 2 4) F = F (m 38 4) := congrArg (fun x => xm_O x F) (yf_38_4)
theorem zs_38_4 {F : _ → Prop} : xm_O (xm_setf (yy_W m t) 38 2 4 0 (.inl v)) F = F (yy_W (yy_s m 38 4 v) t) := congrArg (fun x => xm_O x F) (ys_38_4)
theorem zr_38_5 {F : _ → Prop} : xm_O (xm_fr o (yy_W m t) 38 2 5) F = F 41 := congrArg (fun x => xm_O x F) (yr_38_5)
theorem zf_38_6 {F : _ → Prop} : xm_O (xm_fi o (yy_W m t) 38 2 6) F = F (m 38 6) := congrArg (fun x => xm_O x F) (yf_38_6)
theorem zs_38_6 {F : _ → Prop} : xm_O (xm_setf (yy_W m t) 38 2 6 0 (.inl v)) F = F (yy_W (yy_s m 38 6 v) t) := congrArg (fun x => xm_O x F) (ys_38_6)
theorem zr_38_7 {F : _ → Prop} : xm_O (xm_fr o (yy_W m t) 38 2 7) F = F 42 := congrArg (fun x => xm_O x F) (yr_38_7)
theorem zr_38_8 {F : _ → Prop} : xm_O (xm_fr o (yy_W m t) 38 2 8) F = F 43 := congrArg (fun x => xm_O x F) (yr_38_8)
theorem zr_38_9 {F : _ → Prop} : xm_O (xm_fr o (yy_W m t) 38 2 9) F = F 44 := congrArg (fun x => xm_O x F) (yr_38_9)
theorem zi_39 {F : _ → Prop} : xm_O (xm_ints o (yy_W m t) 39) F = F (yy_R 36 (m 39)) := congrArg (fun x => xm_O x F) (yi_39)
theorem zt_39 {F : _ → Prop} (h0 : 0 ≤ z) (h1 : z < 36) : xm_O (xm_seti (yy_W m t) 39 z x) F = F (yy_W (yy_s m 39 z.toNat x) t) := congrArg (fun x => xm_O x F) (yt_39 h0 h1)
theorem zq_40 {F : _ → Prop} : xm_O (xm_refs o (yy_W m t) 40) F = F (yy_qs (m 40) 0 [47, 49, 51, 53, 55]) := congrArg (fun x => xm_O x F) (yq_40)
theorem zi_41 {F : _ → Prop} : xm_O (xm_ints o (yy_W m t) 41) F = F (yy_R 200 (m 41)) := congrArg (fun x => xm_O x F) (yi_41)
theorem zt_41 {F : _ → Prop} (h0 : 0 ≤ z) (h1 : z < 200) : xm_O (xm_seti (yy_W m t) 41 z x) F = F (yy_W (yy_s m 41 z.toNat x) t) := congrArg (fun x => xm_O x F) (yt_41 h0 h1)
theorem zq_42 {F : _ → Prop} : xm_O (xm_refs o (yy_W m t) 42) F = F (yy_qs (m 42) 0 [1, 1]) := congrArg (fun x => xm_O x F) (yq_42)
theorem zi_43 {F : _ → Prop} : xm_O (xm_ints o (yy_W m t) 43) F = F (yy_R 4 (m 43)) := congrArg (fun x => xm_O x F) (yi_43)
theorem zt_43 {F : _ → Prop} (h0 : 0 ≤ z) (h1 : z < 4) : xm_O (xm_seti (yy_W m t) 43 z x) F = F (yy_W (yy_s m 43 z.toNat x) t) := congrArg (fun x => xm_O x F) (yt_43 h0 h1)
theorem zi_44 {F : _ → Prop} : xm_O (xm_ints o (yy_W m t) 44) F = F (yy_R 60 (m 44)) := congrArg (fun x => xm_O x F) (yi_44)
theorem zt_44 {F : _ → Prop} (h0 : 0 ≤ z) (h1 : z < 60) : xm_O (xm_seti (yy_W m t) 44 z x) F = F (yy_W (yy_s m 44 z.toNat x) t) := congrArg (fun x => xm_O x F) (yt_44 h0 h1)
theorem zf_45_0 {F : _ → Prop} : xm_O (xm_fi o (yy_W m t) 45 4 0) F = F (m 45 0) := congrArg (fun x => xm_O x F) (yf_45_0)
theorem zs_45_0 {F : _ → Prop} : xm_O (xm_setf (yy_W m t) 45 4 0 0 (.inl v)) F = F (yy_W (yy_s m 45 0 v) t) := congrArg (fun x => xm_O x F) (ys_45_0)
theorem zf_45_1 {F : _ → Prop} : xm_O (xm_fi o (yy_W m t) 45 4 1) F = F (m 45 1) := congrArg (fun x => xm_O x F) (yf_45_1)
theorem zs_45_1 {F : _ → Prop} : xm_O (xm_setf (yy_W m t) 45 4 1 0 (.inl v)) F = F (yy_W (yy_s m 45 1 v) t) := congrArg (fun x => xm_O x F) (ys_45_1)
theorem zf_45_2 {F : _ → Prop} : xm_O (xm_fi o (yy_W m t) 45 4 2) F = F (m 45 2) := congrArg (fun x => xm_O x F) (yf_45_2)
theorem zs_45_2 {F : _ → Prop} : xm_O (xm_setf (yy_W m t) 45 4 2 0 (.inl v)) F = F (yy_W (yy_s m 45 2 v) t) := congrArg (fun x => xm_O x F) (ys_45_2)
theorem zf_45_3 {F : _ → Prop} : xm_O (xm_fi o (yy_W m t) 45 4 3) F = F (m 45 3) := congrArg (fun x => xm_O x F) (yf_45_3)
theorem zs_45_3 {F : _ → Prop} : xm_O (xm_setf (yy_W m t) 45 4 3 0 (.inl v)) F = F (yy_W (yy_s m 45 3 v) t) := congrArg (fun x => xm_O x F) (ys_45_3)
theorem zf_45_4 {F : _ → Prop} : xm_O (xm_fi o (yy_W m t) 45 4 4) F = F (m 45 4) := congrArg (fun x => xm_O x F) (yf_45_4)
theorem zs_45_4 {F : _ → Prop} : xm_O (xm_setf (yy_W m t) 45 4 4 0 (.inl v)) F = F (yy_W (yy_s m 45 4 v) t) := congrArg (fun x => xm_O x F) (ys_45_4)
theorem zf_45_5 {F : _ → Prop} : xm_O (xm_fi o (yy_W m t) 45 4 5) F = F (m 45 5) := congrArg (fun x => xm_O x F) (yf_45_5)
theorem zs_45_5 {F : _ → Prop} : xm_O (xm_setf (yy_W m t) 45 4 5 0 (.inl v)) F = F (yy_W (yy_s m 45 5 v) t) := congrArg (fun x => xm_O x F) (ys_45_5)
theorem zr_45_6 {F : _ → Prop} : xm_O (xm_fr o (yy_W m t) 45 4 6) F = F 46 := congrArg (fun x => xm_O x F) (yr_45_6)
theorem zi_46 {F : _ → Prop} : xm_O (xm_ints o (yy_W m t) 46) F = F (yy_R 12 (m 46)) := congrArg (fun x => xm_O x F) (yi_46)
theorem zt_46 {F : _ → Prop} (h0 : 0 ≤ z) (h1 : z < 12) : xm_O (xm_seti (yy_W m t) 46 z x) F = F (yy_W (yy_s m 46 z.toNat x) t) := congrArg (fun x => xm_O x F) (yt_46 h0 h1)
theorem zf_47_0 {F : _ → Prop} : xm_O (xm_fi o (yy_W m t) 47 4 0) F = F (m 47 0) := congrArg (fun x => xm_O x F) (yf_47_0)
theorem zs_47_0 {F : _ → Prop} : xm_O (xm_setf (yy_W m t) 47 4 0 0 (.inl v)) F = F (yy_W (yy_s m 47 0 v) t) := congrArg (fun x => xm_O x F) (ys_47_0)
theorem zf_47_1 {F : _ → Prop} : xm_O (xm_fi o (yy_W m t) 47 4 1) F = F (m 47 1) := congrArg (fun x => xm_O x F) (yf_47_1)
theorem zs_47_1 {F : _ → Prop} : xm_O (xm_setf (yy_W m t) 47 4 1 0 (.inl v)) F = F (yy_W (yy_s m 47 1 v) t) := congrArg (fun x => xm_O x F) (ys_47_1)
theorem zf_47_2 {F : _ → Prop} : xm_O (xm_fi o (yy_W m t) 47 4 2) F = F (m 47 2) := congrArg (fun x => xm_O x F) (yf_47_2)
theorem zs_47_2 {F : _ → Prop} : xm_O (xm_setf (yy_W m t) 47 4 2 0 (.inl v)) F = F (yy_W (yy_s m 47 2 v) t) := congrArg (fun x => xm_O x F) (ys_47_2)
theorem zf_47_3 {F : _ → Prop} : xm_O (xm_fi o (yy_W m t) 47 4 3) F = F (m 47 3) := congrArg (fun x => xm_O x F) (yf_47_3)
theorem zs_47_3 {F : _ → Prop} : xm_O (xm_setf (yy_W m t) 47 4 3 0 (.inl v)) F = F (yy_W (yy_s m 47 3 v) t) := congrArg (fun x => xm_O x F) (ys_47_3)
theorem zf_47_4 {F : _ → Prop} : xm_O (xm_fi o (yy_W m t) 47 4 4) F = F (m 47 4) := congrArg (fun x => xm_O x F) (yf_47_4)
theorem zs_47_4 {F : _ → Prop} : xm_O (xm_setf (yy_W m t) 47 4 4 0 (.inl v)) F = F (yy_W (yy_s m 47 4 v) t) := congrArg (fun x => xm_O x F) (ys_47_4)
theorem zf_47_5 {F : _ → Prop} : xm_O (xm_fi o (yy_W m t) 47 4 5) F = F (m 47 5) := congrArg (fun x => xm_O x F) (yf_47_5)
theorem zs_47_5 {F : _ → Prop} : xm_O (xm_setf (yy_W m t) 47 4 5 0 (.inl v)) F = F (yy_W (yy_s m 47 5 v) t) := congrArg (fun x => xm_O x F) (ys_47_5)
theorem zr_47_6 {F : _ → Prop} : xm_O (xm_fr o (yy_W m t) 47 4 6) F = F 48 := congrArg (fun x => xm_O x F) (yr_47_6)
theorem zi_48 {F : _ → Prop} : xm_O (xm_ints o (yy_W m t) 48) F = F (yy_R 12 (m 48)) := congrArg (fun x => xm_O x F) (yi_48)
theorem zt_48 {F : _ → Prop} (h0 : 0 ≤ z) (h1 : z < 12) : xm_O (xm_seti (yy_W m t) 48 z x) F = F (yy_W (yy_s m 48 z.toNat x) t) := congrArg (fun x => xm_O x F) (yt_48 h0 h1)
theorem zf_49_0 {F : _ → Prop} : xm_O (xm_fi o (yy_W m t) 49 4 0) F = F (m 49 0) := congrArg (fun x => xm_O x F) (yf_49_0)
theorem zs_49_0 {F : _ → Prop} : xm_O (xm_setf (yy_W m t) 49 4 0 0 (.inl v)) F = F (yy_W (yy_s m 49 0 v) t) := congrArg (fun x => xm_O x F) (ys_49_0)
theorem zf_49_1 {F : _ → Prop} : xm_O (xm_fi o (yy_W m t) 49 4 1) F = F (m 49 1) := congrArg (fun x => xm_O x F) (yf_49_1)
theorem zs_49_1 {F : _ → Prop} : xm_O (xm_setf (yy_W m t) 49 4 1 0 (.inl v)) F = F (yy_W (yy_s m 49 1 v) t) := congrArg (fun x => xm_O x F) (ys_49_1)
theorem zf_49_2 {F : _ → Prop} : xm_O (xm_fi o (yy_W m t) 49 4 2) F = F (m 49 2) := congrArg (fun x => xm_O x F) (yf_49_2)
theorem zs_49_2 {F : _ → Prop} : xm_O (xm_setf (yy_W m t) 49 4 2 0 (.inl v)) F = F (yy_W (yy_s m 49 2 v) t) := congrArg (fun x => xm_O x F) (ys_49_2)
theorem zf_49_3 {F : _ → Prop} : xm_O (xm_fi o (yy_W m t) 49 4 3) F = F (m 49 3) := congrArg (fun x => xm_O x F) (yf_49_3)
theorem zs_49_3 {F : _ → Prop} : xm_O (xm_setf (yy_W m t) 49 4 3 0 (.inl v)) F = F (yy_W (yy_s m 49 3 v) t) := congrArg (fun x => xm_O x F) (ys_49_3)
theorem zf_49_4 {F : _ → Prop} : xm_O (xm_fi o (yy_W m t) 49 4 4) F = F (m 49 4) := congrArg (fun x => xm_O x F) (yf_49_4)
theorem zs_49_4 {F : _ → Prop} : xm_O (xm_setf (yy_W m t) 49 4 4 0 (.inl v)) F = F (yy_W (yy_s m 49 4 v) t) := congrArg (fun x => xm_O x F) (ys_49_4)
theorem zf_49_5 {F : _ → Prop} : xm_O (xm_fi o (yy_W m t) 49 4 5) F = F (m 49 5) := congrArg (fun x => xm_O x F) (yf_49_5)
theorem zs_49_5 {F : _ → Prop} : xm_O (xm_setf (yy_W m t) 49 4 5 0 (.inl v)) F = F (yy_W (yy_s m 49 5 v) t) := congrArg (fun x => xm_O x F) (ys_49_5)
theorem zr_49_6 {F : _ → Prop} : xm_O (xm_fr o (yy_W m t) 49 4 6) F = F 50 := congrArg (fun x => xm_O x F) (yr_49_6)
theorem zi_50 {F : _ → Prop} : xm_O (xm_ints o (yy_W m t) 50) F = F (yy_R 12 (m 50)) := congrArg (fun x => xm_O x F) (yi_50)
theorem zt_50 {F : _ → Prop} (h0 : 0 ≤ z) (h1 : z < 12) : xm_O (xm_seti (yy_W m t) 50 z x) F = F (yy_W (yy_s m 50 z.toNat x) t) := congrArg (fun x => xm_O x F) (yt_50 h0 h1)
theorem zf_51_0 {F : _ → Prop} : xm_O (xm_fi o (yy_W m t) 51 4 0) F = F (m 51 0) := congrArg (fun x => xm_O x F) (yf_51_0)
theorem zs_51_0 {F : _ → Prop} : xm_O (xm_setf (yy_W m t) 51 4 0 0 (.inl v)) F = F (yy_W (yy_s m 51 0 v) t) := congrArg (fun x => xm_O x F) (ys_51_0)
theorem zf_51_1 {F : _ → Prop} : xm_O (xm_fi o (yy_W m t) 51 4 1) F = F (m 51 1) := congrArg (fun x => xm_O x F) (yf_51_1)
theorem zs_51_1 {F : _ → Prop} : xm_O (xm_setf (yy_W m t) 51 4 1 0 (.inl v)) F = F (yy_W (yy_s m 51 1 v) t) := congrArg (fun x => xm_O x F) (ys_51_1)
theorem zf_51_2 {F : _ → Prop} : xm_O (xm_fi o (yy_W m t) 51 4 2) F = F (m 51 2) := congrArg (fun x => xm_O x F) (yf_51_2)
theorem zs_51_2 {F : _ → Prop} : xm_O (xm_setf (yy_W m t) 51 4 2 0 (.inl v)) F = F (yy_W (yy_s m 51 2 v) t) := congrArg (fun x => xm_O x F) (ys_51_2)
theorem zf_51_3 {F : _ → Prop} : xm_O (xm_fi o (yy_W m t) 51 4 3) F = F (m 51 3) := congrArg (fun x => xm_O x F) (yf_51_3)
theorem zs_51_3 {F : _ → Prop} : xm_O (xm_setf (yy_W m t) 51 4 3 0 (.inl v)) F = F (yy_W (yy_s m 51 3 v) t) := congrArg (fun x => xm_O x F) (ys_51_3)
theorem zf_51_4 {F : _ → Prop} : xm_O (xm_fi o (yy_W m t) 51 4 4) F = F (m 51 4) := congrArg (fun x => xm_O x F) (yf_51_4)
theorem zs_51_4 {F : _ → Prop} : xm_O (xm_setf (yy_W m t) 51 4 4 0 (.inl v)) F = F (yy_W (yy_s m 51 4 v) t) := congrArg (fun x => xm_O x F) (ys_51_4)
theorem zf_51_5 {F : _ → Prop} : xm_O (xm_fi o (yy_W m t) 51 4 5) F = F (m 51 5) := congrArg (fun x => xm_O x F) (yf_51_5)
theorem zs_51_5 {F : _ → Prop} : xm_O (xm_setf (yy_W m t) 51 4 5 0 (.inl v)) F = F (yy_W (yy_s m 51 5 v) t) := congrArg (fun x => xm_O x F) (ys_51_5)
theorem zr_51_6 {F : _ → Prop} : xm_O (xm_fr o (yy_W m t) 51 4 6) F = F 52 := congrArg (fun x => xm_O x F) (yr_51_6)
theorem zi_52 {F : _ → Prop} : xm_O (xm_ints o (yy_W m t) 52) F = F (yy_R 12 (m 52)) := congrArg (fun x => xm_O x F) (yi_52)
theorem zt_52 {F : _ → Prop} (h0 : 0 ≤ z) (h1 : z < 12) : xm_O (xm_seti (yy_W m t) 52 z x) F = F (yy_W (yy_s m 52 z.toNat x) t) := congrArg (fun x => xm_O x F) (yt_52 h0 h1)
theorem zf_53_0 {F : _ → Prop} : xm_O (xm_fi o (yy_W m t) 53 4 0) F = F (m 53 0) := congrArg (fun x => xm_O x F) (yf_53_0)
theorem zs_53_0 {F : _ → Prop} : xm_O (xm_setf (yy_W m t) 53 4 0 0 (.inl v)) F = F (yy_W (yy_s m 53 0 v) t) := congrArg (fun x => xm_O x F) (ys_53_0)
theorem zf_53_1 {F : _ → Prop} : xm_O (xm_fi o (yy_W m t) 53 4 1) F = F (m 53 1) := congrArg (fun x => xm_O x F) (yf_53_1)
theorem zs_53_1 {F : _ → Prop} : xm_O (xm_setf (yy_W m t) 53 4 1 0 (.inl v)) F = F (yy_W (yy_s m 53 1 v) t) := congrArg (fun x => xm_O x F) (ys_53_1)
theorem zf_53_2 {F : _ → Prop} : xm_O (xm_fi o (yy_W m t) 53 4 2) F = F (m 53 2) := congrArg (fun x => xm_O x F) (yf_53_2)
theorem zs_53_2 {F : _ → Prop} : xm_O (xm_setf (yy_W m t) 53 4 2 0 (.inl v)) F = F (yy_W (yy_s m 53 2 v) t) := congrArg (fun x => xm_O x F) (ys_53_2)
theorem zf_53_3 {F : _ → Prop} : xm_O (xm_fi o (yy_W m t) 53 4 3) F = F (m 53 3) := congrArg (fun x => xm_O x F) (yf_53_3)
theorem zs_53_3 {F : _ → Prop} : xm_O (xm_setf (yy_W m t) 53 4 3 0 (.inl v)) F = F (yy_W (yy_s m 53 3 v) t) := congrArg (fun x => xm_O x F) (ys_53_3)
theorem zf_53_4 {F : _ → Prop} : xm_O (xm_fi o (yy_W m t) 53 4 4) F = F (m 53 4) := congrArg (fun x => xm_O x F) (yf_53_4)
theorem zs_53_4 {F : _ → Prop} : xm_O (xm_setf (yy_W m t) 53 4 4 0 (.inl v)) F = F (yy_W (yy_s m 53 4 v) t) := congrArg (fun x => xm_O x F) (ys_53_4)
theorem zf_53_5 {F : _ → Prop} : xm_O (xm_fi o (yy_W m t) 53 4 5) F = F (m 53 5) := congrArg (fun x => xm_O x F) (yf_53_5)
theorem zs_53_5 {F : _ → Prop} : xm_O (xm_setf (yy_W m t) 53 4 5 0 (.inl v)) F = F (yy_W (yy_s m 53 5 v) t) := congrArg (fun x => xm_O x F) (ys_53_5)
theorem zr_53_6 {F : _ → Prop} : xm_O (xm_fr o (yy_W m t) 53 4 6) F = F 54 := congrArg (fun x => xm_O x F) (yr_53_6)
theorem zi_54 {F : _ → Prop} : xm_O (xm_ints o (yy_W m t) 54) F = F (yy_R 12 (m 54)) := congrArg (fun x => xm_O x F) (yi_54)
theorem zt_54 {F : _ → Prop} (h0 : 0 ≤ z) (h1 : z < 12) : xm_O (xm_seti (yy_W m t) 54 z x) F = F (yy_W (yy_s m 54 z.toNat x) t) := congrArg (fun x => xm_O x F) (yt_54 h0 h1)
theorem zr_55_0 {F : _ → Prop} : xm_O (xm_fr o (yy_W m t) 55 1 0) F = F 56 := congrArg (fun x => xm_O x F) (yr_55_0)
theorem zf_55_1 {F : _ → Prop} : xm_O (xm_fi o (yy_W m t) 55 1 1) F = F (m 55 1) := congrArg (fun x => xm_O x F) (yf_55_1)
theorem zs_55_1 {F : _ → Prop} : xm_O (xm_setf (yy_W m t) 55 1 1 0 (.inl v)) F = F (yy_W (yy_s m 55 1 v) t) := congrArg (fun x => xm_O x F) (ys_55_1)
theorem zr_55_2 {F : _ → Prop} : xm_O (xm_fr o (yy_W m t) 55 1 2) F = F 57 := congrArg (fun x => xm_O x F) (yr_55_2)
theorem zf_55_3 {F : _ → Prop} : xm_O (xm_fi o (yy_W m t) 55 1 3) F = F (m 55 3) := congrArg (fun x => xm_O x F) (yf_55_3)
theorem zs_55_3 {F : _ → Prop} : xm_O (xm_setf (yy_W m t) 55 1 3 0 (.inl v)) F = F (yy_W (yy_s m 55 3 v) t) := congrArg (fun x => xm_O x F) (ys_55_3)
theorem zf_55_4 {F : _ → Prop} : xm_O (xm_fi o (yy_W m t) 55 1 4) F = F (m 55 4) := congrArg (fun x => xm_O x F) (yf_55_4)
theorem zs_55_4 {F : _ → Prop} : xm_O (xm_setf (yy_W m t) 55 1 4 0 (.inl v)) F = F (yy_W (yy_s m 55 4 v) t) := congrArg (fun x => xm_O x F) (ys_55_4)
theorem zi_56 {F : _ → Prop} : xm_O (xm_ints o (yy_W m t) 56) F = F (yy_R 60 (m 56)) := congrArg (fun x => xm_O x F) (yi_56)
theorem zt_56 {F : _ → Prop} (h0 : 0 ≤ z) (h1 : z < 60) : xm_O (xm_seti (yy_W m t) 56 z x) F = F (yy_W (yy_s m 56 z.toNat x) t) := congrArg (fun x => xm_O x F) (yt_56 h0 h1)
theorem zi_57 {F : _ → Prop} : xm_O (xm_ints o (yy_W m t) 57) F = F (yy_R 24 (m 57)) := congrArg (fun x => xm_O x F) (yi_57)
theorem zt_57 {F : _ → Prop} (h0 : 0 ≤ z) (h1 : z < 24) : xm_O (xm_seti (yy_W m t) 57 z x) F = F (yy_W (yy_s m 57 z.toNat x) t) := congrArg (fun x => xm_O x F) (yt_57 h0 h1)
theorem zf_58_1 {F : _ → Prop} : xm_O (xm_fi o (yy_W m t) 58 3 1) F = F (m 58 1) := congrArg (fun x => xm_O x F) (yf_58_1)
theorem zs_58_1 {F : _ → Prop} : xm_O (xm_setf (yy_W m t) 58 3 1 0 (.inl v)) F = F (yy_W (yy_s m 58 1 v) t) := congrArg (fun x => xm_O x F) (ys_58_1)
theorem zf_58_3 {F : _ → Prop} : xm_O (xm_fi o (yy_W m t) 58 3 3) F = F (m 58 3) := congrArg (fun x => xm_O x F) (yf_58_3)
theorem zs_58_3 {F : _ → Prop} : xm_O (xm_setf (yy_W m t) 58 3 3 0 (.inl v)) F = F (yy_W (yy_s m 58 3 v) t) := congrArg (fun x => xm_O x F) (ys_58_3)
theorem zr_58_4 {F : _ → Prop} : xm_O (xm_fr o (yy_W m t) 58 3 4) F = F 60 := congrArg (fun x => xm_O x F) (yr_58_4)
theorem zf_58_5 {F : _ → Prop} : xm_O (xm_fi o (yy_W m t) 58 3 5) F = F (m 58 5) := congrArg (fun x => xm_O x F) (yf_58_5)
theorem zs_58_5 {F : _ → Prop} : xm_O (xm_setf (yy_W m t) 58 3 5 0 (.inl v)) F = F (yy_W (yy_s m 58 5 v) t) := congrArg (fun x => xm_O x F) (ys_58_5)
theorem zi_59 {F : _ → Prop} : xm_O (xm_ints o (yy_W m t) 59) F = F (yy_R 0 (m 59)) := congrArg (fun x => xm_O x F) (yi_59)
theorem zt_59 {F : _ → Prop} (h0 : 0 ≤ z) (h1 : z < 0) : xm_O (xm_seti (yy_W m t) 59 z x) F = F (yy_W (yy_s m 59 z.toNat x) t) := congrArg (fun x => xm_O x F) (yt_59 h0 h1)
theorem zi_60 {F : _ → Prop} : xm_O (xm_ints o (yy_W m t) 60) F = F (yy_R 60 (m 60)) := congrArg (fun x => xm_O x F) (yi_60)
theorem zt_60 {F : _ → Prop} (h0 : 0 ≤ z) (h1 : z < 60) : xm_O (xm_seti (yy_W m t) 60 z x) F = F (yy_W (yy_s m 60 z.toNat x) t) := congrArg (fun x => xm_O x F) (yt_60 h0 h1)
theorem zr_61_0 {F : _ → Prop} : xm_O (xm_fr o (yy_W m t) 61 6 0) F = F 62 := congrArg (fun x => xm_O x F) (yr_61_0)
theorem zf_61_1 {F : _ → Prop} : xm_O (xm_fi o (yy_W m t) 61 6 1) F = F (m 61 1) := congrArg (fun x => xm_O x F) (yf_61_1)
theorem zs_61_1 {F : _ → Prop} : xm_O (xm_setf (yy_W m t) 61 6 1 0 (.inl v)) F = F (yy_W (yy_s m 61 1 v) t) := congrArg (fun x => xm_O x F) (ys_61_1)
theorem zf_61_2 {F : _ → Prop} : xm_O (xm_fi o (yy_W m t) 61 6 2) F = F (m 61 2) := congrArg (fun x => xm_O x F) (yf_61_2)
theorem zs_61_2 {F : _ → Prop} : xm_O (xm_setf (yy_W m t) 61 6 2 0 (.inl v)) F = F (yy_W (yy_s m 61 2 v) t) := congrArg (fun x => xm_O x F) (ys_61_2)
theorem zf_61_3 {F : _ → Prop} : xm_O (xm_fi o (yy_W m t) 61 6 3) F = F (m 61 3) := congrArg (fun x => xm_O x F) (yf_61_3)
theorem zs_61_3 {F : _ → Prop} : xm_O (xm_setf (yy_W m t) 61 6 3 0 (.inl v)) F = F (yy_W (yy_s m 61 3 v) t) := congrArg (fun x => xm_O x F) (ys_61_3)
theorem zf_61_4 {F : _ → Prop} : xm_O (xm_fi o (yy_W m t) 61 6 4) F = F (m 61 4) := congrArg (fun x => xm_O x F) (yf_61_4)
theorem zs_61_4 {F : _ → Prop} : xm_O (xm_setf (yy_W m t) 61 6 4 0 (.inl v)) F = F (yy_W (yy_s m 61 4 v) t) := congrArg (fun x => xm_O x F) (ys_61_4)
theorem zi_62 {F : _ → Prop} : xm_O (xm_ints o (yy_W m t) 62) F = F (yy_R 30 (m 62)) := congrArg (fun x => xm_O x F) (yi_62)
theorem zt_62 {F : _ → Prop} (h0 : 0 ≤ z) (h1 : z < 30) : xm_O (xm_seti (yy_W m t) 62 z x) F = F (yy_W (yy_s m 62 z.toNat x) t) := congrArg (fun x => xm_O x F) (yt_62 h0 h1)
theorem zf_63_0 {F : _ → Prop} : xm_O (xm_fi o (yy_W m t) 63 0 0) F = F (m 63 0) := congrArg (fun x => xm_O x F) (yf_63_0)
theorem zs_63_0 {F : _ → Prop} (h : xm_fit 1 (.inl v) = true) : xm_O (xm_setf (yy_W m t) 63 0 0 1 (.inl v)) F = F (yy_W (yy_s m 63 0 v) t) := congrArg (fun x => xm_O x F) (ys_63_0 h)
theorem zf_63_1 {F : _ → Prop} : xm_O (xm_fi o (yy_W m t) 63 0 1) F = F (m 63 1) := congrArg (fun x => xm_O x F) (yf_63_1)
theorem zs_63_1 {F : _ → Prop} : xm_O (xm_setf (yy_W m t) 63 0 1 0 (.inl v)) F = F (yy_W (yy_s m 63 1 v) t) := congrArg (fun x => xm_O x F) (ys_63_1)
theorem zf_63_2 {F : _ → Prop} : xm_O (xm_fi o (yy_W m t) 63 0 2) F = F (m 63 2) := congrArg (fun x => xm_O x F) (yf_63_2)
theorem zs_63_2 {F : _ → Prop} : xm_O (xm_setf (yy_W m t) 63 0 2 0 (.inl v)) F = F (yy_W (yy_s m 63 2 v) t) := congrArg (fun x => xm_O x F) (ys_63_2)
theorem zf_63_3 {F : _ → Prop} : xm_O (xm_fi o (yy_W m t) 63 0 3) F = F (m 63 3) := congrArg (fun x => xm_O x F) (yf_63_3)
theorem zs_63_3 {F : _ → Prop} : xm_O (xm_setf (yy_W m t) 63 0 3 0 (.inl v)) F = F (yy_W (yy_s m 63 3 v) t) := congrArg (fun x => xm_O x F) (ys_63_3)
theorem zf_63_4 {F : _ → Prop} : xm_O (xm_fi o (yy_W m t) 63 0 4) F = F (m 63 4) := congrArg (fun x => xm_O x F) (yf_63_4)
theorem zs_63_4 {F : _ → Prop} : xm_O (xm_setf (yy_W m t) 63 0 4 0 (.inl v)) F = F (yy_W (yy_s m 63 4 v) t) := congrArg (fun x => xm_O x F) (ys_63_4)
theorem zq_64 {F : _ → Prop} : xm_O (xm_refs o (yy_W m t) 64) F = F (yy_qs (m 64) 0 [68, 70, 72, 74]) := congrArg (fun x => xm_O x F) (yq_64)
theorem zi_65 {F : _ → Prop} : xm_O (xm_ints o (yy_W m t) 65) F = F (yy_R 7 (m 65)) := congrArg (fun x => xm_O x F) (yi_65)
theorem zt_65 {F : _ → Prop} (h0 : 0 ≤ z) (h1 : z < 7) : xm_O (xm_seti (yy_W m t) 65 z x) F = F (yy_W (yy_s m 65 z.toNat x) t) := congrArg (fun x => xm_O x F) (yt_65 h0 h1)
theorem zf_66_0 {F : _ → Prop} : xm_O (xm_fi o (yy_W m t) 66 5 0) F = F (m 66 0) := congrArg (fun x => xm_O x F) (yf_66_0)
theorem zs_66_0 {F : _ → Prop} : xm_O (xm_setf (yy_W m t) 66 5 0 0 (.inl v)) F = F (yy_W (yy_s m 66 0 v) t) := congrArg (fun x => xm_O x F) (ys_66_0)
theorem zf_66_1 {F : _ → Prop} : xm_O (xm_fi o (yy_W m t) 66 5 1) F = F (m 66 1) := congrArg (fun x => xm_O x F) (yf_66_1)
theorem zs_66_1 {F : _ → Prop} : xm_O (xm_setf (yy_W m t) 66 5 1 0 (.inl v)) F = F (yy_W (yy_s m 66 1 v) t) := congrArg (fun x => xm_O x F) (ys_66_1)
theorem zr_66_2 {F : _ → Prop} : xm_O (xm_fr o (yy_W m t) 66 5 2) F = F 67 := congrArg (fun x => xm_O x F) (yr_66_2)
theorem zi_67 {F : _ → Prop} : xm_O (xm_ints o (yy_W m t) 67) F = F (yy_R 24 (m 67)) := congrArg (fun x => xm_O x F) (yi_67)
theorem zt_67 {F : _ → Prop} (h0 : 0 ≤ z) (h1 : z < 24) : xm_O (xm_seti (yy_W m t) 67 z x) F = F (yy_W (yy_s m 67 z.toNat x) t) := congrArg (fun x => xm_O x F) (yt_67 h0 h1)
theorem zf_68_0 {F : _ → Prop} : xm_O (xm_fi o (yy_W m t) 68 5 0) F = F (m 68 0) := congrArg (fun x => xm_O x F) (yf_68_0)
theorem zs_68_0 {F : _ → Prop} : xm_O (xm_setf (yy_W m t) 68 5 0 0 (.inl v)) F = F (yy_W (yy_s m 68 0 v) t) := congrArg (fun x => xm_O x F) (ys_68_0)
theorem zf_68_1 {F : _ → Prop} : xm_O (xm_fi o (yy_W m t) 68 5 1) F = F (m 68 1) := congrArg (fun x => xm_O x F) (yf_68_1)
theorem zs_68_1 {F : _ → Prop} : xm_O (xm_setf (yy_W m t) 68 5 1 0 (.inl v)) F = F (yy_W (yy_s m 68 1 v) t) := congrArg (fun x => xm_O x F) (ys_68_1)
theorem zr_68_2 {F : _ → Prop} : xm_O (xm_fr o (yy_W m t) 68 5 2) F = F 69 := congrArg (fun x => xm_O x F) (yr_68_2)
theorem zi_69 {F : _ → Prop} : xm_O (xm_ints o (yy_W m t) 69) F = F (yy_R 24 (m 69)) := congrArg (fun x => xm_O x F) (yi_69)
theorem zt_69 {F : _ → Prop} (h0 : 0 ≤ z) (h1 : z < 24) : xm_O (xm_seti (yy_W m t) 69 z x) F = F (yy_W (yy_s m 69 z.toNat x) t) := congrArg (fun x => xm_O x F) (yt_69 h0 h1)
theorem zf_70_0 {F : _ → Prop} : xm_O (xm_fi o (yy_W m t) 70 5 0) F = F (m 70 0) := congrArg (fun x => xm_O x F) (yf_70_0)
theorem zs_70_0 {F : _ → Prop} : xm_O (xm_setf (yy_W m t) 70 5 0 0 (.inl v)) F = F (yy_W (yy_s m 70 0 v) t) := congrArg (fun x => xm_O x F) (ys_70_0)
theorem zf_70_1 {F : _ → Prop} : xm_O (xm_fi o (yy_W m t) 70 5 1) F = F (m 70 1) := congrArg (fun x => xm_O x F) (yf_70_1)
theorem zs_70_1 {F : _ → Prop} : xm_O (xm_setf (yy_W m t) 70 5 1 0 (.inl v)) F = F (yy_W (yy_s m 70 1 v) t) := congrArg (fun x => xm_O x F) (ys_70_1)
theorem zr_70_2 {F : _ → Prop} : xm_O (xm_fr o (yy_W m t) 70 5 2) F = F 71 := congrArg (fun x => xm_O x F) (yr_70_2)
theorem zi_71 {F : _ → Prop} : xm_O (xm_ints o (yy_W m t) 71) F = F (yy_R 24 (m 71)) := congrArg (fun x => xm_O x F) (yi_71)
theorem zt_71 {F : _ → Prop} (h0 : 0 ≤ z) (h1 : z < 24) : xm_O (xm_seti (yy_W m t) 71 z x) F = F (yy_W (yy_s m 71 z.toNat x) t) := congrArg (fun x => xm_O x F) (yt_71 h0 h1)
theorem zf_72_0 {F : _ → Prop} : xm_O (xm_fi o (yy_W m t) 72 5 0) F = F (m 72 0) := congrArg (fun x => xm_O x F) (yf_72_0)
theorem zs_72_0 {F : _ → Prop} : xm_O (xm_setf (yy_W m t) 72 5 0 0 (.inl v)) F = F (yy_W (yy_s m 72 0 v) t) := congrArg (fun x => xm_O x F) (ys_72_0)
theorem zf_72_1 {F : _ → Prop} : xm_O (xm_fi o (yy_W m t) 72 5 1) F = F (m 72 1) := congrArg (fun x => xm_O x F) (yf_72_1)
theorem zs_72_1 {F : _ → Prop} : xm_O (xm_setf (yy_W m t) 72 5 1 0 (.inl v)) F = F (yy_W (yy_s m 72 1 v) t) := congrArg (fun x => xm_O x F) (ys_72_1)
theorem zr_72_2 {F : _ → Prop} : xm_O (xm_fr o (yy_W m t) 72 5 2) F = F 73 := congrArg (fun x => xm_O x F) (yr_72_2)
theorem zi_73 {F : _ → Prop} : xm_O (xm_ints o (yy_W m t) 73) F = F (yy_R 24 (m 73)) := congrArg (fun x => xm_O x F) (yi_73)
theorem zt_73 {F : _ → Prop} (h0 : 0 ≤ z) (h1 : z < 24) : xm_O (xm_seti (yy_W m t) 73 z x) F = F (yy_W (yy_s m 73 z.toNat x) t) := congrArg (fun x => xm_O x F) (yt_73 h0 h1)
theorem zr_74_0 {F : _ → Prop} : xm_O (xm_fr o (yy_W m t) 74 9 0) F = F 75 := congrArg (fun x => xm_O x F) (yr_74_0)
theorem zr_74_1 {F : _ → Prop} : xm_O (xm_fr o (yy_W m t) 74 9 1) F = F 76 := congrArg (fun x => xm_O x F) (yr_74_1)
theorem zr_74_2 {F : _ → Prop} : xm_O (xm_fr o (yy_W m t) 74 9 2) F = F 77 := congrArg (fun x => xm_O x F) (yr_74_2)
theorem zf_74_3 {F : _ → Prop} : xm_O (xm_fi o (yy_W m t) 74 9 3) F = F (m 74 3) := congrArg (fun x => xm_O x F) (yf_74_3)
theorem zs_74_3 {F : _ → Prop} : xm_O (xm_setf (yy_W m t) 74 9 3 0 (.inl v)) F = F (yy_W (yy_s m 74 3 v) t) := congrArg (fun x => xm_O x F) (ys_74_3)
theorem zf_74_4 {F : _ → Prop} : xm_O (xm_fi o (yy_W m t) 74 9 4) F = F (m 74 4) := congrArg (fun x => xm_O x F) (yf_74_4)
theorem zs_74_4 {F : _ → Prop} : xm_O (xm_setf (yy_W m t) 74 9 4 0 (.inl v)) F = F (yy_W (yy_s m 74 4 v) t) := congrArg (fun x => xm_O x F) (ys_74_4)
theorem zr_74_5 {F : _ → Prop} : xm_O (xm_fr o (yy_W m t) 74 9 5) F = F 78 := congrArg (fun x => xm_O x F) (yr_74_5)
theorem zf_74_6 {F : _ → Prop} : xm_O (xm_fi o (yy_W m t) 74 9 6) F = F (m 74 6) := congrArg (fun x => xm_O x F) (yf_74_6)
theorem zs_74_6 {F : _ → Prop} : xm_O (xm_setf (yy_W m t) 74 9 6 0 (.inl v)) F = F (yy_W (yy_s m 74 6 v) t) := congrArg (fun x => xm_O x F) (ys_74_6)
theorem zf_74_7 {F : _ → Prop} : xm_O (xm_fi o (yy_W m t) 74 9 7) F = F (m 74 7) := congrArg (fun x => xm_O x F) (yf_74_7)
theorem zs_74_7 {F : _ → Prop} : xm_O (xm_setf (yy_W m t) 74 9 7 0 (.inl v)) F = F (yy_W (yy_s m 74 7 v) t) := congrArg (fun x => xm_O x F) (ys_74_7)
theorem zf_74_8 {F : _ → Prop} : xm_O (xm_fi o (yy_W m t) 74 9 8) F = F (m 74 8) := congrArg (fun x => xm_O x F) (yf_74_8)
theorem zs_74_8 {F : _ → Prop} : xm_O (xm_setf (yy_W m t) 74 9 8 0 (.inl v)) F = F (yy_W (yy_s m 74 8 v) t) := congrArg (fun x => xm_O x F) (ys_74_8)
theorem zf_74_9 {F : _ → Prop} : xm_O (xm_fi o (yy_W m t) 74 9 9) F = F (m 74 9) := congrArg (fun x => xm_O x F) (yf_74_9)
theorem zs_74_9 {F : _ → Prop} : xm_O (xm_setf (yy_W m t) 74 9 9 0 (.inl v)) F = F (yy_W (yy_s m 74 9 v) t) := congrArg (fun x => xm_O x F) (ys_74_9)
theorem zr_74_10 {F : _ → Prop} : xm_O (xm_fr o (yy_W m t) 74 9 10) F = F 79 := congrArg (fun x => xm_O x F) (yr_74_10)
theorem zr_74_11 {F : _ → Prop} : xm_O (xm_fr o (yy_W m t) 74 9 11) F = F 80 := congrArg (fun x => xm_O x F) (yr_74_11)
theorem zr_74_12 {F : _ → Prop} : xm_O (xm_fr o (yy_W m t) 74 9 12) F = F 81 := congrArg (fun x => xm_O x F) (yr_74_12)
theorem zf_74_13 {F : _ → Prop} : xm_O (xm_fi o (yy_W m t) 74 9 13) F = F (m 74 13) := congrArg (fun x => xm_O x F) (yf_74_13)
theorem zs_74_13 {F : _ → Prop} : xm_O (xm_setf (yy_W m t) 74 9 13 0 (.inl v)) F = F (yy_W (yy_s m 74 13 v) t) := congrArg (fun x => xm_O x F) (ys_74_13)
theorem zr_74_14 {F : _ → Prop} : xm_O (xm_fr o (yy_W m t) 74 9 14) F = F 82 := congrArg (fun x => xm_O x F) (yr_74_14)
theorem zf_74_15 {F : _ → Prop} : xm_O (xm_fi o (yy_W m t) 74 9 15) F = F (m 74 15) := congrArg (fun x => xm_O x F) (yf_74_15)
theorem zs_74_15 {F : _ → Prop} : xm_O (xm_setf (yy_W m t) 74 9 15 0 (.inl v)) F = F (yy_W (yy_s m 74 15 v) t) := congrArg (fun x => xm_O x F) (ys_74_15)
theorem zf_74_16 {F : _ → Prop} : xm_O (xm_fi o (yy_W m t) 74 9 16) F = F (m 74 16) := congrArg (fun x => xm_O x F) (yf_74_16)
theorem zs_74_16 {F : _ → Prop} : xm_O (xm_setf (yy_W m t) 74 9 16 0 (.inl v)) F = F (yy_W (yy_s m 74 16 v) t) := congrArg (fun x => xm_O x F) (ys_74_16)
theorem zf_74_17 {F : _ → Prop} : xm_O (xm_fi o (yy_W m t) 74 9 17) F = F (m 74 17) := congrArg (fun x => xm_O x F) (yf_74_17)
theorem zs_74_17 {F : _ → Prop} (h : xm_fit 1 (.inl v) = true) : xm_O (xm_setf (yy_W m t) 74 9 17 1 (.inl v)) F = F (yy_W (yy_s m 74 17 v) t) := congrArg (fun x => xm_O x F) (ys_74_17 h)
theorem zr_74_18 {F : _ → Prop} : xm_O (xm_fr o (yy_W m t) 74 9 18) F = F 83 := congrArg (fun x => xm_O x F) (yr_74_18)
theorem zr_74_19 {F : _ → Prop} : xm_O (xm_fr o (yy_W m t) 74 9 19) F = F 84 := congrArg (fun x => xm_O x F) (yr_74_19)
theorem zr_74_20 {F : _ → Prop} : xm_O (xm_fr o (yy_W m t) 74 9 20) F = F 85 := congrArg (fun x => xm_O x F) (yr_74_20)
theorem zr_74_21 {F : _ → Prop} : xm_O (xm_fr o (yy_W m t) 74 9 21) F = F 86 := congrArg (fun x => xm_O x F) (yr_74_21)
theorem zi_75 {F : _ → Prop} : xm_O (xm_ints o (yy_W m t) 75) F = F (yy_R 673 (m 75)) := congrArg (fun x => xm_O x F) (yi_75)
theorem zt_75 {F : _ → Prop} (h0 : 0 ≤ z) (h1 : z < 673) : xm_O (xm_seti (yy_W m t) 75 z x) F = F (yy_W (yy_s m 75 z.toNat x) t) := congrArg (fun x => xm_O x F) (yt_75 h0 h1)
theorem zi_76 {F : _ → Prop} : xm_O (xm_ints o (yy_W m t) 76) F = F (yy_R 673 (m 76)) := congrArg (fun x => xm_O x F) (yi_76)
theorem zt_76 {F : _ → Prop} (h0 : 0 ≤ z) (h1 : z < 673) : xm_O (xm_seti (yy_W m t) 76 z x) F = F (yy_W (yy_s m 76 z.toNat x) t) := congrArg (fun x => xm_O x F) (yt_76 h0 h1)
theorem zi_77 {F : _ → Prop} : xm_O (xm_ints o (yy_W m t) 77) F = F (yy_R 339 (m 77)) := congrArg (fun x => xm_O x F) (yi_77)
theorem zt_77 {F : _ → Prop} (h0 : 0 ≤ z) (h1 : z < 339) : xm_O (xm_seti (yy_W m t) 77 z x) F = F (yy_W (yy_s m 77 z.toNat x) t) := congrArg (fun x => xm_O x F) (yt_77 h0 h1)
theorem zi_78 {F : _ → Prop} : xm_O (xm_ints o (yy_W m t) 78) F = F (yy_R 7 (m 78)) := congrArg (fun x => xm_O x F) (yi_78)
theorem zt_78 {F : _ → Prop} (h0 : 0 ≤ z) (h1 : z < 7) : xm_O (xm_seti (yy_W m t) 78 z x) F = F (yy_W (yy_s m 78 z.toNat x) t) := congrArg (fun x => xm_O x F) (yt_78 h0 h1)
theorem zi_79 {F : _ → Prop} : xm_O (xm_ints o (yy_W m t) 79) F = F (yy_R 124 (m 79)) := congrArg (fun x => xm_O x F) (yi_79)
theorem zt_79 {F : _ → Prop} (h0 : 0 ≤ z) (h1 : z < 124) : xm_O (xm_seti (yy_W m t) 79 z x) F = F (yy_W (yy_s m 79 z.toNat x) t) := congrArg (fun x => xm_O x F) (yt_79 h0 h1)
theorem zi_80 {F : _ → Prop} : xm_O (xm_ints o (yy_W m t) 80) F = F (yy_R 128 (m 80)) := congrArg (fun x => xm_O x F) (yi_80)
theorem zt_80 {F : _ → Prop} (h0 : 0 ≤ z) (h1 : z < 128) : xm_O (xm_seti (yy_W m t) 80 z x) F = F (yy_W (yy_s m 80 z.toNat x) t) := congrArg (fun x => xm_O x F) (yt_80 h0 h1)
theorem zi_81 {F : _ → Prop} : xm_O (xm_ints o (yy_W m t) 81) F = F (yy_R 64 (m 81)) := congrArg (fun x => xm_O x F) (yi_81)
theorem zt_81 {F : _ → Prop} (h0 : 0 ≤ z) (h1 : z < 64) : xm_O (xm_seti (yy_W m t) 81 z x) F = F (yy_W (yy_s m 81 z.toNat x) t) := congrArg (fun x => xm_O x F) (yt_81 h0 h1)
theorem zi_82 {F : _ → Prop} : xm_O (xm_ints o (yy_W m t) 82) F = F (yy_R 30 (m 82)) := congrArg (fun x => xm_O x F) (yi_82)
theorem zt_82 {F : _ → Prop} (h0 : 0 ≤ z) (h1 : z < 30) : xm_O (xm_seti (yy_W m t) 82 z x) F = F (yy_W (yy_s m 82 z.toNat x) t) := congrArg (fun x => xm_O x F) (yt_82 h0 h1)
theorem zi_83 {F : _ → Prop} : xm_O (xm_ints o (yy_W m t) 83) F = F (yy_R 4 (m 83)) := congrArg (fun x => xm_O x F) (yi_83)
theorem zt_83 {F : _ → Prop} (h0 : 0 ≤ z) (h1 : z < 4) : xm_O (xm_seti (yy_W m t) 83 z x) F = F (yy_W (yy_s m 83 z.toNat x) t) := congrArg (fun x => xm_O x F) (yt_83 h0 h1)
theorem zi_84 {F : _ → Prop} : xm_O (xm_ints o (yy_W m t) 84) F = F (yy_R 4 (m 84)) := congrArg (fun x => xm_O x F) (yi_84)
theorem zt_84 {F : _ → Prop} (h0 : 0 ≤ z) (h1 : z < 4) : xm_O (xm_seti (yy_W m t) 84 z x) F = F (yy_W (yy_s m 84 z.toNat x) t) := congrArg (fun x => xm_O x F) (yt_84 h0 h1)
theorem zi_85 {F : _ → Prop} : xm_O (xm_ints o (yy_W m t) 85) F = F (yy_R 96 (m 85)) := congrArg (fun x => xm_O x F) (yi_85)
theorem zt_85 {F : _ → Prop} (h0 : 0 ≤ z) (h1 : z < 96) : xm_O (xm_seti (yy_W m t) 85 z x) F = F (yy_W (yy_s m 85 z.toNat x) t) := congrArg (fun x => xm_O x F) (yt_85 h0 h1)
theorem zi_86 {F : _ → Prop} : xm_O (xm_ints o (yy_W m t) 86) F = F (yy_R 24 (m 86)) := congrArg (fun x => xm_O x F) (yi_86)
theorem zt_86 {F : _ → Prop} (h0 : 0 ≤ z) (h1 : z < 24) : xm_O (xm_seti (yy_W m t) 86 z x) F = F (yy_W (yy_s m 86 z.toNat x) t) := congrArg (fun x => xm_O x F) (yt_86 h0 h1)
end yz_sec
