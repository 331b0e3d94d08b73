set_option maxRecDepth 20000 in
theorem r_102 {sc : List Int} {t : xm_W} {m : Nat → Nat → Int} {x1 x2 : Int} (hI : yy_I t m) (h : ¬ ((0 ≤ x1 ∧ x1 ≤ 35) ∧ (0 ≤ x2 ∧ x2 ≤ 3))) : yy_A sc t m 102 1140 [.inl x1, .inl x2] true := by
  obtain ⟨⟨e0, e3, e1, e2⟩, hR⟩ := yy_I_0 hI
  obtain ⟨b0, b1, b2, b3, -⟩ := hR
  exact yy_Ao (f_102 (d := 96) h) (f_1140 (d := 96) (by exact h)) (yy_I_ef hI) yy_ef0 rfl
set_option maxRecDepth 20000 in
theorem r_103 {sc : List Int} {t : xm_W} {m : Nat → Nat → Int} {x1 : Int} (hI : yy_I t m) (h : ¬ ((0 ≤ x1 ∧ x1 ≤ 9))) : yy_A sc t m 103 1141 [.inl x1] true := by
  obtain ⟨⟨e0, e3, e1, e2⟩, hR⟩ := yy_I_0 hI
  obtain ⟨b0, b1, b2, b3, -⟩ := hR
  exact yy_Ao (f_103 (d := 96) h) (f_1141 (d := 96) (by exact h)) (yy_I_ef hI) yy_ef0 rfl
set_option maxRecDepth 20000 in
theorem r_104 {sc : List Int} {t : xm_W} {m : Nat → Nat → Int} {x1 x2 : Int} (hI : yy_I t m) (h : ¬ ((0 ≤ x1 ∧ x1 ≤ 69) ∧ (0 ≤ x2 ∧ x2 ≤ 35))) : yy_A sc t m 104 1142 [.inl x1, .inl x2] true := by
  obtain ⟨⟨e0, e3, e1, e2⟩, hR⟩ := yy_I_0 hI
  obtain ⟨b0, b1, b2, b3, -⟩ := hR
  exact yy_Ao (f_104 (d := 96) h) (f_1142 (d := 96) (by exact h)) (yy_I_ef hI) yy_ef0 rfl
set_option maxRecDepth 20000 in
theorem r_105 {sc : List Int} {t : xm_W} {m : Nat → Nat → Int} {x1 x2 : Int} (hI : yy_I t m) (h : ¬ ((0 ≤ x1 ∧ x1 ≤ m 1 4 - 1) ∧ (0 ≤ x2 ∧ x2 ≤ 19))) : yy_A sc t m 105 1145 [.inl x1, .inl x2] true := by
  obtain ⟨⟨e0, e3, e1, e2⟩, hR⟩ := yy_I_0 hI
  obtain ⟨b0, b1, b2, b3, -⟩ := hR
  exact yy_Ao (f_105 (d := 96) (by rw [e0]; exact b0.1) (by rw [e0]; exact b0.2) h) (f_1145 (d := 96) (by rw [yy_e75 (by decide)]; exact b0.1) (by rw [yy_e75 (by decide)]; exact b0.2) (by rw [yy_e75 (by decide)]; rw [e0] at h; exact h)) (yy_I_ef hI) yy_ef0 rfl
set_option maxRecDepth 20000 in
theorem r_106 {sc : List Int} {t : xm_W} {m : Nat → Nat → Int} {x1 x2 : Int} (hI : yy_I t m) (h : ¬ ((0 ≤ x1 ∧ x1 ≤ m 1 4 - 1) ∧ (0 ≤ x2 ∧ x2 ≤ 6))) : yy_A sc t m 106 1147 [.inl x1, .inl x2] true := by
  obtain ⟨⟨e0, e3, e1, e2⟩, hR⟩ := yy_I_0 hI
  obtain ⟨b0, b1, b2, b3, -⟩ := hR
  exact yy_Ao (f_106 (d := 96) (by rw [e0]; exact b0.1) (by rw [e0]; exact b0.2) h) (f_1147 (d := 96) (by rw [yy_e75 (by decide)]; exact b0.1) (by rw [yy_e75 (by decide)]; exact b0.2) (by rw [yy_e75 (by decide)]; rw [e0] at h; exact h)) (yy_I_ef hI) yy_ef0 rfl
set_option maxRecDepth 20000 in
theorem r_107 {sc : List Int} {t : xm_W} {m : Nat → Nat → Int} {x1 x2 x3 : Int} (hI : yy_I t m) (h : ¬ ((0 ≤ x1 ∧ x1 ≤ m 1 4 - 1))) : yy_A sc t m 107 1149 [.inl x1, .inl x2, .inl x3] true := by
  obtain ⟨⟨e0, e3, e1, e2⟩, hR⟩ := yy_I_0 hI
  obtain ⟨b0, b1, b2, b3, -⟩ := hR
  exact yy_Ao (f_107 (d := 96) (by rw [e0]; exact b0.1) (by rw [e0]; exact b0.2) h) (f_1149 (d := 96) (by rw [yy_e75 (by decide)]; exact b0.1) (by rw [yy_e75 (by decide)]; exact b0.2) (by rw [yy_e75 (by decide)]; rw [e0] at h; exact h)) (yy_I_ef hI) yy_ef0 rfl
set_option maxRecDepth 20000 in
theorem r_108 {sc : List Int} {t : xm_W} {m : Nat → Nat → Int} {x1 x2 : Int} (hI : yy_I t m) (h : ¬ ((0 ≤ x1 ∧ x1 ≤ m 1 4 - 1) ∧ (0 ≤ x2 ∧ x2 ≤ 3))) : yy_A sc t m 108 1152 [.inl x1, .inl x2] true := by
  obtain ⟨⟨e0, e3, e1, e2⟩, hR⟩ := yy_I_0 hI
  obtain ⟨b0, b1, b2, b3, -⟩ := hR
  exact yy_Ao (f_108 (d := 96) (by rw [e0]; exact b0.1) (by rw [e0]; exact b0.2) h) (f_1152 (d := 96) (by rw [yy_e75 (by decide)]; exact b0.1) (by rw [yy_e75 (by decide)]; exact b0.2) (by rw [yy_e75 (by decide)]; rw [e0] at h; exact h)) (yy_I_ef hI) yy_ef0 rfl
set_option maxRecDepth 20000 in
theorem r_109 {sc : List Int} {t : xm_W} {m : Nat → Nat → Int} {x1 : Int} (hI : yy_I t m) (h : ¬ ((0 ≤ x1 ∧ x1 ≤ m 1 4 - 1))) : yy_A sc t m 109 1153 [.inl x1] true := by
  obtain ⟨⟨e0, e3, e1, e2⟩, hR⟩ := yy_I_0 hI
  obtain ⟨b0, b1, b2, b3, -⟩ := hR
  exact yy_Ao (f_109 (d := 96) (by rw [e0]; exact b0.1) (by rw [e0]; exact b0.2) h) (f_1153 (d := 96) (by rw [yy_e75 (by decide)]; exact b0.1) (by rw [yy_e75 (by decide)]; exact b0.2) (by rw [yy_e75 (by decide)]; rw [e0] at h; exact h)) (yy_I_ef hI) yy_ef0 rfl
set_option maxRecDepth 20000 in
theorem r_112 {sc : List Int} {t : xm_W} {m : Nat → Nat → Int} {x1 : Int} (hI : yy_I t m) (h : ¬ ((0 ≤ x1 ∧ x1 ≤ 1))) : yy_A sc t m 112 1127 [.inl x1] true := by
  obtain ⟨⟨e0, e3, e1, e2⟩, hR⟩ := yy_I_0 hI
  obtain ⟨b0, b1, b2, b3, -⟩ := hR
  exact yy_Ao (f_112 (d := 96) h) (f_1127 (d := 96) (by exact h)) (yy_I_ef hI) yy_ef0 rfl
set_option maxRecDepth 20000 in
theorem r_111 {sc : List Int} {t : xm_W} {m : Nat → Nat → Int} {x1 : Int} (hI : yy_I t m) (h : ¬ ((0 ≤ x1 ∧ x1 ≤ 1))) : yy_A sc t m 111 1126 [.inl x1] true := by
  obtain ⟨⟨e0, e3, e1, e2⟩, hR⟩ := yy_I_0 hI
  obtain ⟨b0, b1, b2, b3, -⟩ := hR
  exact yy_Ao (f_111 (d := 96) h) (f_1126 (d := 96) (by exact h)) (yy_I_ef hI) yy_ef0 rfl
set_option maxRecDepth 20000 in
theorem r_113 {sc : List Int} {t : xm_W} {m : Nat → Nat → Int} {x1 : Int} (hI : yy_I t m) (h : ¬ ((1 ≤ x1 ∧ x1 ≤ 24))) : yy_A sc t m 113 1158 [.inl x1] true := by
  obtain ⟨⟨e0, e3, e1, e2⟩, hR⟩ := yy_I_0 hI
  obtain ⟨b0, b1, b2, b3, -⟩ := hR
  exact yy_Ao (f_113 (d := 96) h) (f_1158 (d := 96) (by exact h)) (yy_I_ef hI) yy_ef0 rfl
set_option maxRecDepth 20000 in
theorem r_114 {sc : List Int} {t : xm_W} {m : Nat → Nat → Int} {x1 : Int} (hI : yy_I t m) (h : ¬ ((1 ≤ x1 ∧ x1 ≤ 24))) : yy_A sc t m 114 1160 [.inl x1] true := by
  obtain ⟨⟨e0, e3, e1, e2⟩, hR⟩ := yy_I_0 hI
  obtain ⟨b0, b1, b2, b3, -⟩ := hR
  exact yy_Ao (f_114 (d := 96) h) (f_1160 (d := 96) (by exact h)) (yy_I_ef hI) yy_ef0 rfl
set_option maxRecDepth 20000 in
theorem r_116 {sc : List Int} {t : xm_W} {m : Nat → Nat → Int} {x1 x2 : Int} (hI : yy_I t m) (h : ¬ ((0 ≤ x1 ∧ x1 ≤ m 1 6 - 1) ∧ (0 ≤ x2 ∧ x2 ≤ 4))) : yy_A sc t m 116 1162 [.inl x1, .inl x2] true := by
  obtain ⟨⟨e0, e3, e1, e2⟩, hR⟩ := yy_I_0 hI
  obtain ⟨b0, b1, b2, b3, -⟩ := hR
  exact yy_Ao (f_116 (d := 96) (by rw [e3]; exact b3.1) (by rw [e3]; exact b3.2) h) (f_1162 (d := 96) (by rw [yy_e75 (by decide)]; exact b3.1) (by rw [yy_e75 (by decide)]; exact b3.2) (by rw [yy_e75 (by decide)]; rw [e3] at h; exact h)) (yy_I_ef hI) yy_ef0 rfl
set_option maxRecDepth 20000 in
theorem r_117 {sc : List Int} {t : xm_W} {m : Nat → Nat → Int} {x1 x2 : Int} (hI : yy_I t m) (h : ¬ ((0 ≤ x1 ∧ x1 ≤ 35) ∧ (0 ≤ x2 ∧ x2 ≤ 4))) : yy_A sc t m 117 1168 [.inl x1, .inl x2] true := by
  obtain ⟨⟨e0, e3, e1, e2⟩, hR⟩ := yy_I_0 hI
  obtain ⟨b0, b1, b2, b3, -⟩ := hR
  exact yy_Ao (f_117 (d := 96) h) (f_1168 (d := 96) (by exact h)) (yy_I_ef hI) yy_ef0 rfl
set_option maxRecDepth 20000 in
theorem r_118 {sc : List Int} {t : xm_W} {m : Nat → Nat → Int} {x1 x2 x3 x4 : Int} (hI : yy_I t m) (h : ¬ ((0 ≤ x1 ∧ x1 ≤ 35) ∧ (0 ≤ x2 ∧ x2 ≤ 1) ∧ (0 ≤ x3 ∧ x3 ≤ 40) ∧ (0 ≤ x4 ∧ x4 ≤ 1))) : yy_A sc t m 118 1170 [.inl x1, .inl x2, .inl x3, .inl x4] true := by
  obtain ⟨⟨e0, e3, e1, e2⟩, hR⟩ := yy_I_0 hI
  obtain ⟨b0, b1, b2, b3, -⟩ := hR
  exact yy_Ao (f_118 (d := 96) h) (f_1170 (d := 96) (by exact h)) (yy_I_ef hI) yy_ef0 rfl
set_option maxRecDepth 20000 in
theorem r_119 {sc : List Int} {t : xm_W} {m : Nat → Nat → Int} {x1 x2 x3 : Int} (hI : yy_I t m) (h : ¬ ((0 ≤ x1 ∧ x1 ≤ 24) ∧ (0 ≤ x2 ∧ x2 ≤ m 1 4 - 1) ∧ (0 ≤ x3 ∧ x3 ≤ 19))) : yy_A sc t m 119 1172 [.inl x1, .inl x2, .inl x3] true := by
  obtain ⟨⟨e0, e3, e1, e2⟩, hR⟩ := yy_I_0 hI
  obtain ⟨b0, b1, b2, b3, -⟩ := hR
  exact yy_Ao (f_119 (d := 96) (by rw [e0]; exact b0.1) (by rw [e0]; exact b0.2) h) (f_1172 (d := 96) (by rw [yy_e75 (by decide)]; exact b0.1) (by rw [yy_e75 (by decide)]; exact b0.2) (by rw [yy_e75 (by decide)]; rw [e0] at h; exact h)) (yy_I_ef hI) yy_ef0 rfl
set_option maxRecDepth 20000 in
theorem r_120 {sc : List Int} {t : xm_W} {m : Nat → Nat → Int} {x1 x2 x3 : Int} (hI : yy_I t m) (h : ¬ ((0 ≤ x1 ∧ x1 ≤ 24) ∧ (0 ≤ x2 ∧ x2 ≤ 35) ∧ (0 ≤ x3 ∧ x3 ≤ 4))) : yy_A sc t m 120 1173 [.inl x1, .inl x2, .inl x3] true := by
  obtain ⟨⟨e0, e3, e1, e2⟩, hR⟩ := yy_I_0 hI
  obtain ⟨b0, b1, b2, b3, -⟩ := hR
  exact yy_Ao (f_120 (d := 96) h) (f_1173 (d := 96) (by exact h)) (yy_I_ef hI) yy_ef0 rfl
set_option maxRecDepth 20000 in
theorem r_121 {sc : List Int} {t : xm_W} {m : Nat → Nat → Int} {x1 x2 x3 : Int} (hI : yy_I t m) (h : ¬ ((0 ≤ x1 ∧ x1 ≤ 99) ∧ (0 ≤ x2 ∧ x2 ≤ 59) ∧ (0 ≤ x3 ∧ x3 ≤ 1))) : yy_A sc t m 121 1174 [.inl x1, .inl x2, .inl x3] true := by
  obtain ⟨⟨e0, e3, e1, e2⟩, hR⟩ := yy_I_0 hI
  obtain ⟨b0, b1, b2, b3, -⟩ := hR
  exact yy_Ao (f_121 (d := 96) h) (f_1174 (d := 96) (by exact h)) (yy_I_ef hI) yy_ef0 rfl
set_option maxRecDepth 20000 in
theorem r_122 {sc : List Int} {t : xm_W} {m : Nat → Nat → Int} {x1 x2 x3 : Int} (hI : yy_I t m) (h : ¬ ((0 ≤ x1 ∧ x1 ≤ m 1 4 - 1) ∧ (0 ≤ x2 ∧ x2 ≤ 35) ∧ (0 ≤ x3 ∧ x3 ≤ m 1 2))) : yy_A sc t m 122 1176 [.inl x1, .inl x2, .inl x3] true := by
  obtain ⟨⟨e0, e3, e1, e2⟩, hR⟩ := yy_I_0 hI
  obtain ⟨b0, b1, b2, b3, -⟩ := hR
  exact yy_Ao (f_122 (d := 96) (by rw [e0]; exact b0.1) (by rw [e0]; exact b0.2) h) (f_1176 (d := 96) (by rw [yy_e75 (by decide)]; exact b0.1) (by rw [yy_e75 (by decide)]; exact b0.2) (by rw [yy_e75 (by decide)]; rw [e0] at h; rw [e1] at h; exact h)) (yy_I_ef hI) yy_ef0 rfl
set_option maxRecDepth 20000 in
theorem r_123 {sc : List Int} {t : xm_W} {m : Nat → Nat → Int} {x1 x2 : Int} (hI : yy_I t m) (h : ¬ ((0 ≤ x1 ∧ x1 ≤ m 1 4 - 1) ∧ (1 ≤ x2 ∧ x2 ≤ 12))) : yy_A sc t m 123 1178 [.inl x1, .inl x2] true := by
  obtain ⟨⟨e0, e3, e1, e2⟩, hR⟩ := yy_I_0 hI
  obtain ⟨b0, b1, b2, b3, -⟩ := hR
  exact yy_Ao (f_123 (d := 96) (by rw [e0]; exact b0.1) (by rw [e0]; exact b0.2) h) (f_1178 (d := 96) (by rw [yy_e75 (by decide)]; exact b0.1) (by rw [yy_e75 (by decide)]; exact b0.2) (by rw [yy_e75 (by decide)]; rw [e0] at h; exact h)) (yy_I_ef hI) yy_ef0 rfl
set_option maxRecDepth 20000 in
theorem r_124 {sc : List Int} {t : xm_W} {m : Nat → Nat → Int} {x1 x2 x3 : Int} (hI : yy_I t m) (h : ¬ ((0 ≤ x1 ∧ x1 ≤ m 1 4 - 1) ∧ (1 ≤ x2 ∧ x2 ≤ 12) ∧ (0 ≤ x3 ∧ x3 ≤ 35))) : yy_A sc t m 124 1180 [.inl x1, .inl x2, .inl x3] true := by
  obtain ⟨⟨e0, e3, e1, e2⟩, hR⟩ := yy_I_0 hI
  obtain ⟨b0, b1, b2, b3, -⟩ := hR
  exact yy_Ao (f_124 (d := 96) (by rw [e0]; exact b0.1) (by rw [e0]; exact b0.2) h) (f_1180 (d := 96) (by rw [yy_e75 (by decide)]; exact b0.1) (by rw [yy_e75 (by decide)]; exact b0.2) (by rw [yy_e75 (by decide)]; rw [e0] at h; exact h)) (yy_I_ef hI) yy_ef0 rfl
set_option maxRecDepth 20000 in
theorem r_125 {sc : List Int} {t : xm_W} {m : Nat → Nat → Int} {x1 x2 : Int} (hI : yy_I t m) (h : ¬ ((0 ≤ x1 ∧ x1 ≤ 3) ∧ (0 ≤ x2 ∧ x2 ≤ 4))) : yy_A sc t m 125 1185 [.inl x1, .inl x2] true := by
  obtain ⟨⟨e0, e3, e1, e2⟩, hR⟩ := yy_I_0 hI
  obtain ⟨b0, b1, b2, b3, -⟩ := hR
  exact yy_Ao (f_125 (d := 96) h) (f_1185 (d := 96) (by exact h)) (yy_I_ef hI) yy_ef0 rfl
set_option maxRecDepth 20000 in
theorem r_126 {sc : List Int} {t : xm_W} {m : Nat → Nat → Int} {x1 x2 x3 : Int} (hI : yy_I t m) (h : ¬ ((0 ≤ x1 ∧ x1 ≤ m 1 4 - 1) ∧ (0 ≤ x2 ∧ x2 ≤ 3))) : yy_A sc t m 126 1194 [.inl x1, .inl x2, .inl x3] true := by
  obtain ⟨⟨e0, e3, e1, e2⟩, hR⟩ := yy_I_0 hI
  obtain ⟨b0, b1, b2, b3, -⟩ := hR
  exact yy_Ao (f_126 (d := 96) (by rw [e0]; exact b0.1) (by rw [e0]; exact b0.2) h) (f_1194 (d := 96) (by rw [yy_e75 (by decide)]; exact b0.1) (by rw [yy_e75 (by decide)]; exact b0.2) (by rw [yy_e75 (by decide)]; rw [e0] at h; exact h)) (yy_I_ef hI) yy_ef0 rfl
set_option maxRecDepth 20000 in
theorem r_129 {sc : List Int} {t : xm_W} {m : Nat → Nat → Int} {x1 x2 x3 : Int} (hI : yy_I t m) (h : ¬ ((0 ≤ x1 ∧ x1 ≤ 3))) : yy_A sc t m 129 1198 [.inl x1, .inl x2, .inl x3] true := by
  obtain ⟨⟨e0, e3, e1, e2⟩, hR⟩ := yy_I_0 hI
  obtain ⟨b0, b1, b2, b3, -⟩ := hR
  exact yy_Ao (f_129 (d := 96) h) (f_1198 (d := 96) (by exact h)) (yy_I_ef hI) yy_ef0 rfl
set_option maxRecDepth 20000 in
theorem r_130 {sc : List Int} {t : xm_W} {m : Nat → Nat → Int} {x1 x2 x3 x4 x5 : Int} (hI : yy_I t m) (h : ¬ ((0 ≤ x1 ∧ x1 ≤ 3) ∧ (0 ≤ x3 ∧ x3 ≤ 3))) : yy_A sc t m 130 1199 [.inl x1, .inl x2, .inl x3, .inl x4, .inl x5] true := by
  obtain ⟨⟨e0, e3, e1, e2⟩, hR⟩ := yy_I_0 hI
  obtain ⟨b0, b1, b2, b3, -⟩ := hR
  exact yy_Ao (f_130 (d := 96) h) (f_1199 (d := 96) (by exact h)) (yy_I_ef hI) yy_ef0 rfl
set_option maxRecDepth 20000 in
theorem r_131 {sc : List Int} {t : xm_W} {m : Nat → Nat → Int} {x1 x2 : Int} (hI : yy_I t m) (h : ¬ ((0 ≤ x1 ∧ x1 ≤ 3) ∧ (0 ≤ x2 ∧ x2 ≤ m 1 4 - 1))) : yy_A sc t m 131 1201 [.inl x1, .inl x2] true := by
  obtain ⟨⟨e0, e3, e1, e2⟩, hR⟩ := yy_I_0 hI
  obtain ⟨b0, b1, b2, b3, -⟩ := hR
  exact yy_Ao (f_131 (d := 96) (by rw [e0]; exact b0.1) (by rw [e0]; exact b0.2) h) (f_1201 (d := 96) (by rw [yy_e75 (by decide)]; exact b0.1) (by rw [yy_e75 (by decide)]; exact b0.2) (by rw [yy_e75 (by decide)]; rw [e0] at h; exact h)) (yy_I_ef hI) yy_ef0 rfl
set_option maxRecDepth 20000 in
theorem r_132 {sc : List Int} {t : xm_W} {m : Nat → Nat → Int} {x1 x2 : Int} (hI : yy_I t m) (h : ¬ ((0 ≤ x1 ∧ x1 ≤ 3) ∧ (0 ≤ x2 ∧ x2 ≤ m 1 4 - 1))) : yy_A sc t m 132 1202 [.inl x1, .inl x2] true := by
  obtain ⟨⟨e0, e3, e1, e2⟩, hR⟩ := yy_I_0 hI
  obtain ⟨b0, b1, b2, b3, -⟩ := hR
  exact yy_Ao (f_132 (d := 96) (by rw [e0]; exact b0.1) (by rw [e0]; exact b0.2) h) (f_1202 (d := 96) (by rw [yy_e75 (by decide)]; exact b0.1) (by rw [yy_e75 (by decide)]; exact b0.2) (by rw [yy_e75 (by decide)]; rw [e0] at h; exact h)) (yy_I_ef hI) yy_ef0 rfl
set_option maxRecDepth 20000 in
theorem r_138 {sc : List Int} {t : xm_W} {m : Nat → Nat → Int} {x1 : Int} (hI : yy_I t m) (h : ¬ ((1 ≤ x1 ∧ x1 ≤ 6))) : yy_A sc t m 138 1208 [.inl x1] true := by
  obtain ⟨⟨e0, e3, e1, e2⟩, hR⟩ := yy_I_0 hI
  obtain ⟨b0, b1, b2, b3, -⟩ := hR
  exact yy_Ao (f_138 (d := 96) h) (f_1208 (d := 96) (by exact h)) (yy_I_ef hI) yy_ef0 rfl
