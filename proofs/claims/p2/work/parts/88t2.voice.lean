/-! VOICES: what the class's bodies give -/
set_option maxRecDepth 20000 in
theorem yy_VF_rf {m : Nat → Nat → Int} (h : 0 ≤ m 61 1 ∧ m 61 1 ≤ 30) : yy_VF m m := ⟨fun _ _ _ => rfl, fun _ _ => rfl, h⟩
def yy_say (sc : List Int) (t : xm_W) (n : Nat) (B K M k fr v x z : Int) : Prop := ∀ (d : Nat) (m : Nat → Nat → Int) (dp : Int), m 61 2 = K → m 61 3 = M → m 61 4 = k → 0 ≤ dp ∧ dp ≤ B → (0 ≤ m 61 1 ∧ m 61 1 ≤ 30) → ∃ m', xm_X (xm_old sc) xm_mt (d + n) 803 [.inr (.inl (some 61)), .inl (fr), .inl (v), .inl (x), .inl (dp)] (yy_W (m) t) = some (some (.inl (z)), (yy_W (m') t)) ∧ yy_VF m m'
def yy_bo (sc : List Int) (t : xm_W) (n : Nat) (B K M k b p x z : Int) : Prop := ∀ (d : Nat) (m : Nat → Nat → Int) (dp : Int), m 61 2 = K → m 61 3 = M → m 61 4 = k → 0 ≤ dp ∧ dp ≤ B → (0 ≤ m 61 1 ∧ m 61 1 ≤ 30) → ∃ m', xm_X (xm_old sc) xm_mt (d + n) 804 [.inr (.inl (some 61)), .inl (b), .inl (p), .inl (x), .inl (dp)] (yy_W (m) t) = some (some (.inl (z)), (yy_W (m') t)) ∧ yy_VF m m'
set_option maxRecDepth 20000 in
theorem yy_say_up {sc : List Int} {t : xm_W} {n n' : Nat} {B B' K M k fr v x z : Int} (hn : n ≤ n') (hB : B' ≤ B) (h : yy_say sc t n B K M k fr v x z) : yy_say sc t n' B' K M k fr v x z := fun d m dp a b c e f => by
  obtain ⟨j, rfl⟩ : ∃ j, n' = n + j := ⟨n' - n, by omega⟩
  have := h (d + j) m dp a b c (by omega) f
  rw [show d + (n + j) = d + j + n by omega]
  exact this
set_option maxRecDepth 20000 in
theorem yy_say_bo {sc : List Int} {t : xm_W} {n : Nat} {B K M k fr v x z h b p : Int} (ht : t.length < 900000) (hf : 0 ≤ fr ∧ fr ≤ 6) (hv : 0 ≤ v ∧ v ≤ 3) (ho : sp_ho fr v = h) (h0 : 0 ≤ h ∧ h ≤ 6) (hb : xm_at xm_st1 (h * 4 + v) = some b) (hp : xm_at xm_st0 h = some p) (hB : B ≤ 40) (w : yy_bo sc t (n + 1) B K M k b p x z) : yy_say sc t (n + 2) (B - 1) K M k fr v x z := fun d m dp a1 a2 a3 e f => by
  obtain ⟨m', x', g⟩ := c_803 (sc := sc) (d := d + n) (t := t) (m := m) (x := x) (dp := dp) (z := z) ht hf hv (by omega) ho h0 hb hp f (fun m1 f1 => w d m1 (dp + 1) (by rw [f1.2.1 2 (by decide)]; exact a1) (by rw [f1.2.1 3 (by decide)]; exact a2) (by rw [f1.2.1 4 (by decide)]; exact a3) (by omega) f1.2.2)
  exact ⟨m', x', g⟩
set_option maxRecDepth 20000 in
theorem yy_bo10 {sc : List Int} {t : xm_W} {B K M k p x : Int} : yy_bo sc t 1 B K M k 10 p x (xm_w (x + k)) := fun d m dp a1 a2 a3 e f => by
  refine ⟨m, ?_, yy_VF_rf f⟩
  refine xm_X_of (M := xm_m804) rfl ⟨xm_EQ.eq (xb_804_0 ?_), rfl, rfl, Nat.le_of_ble_eq_true rfl, yy_hd rfl (by decide)⟩
  rw [if_pos rfl, zf_61_4, a3]
set_option maxRecDepth 20000 in
theorem yy_bo11 {sc : List Int} {t : xm_W} {n : Nat} {B K M k p x z : Int} (h : yy_say sc t n B K M k K 0 x z) : yy_bo sc t (n + 1) B K M k 11 p x (xm_w (z * 2)) := fun d m dp a1 a2 a3 e f => by
  obtain ⟨m', x', g⟩ := h d m dp a1 a2 a3 e f
  refine ⟨m', ?_, g⟩
  show xm_X (xm_old sc) xm_mt (d + n + 1) 804 [.inr (.inl (some 61)), .inl (11), .inl (p), .inl (x), .inl (dp)] (yy_W (m) t) = _
  refine xm_X_of (M := xm_m804) rfl ⟨xm_EQ.eq (xb_804_0 ?_), rfl, rfl, Nat.le_of_ble_eq_true rfl, yy_hd rfl (by decide)⟩
  rw [if_neg (by decide), if_pos rfl, zf_61_2, a1, x', xm_Oi_some]
set_option maxRecDepth 20000 in
theorem yy_bo12 {sc : List Int} {t : xm_W} {n : Nat} {B K M k p x z : Int} (h : yy_say sc t n B K M k K 1 x z) : yy_bo sc t (n + 1) B K M k 12 p x (xm_w (z - M)) := fun d m dp a1 a2 a3 e f => by
  obtain ⟨m', x', g⟩ := h d m dp a1 a2 a3 e f
  refine ⟨m', ?_, g⟩
  show xm_X (xm_old sc) xm_mt (d + n + 1) 804 [.inr (.inl (some 61)), .inl (12), .inl (p), .inl (x), .inl (dp)] (yy_W (m) t) = _
  refine xm_X_of (M := xm_m804) rfl ⟨xm_EQ.eq (xb_804_0 ?_), rfl, rfl, Nat.le_of_ble_eq_true rfl, yy_hd rfl (by decide)⟩
  rw [if_neg (by decide), if_neg (by decide), if_pos rfl, zf_61_2, a1, x', xm_Oi_some, zf_61_3, g.2.1 3 (by decide), a2]
set_option maxRecDepth 20000 in
theorem yy_bo13 {sc : List Int} {t : xm_W} {B K M k p x : Int} (hM : 0 ≤ M ∧ M ≤ 9) (hk : 0 ≤ k ∧ k ≤ 4) (hne : ¬ M = k) : yy_bo sc t 1 B K M k 13 p x (xm_w (x.tdiv (M - k))) := fun d m dp a1 a2 a3 e f => by
  refine ⟨m, ?_, yy_VF_rf f⟩
  refine xm_X_of (M := xm_m804) rfl ⟨xm_EQ.eq (xb_804_0 ?_), rfl, rfl, Nat.le_of_ble_eq_true rfl, yy_hd rfl (by decide)⟩
  rw [if_neg (by decide), if_neg (by decide), if_neg (by decide), if_pos rfl, zf_61_3, zf_61_4, a2, a3, if_neg hne, zf_61_3, zf_61_4, a2, a3, xm_w_id (z := M - k) (by omega) (by omega)]
  exact ⟨by omega, rfl⟩
set_option maxRecDepth 20000 in
theorem yy_bo20 {sc : List Int} {t : xm_W} {n : Nat} {B K M k p x z : Int} (h : yy_say sc t n B K M k p 0 x z) : yy_bo sc t (n + 1) B K M k 20 p x (xm_w (z - 7)) := fun d m dp a1 a2 a3 e f => by
  obtain ⟨m', x', g⟩ := h d m dp a1 a2 a3 e f
  refine ⟨m', ?_, g⟩
  show xm_X (xm_old sc) xm_mt (d + n + 1) 804 [.inr (.inl (some 61)), .inl (20), .inl (p), .inl (x), .inl (dp)] (yy_W (m) t) = _
  refine xm_X_of (M := xm_m804) rfl ⟨xm_EQ.eq (xb_804_0 ?_), rfl, rfl, Nat.le_of_ble_eq_true rfl, yy_hd rfl (by decide)⟩
  rw [if_neg (by decide), if_neg (by decide), if_neg (by decide), if_neg (by decide), if_pos rfl, x', xm_Oi_some]
set_option maxRecDepth 20000 in
theorem yy_bo21 {sc : List Int} {t : xm_W} {n : Nat} {B K M k p x z z2 : Int} (h : yy_say sc t n B K M k p 3 x z) (h2 : yy_say sc t n B K M k K 1 1 z2) : yy_bo sc t (n + 1) B K M k 21 p x (xm_w (z + z2)) := fun d m dp a1 a2 a3 e f => by
  obtain ⟨m', x', g⟩ := h d m dp a1 a2 a3 e f
  obtain ⟨m2, x2, g2⟩ := h2 d m' dp (by rw [g.2.1 2 (by decide)]; exact a1) (by rw [g.2.1 3 (by decide)]; exact a2) (by rw [g.2.1 4 (by decide)]; exact a3) e g.2.2
  refine ⟨m2, ?_, yy_VF_tr g g2⟩
  show xm_X (xm_old sc) xm_mt (d + n + 1) 804 [.inr (.inl (some 61)), .inl (21), .inl (p), .inl (x), .inl (dp)] (yy_W (m) t) = _
  refine xm_X_of (M := xm_m804) rfl ⟨xm_EQ.eq (xb_804_0 ?_), rfl, rfl, Nat.le_of_ble_eq_true rfl, yy_hd rfl (by decide)⟩
  rw [if_neg (by decide), if_neg (by decide), if_neg (by decide), if_neg (by decide), if_neg (by decide), if_pos rfl, x', xm_Oi_some, zf_61_2, g.2.1 2 (by decide), a1, x2, xm_Oi_some]
set_option maxRecDepth 20000 in
theorem yy_bo30 {sc : List Int} {t : xm_W} {n : Nat} {B K M k p x z : Int} (h : yy_say sc t n B K M k p 1 x z) : yy_bo sc t (n + 1) B K M k 30 p x (xm_w (0 - z)) := fun d m dp a1 a2 a3 e f => by
  obtain ⟨m', x', g⟩ := h d m dp a1 a2 a3 e f
  refine ⟨m', ?_, g⟩
  show xm_X (xm_old sc) xm_mt (d + n + 1) 804 [.inr (.inl (some 61)), .inl (30), .inl (p), .inl (x), .inl (dp)] (yy_W (m) t) = _
  refine xm_X_of (M := xm_m804) rfl ⟨xm_EQ.eq (xb_804_0 ?_), rfl, rfl, Nat.le_of_ble_eq_true rfl, yy_hd rfl (by decide)⟩
  rw [if_neg (by decide), if_neg (by decide), if_neg (by decide), if_neg (by decide), if_neg (by decide), if_neg (by decide), if_pos rfl, x', xm_Oi_some]
set_option maxRecDepth 20000 in
theorem yy_bo40 {sc : List Int} {t : xm_W} {n : Nat} {B K M k p x z : Int} (h : yy_say sc t n B K M k p 2 (xm_w (x.tdiv 2)) z) : yy_bo sc t (n + 1) B K M k 40 p x (z) := fun d m dp a1 a2 a3 e f => by
  obtain ⟨m', x', g⟩ := h d m dp a1 a2 a3 e f
  refine ⟨m', ?_, g⟩
  show xm_X (xm_old sc) xm_mt (d + n + 1) 804 [.inr (.inl (some 61)), .inl (40), .inl (p), .inl (x), .inl (dp)] (yy_W (m) t) = _
  refine xm_X_of (M := xm_m804) rfl ⟨xm_EQ.eq (xb_804_0 ?_), rfl, rfl, Nat.le_of_ble_eq_true rfl, yy_hd rfl (by decide)⟩
  rw [if_neg (by decide), if_neg (by decide), if_neg (by decide), if_neg (by decide), if_neg (by decide), if_neg (by decide), if_neg (by decide), if_pos rfl]
  refine ⟨by decide, ?_⟩
  rw [x', xm_Oi_some]
set_option maxRecDepth 20000 in
theorem yy_bo50 {sc : List Int} {t : xm_W} {n : Nat} {B K M k p x z : Int} (h : yy_say sc t n B K M k p 0 x z) : yy_bo sc t (n + 1) B K M k 50 p x (xm_w (z * 3)) := fun d m dp a1 a2 a3 e f => by
  obtain ⟨m', x', g⟩ := h d m dp a1 a2 a3 e f
  refine ⟨m', ?_, g⟩
  show xm_X (xm_old sc) xm_mt (d + n + 1) 804 [.inr (.inl (some 61)), .inl (50), .inl (p), .inl (x), .inl (dp)] (yy_W (m) t) = _
  refine xm_X_of (M := xm_m804) rfl ⟨xm_EQ.eq (xb_804_0 ?_), rfl, rfl, Nat.le_of_ble_eq_true rfl, yy_hd rfl (by decide)⟩
  rw [if_neg (by decide), if_neg (by decide), if_neg (by decide), if_neg (by decide), if_neg (by decide), if_neg (by decide), if_neg (by decide), if_neg (by decide), if_pos rfl, x', xm_Oi_some]
set_option maxRecDepth 20000 in
theorem yy_bo51 {sc : List Int} {t : xm_W} {n : Nat} {B K M k p x z : Int} (h : yy_say sc t n B K M k p 2 x z) : yy_bo sc t (n + 1) B K M k 51 p x (xm_xor z k) := fun d m dp a1 a2 a3 e f => by
  obtain ⟨m', x', g⟩ := h d m dp a1 a2 a3 e f
  refine ⟨m', ?_, g⟩
  show xm_X (xm_old sc) xm_mt (d + n + 1) 804 [.inr (.inl (some 61)), .inl (51), .inl (p), .inl (x), .inl (dp)] (yy_W (m) t) = _
  refine xm_X_of (M := xm_m804) rfl ⟨xm_EQ.eq (xb_804_0 ?_), rfl, rfl, Nat.le_of_ble_eq_true rfl, yy_hd rfl (by decide)⟩
  rw [if_neg (by decide), if_neg (by decide), if_neg (by decide), if_neg (by decide), if_neg (by decide), if_neg (by decide), if_neg (by decide), if_neg (by decide), if_neg (by decide), if_pos rfl, x', xm_Oi_some, zf_61_4, g.2.1 4 (by decide), a3]
set_option maxRecDepth 20000 in
theorem yy_bo60 {sc : List Int} {t : xm_W} {n : Nat} {B K M k p x z : Int} (h : yy_say sc t n B K M k p 1 (xm_w (x + 1)) z) : yy_bo sc t (n + 1) B K M k 60 p x (z) := fun d m dp a1 a2 a3 e f => by
  obtain ⟨m', x', g⟩ := h d m dp a1 a2 a3 e f
  refine ⟨m', ?_, g⟩
  show xm_X (xm_old sc) xm_mt (d + n + 1) 804 [.inr (.inl (some 61)), .inl (60), .inl (p), .inl (x), .inl (dp)] (yy_W (m) t) = _
  refine xm_X_of (M := xm_m804) rfl ⟨xm_EQ.eq (xb_804_0 ?_), rfl, rfl, Nat.le_of_ble_eq_true rfl, yy_hd rfl (by decide)⟩
  rw [if_neg (by decide), if_neg (by decide), if_neg (by decide), if_neg (by decide), if_neg (by decide), if_neg (by decide), if_neg (by decide), if_neg (by decide), if_neg (by decide), if_neg (by decide), if_pos rfl, x', xm_Oi_some]
set_option maxRecDepth 20000 in
theorem yy_bo70 {sc : List Int} {t : xm_W} {B K M k p x : Int} : yy_bo sc t 1 B K M k 70 p x (5) := fun d m dp a1 a2 a3 e f => by
  refine ⟨m, ?_, yy_VF_rf f⟩
  refine xm_X_of (M := xm_m804) rfl ⟨xm_EQ.eq (xb_804_0 ?_), rfl, rfl, Nat.le_of_ble_eq_true rfl, yy_hd rfl (by decide)⟩
  rw [if_neg (by decide), if_neg (by decide), if_neg (by decide), if_neg (by decide), if_neg (by decide), if_neg (by decide), if_neg (by decide), if_neg (by decide), if_neg (by decide), if_neg (by decide), if_neg (by decide), if_pos rfl]
set_option maxRecDepth 20000 in
theorem yy_bo71 {sc : List Int} {t : xm_W} {n : Nat} {B K M k p x z : Int} (h : yy_say sc t n B K M k p 1 x z) : yy_bo sc t (n + 1) B K M k 71 p x (xm_w (z + M)) := fun d m dp a1 a2 a3 e f => by
  obtain ⟨m', x', g⟩ := h d m dp a1 a2 a3 e f
  refine ⟨m', ?_, g⟩
  show xm_X (xm_old sc) xm_mt (d + n + 1) 804 [.inr (.inl (some 61)), .inl (71), .inl (p), .inl (x), .inl (dp)] (yy_W (m) t) = _
  refine xm_X_of (M := xm_m804) rfl ⟨xm_EQ.eq (xb_804_0 ?_), rfl, rfl, Nat.le_of_ble_eq_true rfl, yy_hd rfl (by decide)⟩
  rw [if_neg (by decide), if_neg (by decide), if_neg (by decide), if_neg (by decide), if_neg (by decide), if_neg (by decide), if_neg (by decide), if_neg (by decide), if_neg (by decide), if_neg (by decide), if_neg (by decide), if_neg (by decide), x', xm_Oi_some, zf_61_3, g.2.1 3 (by decide), a2]
def sp_vr (k fr x : Int) : Int := if fr = 1 then xm_w (xm_w (x + k) - 7) else if fr = 4 then xm_w (xm_w (xm_w (x + k) - 7) * 3) else if fr = 6 then 5 else xm_w (x + k)
def sp_vs (k K M fr x : Int) : Int := if fr = 2 then xm_w (0 - xm_w (sp_vr k K x * 2)) else if fr = 5 then xm_w (0 - xm_w (sp_vr k K (xm_w (x + 1)) * 2)) else if fr = 6 then xm_w (xm_w (sp_vr k K x * 2) + M) else xm_w (sp_vr k K x * 2)
def sp_vk (k K M fr x : Int) : Int := if fr = 3 then xm_w (sp_vs k K M K (xm_w (x.tdiv 2)) - M) else if fr = 4 then xm_xor (xm_w (sp_vs k K M K x - M)) k else xm_w (sp_vs k K M K x - M)
def sp_vp (k K M fr x : Int) : Int := if fr = 1 ∨ fr = 4 then xm_w (xm_w (x.tdiv (M - k)) + sp_vs k K M K 1) else xm_w (x.tdiv (M - k))
set_option maxRecDepth 20000 in
theorem yy_r0 {sc : List Int} {t : xm_W} {K M k x : Int} (ht : t.length < 900000) : yy_say sc t 2 39 K M k 0 0 x (xm_w (x + k)) := yy_say_bo (n := 0) (B := 40) (h := 0) (b := 10) (p := -1) ht (by decide) (by decide) rfl (by decide) rfl rfl (by decide) (yy_bo10)
set_option maxRecDepth 20000 in
theorem yy_r1 {sc : List Int} {t : xm_W} {K M k x : Int} (ht : t.length < 900000) : yy_say sc t 4 38 K M k 1 0 x (xm_w (xm_w (x + k) - 7)) := yy_say_bo (n := 2) (B := 39) (h := 1) (b := 20) (p := 0) ht (by decide) (by decide) rfl (by decide) rfl rfl (by decide) (yy_bo20 (yy_r0 ht))
set_option maxRecDepth 20000 in
theorem yy_rv {sc : List Int} {t : xm_W} {K M k fr x : Int} (ht : t.length < 900000) (hf : 0 ≤ fr ∧ fr ≤ 6) : yy_say sc t 6 37 K M k fr 0 x (sp_vr k fr x) := by
  rcases (show fr = 0 ∨ fr = 1 ∨ fr = 2 ∨ fr = 3 ∨ fr = 4 ∨ fr = 5 ∨ fr = 6 by omega) with q | q | q | q | q | q | q <;> subst q
  · rw [show sp_vr k 0 x = xm_w (x + k) by unfold sp_vr; rw [if_neg (by decide), if_neg (by decide), if_neg (by decide)]]
    exact yy_say_up (by decide) (by decide) (yy_say_bo (n := 0) (B := 40) (h := 0) (b := 10) (p := -1) ht (by decide) (by decide) rfl (by decide) rfl rfl (by decide) (yy_bo10))
  · rw [show sp_vr k 1 x = xm_w (xm_w (x + k) - 7) by unfold sp_vr; rw [if_pos rfl]]
    exact yy_say_up (by decide) (by decide) (yy_r1 ht)
  · rw [show sp_vr k 2 x = xm_w (x + k) by unfold sp_vr; rw [if_neg (by decide), if_neg (by decide), if_neg (by decide)]]
    exact yy_say_up (by decide) (by decide) (yy_say_bo (n := 0) (B := 40) (h := 0) (b := 10) (p := -1) ht (by decide) (by decide) rfl (by decide) rfl rfl (by decide) (yy_bo10))
  · rw [show sp_vr k 3 x = xm_w (x + k) by unfold sp_vr; rw [if_neg (by decide), if_neg (by decide), if_neg (by decide)]]
    exact yy_say_up (by decide) (by decide) (yy_say_bo (n := 0) (B := 40) (h := 0) (b := 10) (p := -1) ht (by decide) (by decide) rfl (by decide) rfl rfl (by decide) (yy_bo10))
  · rw [show sp_vr k 4 x = xm_w (xm_w (xm_w (x + k) - 7) * 3) by unfold sp_vr; rw [if_neg (by decide), if_pos rfl]]
    exact yy_say_up (by decide) (by decide) (yy_say_bo (n := 4) (B := 38) (h := 4) (b := 50) (p := 1) ht (by decide) (by decide) rfl (by decide) rfl rfl (by decide) (yy_bo50 (yy_r1 ht)))
  · rw [show sp_vr k 5 x = xm_w (x + k) by unfold sp_vr; rw [if_neg (by decide), if_neg (by decide), if_neg (by decide)]]
    exact yy_say_up (by decide) (by decide) (yy_say_bo (n := 0) (B := 40) (h := 0) (b := 10) (p := -1) ht (by decide) (by decide) rfl (by decide) rfl rfl (by decide) (yy_bo10))
  · rw [show sp_vr k 6 x = 5 by unfold sp_vr; rw [if_neg (by decide), if_neg (by decide), if_pos rfl]]
    exact yy_say_up (by decide) (by decide) (yy_say_bo (n := 0) (B := 40) (h := 6) (b := 70) (p := 0) ht (by decide) (by decide) rfl (by decide) rfl rfl (by decide) (yy_bo70))
set_option maxRecDepth 20000 in
theorem yy_s0 {sc : List Int} {t : xm_W} {K M k x : Int} (ht : t.length < 900000) (hK : 0 ≤ K ∧ K ≤ 6) : yy_say sc t 8 36 K M k 0 1 x (xm_w (sp_vr k K x * 2)) := yy_say_bo (n := 6) (B := 37) (h := 0) (b := 11) (p := -1) ht (by decide) (by decide) rfl (by decide) rfl rfl (by decide) (yy_bo11 (yy_rv ht hK))
set_option maxRecDepth 20000 in
theorem yy_s2 {sc : List Int} {t : xm_W} {K M k x : Int} (ht : t.length < 900000) (hK : 0 ≤ K ∧ K ≤ 6) : yy_say sc t 10 35 K M k 2 1 x (xm_w (0 - xm_w (sp_vr k K x * 2))) := yy_say_bo (n := 8) (B := 36) (h := 2) (b := 30) (p := 0) ht (by decide) (by decide) rfl (by decide) rfl rfl (by decide) (yy_bo30 (yy_s0 ht hK))
set_option maxRecDepth 20000 in
theorem yy_sv {sc : List Int} {t : xm_W} {K M k fr x : Int} (ht : t.length < 900000) (hK : 0 ≤ K ∧ K ≤ 6) (hf : 0 ≤ fr ∧ fr ≤ 6) : yy_say sc t 12 34 K M k fr 1 x (sp_vs k K M fr x) := by
  rcases (show fr = 0 ∨ fr = 1 ∨ fr = 2 ∨ fr = 3 ∨ fr = 4 ∨ fr = 5 ∨ fr = 6 by omega) with q | q | q | q | q | q | q <;> subst q
  · rw [show sp_vs k K M 0 x = xm_w (sp_vr k K x * 2) by unfold sp_vs; rw [if_neg (by decide), if_neg (by decide), if_neg (by decide)]]
    exact yy_say_up (by decide) (by decide) (yy_say_bo (n := 6) (B := 37) (h := 0) (b := 11) (p := -1) ht (by decide) (by decide) rfl (by decide) rfl rfl (by decide) (yy_bo11 (yy_rv ht hK)))
  · rw [show sp_vs k K M 1 x = xm_w (sp_vr k K x * 2) by unfold sp_vs; rw [if_neg (by decide), if_neg (by decide), if_neg (by decide)]]
    exact yy_say_up (by decide) (by decide) (yy_say_bo (n := 6) (B := 37) (h := 0) (b := 11) (p := -1) ht (by decide) (by decide) rfl (by decide) rfl rfl (by decide) (yy_bo11 (yy_rv ht hK)))
  · rw [show sp_vs k K M 2 x = xm_w (0 - xm_w (sp_vr k K x * 2)) by unfold sp_vs; rw [if_pos rfl]]
    exact yy_say_up (by decide) (by decide) (yy_s2 ht hK)
  · rw [show sp_vs k K M 3 x = xm_w (sp_vr k K x * 2) by unfold sp_vs; rw [if_neg (by decide), if_neg (by decide), if_neg (by decide)]]
    exact yy_say_up (by decide) (by decide) (yy_say_bo (n := 6) (B := 37) (h := 0) (b := 11) (p := -1) ht (by decide) (by decide) rfl (by decide) rfl rfl (by decide) (yy_bo11 (yy_rv ht hK)))
  · rw [show sp_vs k K M 4 x = xm_w (sp_vr k K x * 2) by unfold sp_vs; rw [if_neg (by decide), if_neg (by decide), if_neg (by decide)]]
    exact yy_say_up (by decide) (by decide) (yy_say_bo (n := 6) (B := 37) (h := 0) (b := 11) (p := -1) ht (by decide) (by decide) rfl (by decide) rfl rfl (by decide) (yy_bo11 (yy_rv ht hK)))
  · rw [show sp_vs k K M 5 x = xm_w (0 - xm_w (sp_vr k K (xm_w (x + 1)) * 2)) by unfold sp_vs; rw [if_neg (by decide), if_pos rfl]]
    exact yy_say_up (by decide) (by decide) (yy_say_bo (n := 10) (B := 35) (h := 5) (b := 60) (p := 2) ht (by decide) (by decide) rfl (by decide) rfl rfl (by decide) (yy_bo60 (yy_s2 ht hK)))
  · rw [show sp_vs k K M 6 x = xm_w (xm_w (sp_vr k K x * 2) + M) by unfold sp_vs; rw [if_neg (by decide), if_neg (by decide), if_pos rfl]]
    exact yy_say_up (by decide) (by decide) (yy_say_bo (n := 8) (B := 36) (h := 6) (b := 71) (p := 0) ht (by decide) (by decide) rfl (by decide) rfl rfl (by decide) (yy_bo71 (yy_s0 ht hK)))
set_option maxRecDepth 20000 in
theorem yy_k0 {sc : List Int} {t : xm_W} {K M k x : Int} (ht : t.length < 900000) (hK : 0 ≤ K ∧ K ≤ 6) : yy_say sc t 14 33 K M k 0 2 x (xm_w (sp_vs k K M K x - M)) := yy_say_bo (n := 12) (B := 34) (h := 0) (b := 12) (p := -1) ht (by decide) (by decide) rfl (by decide) rfl rfl (by decide) (yy_bo12 (yy_sv ht hK hK))
set_option maxRecDepth 20000 in
theorem yy_k1 {sc : List Int} {t : xm_W} {K M k x : Int} (ht : t.length < 900000) (hK : 0 ≤ K ∧ K ≤ 6) : yy_say sc t 14 33 K M k 1 2 x (xm_w (sp_vs k K M K x - M)) := yy_say_bo (n := 12) (B := 34) (h := 0) (b := 12) (p := -1) ht (by decide) (by decide) rfl (by decide) rfl rfl (by decide) (yy_bo12 (yy_sv ht hK hK))
set_option maxRecDepth 20000 in
theorem yy_kv {sc : List Int} {t : xm_W} {K M k fr x : Int} (ht : t.length < 900000) (hK : 0 ≤ K ∧ K ≤ 6) (hf : 0 ≤ fr ∧ fr ≤ 6) : yy_say sc t 16 32 K M k fr 2 x (sp_vk k K M fr x) := by
  rcases (show fr = 0 ∨ fr = 1 ∨ fr = 2 ∨ fr = 3 ∨ fr = 4 ∨ fr = 5 ∨ fr = 6 by omega) with q | q | q | q | q | q | q <;> subst q
  · rw [show sp_vk k K M 0 x = xm_w (sp_vs k K M K x - M) by unfold sp_vk; rw [if_neg (by decide), if_neg (by decide)]]
    exact yy_say_up (by decide) (by decide) (yy_say_bo (n := 12) (B := 34) (h := 0) (b := 12) (p := -1) ht (by decide) (by decide) rfl (by decide) rfl rfl (by decide) (yy_bo12 (yy_sv ht hK hK)))
  · rw [show sp_vk k K M 1 x = xm_w (sp_vs k K M K x - M) by unfold sp_vk; rw [if_neg (by decide), if_neg (by decide)]]
    exact yy_say_up (by decide) (by decide) (yy_say_bo (n := 12) (B := 34) (h := 0) (b := 12) (p := -1) ht (by decide) (by decide) rfl (by decide) rfl rfl (by decide) (yy_bo12 (yy_sv ht hK hK)))
  · rw [show sp_vk k K M 2 x = xm_w (sp_vs k K M K x - M) by unfold sp_vk; rw [if_neg (by decide), if_neg (by decide)]]
    exact yy_say_up (by decide) (by decide) (yy_say_bo (n := 12) (B := 34) (h := 0) (b := 12) (p := -1) ht (by decide) (by decide) rfl (by decide) rfl rfl (by decide) (yy_bo12 (yy_sv ht hK hK)))
  · rw [show sp_vk k K M 3 x = xm_w (sp_vs k K M K (xm_w (x.tdiv 2)) - M) by unfold sp_vk; rw [if_pos rfl]]
    exact yy_say_up (by decide) (by decide) (yy_say_bo (n := 14) (B := 33) (h := 3) (b := 40) (p := 0) ht (by decide) (by decide) rfl (by decide) rfl rfl (by decide) (yy_bo40 (yy_k0 ht hK)))
  · rw [show sp_vk k K M 4 x = xm_xor (xm_w (sp_vs k K M K x - M)) k by unfold sp_vk; rw [if_neg (by decide), if_pos rfl]]
    exact yy_say_up (by decide) (by decide) (yy_say_bo (n := 14) (B := 33) (h := 4) (b := 51) (p := 1) ht (by decide) (by decide) rfl (by decide) rfl rfl (by decide) (yy_bo51 (yy_k1 ht hK)))
  · rw [show sp_vk k K M 5 x = xm_w (sp_vs k K M K x - M) by unfold sp_vk; rw [if_neg (by decide), if_neg (by decide)]]
    exact yy_say_up (by decide) (by decide) (yy_say_bo (n := 12) (B := 34) (h := 0) (b := 12) (p := -1) ht (by decide) (by decide) rfl (by decide) rfl rfl (by decide) (yy_bo12 (yy_sv ht hK hK)))
  · rw [show sp_vk k K M 6 x = xm_w (sp_vs k K M K x - M) by unfold sp_vk; rw [if_neg (by decide), if_neg (by decide)]]
    exact yy_say_up (by decide) (by decide) (yy_say_bo (n := 12) (B := 34) (h := 0) (b := 12) (p := -1) ht (by decide) (by decide) rfl (by decide) rfl rfl (by decide) (yy_bo12 (yy_sv ht hK hK)))
set_option maxRecDepth 20000 in
theorem yy_p0 {sc : List Int} {t : xm_W} {K M k x : Int} (ht : t.length < 900000) (hM : 0 ≤ M ∧ M ≤ 9) (hk : 0 ≤ k ∧ k ≤ 4) (hne : ¬ M = k) : yy_say sc t 2 39 K M k 0 3 x (xm_w (x.tdiv (M - k))) := yy_say_bo (n := 0) (B := 40) (h := 0) (b := 13) (p := -1) ht (by decide) (by decide) rfl (by decide) rfl rfl (by decide) (yy_bo13 hM hk hne)
set_option maxRecDepth 20000 in
theorem yy_pv {sc : List Int} {t : xm_W} {K M k fr x : Int} (ht : t.length < 900000) (hK : 0 ≤ K ∧ K ≤ 6) (hf : 0 ≤ fr ∧ fr ≤ 6) (hM : 0 ≤ M ∧ M ≤ 9) (hk : 0 ≤ k ∧ k ≤ 4) (hne : ¬ M = k) : yy_say sc t 16 32 K M k fr 3 x (sp_vp k K M fr x) := by
  rcases (show fr = 0 ∨ fr = 1 ∨ fr = 2 ∨ fr = 3 ∨ fr = 4 ∨ fr = 5 ∨ fr = 6 by omega) with q | q | q | q | q | q | q <;> subst q
  · rw [show sp_vp k K M 0 x = xm_w (x.tdiv (M - k)) by unfold sp_vp; rw [if_neg (by decide)]]
    exact yy_say_up (by decide) (by decide) (yy_say_bo (n := 0) (B := 40) (h := 0) (b := 13) (p := -1) ht (by decide) (by decide) rfl (by decide) rfl rfl (by decide) (yy_bo13 hM hk hne))
  · rw [show sp_vp k K M 1 x = xm_w (xm_w (x.tdiv (M - k)) + sp_vs k K M K 1) by unfold sp_vp; rw [if_pos (by decide)]]
    exact yy_say_up (by decide) (by decide) (yy_say_bo (n := 12) (B := 34) (h := 1) (b := 21) (p := 0) ht (by decide) (by decide) rfl (by decide) rfl rfl (by decide) (yy_bo21 (yy_say_up (by decide) (by decide) (yy_p0 ht hM hk hne)) (yy_sv ht hK hK)))
  · rw [show sp_vp k K M 2 x = xm_w (x.tdiv (M - k)) by unfold sp_vp; rw [if_neg (by decide)]]
    exact yy_say_up (by decide) (by decide) (yy_say_bo (n := 0) (B := 40) (h := 0) (b := 13) (p := -1) ht (by decide) (by decide) rfl (by decide) rfl rfl (by decide) (yy_bo13 hM hk hne))
  · rw [show sp_vp k K M 3 x = xm_w (x.tdiv (M - k)) by unfold sp_vp; rw [if_neg (by decide)]]
    exact yy_say_up (by decide) (by decide) (yy_say_bo (n := 0) (B := 40) (h := 0) (b := 13) (p := -1) ht (by decide) (by decide) rfl (by decide) rfl rfl (by decide) (yy_bo13 hM hk hne))
  · rw [show sp_vp k K M 4 x = xm_w (xm_w (x.tdiv (M - k)) + sp_vs k K M K 1) by unfold sp_vp; rw [if_pos (by decide)]]
    exact yy_say_up (by decide) (by decide) (yy_say_bo (n := 12) (B := 34) (h := 1) (b := 21) (p := 0) ht (by decide) (by decide) rfl (by decide) rfl rfl (by decide) (yy_bo21 (yy_say_up (by decide) (by decide) (yy_p0 ht hM hk hne)) (yy_sv ht hK hK)))
  · rw [show sp_vp k K M 5 x = xm_w (x.tdiv (M - k)) by unfold sp_vp; rw [if_neg (by decide)]]
    exact yy_say_up (by decide) (by decide) (yy_say_bo (n := 0) (B := 40) (h := 0) (b := 13) (p := -1) ht (by decide) (by decide) rfl (by decide) rfl rfl (by decide) (yy_bo13 hM hk hne))
  · rw [show sp_vp k K M 6 x = xm_w (x.tdiv (M - k)) by unfold sp_vp; rw [if_neg (by decide)]]
    exact yy_say_up (by decide) (by decide) (yy_say_bo (n := 0) (B := 40) (h := 0) (b := 13) (p := -1) ht (by decide) (by decide) rfl (by decide) rfl rfl (by decide) (yy_bo13 hM hk hne))
