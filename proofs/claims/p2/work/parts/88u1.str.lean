/-! NAMES of the texts: String.indexOf -/
set_option maxRecDepth 20000 in
theorem zo_get {sc : List Int} {t : xm_W} {m : Nat → Nat → Int} (k : Nat) (ht : t.length < 900000) : xm_get (xm_old sc) (yy_W m t) (1000000 + k) = (xm_old sc)[k]? := xo_get (by rw [yy_W_len]; omega)
set_option maxRecDepth 20000 in
theorem c_1504 {sc : List Int} {d : Nat} {t : xm_W} {m : Nat → Nat → Int} {x : Int} (h : 0 ≤ x ∧ x ≤ 255) : xm_X (xm_old sc) xm_mt (d + 1) 1504 [.inl (x)] (yy_W (m) t) = some (some (.inl (1)), (yy_W (m) t)) := by
  refine xm_X_of (M := xm_m1504) rfl ⟨xm_EQ.eq (xb_1504_0 ?_), rfl, rfl, Nat.le_of_ble_eq_true rfl, xw_hd0⟩
  rw [if_neg (by omega), if_neg (by omega)]
set_option maxRecDepth 20000 in
theorem oc_1504 {F : Int → xm_W → Prop} {sc : List Int} {d : Nat} {t : xm_W} {m : Nat → Nat → Int} {x : Int} (h : 0 ≤ x ∧ x ≤ 255) : xm_Oi (xm_X (xm_old sc) xm_mt (d + 1) 1504 [.inl (x)] (yy_W (m) t)) F = F (1) (yy_W (m) t) := congrArg (fun x => xm_Oi x F) (c_1504 h)
def tp_ix0 (z : Int) : Int := if z = 119 then 0 else if z = 115 then 1 else if z = 109 then 2 else if z = 103 then 3 else -1
section
variable {sc : List Int} {t : xm_W} {m : Nat → Nat → Int}
set_option maxRecDepth 20000 in
theorem zo_fr0 {F : Nat → Prop} (ht : t.length < 900000) : xm_O (xm_fr (xm_old sc) (yy_W m t) 1000003 98 0) F = F 1000006 := by
  have h := zo_get (sc := sc) (m := m) 3 ht
  unfold xm_fr xm_fld
  rw [show (1000003 : Nat) = 1000000 + 3 from rfl, h]; rfl
set_option maxRecDepth 20000 in
theorem zo_fi0 {F : Int → Prop} (ht : t.length < 900000) : xm_O (xm_fi (xm_old sc) (yy_W m t) 1000003 98 1) F = F 0 := by
  have h := zo_get (sc := sc) (m := m) 3 ht
  unfold xm_fi xm_fld
  rw [show (1000003 : Nat) = 1000000 + 3 from rfl, h]; rfl
set_option maxRecDepth 20000 in
theorem zo_len0 {F : Nat → Prop} (ht : t.length < 900000) : xm_O (xm_len (xm_old sc) (yy_W m t) 1000006) F = F 4 := by
  have h := zo_get (sc := sc) (m := m) 6 ht
  unfold xm_len
  rw [show (1000006 : Nat) = 1000000 + 6 from rfl, h]; rfl
set_option maxRecDepth 20000 in
theorem zo_b0_0 {F : Int → Prop} (ht : t.length < 900000) : xm_O (xm_byt (xm_old sc) (yy_W m t) 1000006 0) F = F 119 := by
  have h := zo_get (sc := sc) (m := m) 6 ht
  unfold xm_byt
  rw [show (1000006 : Nat) = 1000000 + 6 from rfl, h]; rfl
set_option maxRecDepth 20000 in
theorem zo_b0_1 {F : Int → Prop} (ht : t.length < 900000) : xm_O (xm_byt (xm_old sc) (yy_W m t) 1000006 1) F = F 115 := by
  have h := zo_get (sc := sc) (m := m) 6 ht
  unfold xm_byt
  rw [show (1000006 : Nat) = 1000000 + 6 from rfl, h]; rfl
set_option maxRecDepth 20000 in
theorem zo_b0_2 {F : Int → Prop} (ht : t.length < 900000) : xm_O (xm_byt (xm_old sc) (yy_W m t) 1000006 2) F = F 109 := by
  have h := zo_get (sc := sc) (m := m) 6 ht
  unfold xm_byt
  rw [show (1000006 : Nat) = 1000000 + 6 from rfl, h]; rfl
set_option maxRecDepth 20000 in
theorem zo_b0_3 {F : Int → Prop} (ht : t.length < 900000) : xm_O (xm_byt (xm_old sc) (yy_W m t) 1000006 3) F = F 103 := by
  have h := zo_get (sc := sc) (m := m) 6 ht
  unfold xm_byt
  rw [show (1000006 : Nat) = 1000000 + 6 from rfl, h]; rfl
set_option maxRecDepth 20000 in
theorem zo_hd0 {as : List xm_V} (ht : t.length < 900000) : xm_hd (xm_old sc) (yy_W m t) 99 (.inr (.inl (some 1000003)) :: as) := fun _ => ⟨1000003, rfl, fun _ => ⟨_, zo_get (sc := sc) (m := m) 3 ht⟩⟩
end
set_option maxRecDepth 20000 in
theorem c_1552_0 {sc : List Int} {d : Nat} {t : xm_W} {m : Nat → Nat → Int} (ht : t.length < 900000) : xm_X (xm_old sc) xm_mt (d + 1) 1552 [.inr (.inl (some 1000003))] (yy_W (m) t) = some (some (.inl (0)), (yy_W (m) t)) := by
  refine xm_X_of (M := xm_m1552) rfl ⟨xm_EQ.eq (xb_1552_0 ?_), rfl, rfl, Nat.le_of_ble_eq_true rfl, zo_hd0 ht⟩
  rw [if_neg (by decide), zo_fi0 ht]
set_option maxRecDepth 20000 in
theorem oc_1552_0 {F : Int → xm_W → Prop} {sc : List Int} {d : Nat} {t : xm_W} {m : Nat → Nat → Int} (ht : t.length < 900000) : xm_Oi (xm_X (xm_old sc) xm_mt (d + 1) 1552 [.inr (.inl (some 1000003))] (yy_W (m) t)) F = F (0) (yy_W (m) t) := congrArg (fun x => xm_Oi x F) (c_1552_0 ht)
set_option maxRecDepth 20000 in
theorem c_1554_0 {sc : List Int} {d : Nat} {t : xm_W} {m : Nat → Nat → Int} (ht : t.length < 900000) : xm_X (xm_old sc) xm_mt (d + 1) 1554 [.inr (.inl (some 1000003))] (yy_W (m) t) = some (some (.inl (1)), (yy_W (m) t)) := by
  refine xm_X_of (M := xm_m1554) rfl ⟨xm_EQ.eq (xb_1554_0 ?_), rfl, rfl, Nat.le_of_ble_eq_true rfl, zo_hd0 ht⟩
  rw [if_neg (by decide), zo_fi0 ht, if_pos rfl]
set_option maxRecDepth 20000 in
theorem oc_1554_0 {F : Int → xm_W → Prop} {sc : List Int} {d : Nat} {t : xm_W} {m : Nat → Nat → Int} (ht : t.length < 900000) : xm_Oi (xm_X (xm_old sc) xm_mt (d + 1) 1554 [.inr (.inl (some 1000003))] (yy_W (m) t)) F = F (1) (yy_W (m) t) := congrArg (fun x => xm_Oi x F) (c_1554_0 ht)
set_option maxRecDepth 20000 in
theorem c_1454_0 {sc : List Int} {d : Nat} {t : xm_W} {m : Nat → Nat → Int} (ht : t.length < 900000) : xm_X (xm_old sc) xm_mt (d + 2) 1454 [.inr (.inl (some 1000003))] (yy_W (m) t) = some (some (.inl (4)), (yy_W (m) t)) := by
  refine xm_X_of (M := xm_m1454) rfl ⟨xm_EQ.eq (xb_1454_0 ?_), rfl, rfl, Nat.le_of_ble_eq_true rfl, zo_hd0 ht⟩
  rw [zo_fr0 ht, zo_len0 ht, oc_1552_0 (d := d) ht]
  rfl
set_option maxRecDepth 20000 in
theorem oc_1454_0 {F : Int → xm_W → Prop} {sc : List Int} {d : Nat} {t : xm_W} {m : Nat → Nat → Int} (ht : t.length < 900000) : xm_Oi (xm_X (xm_old sc) xm_mt (d + 2) 1454 [.inr (.inl (some 1000003))] (yy_W (m) t)) F = F (4) (yy_W (m) t) := congrArg (fun x => xm_Oi x F) (c_1454_0 ht)
set_option maxRecDepth 20000 in
theorem c_1523_0 {sc : List Int} {d : Nat} {t : xm_W} {m : Nat → Nat → Int} {z : Int} (ht : t.length < 900000) (hz : 0 ≤ z ∧ z ≤ 255) : xm_X (xm_old sc) xm_mt (d + 1) 1523 [.inr (.inl (some 1000006)), .inl (z), .inl (0), .inl (4)] (yy_W (m) t) = some (some (.inl (tp_ix0 z)), (yy_W (m) t)) := by
  refine xm_X_of (M := xm_m1523) rfl ⟨xm_EQ.eq (xb_1523_0 ?_), rfl, rfl, Nat.le_of_ble_eq_true rfl, xw_hd0⟩
  rcases (show z = 119 ∨ z = 115 ∨ z = 109 ∨ z = 103 ∨ (z ≠ 119 ∧ z ≠ 115 ∧ z ≠ 109 ∧ z ≠ 103) by omega) with h | h | h | h | h
  · subst h
    refine xb_1523_5 ?_
    rw [if_pos (by decide), zo_b0_0 ht, if_pos (by decide)]
    rfl
  · subst h
    refine xb_1523_5 ?_
    rw [if_pos (by decide), zo_b0_0 ht, if_neg (by decide)]
    rw [show xm_w ((0 : Int) + 1) = 1 by decide]
    refine xb_1523_5 ?_
    rw [if_pos (by decide), zo_b0_1 ht, if_pos (by decide)]
    rfl
  · subst h
    refine xb_1523_5 ?_
    rw [if_pos (by decide), zo_b0_0 ht, if_neg (by decide)]
    rw [show xm_w ((0 : Int) + 1) = 1 by decide]
    refine xb_1523_5 ?_
    rw [if_pos (by decide), zo_b0_1 ht, if_neg (by decide)]
    rw [show xm_w ((1 : Int) + 1) = 2 by decide]
    refine xb_1523_5 ?_
    rw [if_pos (by decide), zo_b0_2 ht, if_pos (by decide)]
    rfl
  · subst h
    refine xb_1523_5 ?_
    rw [if_pos (by decide), zo_b0_0 ht, if_neg (by decide)]
    rw [show xm_w ((0 : Int) + 1) = 1 by decide]
    refine xb_1523_5 ?_
    rw [if_pos (by decide), zo_b0_1 ht, if_neg (by decide)]
    rw [show xm_w ((1 : Int) + 1) = 2 by decide]
    refine xb_1523_5 ?_
    rw [if_pos (by decide), zo_b0_2 ht, if_neg (by decide)]
    rw [show xm_w ((2 : Int) + 1) = 3 by decide]
    refine xb_1523_5 ?_
    rw [if_pos (by decide), zo_b0_3 ht, if_pos (by decide)]
    rfl
  · have hb : ¬ ((119 : Int) = xm_b z) ∧ ¬ ((115 : Int) = xm_b z) ∧ ¬ ((109 : Int) = xm_b z) ∧ ¬ ((103 : Int) = xm_b z) := by unfold xm_b; omega
    have e : tp_ix0 z = -1 := by unfold tp_ix0; rw [if_neg h.1, if_neg h.2.1, if_neg h.2.2.1, if_neg h.2.2.2]
    refine xb_1523_5 ?_
    rw [if_pos (by decide), zo_b0_0 ht, if_neg hb.1]
    rw [show xm_w ((0 : Int) + 1) = 1 by decide]
    refine xb_1523_5 ?_
    rw [if_pos (by decide), zo_b0_1 ht, if_neg hb.2.1]
    rw [show xm_w ((1 : Int) + 1) = 2 by decide]
    refine xb_1523_5 ?_
    rw [if_pos (by decide), zo_b0_2 ht, if_neg hb.2.2.1]
    rw [show xm_w ((2 : Int) + 1) = 3 by decide]
    refine xb_1523_5 ?_
    rw [if_pos (by decide), zo_b0_3 ht, if_neg hb.2.2.2]
    rw [show xm_w ((3 : Int) + 1) = 4 by decide]
    refine xb_1523_5 ?_
    rw [if_neg (by decide), e]
set_option maxRecDepth 20000 in
theorem oc_1523_0 {F : Int → xm_W → Prop} {sc : List Int} {d : Nat} {t : xm_W} {m : Nat → Nat → Int} {z : Int} (ht : t.length < 900000) (hz : 0 ≤ z ∧ z ≤ 255) : xm_Oi (xm_X (xm_old sc) xm_mt (d + 1) 1523 [.inr (.inl (some 1000006)), .inl (z), .inl (0), .inl (4)] (yy_W (m) t)) F = F (tp_ix0 z) (yy_W (m) t) := congrArg (fun x => xm_Oi x F) (c_1523_0 ht hz)
set_option maxRecDepth 20000 in
theorem c_1522_0 {sc : List Int} {d : Nat} {t : xm_W} {m : Nat → Nat → Int} {z : Int} (ht : t.length < 900000) (hz : 0 ≤ z ∧ z ≤ 255) : xm_X (xm_old sc) xm_mt (d + 2) 1522 [.inr (.inl (some 1000006)), .inl (z), .inl (0), .inl (4)] (yy_W (m) t) = some (some (.inl (tp_ix0 z)), (yy_W (m) t)) := by
  refine xm_X_of (M := xm_m1522) rfl ⟨xm_EQ.eq (xb_1522_0 ?_), rfl, rfl, Nat.le_of_ble_eq_true rfl, xw_hd0⟩
  rw [oc_1504 (d := d) hz, if_neg (by decide), zo_len0 ht]
  show (if (0 : Int) < 4 then _ else _)
  rw [if_pos (by decide)]
  exact (show xm_Oi (xm_X (xm_old sc) xm_mt (d + 1) 1523 [.inr (.inl (some 1000006)), .inl (z), .inl (0), .inl (4)] (yy_W (m) t)) _ by rw [oc_1523_0 (d := d) ht hz])
set_option maxRecDepth 20000 in
theorem oc_1522_0 {F : Int → xm_W → Prop} {sc : List Int} {d : Nat} {t : xm_W} {m : Nat → Nat → Int} {z : Int} (ht : t.length < 900000) (hz : 0 ≤ z ∧ z ≤ 255) : xm_Oi (xm_X (xm_old sc) xm_mt (d + 2) 1522 [.inr (.inl (some 1000006)), .inl (z), .inl (0), .inl (4)] (yy_W (m) t)) F = F (tp_ix0 z) (yy_W (m) t) := congrArg (fun x => xm_Oi x F) (c_1522_0 ht hz)
set_option maxRecDepth 20000 in
theorem c_1480_0 {sc : List Int} {d : Nat} {t : xm_W} {m : Nat → Nat → Int} {z : Int} (ht : t.length < 900000) (hz : 0 ≤ z ∧ z ≤ 255) : xm_X (xm_old sc) xm_mt (d + 3) 1480 [.inr (.inl (some 1000003)), .inl (z), .inl (0)] (yy_W (m) t) = some (some (.inl (tp_ix0 z)), (yy_W (m) t)) := by
  refine xm_X_of (M := xm_m1480) rfl ⟨xm_EQ.eq (xb_1480_0 ?_), rfl, rfl, Nat.le_of_ble_eq_true rfl, zo_hd0 ht⟩
  rw [oc_1554_0 (d := d + 1) ht, if_neg (by decide), zo_fr0 ht, oc_1454_0 (d := d) ht, oc_1522_0 (d := d) ht hz]
set_option maxRecDepth 20000 in
theorem oc_1480_0 {F : Int → xm_W → Prop} {sc : List Int} {d : Nat} {t : xm_W} {m : Nat → Nat → Int} {z : Int} (ht : t.length < 900000) (hz : 0 ≤ z ∧ z ≤ 255) : xm_Oi (xm_X (xm_old sc) xm_mt (d + 3) 1480 [.inr (.inl (some 1000003)), .inl (z), .inl (0)] (yy_W (m) t)) F = F (tp_ix0 z) (yy_W (m) t) := congrArg (fun x => xm_Oi x F) (c_1480_0 ht hz)
set_option maxRecDepth 20000 in
theorem c_1479_0 {sc : List Int} {d : Nat} {t : xm_W} {m : Nat → Nat → Int} {z : Int} (ht : t.length < 900000) (hz : 0 ≤ z ∧ z ≤ 255) : xm_X (xm_old sc) xm_mt (d + 4) 1479 [.inr (.inl (some 1000003)), .inl (z)] (yy_W (m) t) = some (some (.inl (tp_ix0 z)), (yy_W (m) t)) := by
  refine xm_X_of (M := xm_m1479) rfl ⟨xm_EQ.eq (xb_1479_0 ?_), rfl, rfl, Nat.le_of_ble_eq_true rfl, zo_hd0 ht⟩
  rw [oc_1480_0 (d := d) ht hz]
set_option maxRecDepth 20000 in
theorem oc_1479_0 {F : Int → xm_W → Prop} {sc : List Int} {d : Nat} {t : xm_W} {m : Nat → Nat → Int} {z : Int} (ht : t.length < 900000) (hz : 0 ≤ z ∧ z ≤ 255) : xm_Oi (xm_X (xm_old sc) xm_mt (d + 4) 1479 [.inr (.inl (some 1000003)), .inl (z)] (yy_W (m) t)) F = F (tp_ix0 z) (yy_W (m) t) := congrArg (fun x => xm_Oi x F) (c_1479_0 ht hz)
def tp_ix1 (z : Int) : Int := if z = 110 then 0 else if z = 100 then 1 else if z = 97 then 2 else -1
section
variable {sc : List Int} {t : xm_W} {m : Nat → Nat → Int}
set_option maxRecDepth 20000 in
theorem zo_fr1 {F : Nat → Prop} (ht : t.length < 900000) : xm_O (xm_fr (xm_old sc) (yy_W m t) 1000004 98 0) F = F 1000007 := by
  have h := zo_get (sc := sc) (m := m) 4 ht
  unfold xm_fr xm_fld
  rw [show (1000004 : Nat) = 1000000 + 4 from rfl, h]; rfl
set_option maxRecDepth 20000 in
theorem zo_fi1 {F : Int → Prop} (ht : t.length < 900000) : xm_O (xm_fi (xm_old sc) (yy_W m t) 1000004 98 1) F = F 0 := by
  have h := zo_get (sc := sc) (m := m) 4 ht
  unfold xm_fi xm_fld
  rw [show (1000004 : Nat) = 1000000 + 4 from rfl, h]; rfl
set_option maxRecDepth 20000 in
theorem zo_len1 {F : Nat → Prop} (ht : t.length < 900000) : xm_O (xm_len (xm_old sc) (yy_W m t) 1000007) F = F 3 := by
  have h := zo_get (sc := sc) (m := m) 7 ht
  unfold xm_len
  rw [show (1000007 : Nat) = 1000000 + 7 from rfl, h]; rfl
set_option maxRecDepth 20000 in
theorem zo_b1_0 {F : Int → Prop} (ht : t.length < 900000) : xm_O (xm_byt (xm_old sc) (yy_W m t) 1000007 0) F = F 110 := by
  have h := zo_get (sc := sc) (m := m) 7 ht
  unfold xm_byt
  rw [show (1000007 : Nat) = 1000000 + 7 from rfl, h]; rfl
set_option maxRecDepth 20000 in
theorem zo_b1_1 {F : Int → Prop} (ht : t.length < 900000) : xm_O (xm_byt (xm_old sc) (yy_W m t) 1000007 1) F = F 100 := by
  have h := zo_get (sc := sc) (m := m) 7 ht
  unfold xm_byt
  rw [show (1000007 : Nat) = 1000000 + 7 from rfl, h]; rfl
set_option maxRecDepth 20000 in
theorem zo_b1_2 {F : Int → Prop} (ht : t.length < 900000) : xm_O (xm_byt (xm_old sc) (yy_W m t) 1000007 2) F = F 97 := by
  have h := zo_get (sc := sc) (m := m) 7 ht
  unfold xm_byt
  rw [show (1000007 : Nat) = 1000000 + 7 from rfl, h]; rfl
set_option maxRecDepth 20000 in
theorem zo_hd1 {as : List xm_V} (ht : t.length < 900000) : xm_hd (xm_old sc) (yy_W m t) 99 (.inr (.inl (some 1000004)) :: as) := fun _ => ⟨1000004, rfl, fun _ => ⟨_, zo_get (sc := sc) (m := m) 4 ht⟩⟩
end
set_option maxRecDepth 20000 in
theorem c_1552_1 {sc : List Int} {d : Nat} {t : xm_W} {m : Nat → Nat → Int} (ht : t.length < 900000) : xm_X (xm_old sc) xm_mt (d + 1) 1552 [.inr (.inl (some 1000004))] (yy_W (m) t) = some (some (.inl (0)), (yy_W (m) t)) := by
  refine xm_X_of (M := xm_m1552) rfl ⟨xm_EQ.eq (xb_1552_0 ?_), rfl, rfl, Nat.le_of_ble_eq_true rfl, zo_hd1 ht⟩
  rw [if_neg (by decide), zo_fi1 ht]
set_option maxRecDepth 20000 in
theorem oc_1552_1 {F : Int → xm_W → Prop} {sc : List Int} {d : Nat} {t : xm_W} {m : Nat → Nat → Int} (ht : t.length < 900000) : xm_Oi (xm_X (xm_old sc) xm_mt (d + 1) 1552 [.inr (.inl (some 1000004))] (yy_W (m) t)) F = F (0) (yy_W (m) t) := congrArg (fun x => xm_Oi x F) (c_1552_1 ht)
set_option maxRecDepth 20000 in
theorem c_1554_1 {sc : List Int} {d : Nat} {t : xm_W} {m : Nat → Nat → Int} (ht : t.length < 900000) : xm_X (xm_old sc) xm_mt (d + 1) 1554 [.inr (.inl (some 1000004))] (yy_W (m) t) = some (some (.inl (1)), (yy_W (m) t)) := by
  refine xm_X_of (M := xm_m1554) rfl ⟨xm_EQ.eq (xb_1554_0 ?_), rfl, rfl, Nat.le_of_ble_eq_true rfl, zo_hd1 ht⟩
  rw [if_neg (by decide), zo_fi1 ht, if_pos rfl]
set_option maxRecDepth 20000 in
theorem oc_1554_1 {F : Int → xm_W → Prop} {sc : List Int} {d : Nat} {t : xm_W} {m : Nat → Nat → Int} (ht : t.length < 900000) : xm_Oi (xm_X (xm_old sc) xm_mt (d + 1) 1554 [.inr (.inl (some 1000004))] (yy_W (m) t)) F = F (1) (yy_W (m) t) := congrArg (fun x => xm_Oi x F) (c_1554_1 ht)
set_option maxRecDepth 20000 in
theorem c_1454_1 {sc : List Int} {d : Nat} {t : xm_W} {m : Nat → Nat → Int} (ht : t.length < 900000) : xm_X (xm_old sc) xm_mt (d + 2) 1454 [.inr (.inl (some 1000004))] (yy_W (m) t) = some (some (.inl (3)), (yy_W (m) t)) := by
  refine xm_X_of (M := xm_m1454) rfl ⟨xm_EQ.eq (xb_1454_0 ?_), rfl, rfl, Nat.le_of_ble_eq_true rfl, zo_hd1 ht⟩
  rw [zo_fr1 ht, zo_len1 ht, oc_1552_1 (d := d) ht]
  rfl
set_option maxRecDepth 20000 in
theorem oc_1454_1 {F : Int → xm_W → Prop} {sc : List Int} {d : Nat} {t : xm_W} {m : Nat → Nat → Int} (ht : t.length < 900000) : xm_Oi (xm_X (xm_old sc) xm_mt (d + 2) 1454 [.inr (.inl (some 1000004))] (yy_W (m) t)) F = F (3) (yy_W (m) t) := congrArg (fun x => xm_Oi x F) (c_1454_1 ht)
set_option maxRecDepth 20000 in
theorem c_1523_1 {sc : List Int} {d : Nat} {t : xm_W} {m : Nat → Nat → Int} {z : Int} (ht : t.length < 900000) (hz : 0 ≤ z ∧ z ≤ 255) : xm_X (xm_old sc) xm_mt (d + 1) 1523 [.inr (.inl (some 1000007)), .inl (z), .inl (0), .inl (3)] (yy_W (m) t) = some (some (.inl (tp_ix1 z)), (yy_W (m) t)) := by
  refine xm_X_of (M := xm_m1523) rfl ⟨xm_EQ.eq (xb_1523_0 ?_), rfl, rfl, Nat.le_of_ble_eq_true rfl, xw_hd0⟩
  rcases (show z = 110 ∨ z = 100 ∨ z = 97 ∨ (z ≠ 110 ∧ z ≠ 100 ∧ z ≠ 97) by omega) with h | h | h | h
  · subst h
    refine xb_1523_5 ?_
    rw [if_pos (by decide), zo_b1_0 ht, if_pos (by decide)]
    rfl
  · subst h
    refine xb_1523_5 ?_
    rw [if_pos (by decide), zo_b1_0 ht, if_neg (by decide)]
    rw [show xm_w ((0 : Int) + 1) = 1 by decide]
    refine xb_1523_5 ?_
    rw [if_pos (by decide), zo_b1_1 ht, if_pos (by decide)]
    rfl
  · subst h
    refine xb_1523_5 ?_
    rw [if_pos (by decide), zo_b1_0 ht, if_neg (by decide)]
    rw [show xm_w ((0 : Int) + 1) = 1 by decide]
    refine xb_1523_5 ?_
    rw [if_pos (by decide), zo_b1_1 ht, if_neg (by decide)]
    rw [show xm_w ((1 : Int) + 1) = 2 by decide]
    refine xb_1523_5 ?_
    rw [if_pos (by decide), zo_b1_2 ht, if_pos (by decide)]
    rfl
  · have hb : ¬ ((110 : Int) = xm_b z) ∧ ¬ ((100 : Int) = xm_b z) ∧ ¬ ((97 : Int) = xm_b z) := by unfold xm_b; omega
    have e : tp_ix1 z = -1 := by unfold tp_ix1; rw [if_neg h.1, if_neg h.2.1, if_neg h.2.2]
    refine xb_1523_5 ?_
    rw [if_pos (by decide), zo_b1_0 ht, if_neg hb.1]
    rw [show xm_w ((0 : Int) + 1) = 1 by decide]
    refine xb_1523_5 ?_
    rw [if_pos (by decide), zo_b1_1 ht, if_neg hb.2.1]
    rw [show xm_w ((1 : Int) + 1) = 2 by decide]
    refine xb_1523_5 ?_
    rw [if_pos (by decide), zo_b1_2 ht, if_neg hb.2.2]
    rw [show xm_w ((2 : Int) + 1) = 3 by decide]
    refine xb_1523_5 ?_
    rw [if_neg (by decide), e]
set_option maxRecDepth 20000 in
theorem oc_1523_1 {F : Int → xm_W → Prop} {sc : List Int} {d : Nat} {t : xm_W} {m : Nat → Nat → Int} {z : Int} (ht : t.length < 900000) (hz : 0 ≤ z ∧ z ≤ 255) : xm_Oi (xm_X (xm_old sc) xm_mt (d + 1) 1523 [.inr (.inl (some 1000007)), .inl (z), .inl (0), .inl (3)] (yy_W (m) t)) F = F (tp_ix1 z) (yy_W (m) t) := congrArg (fun x => xm_Oi x F) (c_1523_1 ht hz)
set_option maxRecDepth 20000 in
theorem c_1522_1 {sc : List Int} {d : Nat} {t : xm_W} {m : Nat → Nat → Int} {z : Int} (ht : t.length < 900000) (hz : 0 ≤ z ∧ z ≤ 255) : xm_X (xm_old sc) xm_mt (d + 2) 1522 [.inr (.inl (some 1000007)), .inl (z), .inl (0), .inl (3)] (yy_W (m) t) = some (some (.inl (tp_ix1 z)), (yy_W (m) t)) := by
  refine xm_X_of (M := xm_m1522) rfl ⟨xm_EQ.eq (xb_1522_0 ?_), rfl, rfl, Nat.le_of_ble_eq_true rfl, xw_hd0⟩
  rw [oc_1504 (d := d) hz, if_neg (by decide), zo_len1 ht]
  show (if (0 : Int) < 3 then _ else _)
  rw [if_pos (by decide)]
  exact (show xm_Oi (xm_X (xm_old sc) xm_mt (d + 1) 1523 [.inr (.inl (some 1000007)), .inl (z), .inl (0), .inl (3)] (yy_W (m) t)) _ by rw [oc_1523_1 (d := d) ht hz])
set_option maxRecDepth 20000 in
theorem oc_1522_1 {F : Int → xm_W → Prop} {sc : List Int} {d : Nat} {t : xm_W} {m : Nat → Nat → Int} {z : Int} (ht : t.length < 900000) (hz : 0 ≤ z ∧ z ≤ 255) : xm_Oi (xm_X (xm_old sc) xm_mt (d + 2) 1522 [.inr (.inl (some 1000007)), .inl (z), .inl (0), .inl (3)] (yy_W (m) t)) F = F (tp_ix1 z) (yy_W (m) t) := congrArg (fun x => xm_Oi x F) (c_1522_1 ht hz)
set_option maxRecDepth 20000 in
theorem c_1480_1 {sc : List Int} {d : Nat} {t : xm_W} {m : Nat → Nat → Int} {z : Int} (ht : t.length < 900000) (hz : 0 ≤ z ∧ z ≤ 255) : xm_X (xm_old sc) xm_mt (d + 3) 1480 [.inr (.inl (some 1000004)), .inl (z), .inl (0)] (yy_W (m) t) = some (some (.inl (tp_ix1 z)), (yy_W (m) t)) := by
  refine xm_X_of (M := xm_m1480) rfl ⟨xm_EQ.eq (xb_1480_0 ?_), rfl, rfl, Nat.le_of_ble_eq_true rfl, zo_hd1 ht⟩
  rw [oc_1554_1 (d := d + 1) ht, if_neg (by decide), zo_fr1 ht, oc_1454_1 (d := d) ht, oc_1522_1 (d := d) ht hz]
set_option maxRecDepth 20000 in
theorem oc_1480_1 {F : Int → xm_W → Prop} {sc : List Int} {d : Nat} {t : xm_W} {m : Nat → Nat → Int} {z : Int} (ht : t.length < 900000) (hz : 0 ≤ z ∧ z ≤ 255) : xm_Oi (xm_X (xm_old sc) xm_mt (d + 3) 1480 [.inr (.inl (some 1000004)), .inl (z), .inl (0)] (yy_W (m) t)) F = F (tp_ix1 z) (yy_W (m) t) := congrArg (fun x => xm_Oi x F) (c_1480_1 ht hz)
set_option maxRecDepth 20000 in
theorem c_1479_1 {sc : List Int} {d : Nat} {t : xm_W} {m : Nat → Nat → Int} {z : Int} (ht : t.length < 900000) (hz : 0 ≤ z ∧ z ≤ 255) : xm_X (xm_old sc) xm_mt (d + 4) 1479 [.inr (.inl (some 1000004)), .inl (z)] (yy_W (m) t) = some (some (.inl (tp_ix1 z)), (yy_W (m) t)) := by
  refine xm_X_of (M := xm_m1479) rfl ⟨xm_EQ.eq (xb_1479_0 ?_), rfl, rfl, Nat.le_of_ble_eq_true rfl, zo_hd1 ht⟩
  rw [oc_1480_1 (d := d) ht hz]
set_option maxRecDepth 20000 in
theorem oc_1479_1 {F : Int → xm_W → Prop} {sc : List Int} {d : Nat} {t : xm_W} {m : Nat → Nat → Int} {z : Int} (ht : t.length < 900000) (hz : 0 ≤ z ∧ z ≤ 255) : xm_Oi (xm_X (xm_old sc) xm_mt (d + 4) 1479 [.inr (.inl (some 1000004)), .inl (z)] (yy_W (m) t)) F = F (tp_ix1 z) (yy_W (m) t) := congrArg (fun x => xm_Oi x F) (c_1479_1 ht hz)
