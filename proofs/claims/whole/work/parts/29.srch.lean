abbrev TSt : Type := (Int → Int) × (Int → Int) × (Int → Int) × (Int → Int) × Int × Int
/-- the tree: parents, verbs, codes, children, how many nodes -/
def TOk (pa vb cd cn : Int → Int) (nd : Int) : Prop := 1 ≤ nd ∧ nd ≤ 97 ∧ (∀ i, -1 ≤ cn i ∧ cn i < nd) ∧ (∀ i, 0 ≤ pa i ∧ pa i < 97) ∧ (∀ i, 0 ≤ vb i ∧ vb i < 3) ∧ ∀ i, 0 ≤ cd i ∧ cd i < 4
def chS (x v y : Int) (pa vb cd cn : Int → Int) (nd : Int) : TSt := if cn (x * 3 + v) ≠ -1 then (pa, vb, cd, cn, nd, cn (x * 3 + v)) else if nd < 97 then (upI pa nd x, upI vb nd v, upI cd nd y, upI cn (x * 3 + v) nd, nd + 1, nd) else (pa, vb, cd, cn, nd, 0)
def ptS (V N : Int → Int) (r p : Int) (S : TSt) : TSt := chS S.2.2.2.2.2 (V (r * 12 + p)) (N (r * 12 + p) / 10000) S.1 S.2.1 S.2.2.1 S.2.2.2.1 S.2.2.2.2.1
/-- behind place j the node has the row's code -/
def ptG (V N : Int → Int) (x : Int) (S0 : TSt) (j : Int) : Prop := (nP (ptS V N) x (j + 1).toNat S0).2.2.1 (nP (ptS V N) x (j + 1).toNat S0).2.2.2.2.2 = N (x * 12 + j) / 10000
def PlS (V N : Int → Int) (x l : Int) (pa vb cd cn : Int → Int) (nd r : Int) (pa1 vb1 cd1 cn1 : Int → Int) (nd1 : Int) : Prop :=
  (r = 1 ∧ ∃ nx, nP (ptS V N) x l.toNat (pa, vb, cd, cn, nd, 0) = (pa1, vb1, cd1, cn1, nd1, nx) ∧ ∀ j, 0 ≤ j ∧ j < l → ptG V N x (pa, vb, cd, cn, nd, 0) j) ∨
  (r = 0 ∧ ∃ j, (0 ≤ j ∧ j < l) ∧ ∃ nx, nP (ptS V N) x (j + 1).toNat (pa, vb, cd, cn, nd, 0) = (pa1, vb1, cd1, cn1, nd1, nx) ∧ ¬ ptG V N x (pa, vb, cd, cn, nd, 0) j)
theorem upI_bd {V : Int → Int} {i x lo hi : Int} (h : ∀ j, lo ≤ V j ∧ V j < hi) (hx : lo ≤ x ∧ x < hi) : ∀ j, lo ≤ upI V i x j ∧ upI V i x j < hi := by
  intro j
  have := h j
  unfold upI
  split <;> omega
theorem TOk.ch {x v y nd nd1 r : Int} {pa vb cd cn pa1 vb1 cd1 cn1 : Int → Int} (h : TOk pa vb cd cn nd) (hx : 0 ≤ x ∧ x < nd) (hv : 0 ≤ v ∧ v < 3) (hy : 0 ≤ y ∧ y < 4) (e : chS x v y pa vb cd cn nd = (pa1, vb1, cd1, cn1, nd1, r)) : TOk pa1 vb1 cd1 cn1 nd1 ∧ 0 ≤ r ∧ r < nd1 := by
  obtain ⟨h1, h2, h3, h4, h5, h6⟩ := h
  have h7 := h3 (x * 3 + v)
  unfold chS at e
  split at e
  · cases e
    exact ⟨⟨h1, h2, h3, h4, h5, h6⟩, by omega⟩
  · split at e
    · cases e
      exact ⟨⟨by omega, by omega, upI_bd (fun j => by have := h3 j; omega) (by omega), upI_bd h4 (by omega), upI_bd h5 hv, upI_bd h6 hy⟩, by omega⟩
    · cases e
      exact ⟨⟨h1, h2, h3, h4, h5, h6⟩, by omega⟩
theorem f_X2_init_11 : Cond.fieldLink RX2 11 (TX2 0).1 (TX2 0).2.1 (TX2 0).2.2.1 ∈ wsX2_init := by decide +kernel
theorem i_X2_init_X2 : ∀ w ∈ wsX20, w ∈ wsX2_init := by decide +kernel
theorem f_X2_init_15 : Cond.fieldLink RX2 15 (TX2 1).1 (TX2 1).2.1 (TX2 1).2.2.1 ∈ wsX2_init := by decide +kernel
theorem f_X2_init_18 : Cond.fieldLink RX2 18 (TX2 2).1 (TX2 2).2.1 (TX2 2).2.2.1 ∈ wsX2_init := by decide +kernel
theorem f_X2_init_21 : Cond.fieldLink RX2 21 (TX2 3).1 (TX2 3).2.1 (TX2 3).2.2.1 ∈ wsX2_init := by decide +kernel
theorem f_X2_init_24 : Cond.fieldLink RX2 24 (TX2 4).1 (TX2 4).2.1 (TX2 4).2.2.1 ∈ wsX2_init := by decide +kernel
theorem f_X2_init_27 : Cond.fieldLink RX2 27 (TX2 5).1 (TX2 5).2.1 (TX2 5).2.2.1 ∈ wsX2_init := by decide +kernel
theorem f_X2_init_30 : Cond.fieldLink RX2 30 (TX2 6).1 (TX2 6).2.1 (TX2 6).2.2.1 ∈ wsX2_init := by decide +kernel
theorem f_X2_init_33 : Cond.fieldLink RX2 33 (TX2 7).1 (TX2 7).2.1 (TX2 7).2.2.1 ∈ wsX2_init := by decide +kernel
theorem f_X2_init_36 : Cond.fieldLink RX2 36 (TX2 8).1 (TX2 8).2.1 (TX2 8).2.2.1 ∈ wsX2_init := by decide +kernel
theorem f_X2_init_39 : Cond.fieldLink RX2 39 (TX2 9).1 (TX2 9).2.1 (TX2 9).2.2.1 ∈ wsX2_init := by decide +kernel
theorem f_X2_init_42 : Cond.fieldLink RX2 42 (TX2 10).1 (TX2 10).2.1 (TX2 10).2.2.1 ∈ wsX2_init := by decide +kernel
theorem f_X2_init_45 : Cond.fieldLink RX2 45 (TX2 11).1 (TX2 11).2.1 (TX2 11).2.2.1 ∈ wsX2_init := by decide +kernel
theorem f_X2_init_48 : Cond.fieldLink RX2 48 (TX2 12).1 (TX2 12).2.1 (TX2 12).2.2.1 ∈ wsX2_init := by decide +kernel
theorem f_X2_init_51 : Cond.fieldLink RX2 51 (TX2 13).1 (TX2 13).2.1 (TX2 13).2.2.1 ∈ wsX2_init := by decide +kernel
set_option maxRecDepth 100000 in
set_option maxHeartbeats 4000000 in
theorem c_X2_init (E : qE) (q0 : Nat)  : Cn E yX2_init wsX2_init { frames := 1, cells := 14, slots := 2279, locals := 12 } [.ref q0] [(q0, .inr (2, [.null, .null, .null, .null, .null, .null, .null, .null, .null, .null, .null, .null, .null, .null, .int (iI 0), .int (iI 0), .int (iI 0)]))] (fun v9 w9 => ∃ (q1 : Nat) (q2 : Nat) (q3 : Nat) (q4 : Nat) (q5 : Nat) (q6 : Nat) (q7 : Nat) (q8 : Nat) (q9 : Nat) (q10 : Nat) (q11 : Nat) (q12 : Nat) (q13 : Nat) (q14 : Nat), v9 = none ∧ w9 = [(q0, .inr (2, [.ref q1, .ref q2, .ref q3, .ref q4, .ref q5, .ref q6, .ref q7, .ref q8, .ref q9, .ref q10, .ref q11, .ref q12, .ref q13, .ref q14, .int (iI 0), .int (iI 0), .int (iI 0)])), (q1, ia E 97 (fun _ => 0)), (q2, ia E 97 (fun _ => 0)), (q3, ia E 97 (fun _ => 0)), (q4, ia E 291 (fun _ => 0)), (q5, ia E 12 (fun _ => 0)), (q6, ia E 97 (fun _ => 0)), (q7, ia E 97 (fun _ => 0)), (q8, ia E 97 (fun _ => 0)), (q9, ia E 97 (fun _ => 0)), (q10, ia E 97 (fun _ => 0)), (q11, ia E 12 (fun _ => 0)), (q12, ia E 1164 (fun _ => 0)), (q13, ia E 12 (fun _ => 0)), (q14, ia E 12 (fun _ => 0))]) 14 2279 := by
  refine Cn.ofP (own := RX2) (cc := cX2_init) (maxL := 1) (ret := none) true [(0, .ref q0)] (by decide +kernel) rfl rfl (Nat.le_of_ble_eq_true rfl) rfl (fun _ => rfl) (fun v w h => by obtain ⟨q1, q2, q3, q4, q5, q6, q7, q8, q9, q10, q11, q12, q13, q14, rfl, h9⟩ := h; exact (rfl : (none : Option FieldType) = none)) ?_
  intro P G
  refine g_aload_n G 0 dX2_init_0 rfl ?_
  refine g_objInit G dX2_init_1 (by decide +kernel) (by decide +kernel) (by decide +kernel) (Nat.le_of_ble_eq_true rfl) (Nat.le_of_ble_eq_true rfl) ?_
  refine g_aload_n G 0 dX2_init_4 rfl ?_
  refine g_bipush G dX2_init_5 (by decide +kernel) ?_
  refine g_newi G 97 dX2_init_7 (by decide +kernel) rfl (by decide) (Nat.le_of_ble_eq_true rfl) (Nat.le_of_ble_eq_true rfl) (fun p1 => ?_)
  refine g_to 1 97 [(q0, .inr (2, [.null, .null, .null, .null, .null, .null, .null, .null, .null, .null, .null, .null, .null, .null, .int (iI 0), .int (iI 0), .int (iI 0)])), (p1, ia E 97 (fun _ => 0))] _ [.ref p1, .ref q0] rfl rfl rfl rfl rfl ?_
  refine g_putF G 0 0 [(q0, .inr (2, [.ref p1, .null, .null, .null, .null, .null, .null, .null, .null, .null, .null, .null, .null, .null, .int (iI 0), .int (iI 0), .int (iI 0)])), (p1, ia E 97 (fun _ => 0))] dX2_init_9 i_X2_init_X2 f_X2_init_11 tyX2_ok nmX2 rfl rfl (by decide) rfl rfl rfl rfl rfl (Nat.le_of_ble_eq_true rfl) rfl ?_
  refine g_aload_n G 0 dX2_init_12 rfl ?_
  refine g_bipush G dX2_init_13 (by decide +kernel) ?_
  refine g_newi G 97 dX2_init_15 (by decide +kernel) rfl (by decide) (Nat.le_of_ble_eq_true rfl) (Nat.le_of_ble_eq_true rfl) (fun p2 => ?_)
  refine g_to 2 194 [(q0, .inr (2, [.ref p1, .null, .null, .null, .null, .null, .null, .null, .null, .null, .null, .null, .null, .null, .int (iI 0), .int (iI 0), .int (iI 0)])), (p1, ia E 97 (fun _ => 0)), (p2, ia E 97 (fun _ => 0))] _ [.ref p2, .ref q0] rfl rfl rfl rfl rfl ?_
  refine g_putF G 0 1 [(q0, .inr (2, [.ref p1, .ref p2, .null, .null, .null, .null, .null, .null, .null, .null, .null, .null, .null, .null, .int (iI 0), .int (iI 0), .int (iI 0)])), (p1, ia E 97 (fun _ => 0)), (p2, ia E 97 (fun _ => 0))] dX2_init_17 i_X2_init_X2 f_X2_init_15 tyX2_ok nmX2 rfl rfl (by decide) rfl rfl rfl rfl rfl (Nat.le_of_ble_eq_true rfl) rfl ?_
  refine g_aload_n G 0 dX2_init_20 rfl ?_
  refine g_bipush G dX2_init_21 (by decide +kernel) ?_
  refine g_newi G 97 dX2_init_23 (by decide +kernel) rfl (by decide) (Nat.le_of_ble_eq_true rfl) (Nat.le_of_ble_eq_true rfl) (fun p3 => ?_)
  refine g_to 3 291 [(q0, .inr (2, [.ref p1, .ref p2, .null, .null, .null, .null, .null, .null, .null, .null, .null, .null, .null, .null, .int (iI 0), .int (iI 0), .int (iI 0)])), (p1, ia E 97 (fun _ => 0)), (p2, ia E 97 (fun _ => 0)), (p3, ia E 97 (fun _ => 0))] _ [.ref p3, .ref q0] rfl rfl rfl rfl rfl ?_
  refine g_putF G 0 2 [(q0, .inr (2, [.ref p1, .ref p2, .ref p3, .null, .null, .null, .null, .null, .null, .null, .null, .null, .null, .null, .int (iI 0), .int (iI 0), .int (iI 0)])), (p1, ia E 97 (fun _ => 0)), (p2, ia E 97 (fun _ => 0)), (p3, ia E 97 (fun _ => 0))] dX2_init_25 i_X2_init_X2 f_X2_init_18 tyX2_ok nmX2 rfl rfl (by decide) rfl rfl rfl rfl rfl (Nat.le_of_ble_eq_true rfl) rfl ?_
  refine g_aload_n G 0 dX2_init_28 rfl ?_
  refine g_sipush G dX2_init_29 (by decide +kernel) ?_
  refine g_newi G 291 dX2_init_32 (by decide +kernel) rfl (by decide) (Nat.le_of_ble_eq_true rfl) (Nat.le_of_ble_eq_true rfl) (fun p4 => ?_)
  refine g_to 4 582 [(q0, .inr (2, [.ref p1, .ref p2, .ref p3, .null, .null, .null, .null, .null, .null, .null, .null, .null, .null, .null, .int (iI 0), .int (iI 0), .int (iI 0)])), (p1, ia E 97 (fun _ => 0)), (p2, ia E 97 (fun _ => 0)), (p3, ia E 97 (fun _ => 0)), (p4, ia E 291 (fun _ => 0))] _ [.ref p4, .ref q0] rfl rfl rfl rfl rfl ?_
  refine g_putF G 0 3 [(q0, .inr (2, [.ref p1, .ref p2, .ref p3, .ref p4, .null, .null, .null, .null, .null, .null, .null, .null, .null, .null, .int (iI 0), .int (iI 0), .int (iI 0)])), (p1, ia E 97 (fun _ => 0)), (p2, ia E 97 (fun _ => 0)), (p3, ia E 97 (fun _ => 0)), (p4, ia E 291 (fun _ => 0))] dX2_init_34 i_X2_init_X2 f_X2_init_21 tyX2_ok nmX2 rfl rfl (by decide) rfl rfl rfl rfl rfl (Nat.le_of_ble_eq_true rfl) rfl ?_
  refine g_aload_n G 0 dX2_init_37 rfl ?_
  refine g_bipush G dX2_init_38 (by decide +kernel) ?_
  refine g_newi G 12 dX2_init_40 (by decide +kernel) rfl (by decide) (Nat.le_of_ble_eq_true rfl) (Nat.le_of_ble_eq_true rfl) (fun p5 => ?_)
  refine g_to 5 594 [(q0, .inr (2, [.ref p1, .ref p2, .ref p3, .ref p4, .null, .null, .null, .null, .null, .null, .null, .null, .null, .null, .int (iI 0), .int (iI 0), .int (iI 0)])), (p1, ia E 97 (fun _ => 0)), (p2, ia E 97 (fun _ => 0)), (p3, ia E 97 (fun _ => 0)), (p4, ia E 291 (fun _ => 0)), (p5, ia E 12 (fun _ => 0))] _ [.ref p5, .ref q0] rfl rfl rfl rfl rfl ?_
  refine g_putF G 0 4 [(q0, .inr (2, [.ref p1, .ref p2, .ref p3, .ref p4, .ref p5, .null, .null, .null, .null, .null, .null, .null, .null, .null, .int (iI 0), .int (iI 0), .int (iI 0)])), (p1, ia E 97 (fun _ => 0)), (p2, ia E 97 (fun _ => 0)), (p3, ia E 97 (fun _ => 0)), (p4, ia E 291 (fun _ => 0)), (p5, ia E 12 (fun _ => 0))] dX2_init_42 i_X2_init_X2 f_X2_init_24 tyX2_ok nmX2 rfl rfl (by decide) rfl rfl rfl rfl rfl (Nat.le_of_ble_eq_true rfl) rfl ?_
  refine g_aload_n G 0 dX2_init_45 rfl ?_
  refine g_bipush G dX2_init_46 (by decide +kernel) ?_
  refine g_newi G 97 dX2_init_48 (by decide +kernel) rfl (by decide) (Nat.le_of_ble_eq_true rfl) (Nat.le_of_ble_eq_true rfl) (fun p6 => ?_)
  refine g_to 6 691 [(q0, .inr (2, [.ref p1, .ref p2, .ref p3, .ref p4, .ref p5, .null, .null, .null, .null, .null, .null, .null, .null, .null, .int (iI 0), .int (iI 0), .int (iI 0)])), (p1, ia E 97 (fun _ => 0)), (p2, ia E 97 (fun _ => 0)), (p3, ia E 97 (fun _ => 0)), (p4, ia E 291 (fun _ => 0)), (p5, ia E 12 (fun _ => 0)), (p6, ia E 97 (fun _ => 0))] _ [.ref p6, .ref q0] rfl rfl rfl rfl rfl ?_
  refine g_putF G 0 5 [(q0, .inr (2, [.ref p1, .ref p2, .ref p3, .ref p4, .ref p5, .ref p6, .null, .null, .null, .null, .null, .null, .null, .null, .int (iI 0), .int (iI 0), .int (iI 0)])), (p1, ia E 97 (fun _ => 0)), (p2, ia E 97 (fun _ => 0)), (p3, ia E 97 (fun _ => 0)), (p4, ia E 291 (fun _ => 0)), (p5, ia E 12 (fun _ => 0)), (p6, ia E 97 (fun _ => 0))] dX2_init_50 i_X2_init_X2 f_X2_init_27 tyX2_ok nmX2 rfl rfl (by decide) rfl rfl rfl rfl rfl (Nat.le_of_ble_eq_true rfl) rfl ?_
  refine g_aload_n G 0 dX2_init_53 rfl ?_
  refine g_bipush G dX2_init_54 (by decide +kernel) ?_
  refine g_newi G 97 dX2_init_56 (by decide +kernel) rfl (by decide) (Nat.le_of_ble_eq_true rfl) (Nat.le_of_ble_eq_true rfl) (fun p7 => ?_)
  refine g_to 7 788 [(q0, .inr (2, [.ref p1, .ref p2, .ref p3, .ref p4, .ref p5, .ref p6, .null, .null, .null, .null, .null, .null, .null, .null, .int (iI 0), .int (iI 0), .int (iI 0)])), (p1, ia E 97 (fun _ => 0)), (p2, ia E 97 (fun _ => 0)), (p3, ia E 97 (fun _ => 0)), (p4, ia E 291 (fun _ => 0)), (p5, ia E 12 (fun _ => 0)), (p6, ia E 97 (fun _ => 0)), (p7, ia E 97 (fun _ => 0))] _ [.ref p7, .ref q0] rfl rfl rfl rfl rfl ?_
  refine g_putF G 0 6 [(q0, .inr (2, [.ref p1, .ref p2, .ref p3, .ref p4, .ref p5, .ref p6, .ref p7, .null, .null, .null, .null, .null, .null, .null, .int (iI 0), .int (iI 0), .int (iI 0)])), (p1, ia E 97 (fun _ => 0)), (p2, ia E 97 (fun _ => 0)), (p3, ia E 97 (fun _ => 0)), (p4, ia E 291 (fun _ => 0)), (p5, ia E 12 (fun _ => 0)), (p6, ia E 97 (fun _ => 0)), (p7, ia E 97 (fun _ => 0))] dX2_init_58 i_X2_init_X2 f_X2_init_30 tyX2_ok nmX2 rfl rfl (by decide) rfl rfl rfl rfl rfl (Nat.le_of_ble_eq_true rfl) rfl ?_
  refine g_aload_n G 0 dX2_init_61 rfl ?_
  refine g_bipush G dX2_init_62 (by decide +kernel) ?_
  refine g_newi G 97 dX2_init_64 (by decide +kernel) rfl (by decide) (Nat.le_of_ble_eq_true rfl) (Nat.le_of_ble_eq_true rfl) (fun p8 => ?_)
  refine g_to 8 885 [(q0, .inr (2, [.ref p1, .ref p2, .ref p3, .ref p4, .ref p5, .ref p6, .ref p7, .null, .null, .null, .null, .null, .null, .null, .int (iI 0), .int (iI 0), .int (iI 0)])), (p1, ia E 97 (fun _ => 0)), (p2, ia E 97 (fun _ => 0)), (p3, ia E 97 (fun _ => 0)), (p4, ia E 291 (fun _ => 0)), (p5, ia E 12 (fun _ => 0)), (p6, ia E 97 (fun _ => 0)), (p7, ia E 97 (fun _ => 0)), (p8, ia E 97 (fun _ => 0))] _ [.ref p8, .ref q0] rfl rfl rfl rfl rfl ?_
  refine g_putF G 0 7 [(q0, .inr (2, [.ref p1, .ref p2, .ref p3, .ref p4, .ref p5, .ref p6, .ref p7, .ref p8, .null, .null, .null, .null, .null, .null, .int (iI 0), .int (iI 0), .int (iI 0)])), (p1, ia E 97 (fun _ => 0)), (p2, ia E 97 (fun _ => 0)), (p3, ia E 97 (fun _ => 0)), (p4, ia E 291 (fun _ => 0)), (p5, ia E 12 (fun _ => 0)), (p6, ia E 97 (fun _ => 0)), (p7, ia E 97 (fun _ => 0)), (p8, ia E 97 (fun _ => 0))] dX2_init_66 i_X2_init_X2 f_X2_init_33 tyX2_ok nmX2 rfl rfl (by decide) rfl rfl rfl rfl rfl (Nat.le_of_ble_eq_true rfl) rfl ?_
  refine g_aload_n G 0 dX2_init_69 rfl ?_
  refine g_bipush G dX2_init_70 (by decide +kernel) ?_
  refine g_newi G 97 dX2_init_72 (by decide +kernel) rfl (by decide) (Nat.le_of_ble_eq_true rfl) (Nat.le_of_ble_eq_true rfl) (fun p9 => ?_)
  refine g_to 9 982 [(q0, .inr (2, [.ref p1, .ref p2, .ref p3, .ref p4, .ref p5, .ref p6, .ref p7, .ref p8, .null, .null, .null, .null, .null, .null, .int (iI 0), .int (iI 0), .int (iI 0)])), (p1, ia E 97 (fun _ => 0)), (p2, ia E 97 (fun _ => 0)), (p3, ia E 97 (fun _ => 0)), (p4, ia E 291 (fun _ => 0)), (p5, ia E 12 (fun _ => 0)), (p6, ia E 97 (fun _ => 0)), (p7, ia E 97 (fun _ => 0)), (p8, ia E 97 (fun _ => 0)), (p9, ia E 97 (fun _ => 0))] _ [.ref p9, .ref q0] rfl rfl rfl rfl rfl ?_
  refine g_putF G 0 8 [(q0, .inr (2, [.ref p1, .ref p2, .ref p3, .ref p4, .ref p5, .ref p6, .ref p7, .ref p8, .ref p9, .null, .null, .null, .null, .null, .int (iI 0), .int (iI 0), .int (iI 0)])), (p1, ia E 97 (fun _ => 0)), (p2, ia E 97 (fun _ => 0)), (p3, ia E 97 (fun _ => 0)), (p4, ia E 291 (fun _ => 0)), (p5, ia E 12 (fun _ => 0)), (p6, ia E 97 (fun _ => 0)), (p7, ia E 97 (fun _ => 0)), (p8, ia E 97 (fun _ => 0)), (p9, ia E 97 (fun _ => 0))] dX2_init_74 i_X2_init_X2 f_X2_init_36 tyX2_ok nmX2 rfl rfl (by decide) rfl rfl rfl rfl rfl (Nat.le_of_ble_eq_true rfl) rfl ?_
  refine g_aload_n G 0 dX2_init_77 rfl ?_
  refine g_bipush G dX2_init_78 (by decide +kernel) ?_
  refine g_newi G 97 dX2_init_80 (by decide +kernel) rfl (by decide) (Nat.le_of_ble_eq_true rfl) (Nat.le_of_ble_eq_true rfl) (fun p10 => ?_)
  refine g_to 10 1079 [(q0, .inr (2, [.ref p1, .ref p2, .ref p3, .ref p4, .ref p5, .ref p6, .ref p7, .ref p8, .ref p9, .null, .null, .null, .null, .null, .int (iI 0), .int (iI 0), .int (iI 0)])), (p1, ia E 97 (fun _ => 0)), (p2, ia E 97 (fun _ => 0)), (p3, ia E 97 (fun _ => 0)), (p4, ia E 291 (fun _ => 0)), (p5, ia E 12 (fun _ => 0)), (p6, ia E 97 (fun _ => 0)), (p7, ia E 97 (fun _ => 0)), (p8, ia E 97 (fun _ => 0)), (p9, ia E 97 (fun _ => 0)), (p10, ia E 97 (fun _ => 0))] _ [.ref p10, .ref q0] rfl rfl rfl rfl rfl ?_
  refine g_putF G 0 9 [(q0, .inr (2, [.ref p1, .ref p2, .ref p3, .ref p4, .ref p5, .ref p6, .ref p7, .ref p8, .ref p9, .ref p10, .null, .null, .null, .null, .int (iI 0), .int (iI 0), .int (iI 0)])), (p1, ia E 97 (fun _ => 0)), (p2, ia E 97 (fun _ => 0)), (p3, ia E 97 (fun _ => 0)), (p4, ia E 291 (fun _ => 0)), (p5, ia E 12 (fun _ => 0)), (p6, ia E 97 (fun _ => 0)), (p7, ia E 97 (fun _ => 0)), (p8, ia E 97 (fun _ => 0)), (p9, ia E 97 (fun _ => 0)), (p10, ia E 97 (fun _ => 0))] dX2_init_82 i_X2_init_X2 f_X2_init_39 tyX2_ok nmX2 rfl rfl (by decide) rfl rfl rfl rfl rfl (Nat.le_of_ble_eq_true rfl) rfl ?_
  refine g_aload_n G 0 dX2_init_85 rfl ?_
  refine g_bipush G dX2_init_86 (by decide +kernel) ?_
  refine g_newi G 12 dX2_init_88 (by decide +kernel) rfl (by decide) (Nat.le_of_ble_eq_true rfl) (Nat.le_of_ble_eq_true rfl) (fun p11 => ?_)
  refine g_to 11 1091 [(q0, .inr (2, [.ref p1, .ref p2, .ref p3, .ref p4, .ref p5, .ref p6, .ref p7, .ref p8, .ref p9, .ref p10, .null, .null, .null, .null, .int (iI 0), .int (iI 0), .int (iI 0)])), (p1, ia E 97 (fun _ => 0)), (p2, ia E 97 (fun _ => 0)), (p3, ia E 97 (fun _ => 0)), (p4, ia E 291 (fun _ => 0)), (p5, ia E 12 (fun _ => 0)), (p6, ia E 97 (fun _ => 0)), (p7, ia E 97 (fun _ => 0)), (p8, ia E 97 (fun _ => 0)), (p9, ia E 97 (fun _ => 0)), (p10, ia E 97 (fun _ => 0)), (p11, ia E 12 (fun _ => 0))] _ [.ref p11, .ref q0] rfl rfl rfl rfl rfl ?_
  refine g_putF G 0 10 [(q0, .inr (2, [.ref p1, .ref p2, .ref p3, .ref p4, .ref p5, .ref p6, .ref p7, .ref p8, .ref p9, .ref p10, .ref p11, .null, .null, .null, .int (iI 0), .int (iI 0), .int (iI 0)])), (p1, ia E 97 (fun _ => 0)), (p2, ia E 97 (fun _ => 0)), (p3, ia E 97 (fun _ => 0)), (p4, ia E 291 (fun _ => 0)), (p5, ia E 12 (fun _ => 0)), (p6, ia E 97 (fun _ => 0)), (p7, ia E 97 (fun _ => 0)), (p8, ia E 97 (fun _ => 0)), (p9, ia E 97 (fun _ => 0)), (p10, ia E 97 (fun _ => 0)), (p11, ia E 12 (fun _ => 0))] dX2_init_90 i_X2_init_X2 f_X2_init_42 tyX2_ok nmX2 rfl rfl (by decide) rfl rfl rfl rfl rfl (Nat.le_of_ble_eq_true rfl) rfl ?_
  refine g_aload_n G 0 dX2_init_93 rfl ?_
  refine g_sipush G dX2_init_94 (by decide +kernel) ?_
  refine g_newi G 1164 dX2_init_97 (by decide +kernel) rfl (by decide) (Nat.le_of_ble_eq_true rfl) (Nat.le_of_ble_eq_true rfl) (fun p12 => ?_)
  refine g_to 12 2255 [(q0, .inr (2, [.ref p1, .ref p2, .ref p3, .ref p4, .ref p5, .ref p6, .ref p7, .ref p8, .ref p9, .ref p10, .ref p11, .null, .null, .null, .int (iI 0), .int (iI 0), .int (iI 0)])), (p1, ia E 97 (fun _ => 0)), (p2, ia E 97 (fun _ => 0)), (p3, ia E 97 (fun _ => 0)), (p4, ia E 291 (fun _ => 0)), (p5, ia E 12 (fun _ => 0)), (p6, ia E 97 (fun _ => 0)), (p7, ia E 97 (fun _ => 0)), (p8, ia E 97 (fun _ => 0)), (p9, ia E 97 (fun _ => 0)), (p10, ia E 97 (fun _ => 0)), (p11, ia E 12 (fun _ => 0)), (p12, ia E 1164 (fun _ => 0))] _ [.ref p12, .ref q0] rfl rfl rfl rfl rfl ?_
  refine g_putF G 0 11 [(q0, .inr (2, [.ref p1, .ref p2, .ref p3, .ref p4, .ref p5, .ref p6, .ref p7, .ref p8, .ref p9, .ref p10, .ref p11, .ref p12, .null, .null, .int (iI 0), .int (iI 0), .int (iI 0)])), (p1, ia E 97 (fun _ => 0)), (p2, ia E 97 (fun _ => 0)), (p3, ia E 97 (fun _ => 0)), (p4, ia E 291 (fun _ => 0)), (p5, ia E 12 (fun _ => 0)), (p6, ia E 97 (fun _ => 0)), (p7, ia E 97 (fun _ => 0)), (p8, ia E 97 (fun _ => 0)), (p9, ia E 97 (fun _ => 0)), (p10, ia E 97 (fun _ => 0)), (p11, ia E 12 (fun _ => 0)), (p12, ia E 1164 (fun _ => 0))] dX2_init_99 i_X2_init_X2 f_X2_init_45 tyX2_ok nmX2 rfl rfl (by decide) rfl rfl rfl rfl rfl (Nat.le_of_ble_eq_true rfl) rfl ?_
  refine g_aload_n G 0 dX2_init_102 rfl ?_
  refine g_bipush G dX2_init_103 (by decide +kernel) ?_
  refine g_newi G 12 dX2_init_105 (by decide +kernel) rfl (by decide) (Nat.le_of_ble_eq_true rfl) (Nat.le_of_ble_eq_true rfl) (fun p13 => ?_)
  refine g_to 13 2267 [(q0, .inr (2, [.ref p1, .ref p2, .ref p3, .ref p4, .ref p5, .ref p6, .ref p7, .ref p8, .ref p9, .ref p10, .ref p11, .ref p12, .null, .null, .int (iI 0), .int (iI 0), .int (iI 0)])), (p1, ia E 97 (fun _ => 0)), (p2, ia E 97 (fun _ => 0)), (p3, ia E 97 (fun _ => 0)), (p4, ia E 291 (fun _ => 0)), (p5, ia E 12 (fun _ => 0)), (p6, ia E 97 (fun _ => 0)), (p7, ia E 97 (fun _ => 0)), (p8, ia E 97 (fun _ => 0)), (p9, ia E 97 (fun _ => 0)), (p10, ia E 97 (fun _ => 0)), (p11, ia E 12 (fun _ => 0)), (p12, ia E 1164 (fun _ => 0)), (p13, ia E 12 (fun _ => 0))] _ [.ref p13, .ref q0] rfl rfl rfl rfl rfl ?_
  refine g_putF G 0 12 [(q0, .inr (2, [.ref p1, .ref p2, .ref p3, .ref p4, .ref p5, .ref p6, .ref p7, .ref p8, .ref p9, .ref p10, .ref p11, .ref p12, .ref p13, .null, .int (iI 0), .int (iI 0), .int (iI 0)])), (p1, ia E 97 (fun _ => 0)), (p2, ia E 97 (fun _ => 0)), (p3, ia E 97 (fun _ => 0)), (p4, ia E 291 (fun _ => 0)), (p5, ia E 12 (fun _ => 0)), (p6, ia E 97 (fun _ => 0)), (p7, ia E 97 (fun _ => 0)), (p8, ia E 97 (fun _ => 0)), (p9, ia E 97 (fun _ => 0)), (p10, ia E 97 (fun _ => 0)), (p11, ia E 12 (fun _ => 0)), (p12, ia E 1164 (fun _ => 0)), (p13, ia E 12 (fun _ => 0))] dX2_init_107 i_X2_init_X2 f_X2_init_48 tyX2_ok nmX2 rfl rfl (by decide) rfl rfl rfl rfl rfl (Nat.le_of_ble_eq_true rfl) rfl ?_
  refine g_aload_n G 0 dX2_init_110 rfl ?_
  refine g_bipush G dX2_init_111 (by decide +kernel) ?_
  refine g_newi G 12 dX2_init_113 (by decide +kernel) rfl (by decide) (Nat.le_of_ble_eq_true rfl) (Nat.le_of_ble_eq_true rfl) (fun p14 => ?_)
  refine g_to 14 2279 [(q0, .inr (2, [.ref p1, .ref p2, .ref p3, .ref p4, .ref p5, .ref p6, .ref p7, .ref p8, .ref p9, .ref p10, .ref p11, .ref p12, .ref p13, .null, .int (iI 0), .int (iI 0), .int (iI 0)])), (p1, ia E 97 (fun _ => 0)), (p2, ia E 97 (fun _ => 0)), (p3, ia E 97 (fun _ => 0)), (p4, ia E 291 (fun _ => 0)), (p5, ia E 12 (fun _ => 0)), (p6, ia E 97 (fun _ => 0)), (p7, ia E 97 (fun _ => 0)), (p8, ia E 97 (fun _ => 0)), (p9, ia E 97 (fun _ => 0)), (p10, ia E 97 (fun _ => 0)), (p11, ia E 12 (fun _ => 0)), (p12, ia E 1164 (fun _ => 0)), (p13, ia E 12 (fun _ => 0)), (p14, ia E 12 (fun _ => 0))] _ [.ref p14, .ref q0] rfl rfl rfl rfl rfl ?_
  refine g_putF G 0 13 [(q0, .inr (2, [.ref p1, .ref p2, .ref p3, .ref p4, .ref p5, .ref p6, .ref p7, .ref p8, .ref p9, .ref p10, .ref p11, .ref p12, .ref p13, .ref p14, .int (iI 0), .int (iI 0), .int (iI 0)])), (p1, ia E 97 (fun _ => 0)), (p2, ia E 97 (fun _ => 0)), (p3, ia E 97 (fun _ => 0)), (p4, ia E 291 (fun _ => 0)), (p5, ia E 12 (fun _ => 0)), (p6, ia E 97 (fun _ => 0)), (p7, ia E 97 (fun _ => 0)), (p8, ia E 97 (fun _ => 0)), (p9, ia E 97 (fun _ => 0)), (p10, ia E 97 (fun _ => 0)), (p11, ia E 12 (fun _ => 0)), (p12, ia E 1164 (fun _ => 0)), (p13, ia E 12 (fun _ => 0)), (p14, ia E 12 (fun _ => 0))] dX2_init_115 i_X2_init_X2 f_X2_init_51 tyX2_ok nmX2 rfl rfl (by decide) rfl rfl rfl rfl rfl (Nat.le_of_ble_eq_true rfl) rfl ?_
  exact g_ret G none rfl dX2_init_118 (Nat.le_refl _) (Nat.le_refl _) ⟨p1, p2, p3, p4, p5, p6, p7, p8, p9, p10, p11, p12, p13, p14, rfl, rfl⟩
theorem f_X2_startTree_67 : Cond.fieldLink RX2 67 (TX2 14).1 (TX2 14).2.1 (TX2 14).2.2.1 ∈ wsX2_startTree := by decide +kernel
theorem i_X2_startTree_X2 : ∀ w ∈ wsX20, w ∈ wsX2_startTree := by decide +kernel
theorem f_X2_startTree_21 : Cond.fieldLink RX2 21 (TX2 3).1 (TX2 3).2.1 (TX2 3).2.2.1 ∈ wsX2_startTree := by decide +kernel
set_option maxRecDepth 100000 in
set_option maxHeartbeats 4000000 in
theorem c_X2_startTree (E : qE) (q0 : Nat) (q1 : Nat) (q2 : Nat) (q3 : Nat) (q4 : Nat) (q5 : Nat) (q6 : Nat) (q7 : Nat) (q8 : Nat) (q9 : Nat) (q10 : Nat) (q11 : Nat) (q12 : Nat) (q13 : Nat) (q14 : Nat) (pa : Int → Int) (vb : Int → Int) (cd : Int → Int) (cn : Int → Int) (xc : Int → Int) (xw : Int → Int) (sa : Int → Int) (ph : Int → Int) (xm : Int → Int) (xa : Int → Int) (tg : Int → Int) (xt : Int → Int) (xn : Int → Int) (xv : Int → Int) (nd : Int) (xr : Int) (al : Int)  : Cn E yX2_startTree wsX2_startTree { frames := 1, cells := 0, slots := 0, locals := 23 } [.ref q0] [(q0, .inr (2, [.ref q1, .ref q2, .ref q3, .ref q4, .ref q5, .ref q6, .ref q7, .ref q8, .ref q9, .ref q10, .ref q11, .ref q12, .ref q13, .ref q14, .int (iI nd), .int (iI xr), .int (iI al)])), (q1, ia E 97 pa), (q2, ia E 97 vb), (q3, ia E 97 cd), (q4, ia E 291 cn), (q5, ia E 12 xc), (q6, ia E 97 xw), (q7, ia E 97 sa), (q8, ia E 97 ph), (q9, ia E 97 xm), (q10, ia E 97 xa), (q11, ia E 12 tg), (q12, ia E 1164 xt), (q13, ia E 12 xn), (q14, ia E 12 xv)] (fun v9 w9 => v9 = none ∧ w9 = [(q0, .inr (2, [.ref q1, .ref q2, .ref q3, .ref q4, .ref q5, .ref q6, .ref q7, .ref q8, .ref q9, .ref q10, .ref q11, .ref q12, .ref q13, .ref q14, .int (iI 1), .int (iI xr), .int (iI al)])), (q1, ia E 97 pa), (q2, ia E 97 vb), (q3, ia E 97 cd), (q4, ia E 291 (fiI cn 291 (-1))), (q5, ia E 12 xc), (q6, ia E 97 xw), (q7, ia E 97 sa), (q8, ia E 97 ph), (q9, ia E 97 xm), (q10, ia E 97 xa), (q11, ia E 12 tg), (q12, ia E 1164 xt), (q13, ia E 12 xn), (q14, ia E 12 xv)]) 0 0 := by
  refine Cn.ofP (own := RX2) (cc := cX2_startTree) (maxL := 1) (ret := none) false [(0, .ref q0)] (by decide +kernel) rfl rfl (Nat.le_of_ble_eq_true rfl) rfl (fun h => nomatch h) (fun v w h => by obtain ⟨rfl, h9⟩ := h; exact (rfl : (none : Option FieldType) = none)) ?_
  intro P G
  refine g_aload_n G 0 dX2_startTree_0 rfl ?_
  refine g_iconst G dX2_startTree_1 ?_
  refine g_put G 0 14 [(q0, .inr (2, [.ref q1, .ref q2, .ref q3, .ref q4, .ref q5, .ref q6, .ref q7, .ref q8, .ref q9, .ref q10, .ref q11, .ref q12, .ref q13, .ref q14, .int (iI 1), .int (iI xr), .int (iI al)])), (q1, ia E 97 pa), (q2, ia E 97 vb), (q3, ia E 97 cd), (q4, ia E 291 cn), (q5, ia E 12 xc), (q6, ia E 97 xw), (q7, ia E 97 sa), (q8, ia E 97 ph), (q9, ia E 97 xm), (q10, ia E 97 xa), (q11, ia E 12 tg), (q12, ia E 1164 xt), (q13, ia E 12 xn), (q14, ia E 12 xv)] dX2_startTree_2 i_X2_startTree_X2 f_X2_startTree_67 tyX2_ok nmX2 rfl rfl (by decide) rfl rfl rfl rfl (Nat.le_of_ble_eq_true rfl) rfl ?_
  refine g_aload_n G 0 dX2_startTree_5 rfl ?_
  refine g_get G 0 3 dX2_startTree_6 i_X2_startTree_X2 f_X2_startTree_21 rfl rfl (by decide) rfl ?_
  refine g_iconst G dX2_startTree_9 ?_
  refine g_callS G [4] [0, 1, 2, 3, 5, 6, 7, 8, 9, 10, 11, 12, 13, 14] 15 [(q0, .inr (2, [.ref q1, .ref q2, .ref q3, .ref q4, .ref q5, .ref q6, .ref q7, .ref q8, .ref q9, .ref q10, .ref q11, .ref q12, .ref q13, .ref q14, .int (iI 1), .int (iI xr), .int (iI al)])), (q1, ia E 97 pa), (q2, ia E 97 vb), (q3, ia E 97 cd), (q5, ia E 12 xc), (q6, ia E 97 xw), (q7, ia E 97 sa), (q8, ia E 97 ph), (q9, ia E 97 xm), (q10, ia E 97 xa), (q11, ia E 12 tg), (q12, ia E 1164 xt), (q13, ia E 12 xn), (q14, ia E 12 xv)] [.ref q4, .int (iI (-1))] [] (c_J7_fill_53178 E q4 291 cn (-1) (by first | assumption | omega)) dX2_startTree_10 gX2_startTree_J7_fill_53178 ⟨rfl, ⟨rfl, rfl⟩, e_J7_fill_53178, ⟨Nat.le_of_ble_eq_true rfl, Nat.le_of_ble_eq_true rfl⟩, Nat.le_of_ble_eq_true rfl, Nat.le_of_ble_eq_true rfl, Nat.le_of_ble_eq_true rfl⟩ rfl (by decide +kernel) rfl (by decide +kernel) rfl (fun v9 w9 h9 => ?_)
  obtain ⟨o1, rfl, rfl, rfl⟩ := h9
  refine ⟨[(q0, .inr (2, [.ref q1, .ref q2, .ref q3, .ref q4, .ref q5, .ref q6, .ref q7, .ref q8, .ref q9, .ref q10, .ref q11, .ref q12, .ref q13, .ref q14, .int (iI 1), .int (iI xr), .int (iI al)])), (q1, ia E 97 pa), (q2, ia E 97 vb), (q3, ia E 97 cd), (q4, ia E 291 (fiI cn 291 (-1))), (q5, ia E 12 xc), (q6, ia E 97 xw), (q7, ia E 97 sa), (q8, ia E 97 ph), (q9, ia E 97 xm), (q10, ia E 97 xa), (q11, ia E 12 tg), (q12, ia E 1164 xt), (q13, ia E 12 xn), (q14, ia E 12 xv)], ⟨rfl, rfl, rfl, rfl⟩, g_to 0 0 _ _ [] rfl rfl rfl rfl rfl ?_⟩
  exact g_ret G none rfl dX2_startTree_13 (Nat.le_refl _) (Nat.le_refl _) ⟨rfl, rfl⟩
theorem f_X2_childOf_21 : Cond.fieldLink RX2 21 (TX2 3).1 (TX2 3).2.1 (TX2 3).2.2.1 ∈ wsX2_childOf := by decide +kernel
theorem i_X2_childOf_X2 : ∀ w ∈ wsX20, w ∈ wsX2_childOf := by decide +kernel
theorem f_X2_childOf_67 : Cond.fieldLink RX2 67 (TX2 14).1 (TX2 14).2.1 (TX2 14).2.2.1 ∈ wsX2_childOf := by decide +kernel
theorem f_X2_childOf_11 : Cond.fieldLink RX2 11 (TX2 0).1 (TX2 0).2.1 (TX2 0).2.2.1 ∈ wsX2_childOf := by decide +kernel
theorem f_X2_childOf_15 : Cond.fieldLink RX2 15 (TX2 1).1 (TX2 1).2.1 (TX2 1).2.2.1 ∈ wsX2_childOf := by decide +kernel
theorem f_X2_childOf_18 : Cond.fieldLink RX2 18 (TX2 2).1 (TX2 2).2.1 (TX2 2).2.2.1 ∈ wsX2_childOf := by decide +kernel
set_option maxRecDepth 100000 in
set_option maxHeartbeats 4000000 in
theorem c_X2_childOf (E : qE) (q0 : Nat) (q1 : Nat) (q2 : Nat) (q3 : Nat) (q4 : Nat) (q5 : Nat) (q6 : Nat) (q7 : Nat) (q8 : Nat) (q9 : Nat) (q10 : Nat) (q11 : Nat) (q12 : Nat) (q13 : Nat) (q14 : Nat) (pa : Int → Int) (vb : Int → Int) (cd : Int → Int) (cn : Int → Int) (xc : Int → Int) (xw : Int → Int) (sa : Int → Int) (ph : Int → Int) (xm : Int → Int) (xa : Int → Int) (tg : Int → Int) (xt : Int → Int) (xn : Int → Int) (xv : Int → Int) (nd : Int) (xr : Int) (al : Int) (x : Int) (v : Int) (y : Int) (hx : 0 ≤ x ∧ x < 97) (hv : 0 ≤ v ∧ v < 3) (hT : TOk pa vb cd cn nd) : Cn E yX2_childOf wsX2_childOf { frames := 0, cells := 0, slots := 0, locals := 0 } [.ref q0, .int (iI x), .int (iI v), .int (iI y)] [(q0, .inr (2, [.ref q1, .ref q2, .ref q3, .ref q4, .ref q5, .ref q6, .ref q7, .ref q8, .ref q9, .ref q10, .ref q11, .ref q12, .ref q13, .ref q14, .int (iI nd), .int (iI xr), .int (iI al)])), (q1, ia E 97 pa), (q2, ia E 97 vb), (q3, ia E 97 cd), (q4, ia E 291 cn), (q5, ia E 12 xc), (q6, ia E 97 xw), (q7, ia E 97 sa), (q8, ia E 97 ph), (q9, ia E 97 xm), (q10, ia E 97 xa), (q11, ia E 12 tg), (q12, ia E 1164 xt), (q13, ia E 12 xn), (q14, ia E 12 xv)] (fun v9 w9 => ∃ (r : Int) (pa1 : Int → Int) (vb1 : Int → Int) (cd1 : Int → Int) (cn1 : Int → Int) (nd1 : Int), v9 = some (.int (iI r)) ∧ w9 = [(q0, .inr (2, [.ref q1, .ref q2, .ref q3, .ref q4, .ref q5, .ref q6, .ref q7, .ref q8, .ref q9, .ref q10, .ref q11, .ref q12, .ref q13, .ref q14, .int (iI nd1), .int (iI xr), .int (iI al)])), (q1, ia E 97 pa1), (q2, ia E 97 vb1), (q3, ia E 97 cd1), (q4, ia E 291 cn1), (q5, ia E 12 xc), (q6, ia E 97 xw), (q7, ia E 97 sa), (q8, ia E 97 ph), (q9, ia E 97 xm), (q10, ia E 97 xa), (q11, ia E 12 tg), (q12, ia E 1164 xt), (q13, ia E 12 xn), (q14, ia E 12 xv)] ∧ (chS x v y pa vb cd cn nd = (pa1, vb1, cd1, cn1, nd1, r))) 0 0 := by
  refine Cn.ofP (own := RX2) (cc := cX2_childOf) (maxL := 5) (ret := (some .int)) false [(0, .ref q0), (1, .int (iI x)), (2, .int (iI v)), (3, .int (iI y))] (by decide +kernel) rfl rfl (Nat.le_of_ble_eq_true rfl) rfl (fun h => nomatch h) (fun v w h => by obtain ⟨r, pa1, vb1, cd1, cn1, nd1, rfl, h9⟩ := h; exact ⟨_, rfl, rfl⟩) ?_
  intro P G
  obtain ⟨hn0, hn1, hcn, htt⟩ := id hT
  refine g_iload_n G 1 dX2_childOf_0 rfl ?_
  refine g_iconst G dX2_childOf_1 ?_
  refine g_imul G dX2_childOf_2 ?_
  refine g_iload_n G 2 dX2_childOf_3 rfl ?_
  refine g_iadd G dX2_childOf_4 ?_
  refine g_istore G [(0, .ref q0), (1, .int (iI x)), (2, .int (iI v)), (3, .int (iI y)), (4, .int (iI ((x * 3) + v)))] dX2_childOf_5 (by decide) rfl rfl ?_
  refine g_aload_n G 0 dX2_childOf_7 rfl ?_
  refine g_get G 0 3 dX2_childOf_8 i_X2_childOf_X2 f_X2_childOf_21 rfl rfl (by decide) rfl ?_
  refine g_iload G 4 dX2_childOf_11 rfl ?_
  refine g_iald G 4 dX2_childOf_13 rfl (by omega) (by omega) (by decide) ?_
  have b1 := hcn ((x * 3) + v)
  refine g_iconst G dX2_childOf_14 ?_
  refine g_icmp_eq G 26 dX2_childOf_15 (by decide) (by omega) (by omega) (fun c15 => ?_) (fun c15 => ?_)
  · refine g_aload_n G 0 dX2_childOf_26 rfl ?_
    refine g_get G 0 14 dX2_childOf_27 i_X2_childOf_X2 f_X2_childOf_67 rfl rfl (by decide) rfl ?_
    refine g_bipush G dX2_childOf_30 (by decide +kernel) ?_
    refine g_icmp_lt G 37 dX2_childOf_32 (by decide) (by omega) (by omega) (fun c32 => ?_) (fun c32 => ?_)
    · refine g_aload_n G 0 dX2_childOf_37 rfl ?_
      refine g_get G 0 0 dX2_childOf_38 i_X2_childOf_X2 f_X2_childOf_11 rfl rfl (by decide) rfl ?_
      refine g_aload_n G 0 dX2_childOf_41 rfl ?_
      refine g_get G 0 14 dX2_childOf_42 i_X2_childOf_X2 f_X2_childOf_67 rfl rfl (by decide) rfl ?_
      refine g_iload_n G 1 dX2_childOf_45 rfl ?_
      refine g_iast G 1 [(q0, .inr (2, [.ref q1, .ref q2, .ref q3, .ref q4, .ref q5, .ref q6, .ref q7, .ref q8, .ref q9, .ref q10, .ref q11, .ref q12, .ref q13, .ref q14, .int (iI nd), .int (iI xr), .int (iI al)])), (q1, ia E 97 (upI pa nd x)), (q2, ia E 97 vb), (q3, ia E 97 cd), (q4, ia E 291 cn), (q5, ia E 12 xc), (q6, ia E 97 xw), (q7, ia E 97 sa), (q8, ia E 97 ph), (q9, ia E 97 xm), (q10, ia E 97 xa), (q11, ia E 12 tg), (q12, ia E 1164 xt), (q13, ia E 12 xn), (q14, ia E 12 xv)] dX2_childOf_46 rfl (by omega) (by omega) (by decide) rfl ?_
      refine g_aload_n G 0 dX2_childOf_47 rfl ?_
      refine g_get G 0 1 dX2_childOf_48 i_X2_childOf_X2 f_X2_childOf_15 rfl rfl (by decide) rfl ?_
      refine g_aload_n G 0 dX2_childOf_51 rfl ?_
      refine g_get G 0 14 dX2_childOf_52 i_X2_childOf_X2 f_X2_childOf_67 rfl rfl (by decide) rfl ?_
      refine g_iload_n G 2 dX2_childOf_55 rfl ?_
      refine g_iast G 2 [(q0, .inr (2, [.ref q1, .ref q2, .ref q3, .ref q4, .ref q5, .ref q6, .ref q7, .ref q8, .ref q9, .ref q10, .ref q11, .ref q12, .ref q13, .ref q14, .int (iI nd), .int (iI xr), .int (iI al)])), (q1, ia E 97 (upI pa nd x)), (q2, ia E 97 (upI vb nd v)), (q3, ia E 97 cd), (q4, ia E 291 cn), (q5, ia E 12 xc), (q6, ia E 97 xw), (q7, ia E 97 sa), (q8, ia E 97 ph), (q9, ia E 97 xm), (q10, ia E 97 xa), (q11, ia E 12 tg), (q12, ia E 1164 xt), (q13, ia E 12 xn), (q14, ia E 12 xv)] dX2_childOf_56 rfl (by omega) (by omega) (by decide) rfl ?_
      refine g_aload_n G 0 dX2_childOf_57 rfl ?_
      refine g_get G 0 2 dX2_childOf_58 i_X2_childOf_X2 f_X2_childOf_18 rfl rfl (by decide) rfl ?_
      refine g_aload_n G 0 dX2_childOf_61 rfl ?_
      refine g_get G 0 14 dX2_childOf_62 i_X2_childOf_X2 f_X2_childOf_67 rfl rfl (by decide) rfl ?_
      refine g_iload_n G 3 dX2_childOf_65 rfl ?_
      refine g_iast G 3 [(q0, .inr (2, [.ref q1, .ref q2, .ref q3, .ref q4, .ref q5, .ref q6, .ref q7, .ref q8, .ref q9, .ref q10, .ref q11, .ref q12, .ref q13, .ref q14, .int (iI nd), .int (iI xr), .int (iI al)])), (q1, ia E 97 (upI pa nd x)), (q2, ia E 97 (upI vb nd v)), (q3, ia E 97 (upI cd nd y)), (q4, ia E 291 cn), (q5, ia E 12 xc), (q6, ia E 97 xw), (q7, ia E 97 sa), (q8, ia E 97 ph), (q9, ia E 97 xm), (q10, ia E 97 xa), (q11, ia E 12 tg), (q12, ia E 1164 xt), (q13, ia E 12 xn), (q14, ia E 12 xv)] dX2_childOf_66 rfl (by omega) (by omega) (by decide) rfl ?_
      refine g_aload_n G 0 dX2_childOf_67 rfl ?_
      refine g_get G 0 3 dX2_childOf_68 i_X2_childOf_X2 f_X2_childOf_21 rfl rfl (by decide) rfl ?_
      refine g_iload G 4 dX2_childOf_71 rfl ?_
      refine g_aload_n G 0 dX2_childOf_73 rfl ?_
      refine g_get G 0 14 dX2_childOf_74 i_X2_childOf_X2 f_X2_childOf_67 rfl rfl (by decide) rfl ?_
      refine g_iast G 4 [(q0, .inr (2, [.ref q1, .ref q2, .ref q3, .ref q4, .ref q5, .ref q6, .ref q7, .ref q8, .ref q9, .ref q10, .ref q11, .ref q12, .ref q13, .ref q14, .int (iI nd), .int (iI xr), .int (iI al)])), (q1, ia E 97 (upI pa nd x)), (q2, ia E 97 (upI vb nd v)), (q3, ia E 97 (upI cd nd y)), (q4, ia E 291 (upI cn ((x * 3) + v) nd)), (q5, ia E 12 xc), (q6, ia E 97 xw), (q7, ia E 97 sa), (q8, ia E 97 ph), (q9, ia E 97 xm), (q10, ia E 97 xa), (q11, ia E 12 tg), (q12, ia E 1164 xt), (q13, ia E 12 xn), (q14, ia E 12 xv)] dX2_childOf_77 rfl (by omega) (by omega) (by decide) rfl ?_
      refine g_aload_n G 0 dX2_childOf_78 rfl ?_
      refine g_dup G dX2_childOf_79 rfl ?_
      refine g_get G 0 14 dX2_childOf_80 i_X2_childOf_X2 f_X2_childOf_67 rfl rfl (by decide) rfl ?_
      refine g_iconst G dX2_childOf_83 ?_
      refine g_iadd G dX2_childOf_84 ?_
      refine g_put G 0 14 [(q0, .inr (2, [.ref q1, .ref q2, .ref q3, .ref q4, .ref q5, .ref q6, .ref q7, .ref q8, .ref q9, .ref q10, .ref q11, .ref q12, .ref q13, .ref q14, .int (iI (nd + 1)), .int (iI xr), .int (iI al)])), (q1, ia E 97 (upI pa nd x)), (q2, ia E 97 (upI vb nd v)), (q3, ia E 97 (upI cd nd y)), (q4, ia E 291 (upI cn ((x * 3) + v) nd)), (q5, ia E 12 xc), (q6, ia E 97 xw), (q7, ia E 97 sa), (q8, ia E 97 ph), (q9, ia E 97 xm), (q10, ia E 97 xa), (q11, ia E 12 tg), (q12, ia E 1164 xt), (q13, ia E 12 xn), (q14, ia E 12 xv)] dX2_childOf_85 i_X2_childOf_X2 f_X2_childOf_67 tyX2_ok nmX2 rfl rfl (by decide) rfl rfl rfl rfl (Nat.le_of_ble_eq_true rfl) rfl ?_
      refine g_aload_n G 0 dX2_childOf_88 rfl ?_
      refine g_get G 0 14 dX2_childOf_89 i_X2_childOf_X2 f_X2_childOf_67 rfl rfl (by decide) rfl ?_
      refine g_iconst G dX2_childOf_92 ?_
      refine g_isub G dX2_childOf_93 ?_
      exact g_ret G (some (.int (iI ((nd + 1) - 1)))) rfl dX2_childOf_94 (Nat.le_refl _) (Nat.le_refl _) ⟨((nd + 1) - 1), (upI pa nd x), (upI vb nd v), (upI cd nd y), (upI cn ((x * 3) + v) nd), (nd + 1), rfl, rfl, by unfold chS; first | (rw [if_pos (by omega)]; done) | (rw [if_neg (by omega), if_pos (by omega)]; rw [(show nd + 1 - 1 = nd by omega)]; done) | (rw [if_neg (by omega), if_neg (by omega)])⟩
    · refine g_iconst G dX2_childOf_35 ?_
      exact g_ret G (some (.int (iI 0))) rfl dX2_childOf_36 (Nat.le_refl _) (Nat.le_refl _) ⟨0, pa, vb, cd, cn, nd, rfl, rfl, by unfold chS; first | (rw [if_pos (by omega)]; done) | (rw [if_neg (by omega), if_pos (by omega)]; rw [(show nd + 1 - 1 = nd by omega)]; done) | (rw [if_neg (by omega), if_neg (by omega)])⟩
  · refine g_aload_n G 0 dX2_childOf_18 rfl ?_
    refine g_get G 0 3 dX2_childOf_19 i_X2_childOf_X2 f_X2_childOf_21 rfl rfl (by decide) rfl ?_
    refine g_iload G 4 dX2_childOf_22 rfl ?_
    refine g_iald G 4 dX2_childOf_24 rfl (by omega) (by omega) (by decide) ?_
    have b2 := hcn ((x * 3) + v)
    exact g_ret G (some (.int (iI (cn ((x * 3) + v))))) rfl dX2_childOf_25 (Nat.le_refl _) (Nat.le_refl _) ⟨(cn ((x * 3) + v)), pa, vb, cd, cn, nd, rfl, rfl, by unfold chS; first | (rw [if_pos (by omega)]; done) | (rw [if_neg (by omega), if_pos (by omega)]; rw [(show nd + 1 - 1 = nd by omega)]; done) | (rw [if_neg (by omega), if_neg (by omega)])⟩
theorem e_X2_childOf : yX2_childOf.cls ≠ "java/lang/invoke/MethodHandle" ∧ yX2_childOf.cls ≠ "java/lang/invoke/VarHandle" ∧ (parseMethodDescriptor yX2_childOf.desc).map (fun d => d.parameters.length) = some 3 := by decide +kernel
theorem f_X2_plantRow_18 : Cond.fieldLink RX2 18 (TX2 2).1 (TX2 2).2.1 (TX2 2).2.2.1 ∈ wsX2_plantRow := by decide +kernel
theorem i_X2_plantRow_X2 : ∀ w ∈ wsX20, w ∈ wsX2_plantRow := by decide +kernel
set_option maxRecDepth 100000 in
set_option maxHeartbeats 4000000 in
theorem c_X2_plantRow (E : qE) (q0 : Nat) (q1 : Nat) (q2 : Nat) (q3 : Nat) (q4 : Nat) (q5 : Nat) (q6 : Nat) (q7 : Nat) (q8 : Nat) (q9 : Nat) (q10 : Nat) (q11 : Nat) (q12 : Nat) (q13 : Nat) (q14 : Nat) (pa : Int → Int) (vb : Int → Int) (cd : Int → Int) (cn : Int → Int) (xc : Int → Int) (xw : Int → Int) (sa : Int → Int) (ph : Int → Int) (xm : Int → Int) (xa : Int → Int) (tg : Int → Int) (xt : Int → Int) (xn : Int → Int) (xv : Int → Int) (nd : Int) (xr : Int) (al : Int) (w0 : Nat) (w1 : Nat) (w2 : Nat) (w3 : Nat) (w4 : Nat) (L : Int → Int) (V : Int → Int) (A : Int → Int) (N : Int → Int) (y : Int) (x : Int) (hR : RowsOk L V A N y) (hx : 0 ≤ x ∧ x < y) (hT : TOk pa vb cd cn nd) : Cn E yX2_plantRow wsX2_plantRow { frames := 1, cells := 0, slots := 0, locals := 24 } [.ref q0, .ref w0, .int (iI x)] [(q0, .inr (2, [.ref q1, .ref q2, .ref q3, .ref q4, .ref q5, .ref q6, .ref q7, .ref q8, .ref q9, .ref q10, .ref q11, .ref q12, .ref q13, .ref q14, .int (iI nd), .int (iI xr), .int (iI al)])), (q1, ia E 97 pa), (q2, ia E 97 vb), (q3, ia E 97 cd), (q4, ia E 291 cn), (q5, ia E 12 xc), (q6, ia E 97 xw), (q7, ia E 97 sa), (q8, ia E 97 ph), (q9, ia E 97 xm), (q10, ia E 97 xa), (q11, ia E 12 tg), (q12, ia E 1164 xt), (q13, ia E 12 xn), (q14, ia E 12 xv), (w0, .inr (4, [.ref w1, .ref w2, .ref w3, .ref w4, .int (iI y)])), (w1, ia E 8 L), (w2, ia E 96 V), (w3, ia E 96 A), (w4, ia E 96 N)] (fun v9 w9 => ∃ (r : Int) (pa1 : Int → Int) (vb1 : Int → Int) (cd1 : Int → Int) (cn1 : Int → Int) (nd1 : Int), v9 = some (.int (iI r)) ∧ w9 = [(q0, .inr (2, [.ref q1, .ref q2, .ref q3, .ref q4, .ref q5, .ref q6, .ref q7, .ref q8, .ref q9, .ref q10, .ref q11, .ref q12, .ref q13, .ref q14, .int (iI nd1), .int (iI xr), .int (iI al)])), (q1, ia E 97 pa1), (q2, ia E 97 vb1), (q3, ia E 97 cd1), (q4, ia E 291 cn1), (q5, ia E 12 xc), (q6, ia E 97 xw), (q7, ia E 97 sa), (q8, ia E 97 ph), (q9, ia E 97 xm), (q10, ia E 97 xa), (q11, ia E 12 tg), (q12, ia E 1164 xt), (q13, ia E 12 xn), (q14, ia E 12 xv), (w0, .inr (4, [.ref w1, .ref w2, .ref w3, .ref w4, .int (iI y)])), (w1, ia E 8 L), (w2, ia E 96 V), (w3, ia E 96 A), (w4, ia E 96 N)] ∧ (PlS V N x (L x) pa vb cd cn nd r pa1 vb1 cd1 cn1 nd1) ∧ (TOk pa1 vb1 cd1 cn1 nd1)) 0 0 := by
  refine Cn.ofP (own := RX2) (cc := cX2_plantRow) (maxL := 6) (ret := (some .boolean)) false [(0, .ref q0), (1, .ref w0), (2, .int (iI x))] (by decide +kernel) rfl rfl (Nat.le_of_ble_eq_true rfl) rfl (fun h => nomatch h) (fun v w h => by obtain ⟨r, pa1, vb1, cd1, cn1, nd1, rfl, h9⟩ := h; exact ⟨_, rfl, by refine iI_b01 ?_; rcases h9.2.1 with h8 | h8; exact Or.inr h8.1; exact Or.inl h8.1⟩) ?_
  intro P G
  obtain ⟨hz0, hz1, hL, hV, hA, hN⟩ := id hR
  have hLx := hL x
  refine g_iconst G dX2_plantRow_0 ?_
  refine g_istore_n G [(0, .ref q0), (1, .ref w0), (2, .int (iI x)), (3, .int (iI 0))] dX2_plantRow_1 (by decide) rfl rfl ?_
  refine g_iconst G dX2_plantRow_2 ?_
  refine g_istore G [(0, .ref q0), (1, .ref w0), (2, .int (iI x)), (3, .int (iI 0)), (4, .int (iI 0))] dX2_plantRow_3 (by decide) rfl rfl ?_
  have L5 : ∀ (fuel : Nat), ∀ (i : Int) (nx : Int) (pa1 : Int → Int) (vb1 : Int → Int) (cd1 : Int → Int) (cn1 : Int → Int) (nd1 : Int), (0 ≤ i ∧ i ≤ L x) → (TOk pa1 vb1 cd1 cn1 nd1) → (0 ≤ nx ∧ nx < nd1) → (nP (ptS V N) x i.toNat (pa, vb, cd, cn, nd, 0) = (pa1, vb1, cd1, cn1, nd1, nx)) → (∀ j, 0 ≤ j ∧ j < i → ptG V N x (pa, vb, cd, cn, nd, 0) j) → (L x - i : Int).toNat < fuel → P 0 0 [(q0, .inr (2, [.ref q1, .ref q2, .ref q3, .ref q4, .ref q5, .ref q6, .ref q7, .ref q8, .ref q9, .ref q10, .ref q11, .ref q12, .ref q13, .ref q14, .int (iI nd1), .int (iI xr), .int (iI al)])), (q1, ia E 97 pa1), (q2, ia E 97 vb1), (q3, ia E 97 cd1), (q4, ia E 291 cn1), (q5, ia E 12 xc), (q6, ia E 97 xw), (q7, ia E 97 sa), (q8, ia E 97 ph), (q9, ia E 97 xm), (q10, ia E 97 xa), (q11, ia E 12 tg), (q12, ia E 1164 xt), (q13, ia E 12 xn), (q14, ia E 12 xv), (w0, .inr (4, [.ref w1, .ref w2, .ref w3, .ref w4, .int (iI y)])), (w1, ia E 8 L), (w2, ia E 96 V), (w3, ia E 96 A), (w4, ia E 96 N)] 5 [(0, .ref q0), (1, .ref w0), (2, .int (iI x)), (3, .int (iI nx)), (4, .int (iI i))] [] := by
    intro fuel
    induction fuel with
    | zero => intro i nx pa1 vb1 cd1 cn1 nd1 hi hTk hnx hS hgd hm; exact absurd hm (Nat.not_lt_zero _)
    | succ fuel ih5 =>
      intro i nx pa1 vb1 cd1 cn1 nd1 hi hTk hnx hS hgd hm
      refine g_iload G 4 dX2_plantRow_5 rfl ?_
      refine g_aload_n G 1 dX2_plantRow_7 rfl ?_
      refine g_iload_n G 2 dX2_plantRow_8 rfl ?_
      refine g_callV G [15, 16, 17, 18, 19] [0, 1, 2, 3, 4, 5, 6, 7, 8, 9, 10, 11, 12, 13, 14] 20 [(q0, .inr (2, [.ref q1, .ref q2, .ref q3, .ref q4, .ref q5, .ref q6, .ref q7, .ref q8, .ref q9, .ref q10, .ref q11, .ref q12, .ref q13, .ref q14, .int (iI nd1), .int (iI xr), .int (iI al)])), (q1, ia E 97 pa1), (q2, ia E 97 vb1), (q3, ia E 97 cd1), (q4, ia E 291 cn1), (q5, ia E 12 xc), (q6, ia E 97 xw), (q7, ia E 97 sa), (q8, ia E 97 ph), (q9, ia E 97 xm), (q10, ia E 97 xa), (q11, ia E 12 tg), (q12, ia E 1164 xt), (q13, ia E 12 xn), (q14, ia E 12 xv)] [.int (iI x)] [.int (iI i)] (c_X4_length E w0 w1 w2 w3 w4 L V A N y x (by exact hR) (by first | assumption | omega)) dX2_plantRow_9 gX2_plantRow_X4_length ⟨rfl, ⟨rfl, rfl⟩, e_X4_length, ⟨Nat.le_of_ble_eq_true rfl, Nat.le_of_ble_eq_true rfl⟩, Nat.le_of_ble_eq_true rfl, Nat.le_of_ble_eq_true rfl, Nat.le_of_ble_eq_true rfl⟩ rfl rfl rfl rfl rfl (by decide +kernel) rfl (by decide +kernel) rfl (fun v9 w9 h9 => ?_)
      obtain ⟨o1, rfl, rfl, rfl⟩ := h9
      refine ⟨[(q0, .inr (2, [.ref q1, .ref q2, .ref q3, .ref q4, .ref q5, .ref q6, .ref q7, .ref q8, .ref q9, .ref q10, .ref q11, .ref q12, .ref q13, .ref q14, .int (iI nd1), .int (iI xr), .int (iI al)])), (q1, ia E 97 pa1), (q2, ia E 97 vb1), (q3, ia E 97 cd1), (q4, ia E 291 cn1), (q5, ia E 12 xc), (q6, ia E 97 xw), (q7, ia E 97 sa), (q8, ia E 97 ph), (q9, ia E 97 xm), (q10, ia E 97 xa), (q11, ia E 12 tg), (q12, ia E 1164 xt), (q13, ia E 12 xn), (q14, ia E 12 xv), (w0, .inr (4, [.ref w1, .ref w2, .ref w3, .ref w4, .int (iI y)])), (w1, ia E 8 L), (w2, ia E 96 V), (w3, ia E 96 A), (w4, ia E 96 N)], ⟨rfl, rfl, rfl, rfl⟩, g_to 0 0 _ _ [.int (iI (if 0 ≤ x ∧ x < y then L x else 0)), .int (iI i)] rfl rfl rfl rfl rfl ?_⟩
      refine g_icmp_ge G 61 dX2_plantRow_12 (by decide) (by first | omega | (split <;> omega)) (by first | omega | (split <;> omega)) (fun c12 => ?_) (fun c12 => ?_)
      · refine g_iconst G dX2_plantRow_61 ?_
        exact g_ret G (some (.int (iI 1))) rfl dX2_plantRow_62 (Nat.le_refl _) (Nat.le_refl _) ⟨1, pa1, vb1, cd1, cn1, nd1, rfl, rfl, by (rw [if_pos (by omega)] at c12); exact Or.inl ⟨rfl, nx, by rw [(show L x = i by omega)]; exact hS, fun j hj => hgd j (by omega)⟩, by exact hTk⟩
      · rw [if_pos (by omega)] at c12
        refine g_aload_n G 1 dX2_plantRow_15 rfl ?_
        refine g_iload_n G 2 dX2_plantRow_16 rfl ?_
        refine g_iload G 4 dX2_plantRow_17 rfl ?_
        refine g_callV G [15, 16, 17, 18, 19] [0, 1, 2, 3, 4, 5, 6, 7, 8, 9, 10, 11, 12, 13, 14] 20 [(q0, .inr (2, [.ref q1, .ref q2, .ref q3, .ref q4, .ref q5, .ref q6, .ref q7, .ref q8, .ref q9, .ref q10, .ref q11, .ref q12, .ref q13, .ref q14, .int (iI nd1), .int (iI xr), .int (iI al)])), (q1, ia E 97 pa1), (q2, ia E 97 vb1), (q3, ia E 97 cd1), (q4, ia E 291 cn1), (q5, ia E 12 xc), (q6, ia E 97 xw), (q7, ia E 97 sa), (q8, ia E 97 ph), (q9, ia E 97 xm), (q10, ia E 97 xa), (q11, ia E 12 tg), (q12, ia E 1164 xt), (q13, ia E 12 xn), (q14, ia E 12 xv)] [.int (iI x), .int (iI i)] [] (c_X4_answerAt E w0 w1 w2 w3 w4 L V A N y x i (by first | assumption | omega)) dX2_plantRow_19 gX2_plantRow_X4_answerAt ⟨rfl, ⟨rfl, rfl⟩, e_X4_answerAt, ⟨Nat.le_of_ble_eq_true rfl, Nat.le_of_ble_eq_true rfl⟩, Nat.le_of_ble_eq_true rfl, Nat.le_of_ble_eq_true rfl, Nat.le_of_ble_eq_true rfl⟩ rfl rfl rfl rfl rfl (by decide +kernel) rfl (by decide +kernel) rfl (fun v9 w9 h9 => ?_)
        obtain ⟨o2, rfl, rfl, rfl⟩ := h9
        have b3 := hN (x * 12 + i)
        refine ⟨[(q0, .inr (2, [.ref q1, .ref q2, .ref q3, .ref q4, .ref q5, .ref q6, .ref q7, .ref q8, .ref q9, .ref q10, .ref q11, .ref q12, .ref q13, .ref q14, .int (iI nd1), .int (iI xr), .int (iI al)])), (q1, ia E 97 pa1), (q2, ia E 97 vb1), (q3, ia E 97 cd1), (q4, ia E 291 cn1), (q5, ia E 12 xc), (q6, ia E 97 xw), (q7, ia E 97 sa), (q8, ia E 97 ph), (q9, ia E 97 xm), (q10, ia E 97 xa), (q11, ia E 12 tg), (q12, ia E 1164 xt), (q13, ia E 12 xn), (q14, ia E 12 xv), (w0, .inr (4, [.ref w1, .ref w2, .ref w3, .ref w4, .int (iI y)])), (w1, ia E 8 L), (w2, ia E 96 V), (w3, ia E 96 A), (w4, ia E 96 N)], ⟨rfl, rfl, rfl, rfl⟩, g_to 0 0 _ _ [.int (iI (N (x * 12 + i)))] rfl rfl rfl rfl rfl ?_⟩
        refine g_callSN (host := RX9) G [] [0, 1, 2, 3, 4, 5, 6, 7, 8, 9, 10, 11, 12, 13, 14, 15, 16, 17, 18, 19] 20 [(q0, .inr (2, [.ref q1, .ref q2, .ref q3, .ref q4, .ref q5, .ref q6, .ref q7, .ref q8, .ref q9, .ref q10, .ref q11, .ref q12, .ref q13, .ref q14, .int (iI nd1), .int (iI xr), .int (iI al)])), (q1, ia E 97 pa1), (q2, ia E 97 vb1), (q3, ia E 97 cd1), (q4, ia E 291 cn1), (q5, ia E 12 xc), (q6, ia E 97 xw), (q7, ia E 97 sa), (q8, ia E 97 ph), (q9, ia E 97 xm), (q10, ia E 97 xa), (q11, ia E 12 tg), (q12, ia E 1164 xt), (q13, ia E 12 xn), (q14, ia E 12 xv), (w0, .inr (4, [.ref w1, .ref w2, .ref w3, .ref w4, .int (iI y)])), (w1, ia E 8 L), (w2, ia E 96 V), (w3, ia E 96 A), (w4, ia E 96 N)] [.int (iI (N (x * 12 + i)))] [] (c_X9_codeOf E (N (x * 12 + i)) (by first | assumption | omega)) dX2_plantRow_22 gX2_plantRow_X9_codeOf_n110 (by decide +kernel) (by decide +kernel) (by decide +kernel) ⟨rfl, ⟨rfl, rfl⟩, e_X9_codeOf, ⟨Nat.le_of_ble_eq_true rfl, Nat.le_of_ble_eq_true rfl⟩, Nat.le_of_ble_eq_true rfl, Nat.le_of_ble_eq_true rfl, Nat.le_of_ble_eq_true rfl⟩ rfl (by decide +kernel) rfl (by decide +kernel) rfl (fun v9 w9 h9 => ?_)
        obtain ⟨o4, rfl, rfl, rfl⟩ := h9
        refine ⟨[(q0, .inr (2, [.ref q1, .ref q2, .ref q3, .ref q4, .ref q5, .ref q6, .ref q7, .ref q8, .ref q9, .ref q10, .ref q11, .ref q12, .ref q13, .ref q14, .int (iI nd1), .int (iI xr), .int (iI al)])), (q1, ia E 97 pa1), (q2, ia E 97 vb1), (q3, ia E 97 cd1), (q4, ia E 291 cn1), (q5, ia E 12 xc), (q6, ia E 97 xw), (q7, ia E 97 sa), (q8, ia E 97 ph), (q9, ia E 97 xm), (q10, ia E 97 xa), (q11, ia E 12 tg), (q12, ia E 1164 xt), (q13, ia E 12 xn), (q14, ia E 12 xv), (w0, .inr (4, [.ref w1, .ref w2, .ref w3, .ref w4, .int (iI y)])), (w1, ia E 8 L), (w2, ia E 96 V), (w3, ia E 96 A), (w4, ia E 96 N)], ⟨rfl, rfl, rfl, rfl⟩, g_to 0 0 _ _ [.int (iI ((N (x * 12 + i)) / 10000))] rfl rfl rfl rfl rfl ?_⟩
        refine g_istore G [(0, .ref q0), (1, .ref w0), (2, .int (iI x)), (3, .int (iI nx)), (4, .int (iI i)), (5, .int (iI ((N (x * 12 + i)) / 10000)))] dX2_plantRow_25 (by decide) rfl rfl ?_
        refine g_aload_n G 0 dX2_plantRow_27 rfl ?_
        refine g_iload_n G 3 dX2_plantRow_28 rfl ?_
        refine g_aload_n G 1 dX2_plantRow_29 rfl ?_
        refine g_iload_n G 2 dX2_plantRow_30 rfl ?_
        refine g_iload G 4 dX2_plantRow_31 rfl ?_
        refine g_callV G [15, 16, 17, 18, 19] [0, 1, 2, 3, 4, 5, 6, 7, 8, 9, 10, 11, 12, 13, 14] 20 [(q0, .inr (2, [.ref q1, .ref q2, .ref q3, .ref q4, .ref q5, .ref q6, .ref q7, .ref q8, .ref q9, .ref q10, .ref q11, .ref q12, .ref q13, .ref q14, .int (iI nd1), .int (iI xr), .int (iI al)])), (q1, ia E 97 pa1), (q2, ia E 97 vb1), (q3, ia E 97 cd1), (q4, ia E 291 cn1), (q5, ia E 12 xc), (q6, ia E 97 xw), (q7, ia E 97 sa), (q8, ia E 97 ph), (q9, ia E 97 xm), (q10, ia E 97 xa), (q11, ia E 12 tg), (q12, ia E 1164 xt), (q13, ia E 12 xn), (q14, ia E 12 xv)] [.int (iI x), .int (iI i)] [.int (iI nx), .ref q0] (c_X4_verbAt E w0 w1 w2 w3 w4 L V A N y x i (by first | assumption | omega)) dX2_plantRow_33 gX2_plantRow_X4_verbAt ⟨rfl, ⟨rfl, rfl⟩, e_X4_verbAt, ⟨Nat.le_of_ble_eq_true rfl, Nat.le_of_ble_eq_true rfl⟩, Nat.le_of_ble_eq_true rfl, Nat.le_of_ble_eq_true rfl, Nat.le_of_ble_eq_true rfl⟩ rfl rfl rfl rfl rfl (by decide +kernel) rfl (by decide +kernel) rfl (fun v9 w9 h9 => ?_)
        obtain ⟨o5, rfl, rfl, rfl⟩ := h9
        have b6 := hV (x * 12 + i)
        have b9 := hV (x * 12 + i)
        refine ⟨[(q0, .inr (2, [.ref q1, .ref q2, .ref q3, .ref q4, .ref q5, .ref q6, .ref q7, .ref q8, .ref q9, .ref q10, .ref q11, .ref q12, .ref q13, .ref q14, .int (iI nd1), .int (iI xr), .int (iI al)])), (q1, ia E 97 pa1), (q2, ia E 97 vb1), (q3, ia E 97 cd1), (q4, ia E 291 cn1), (q5, ia E 12 xc), (q6, ia E 97 xw), (q7, ia E 97 sa), (q8, ia E 97 ph), (q9, ia E 97 xm), (q10, ia E 97 xa), (q11, ia E 12 tg), (q12, ia E 1164 xt), (q13, ia E 12 xn), (q14, ia E 12 xv), (w0, .inr (4, [.ref w1, .ref w2, .ref w3, .ref w4, .int (iI y)])), (w1, ia E 8 L), (w2, ia E 96 V), (w3, ia E 96 A), (w4, ia E 96 N)], ⟨rfl, rfl, rfl, rfl⟩, g_to 0 0 _ _ [.int (iI (V (x * 12 + i))), .int (iI nx), .ref q0] rfl rfl rfl rfl rfl ?_⟩
        refine g_iload G 5 dX2_plantRow_36 rfl ?_
        have bc : 0 ≤ N (x * 12 + i) / 10000 ∧ N (x * 12 + i) / 10000 < 4 := by omega
        obtain ⟨hn0, hn1, hcn, hpa, hvb, hcd⟩ := id hTk
        refine g_callV G [0, 1, 2, 3, 4, 5, 6, 7, 8, 9, 10, 11, 12, 13, 14] [15, 16, 17, 18, 19] 20 [(w0, .inr (4, [.ref w1, .ref w2, .ref w3, .ref w4, .int (iI y)])), (w1, ia E 8 L), (w2, ia E 96 V), (w3, ia E 96 A), (w4, ia E 96 N)] [.int (iI nx), .int (iI (V (x * 12 + i))), .int (iI ((N (x * 12 + i)) / 10000))] [] (c_X2_childOf E q0 q1 q2 q3 q4 q5 q6 q7 q8 q9 q10 q11 q12 q13 q14 pa1 vb1 cd1 cn1 xc xw sa ph xm xa tg xt xn xv nd1 xr al nx (V (x * 12 + i)) ((N (x * 12 + i)) / 10000) (by omega) (by omega) (by exact hTk)) dX2_plantRow_38 gX2_plantRow_X2_childOf ⟨rfl, ⟨rfl, rfl⟩, e_X2_childOf, ⟨Nat.le_of_ble_eq_true rfl, Nat.le_of_ble_eq_true rfl⟩, Nat.le_of_ble_eq_true rfl, Nat.le_of_ble_eq_true rfl, Nat.le_of_ble_eq_true rfl⟩ rfl rfl rfl rfl rfl (by decide +kernel) rfl (by decide +kernel) rfl (fun v9 w9 h9 => ?_)
        obtain ⟨r2, pa2, vb2, cd2, cn2, nd2, rfl, rfl, hc2⟩ := h9
        refine ⟨[(q0, .inr (2, [.ref q1, .ref q2, .ref q3, .ref q4, .ref q5, .ref q6, .ref q7, .ref q8, .ref q9, .ref q10, .ref q11, .ref q12, .ref q13, .ref q14, .int (iI nd2), .int (iI xr), .int (iI al)])), (q1, ia E 97 pa2), (q2, ia E 97 vb2), (q3, ia E 97 cd2), (q4, ia E 291 cn2), (q5, ia E 12 xc), (q6, ia E 97 xw), (q7, ia E 97 sa), (q8, ia E 97 ph), (q9, ia E 97 xm), (q10, ia E 97 xa), (q11, ia E 12 tg), (q12, ia E 1164 xt), (q13, ia E 12 xn), (q14, ia E 12 xv), (w0, .inr (4, [.ref w1, .ref w2, .ref w3, .ref w4, .int (iI y)])), (w1, ia E 8 L), (w2, ia E 96 V), (w3, ia E 96 A), (w4, ia E 96 N)], ⟨rfl, rfl, rfl, rfl⟩, g_to 0 0 _ _ [.int (iI r2)] rfl rfl rfl rfl rfl ?_⟩
        refine g_istore_n G [(0, .ref q0), (1, .ref w0), (2, .int (iI x)), (3, .int (iI r2)), (4, .int (iI i)), (5, .int (iI ((N (x * 12 + i)) / 10000)))] dX2_plantRow_41 (by decide) rfl rfl ?_
        have hT2 := TOk.ch hTk (show 0 ≤ nx ∧ nx < nd1 by omega) b9 bc hc2
        obtain ⟨hT2, hr2⟩ := hT2
        have eup := nP_up (ptS V N) x hi.1 (pa, vb, cd, cn, nd, 0)
        rw [hS] at eup
        have eup2 : nP (ptS V N) x (i + 1).toNat (pa, vb, cd, cn, nd, 0) = (pa2, vb2, cd2, cn2, nd2, r2) := eup.trans hc2
        have hn1b := hT2.2.1
        have bcd := hT2.2.2.2.2.2 r2
        refine g_aload_n G 0 dX2_plantRow_42 rfl ?_
        refine g_get G 0 2 dX2_plantRow_43 i_X2_plantRow_X2 f_X2_plantRow_18 rfl rfl (by decide) rfl ?_
        refine g_iload_n G 3 dX2_plantRow_46 rfl ?_
        refine g_iald G 3 dX2_plantRow_47 rfl (by omega) (by omega) (by decide) ?_
        refine g_iload G 5 dX2_plantRow_48 rfl ?_
        refine g_icmp_eq G 55 dX2_plantRow_50 (by decide) (by omega) (by omega) (fun c50 => ?_) (fun c50 => ?_)
        · refine g_iinc G 4 [(0, .ref q0), (1, .ref w0), (2, .int (iI x)), (3, .int (iI r2)), (4, .int (iI (i + 1))), (5, .int (iI ((N (x * 12 + i)) / 10000)))] dX2_plantRow_55 rfl (by decide) rfl rfl ?_
          refine g_goto G 5 dX2_plantRow_58 (by decide) ?_
          refine g_lv G [0, 1, 2, 3, 4] (lv' := [(0, .ref q0), (1, .ref w0), (2, .int (iI x)), (3, .int (iI r2)), (4, .int (iI (i + 1)))]) rfl ?_
          exact ih5 (i + 1) r2 pa2 vb2 cd2 cn2 nd2 (by first | assumption | omega) (by exact hT2) (by exact hr2) (by exact eup2) (by intro j hj; by_cases q : j = i; (subst q; unfold ptG; rw [eup2]; exact c50); exact hgd j (by omega)) (by omega)
        · refine g_iconst G dX2_plantRow_53 ?_
          exact g_ret G (some (.int (iI 0))) rfl dX2_plantRow_54 (Nat.le_refl _) (Nat.le_refl _) ⟨0, pa2, vb2, cd2, cn2, nd2, rfl, rfl, by exact Or.inr ⟨rfl, i, by omega, _, eup2, by unfold ptG; rw [eup2]; exact c50⟩, by exact hT2⟩
  exact L5 ((L x - 0 : Int).toNat + 1) 0 0 pa vb cd cn nd (by omega) (by exact hT) (by have := hT.1; omega) (by rfl) (by intro j hj; omega) (by omega)
