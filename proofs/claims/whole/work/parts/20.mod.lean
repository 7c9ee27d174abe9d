def AllOk (g : Int → Int) : Prop := (∀ i, -100000 ≤ g i ∧ g i ≤ 100000) ∧ (0 ≤ g 0 ∧ g 0 ≤ 8) ∧ ∀ r, 0 ≤ r → r < 8 → 0 ≤ g (10 + r) ∧ g (10 + r) ≤ 12
/-- the reference's exchange: the six numbers laid, then the length -/
def exA (g : Int → Int) (x v s y : Int) : Int → Int := upI (upI (upI (upI (upI (upI g (20 + 72 * x + 6 * g (10 + x)) v) (20 + 72 * x + 6 * g (10 + x) + 1) (s / 100)) (20 + 72 * x + 6 * g (10 + x) + 2) (s % 100)) (20 + 72 * x + 6 * g (10 + x) + 3) (y / 10000)) (20 + 72 * x + 6 * g (10 + x) + 4) (y / 100 % 100)) (20 + 72 * x + 6 * g (10 + x) + 5) (y % 100)
theorem exA_lo (g : Int → Int) {x i : Int} (v s y : Int) (h : 0 ≤ x ∧ 0 ≤ g (10 + x)) (hi : i < 20) : exA g x v s y i = g i := by
  unfold exA
  rw [upI_ne _ _ (by omega), upI_ne _ _ (by omega), upI_ne _ _ (by omega), upI_ne _ _ (by omega), upI_ne _ _ (by omega), upI_ne _ _ (by omega)]
def exI (g : Int → Int) (x v s y : Int) : Int → Int := upI (exA g x v s y) (10 + x) (g (10 + x) + 1)
noncomputable def qAt (g : Int → Int) (x y : Int) : Int := qpl (fun p => g (20 + 72 * x + 6 * p + 0) ≠ g (20 + 72 * y + 6 * p + 0)) (fun p => g (20 + 72 * x + 6 * p + 3) ≠ g (20 + 72 * y + 6 * p + 3)) (min (g (10 + x)) (g (10 + y))).toNat 0
def ahI (g : Int → Int) (x y : Int) : Int := sumI (fun k => if g (20 + 72 * x + 6 * k + 0) = g (20 + 72 * x + 6 * y + 0) then 1 else 0) y.toNat
def ltI (g : Int → Int) (x y : Int) : Nat → Int
  | 0 => -1
  | n + 1 => if g (20 + 72 * x + 6 * n + 1) = g (20 + 72 * x + 6 * y + 1) then g (20 + 72 * x + 6 * n + 2) else ltI g x y n
theorem ltI_up (g : Int → Int) (x y : Int) {i : Int} (h : 0 ≤ i) : ltI g x y (i + 1).toNat = if g (20 + 72 * x + 6 * i + 1) = g (20 + 72 * x + 6 * y + 1) then g (20 + 72 * x + 6 * i + 2) else ltI g x y i.toNat := by
  rw [(show (i + 1).toNat = i.toNat + 1 by omega)]
  show (if g (20 + 72 * x + 6 * ((i.toNat : Nat) : Int) + 1) = _ then g (20 + 72 * x + 6 * ((i.toNat : Nat) : Int) + 2) else _) = _
  rw [(show ((i.toNat : Nat) : Int) = i by omega)]
set_option maxRecDepth 100000 in
set_option maxHeartbeats 4000000 in
theorem c_X10_isIn (E : qE) (x : Int) (a : Int) (b : Int) (hx : -2147483648 ≤ x ∧ x < 2147483648) (ha : -2147483648 ≤ a ∧ a < 2147483648) (hb : -2147483648 ≤ b ∧ b < 2147483648) : Cn E yX10_isIn wsX10_isIn { frames := 0, cells := 0, slots := 0, locals := 0 } [.int (iI x), .int (iI a), .int (iI b)] [] (fun v9 w9 => ∃ (r : Int), v9 = some (.int (iI r)) ∧ w9 = [] ∧ r = (if a ≤ x ∧ x ≤ b then 1 else 0)) 0 0 := by
  refine Cn.ofP (own := RX10) (cc := cX10_isIn) (maxL := 3) (ret := (some .boolean)) false [(0, .int (iI x)), (1, .int (iI a)), (2, .int (iI b))] (by decide +kernel) rfl rfl (Nat.le_of_ble_eq_true rfl) rfl (fun h => nomatch h) (fun v w h => by obtain ⟨r, rfl, h9⟩ := h; exact ⟨_, rfl, by (refine iI_b01 ?_; first | rw [h9.2] | rw [h9.2.1]); split <;> simp⟩) ?_
  intro P G
  refine g_iload_n G 0 dX10_isIn_0 rfl ?_
  refine g_iload_n G 1 dX10_isIn_1 rfl ?_
  refine g_icmp_lt G 14 dX10_isIn_2 (by decide) (by omega) (by omega) (fun c2 => ?_) (fun c2 => ?_)
  · refine g_iconst G dX10_isIn_14 ?_
    exact g_ret G (some (.int (iI 0))) rfl dX10_isIn_15 (Nat.le_refl _) (Nat.le_refl _) ⟨0, rfl, rfl, by first | rfl | omega | (split <;> omega)⟩
  · refine g_iload_n G 0 dX10_isIn_5 rfl ?_
    refine g_iload_n G 2 dX10_isIn_6 rfl ?_
    refine g_icmp_gt G 14 dX10_isIn_7 (by decide) (by omega) (by omega) (fun c7 => ?_) (fun c7 => ?_)
    · refine g_iconst G dX10_isIn_14 ?_
      exact g_ret G (some (.int (iI 0))) rfl dX10_isIn_15 (Nat.le_refl _) (Nat.le_refl _) ⟨0, rfl, rfl, by first | rfl | omega | (split <;> omega)⟩
    · refine g_iconst G dX10_isIn_10 ?_
      refine g_goto G 15 dX10_isIn_11 (by decide) ?_
      exact g_ret G (some (.int (iI 1))) rfl dX10_isIn_15 (Nat.le_refl _) (Nat.le_refl _) ⟨1, rfl, rfl, by first | rfl | omega | (split <;> omega)⟩
theorem f_X10_clearsFields_7 : Cond.fieldLink RX10 7 (TX10 0).1 (TX10 0).2.1 (TX10 0).2.2.1 ∈ wsX10_clearsFields := by decide +kernel
theorem i_X10_clearsFields_X10 : ∀ w ∈ wsX100, w ∈ wsX10_clearsFields := by decide +kernel
set_option maxRecDepth 100000 in
set_option maxHeartbeats 4000000 in
theorem c_X10_clearsFields (E : qE) (q0 : Nat) (q1 : Nat) (q2 : Nat) (q3 : Nat) (q4 : Nat) (q5 : Nat) (q6 : Nat) (q7 : Nat) (q8 : Nat) (q9 : Nat) (q10 : Nat) (q11 : Nat) (c0 : Int) (la : Int) (ch : Int) (us : Int) (g : Int → Int)  : Cn E yX10_clearsFields wsX10_clearsFields { frames := 0, cells := 0, slots := 0, locals := 0 } [.ref q0] [(q0, .inr (10, [.ref q1, .ref q2, .ref q3, .int (iI c0), .ref q4, .ref q5, .int (iI la), .ref q6, .ref q7, .ref q8, .ref q9, .ref q10, .ref q11, .int (iI ch), .int (iI us)])), (q1, ia E 5400 g)] (fun v9 w9 => v9 = none ∧ w9 = [(q0, .inr (10, [.ref q1, .ref q2, .ref q3, .int (iI c0), .ref q4, .ref q5, .int (iI la), .ref q6, .ref q7, .ref q8, .ref q9, .ref q10, .ref q11, .int (iI ch), .int (iI us)])), (q1, ia E 5400 (upI (upI g 5 (-1000)) 6 (-1000)))]) 0 0 := by
  refine Cn.ofP (own := RX10) (cc := cX10_clearsFields) (maxL := 1) (ret := none) false [(0, .ref q0)] (by decide +kernel) rfl rfl (Nat.le_of_ble_eq_true rfl) rfl (fun h => nomatch h) (fun v w h => by obtain ⟨rfl, h9⟩ := h; exact (rfl : (none : Option FieldType) = none)) ?_
  intro P G
  refine g_aload_n G 0 dX10_clearsFields_0 rfl ?_
  refine g_get G 0 0 dX10_clearsFields_1 i_X10_clearsFields_X10 f_X10_clearsFields_7 rfl rfl (by decide) rfl ?_
  refine g_iconst G dX10_clearsFields_4 ?_
  refine g_sipush G dX10_clearsFields_5 (by decide +kernel) ?_
  refine g_iast G 1 [(q0, .inr (10, [.ref q1, .ref q2, .ref q3, .int (iI c0), .ref q4, .ref q5, .int (iI la), .ref q6, .ref q7, .ref q8, .ref q9, .ref q10, .ref q11, .int (iI ch), .int (iI us)])), (q1, ia E 5400 (upI g 5 (-1000)))] dX10_clearsFields_8 rfl (by omega) (by omega) (by decide) rfl ?_
  refine g_aload_n G 0 dX10_clearsFields_9 rfl ?_
  refine g_get G 0 0 dX10_clearsFields_10 i_X10_clearsFields_X10 f_X10_clearsFields_7 rfl rfl (by decide) rfl ?_
  refine g_bipush G dX10_clearsFields_13 (by decide +kernel) ?_
  refine g_sipush G dX10_clearsFields_15 (by decide +kernel) ?_
  refine g_iast G 1 [(q0, .inr (10, [.ref q1, .ref q2, .ref q3, .int (iI c0), .ref q4, .ref q5, .int (iI la), .ref q6, .ref q7, .ref q8, .ref q9, .ref q10, .ref q11, .int (iI ch), .int (iI us)])), (q1, ia E 5400 (upI (upI g 5 (-1000)) 6 (-1000)))] dX10_clearsFields_18 rfl (by omega) (by omega) (by decide) rfl ?_
  exact g_ret G none rfl dX10_clearsFields_19 (Nat.le_refl _) (Nat.le_refl _) ⟨rfl, rfl⟩
theorem f_X10_isRow_7 : Cond.fieldLink RX10 7 (TX10 0).1 (TX10 0).2.1 (TX10 0).2.2.1 ∈ wsX10_isRow := by decide +kernel
theorem i_X10_isRow_X10 : ∀ w ∈ wsX100, w ∈ wsX10_isRow := by decide +kernel
theorem e_X10_isIn : yX10_isIn.cls ≠ "java/lang/invoke/MethodHandle" ∧ yX10_isIn.cls ≠ "java/lang/invoke/VarHandle" ∧ (parseMethodDescriptor yX10_isIn.desc).map (fun d => d.parameters.length) = some 3 := by decide +kernel
set_option maxRecDepth 100000 in
set_option maxHeartbeats 4000000 in
theorem c_X10_isRow (E : qE) (q0 : Nat) (q1 : Nat) (q2 : Nat) (q3 : Nat) (q4 : Nat) (q5 : Nat) (q6 : Nat) (q7 : Nat) (q8 : Nat) (q9 : Nat) (q10 : Nat) (q11 : Nat) (c0 : Int) (la : Int) (ch : Int) (us : Int) (g : Int → Int) (x : Int) (hG : AllOk g) (hx : -2147483648 ≤ x ∧ x < 2147483648) : Cn E yX10_isRow wsX10_isRow { frames := 1, cells := 0, slots := 0, locals := 22 } [.ref q0, .int (iI x)] [(q0, .inr (10, [.ref q1, .ref q2, .ref q3, .int (iI c0), .ref q4, .ref q5, .int (iI la), .ref q6, .ref q7, .ref q8, .ref q9, .ref q10, .ref q11, .int (iI ch), .int (iI us)])), (q1, ia E 5400 g)] (fun v9 w9 => ∃ (r : Int), v9 = some (.int (iI r)) ∧ w9 = [(q0, .inr (10, [.ref q1, .ref q2, .ref q3, .int (iI c0), .ref q4, .ref q5, .int (iI la), .ref q6, .ref q7, .ref q8, .ref q9, .ref q10, .ref q11, .int (iI ch), .int (iI us)])), (q1, ia E 5400 g)] ∧ r = (if 0 ≤ x ∧ x ≤ g 0 - 1 then 1 else 0)) 0 0 := by
  refine Cn.ofP (own := RX10) (cc := cX10_isRow) (maxL := 2) (ret := (some .boolean)) false [(0, .ref q0), (1, .int (iI x))] (by decide +kernel) rfl rfl (Nat.le_of_ble_eq_true rfl) rfl (fun h => nomatch h) (fun v w h => by obtain ⟨r, rfl, h9⟩ := h; exact ⟨_, rfl, by (refine iI_b01 ?_; first | rw [h9.2] | rw [h9.2.1]); split <;> simp⟩) ?_
  intro P G
  obtain ⟨hg, hg0, hgs⟩ := id hG
  refine g_iload_n G 1 dX10_isRow_0 rfl ?_
  refine g_iconst G dX10_isRow_1 ?_
  refine g_aload_n G 0 dX10_isRow_2 rfl ?_
  refine g_get G 0 0 dX10_isRow_3 i_X10_isRow_X10 f_X10_isRow_7 rfl rfl (by decide) rfl ?_
  refine g_iconst G dX10_isRow_6 ?_
  refine g_iald G 1 dX10_isRow_7 rfl (by omega) (by omega) (by decide) ?_
  have b1 := hg 0
  refine g_iconst G dX10_isRow_8 ?_
  refine g_isub G dX10_isRow_9 ?_
  refine g_callS G [] [0, 1] 2 [(q0, .inr (10, [.ref q1, .ref q2, .ref q3, .int (iI c0), .ref q4, .ref q5, .int (iI la), .ref q6, .ref q7, .ref q8, .ref q9, .ref q10, .ref q11, .int (iI ch), .int (iI us)])), (q1, ia E 5400 g)] [.int (iI x), .int (iI 0), .int (iI ((g 0) - 1))] [] (c_X10_isIn E x 0 ((g 0) - 1) (by first | assumption | omega) (by first | assumption | omega) (by first | assumption | omega)) dX10_isRow_10 gX10_isRow_X10_isIn ⟨rfl, ⟨rfl, rfl⟩, e_X10_isIn, ⟨Nat.le_of_ble_eq_true rfl, Nat.le_of_ble_eq_true rfl⟩, Nat.le_of_ble_eq_true rfl, Nat.le_of_ble_eq_true rfl, Nat.le_of_ble_eq_true rfl⟩ rfl (by decide +kernel) rfl (by decide +kernel) rfl (fun v9 w9 h9 => ?_)
  obtain ⟨o2, rfl, rfl, rfl⟩ := h9
  refine ⟨[(q0, .inr (10, [.ref q1, .ref q2, .ref q3, .int (iI c0), .ref q4, .ref q5, .int (iI la), .ref q6, .ref q7, .ref q8, .ref q9, .ref q10, .ref q11, .int (iI ch), .int (iI us)])), (q1, ia E 5400 g)], ⟨rfl, rfl, rfl, rfl⟩, g_to 0 0 _ _ [.int (iI (if 0 ≤ x ∧ x ≤ ((g 0) - 1) then 1 else 0))] rfl rfl rfl rfl rfl ?_⟩
  exact g_ret G (some (.int (iI (if 0 ≤ x ∧ x ≤ ((g 0) - 1) then 1 else 0)))) rfl dX10_isRow_13 (Nat.le_refl _) (Nat.le_refl _) ⟨(if 0 ≤ x ∧ x ≤ ((g 0) - 1) then 1 else 0), rfl, rfl, by first | rfl | omega | (split <;> omega)⟩
theorem f_X10_sizeOf_7 : Cond.fieldLink RX10 7 (TX10 0).1 (TX10 0).2.1 (TX10 0).2.2.1 ∈ wsX10_sizeOf := by decide +kernel
theorem i_X10_sizeOf_X10 : ∀ w ∈ wsX100, w ∈ wsX10_sizeOf := by decide +kernel
set_option maxRecDepth 100000 in
set_option maxHeartbeats 4000000 in
theorem c_X10_sizeOf (E : qE) (q0 : Nat) (q1 : Nat) (q2 : Nat) (q3 : Nat) (q4 : Nat) (q5 : Nat) (q6 : Nat) (q7 : Nat) (q8 : Nat) (q9 : Nat) (q10 : Nat) (q11 : Nat) (c0 : Int) (la : Int) (ch : Int) (us : Int) (g : Int → Int) (x : Int) (hx : 0 ≤ x ∧ x < 8) : Cn E yX10_sizeOf wsX10_sizeOf { frames := 0, cells := 0, slots := 0, locals := 0 } [.ref q0, .int (iI x)] [(q0, .inr (10, [.ref q1, .ref q2, .ref q3, .int (iI c0), .ref q4, .ref q5, .int (iI la), .ref q6, .ref q7, .ref q8, .ref q9, .ref q10, .ref q11, .int (iI ch), .int (iI us)])), (q1, ia E 5400 g)] (fun v9 w9 => ∃ (r : Int), v9 = some (.int (iI r)) ∧ w9 = [(q0, .inr (10, [.ref q1, .ref q2, .ref q3, .int (iI c0), .ref q4, .ref q5, .int (iI la), .ref q6, .ref q7, .ref q8, .ref q9, .ref q10, .ref q11, .int (iI ch), .int (iI us)])), (q1, ia E 5400 g)] ∧ r = (g (10 + x))) 0 0 := by
  refine Cn.ofP (own := RX10) (cc := cX10_sizeOf) (maxL := 2) (ret := (some .int)) false [(0, .ref q0), (1, .int (iI x))] (by decide +kernel) rfl rfl (Nat.le_of_ble_eq_true rfl) rfl (fun h => nomatch h) (fun v w h => by obtain ⟨r, rfl, h9⟩ := h; exact ⟨_, rfl, rfl⟩) ?_
  intro P G
  refine g_aload_n G 0 dX10_sizeOf_0 rfl ?_
  refine g_get G 0 0 dX10_sizeOf_1 i_X10_sizeOf_X10 f_X10_sizeOf_7 rfl rfl (by decide) rfl ?_
  refine g_bipush G dX10_sizeOf_4 (by decide +kernel) ?_
  refine g_iload_n G 1 dX10_sizeOf_6 rfl ?_
  refine g_iadd G dX10_sizeOf_7 ?_
  refine g_iald G 1 dX10_sizeOf_8 rfl (by omega) (by omega) (by decide) ?_
  exact g_ret G (some (.int (iI (g (10 + x))))) rfl dX10_sizeOf_9 (Nat.le_refl _) (Nat.le_refl _) ⟨(g (10 + x)), rfl, rfl, by first | rfl | omega | (split <;> omega)⟩
theorem f_X10_of_7 : Cond.fieldLink RX10 7 (TX10 0).1 (TX10 0).2.1 (TX10 0).2.2.1 ∈ wsX10_of := by decide +kernel
theorem i_X10_of_X10 : ∀ w ∈ wsX100, w ∈ wsX10_of := by decide +kernel
set_option maxRecDepth 100000 in
set_option maxHeartbeats 4000000 in
theorem c_X10_of (E : qE) (q0 : Nat) (q1 : Nat) (q2 : Nat) (q3 : Nat) (q4 : Nat) (q5 : Nat) (q6 : Nat) (q7 : Nat) (q8 : Nat) (q9 : Nat) (q10 : Nat) (q11 : Nat) (c0 : Int) (la : Int) (ch : Int) (us : Int) (g : Int → Int) (x : Int) (y : Int) (v : Int) (hx : 0 ≤ x ∧ x < 8) (hy : 0 ≤ y ∧ y < 12) (hv : 0 ≤ v ∧ v < 6) : Cn E yX10_of wsX10_of { frames := 0, cells := 0, slots := 0, locals := 0 } [.ref q0, .int (iI x), .int (iI y), .int (iI v)] [(q0, .inr (10, [.ref q1, .ref q2, .ref q3, .int (iI c0), .ref q4, .ref q5, .int (iI la), .ref q6, .ref q7, .ref q8, .ref q9, .ref q10, .ref q11, .int (iI ch), .int (iI us)])), (q1, ia E 5400 g)] (fun v9 w9 => ∃ (r : Int), v9 = some (.int (iI r)) ∧ w9 = [(q0, .inr (10, [.ref q1, .ref q2, .ref q3, .int (iI c0), .ref q4, .ref q5, .int (iI la), .ref q6, .ref q7, .ref q8, .ref q9, .ref q10, .ref q11, .int (iI ch), .int (iI us)])), (q1, ia E 5400 g)] ∧ r = (g (20 + 72 * x + 6 * y + v))) 0 0 := by
  refine Cn.ofP (own := RX10) (cc := cX10_of) (maxL := 4) (ret := (some .int)) false [(0, .ref q0), (1, .int (iI x)), (2, .int (iI y)), (3, .int (iI v))] (by decide +kernel) rfl rfl (Nat.le_of_ble_eq_true rfl) rfl (fun h => nomatch h) (fun v w h => by obtain ⟨r, rfl, h9⟩ := h; exact ⟨_, rfl, rfl⟩) ?_
  intro P G
  refine g_aload_n G 0 dX10_of_0 rfl ?_
  refine g_get G 0 0 dX10_of_1 i_X10_of_X10 f_X10_of_7 rfl rfl (by decide) rfl ?_
  refine g_bipush G dX10_of_4 (by decide +kernel) ?_
  refine g_bipush G dX10_of_6 (by decide +kernel) ?_
  refine g_iload_n G 1 dX10_of_8 rfl ?_
  refine g_imul G dX10_of_9 ?_
  refine g_iadd G dX10_of_10 ?_
  refine g_bipush G dX10_of_11 (by decide +kernel) ?_
  refine g_iload_n G 2 dX10_of_13 rfl ?_
  refine g_imul G dX10_of_14 ?_
  refine g_iadd G dX10_of_15 ?_
  refine g_iload_n G 3 dX10_of_16 rfl ?_
  refine g_iadd G dX10_of_17 ?_
  refine g_iald G 1 dX10_of_18 rfl (by omega) (by omega) (by decide) ?_
  exact g_ret G (some (.int (iI (g (((20 + (72 * x)) + (6 * y)) + v))))) rfl dX10_of_19 (Nat.le_refl _) (Nat.le_refl _) ⟨(g (((20 + (72 * x)) + (6 * y)) + v)), rfl, rfl, by first | rfl | omega | (split <;> omega)⟩
theorem f_X10_row_7 : Cond.fieldLink RX10 7 (TX10 0).1 (TX10 0).2.1 (TX10 0).2.2.1 ∈ wsX10_row := by decide +kernel
theorem i_X10_row_X10 : ∀ w ∈ wsX100, w ∈ wsX10_row := by decide +kernel
set_option maxRecDepth 100000 in
set_option maxHeartbeats 4000000 in
theorem c_X10_row (E : qE) (q0 : Nat) (q1 : Nat) (q2 : Nat) (q3 : Nat) (q4 : Nat) (q5 : Nat) (q6 : Nat) (q7 : Nat) (q8 : Nat) (q9 : Nat) (q10 : Nat) (q11 : Nat) (c0 : Int) (la : Int) (ch : Int) (us : Int) (g : Int → Int) (hG : AllOk g) : Cn E yX10_row wsX10_row { frames := 0, cells := 0, slots := 0, locals := 0 } [.ref q0] [(q0, .inr (10, [.ref q1, .ref q2, .ref q3, .int (iI c0), .ref q4, .ref q5, .int (iI la), .ref q6, .ref q7, .ref q8, .ref q9, .ref q10, .ref q11, .int (iI ch), .int (iI us)])), (q1, ia E 5400 g)] (fun v9 w9 => ∃ (r : Int) (g' : Int → Int), v9 = some (.int (iI r)) ∧ w9 = [(q0, .inr (10, [.ref q1, .ref q2, .ref q3, .int (iI c0), .ref q4, .ref q5, .int (iI la), .ref q6, .ref q7, .ref q8, .ref q9, .ref q10, .ref q11, .int (iI ch), .int (iI us)])), (q1, ia E 5400 g')] ∧ r = (if g 0 = 8 then -1 else g 0) ∧ g' = (if g 0 = 8 then g else upI (upI g (10 + g 0) 0) 0 (g 0 + 1))) 0 0 := by
  refine Cn.ofP (own := RX10) (cc := cX10_row) (maxL := 1) (ret := (some .int)) false [(0, .ref q0)] (by decide +kernel) rfl rfl (Nat.le_of_ble_eq_true rfl) rfl (fun h => nomatch h) (fun v w h => by obtain ⟨r, g', rfl, h9⟩ := h; exact ⟨_, rfl, rfl⟩) ?_
  intro P G
  obtain ⟨hg, hg0, hgs⟩ := id hG
  refine g_aload_n G 0 dX10_row_0 rfl ?_
  refine g_get G 0 0 dX10_row_1 i_X10_row_X10 f_X10_row_7 rfl rfl (by decide) rfl ?_
  refine g_iconst G dX10_row_4 ?_
  refine g_iald G 1 dX10_row_5 rfl (by omega) (by omega) (by decide) ?_
  have b1 := hg 0
  refine g_bipush G dX10_row_6 (by decide +kernel) ?_
  refine g_icmp_ne G 13 dX10_row_8 (by decide) (by omega) (by omega) (fun c8 => ?_) (fun c8 => ?_)
  · refine g_aload_n G 0 dX10_row_13 rfl ?_
    refine g_get G 0 0 dX10_row_14 i_X10_row_X10 f_X10_row_7 rfl rfl (by decide) rfl ?_
    refine g_bipush G dX10_row_17 (by decide +kernel) ?_
    refine g_aload_n G 0 dX10_row_19 rfl ?_
    refine g_get G 0 0 dX10_row_20 i_X10_row_X10 f_X10_row_7 rfl rfl (by decide) rfl ?_
    refine g_iconst G dX10_row_23 ?_
    refine g_iald G 1 dX10_row_24 rfl (by omega) (by omega) (by decide) ?_
    have b2 := hg 0
    refine g_iadd G dX10_row_25 ?_
    refine g_iconst G dX10_row_26 ?_
    refine g_iast G 1 [(q0, .inr (10, [.ref q1, .ref q2, .ref q3, .int (iI c0), .ref q4, .ref q5, .int (iI la), .ref q6, .ref q7, .ref q8, .ref q9, .ref q10, .ref q11, .int (iI ch), .int (iI us)])), (q1, ia E 5400 (upI g (10 + (g 0)) 0))] dX10_row_27 rfl (by omega) (by omega) (by decide) rfl ?_
    have e0 : upI g (10 + g 0) 0 0 = g 0 := upI_ne _ _ (by omega)
    refine g_aload_n G 0 dX10_row_28 rfl ?_
    refine g_get G 0 0 dX10_row_29 i_X10_row_X10 f_X10_row_7 rfl rfl (by decide) rfl ?_
    refine g_iconst G dX10_row_32 ?_
    refine g_dup2 G dX10_row_33 rfl rfl ?_
    refine g_iald G 1 dX10_row_34 rfl (by omega) (by omega) (by decide) ?_
    refine g_iconst G dX10_row_35 ?_
    refine g_iadd G dX10_row_36 ?_
    refine g_iast G 1 [(q0, .inr (10, [.ref q1, .ref q2, .ref q3, .int (iI c0), .ref q4, .ref q5, .int (iI la), .ref q6, .ref q7, .ref q8, .ref q9, .ref q10, .ref q11, .int (iI ch), .int (iI us)])), (q1, ia E 5400 (upI (upI g (10 + (g 0)) 0) 0 (((upI g (10 + (g 0)) 0) 0) + 1)))] dX10_row_37 rfl (by omega) (by omega) (by decide) rfl ?_
    refine g_aload_n G 0 dX10_row_38 rfl ?_
    refine g_get G 0 0 dX10_row_39 i_X10_row_X10 f_X10_row_7 rfl rfl (by decide) rfl ?_
    refine g_iconst G dX10_row_42 ?_
    refine g_iald G 1 dX10_row_43 rfl (by omega) (by omega) (by decide) ?_
    refine g_iconst G dX10_row_44 ?_
    refine g_isub G dX10_row_45 ?_
    exact g_ret G (some (.int (iI (((upI (upI g (10 + (g 0)) 0) 0 (((upI g (10 + (g 0)) 0) 0) + 1)) 0) - 1)))) rfl dX10_row_46 (Nat.le_refl _) (Nat.le_refl _) ⟨(((upI (upI g (10 + (g 0)) 0) 0 (((upI g (10 + (g 0)) 0) 0) + 1)) 0) - 1), (upI (upI g (10 + (g 0)) 0) 0 (((upI g (10 + (g 0)) 0) 0) + 1)), rfl, rfl, by first | (rw [if_pos c8]; done) | (rw [if_neg c8, e0]; done) | (rw [if_neg c8, upI_same, e0]; omega), by first | (rw [if_pos c8]; done) | (rw [if_neg c8, e0]; done) | (rw [if_neg c8, upI_same, e0]; omega)⟩
  · refine g_iconst G dX10_row_11 ?_
    exact g_ret G (some (.int (iI (-1)))) rfl dX10_row_12 (Nat.le_refl _) (Nat.le_refl _) ⟨(-1), g, rfl, rfl, by first | (rw [if_pos c8]; done) | (rw [if_neg c8, e0]; done) | (rw [if_neg c8, upI_same, e0]; omega), by first | (rw [if_pos c8]; done) | (rw [if_neg c8, e0]; done) | (rw [if_neg c8, upI_same, e0]; omega)⟩
theorem e_X10_isRow : yX10_isRow.cls ≠ "java/lang/invoke/MethodHandle" ∧ yX10_isRow.cls ≠ "java/lang/invoke/VarHandle" ∧ (parseMethodDescriptor yX10_isRow.desc).map (fun d => d.parameters.length) = some 1 := by decide +kernel
theorem e_X10_sizeOf : yX10_sizeOf.cls ≠ "java/lang/invoke/MethodHandle" ∧ yX10_sizeOf.cls ≠ "java/lang/invoke/VarHandle" ∧ (parseMethodDescriptor yX10_sizeOf.desc).map (fun d => d.parameters.length) = some 1 := by decide +kernel
theorem f_X10_exchange_7 : Cond.fieldLink RX10 7 (TX10 0).1 (TX10 0).2.1 (TX10 0).2.2.1 ∈ wsX10_exchange := by decide +kernel
theorem i_X10_exchange_X10 : ∀ w ∈ wsX100, w ∈ wsX10_exchange := by decide +kernel
set_option maxRecDepth 100000 in
set_option maxHeartbeats 4000000 in
theorem c_X10_exchange (E : qE) (q0 : Nat) (q1 : Nat) (q2 : Nat) (q3 : Nat) (q4 : Nat) (q5 : Nat) (q6 : Nat) (q7 : Nat) (q8 : Nat) (q9 : Nat) (q10 : Nat) (q11 : Nat) (c0 : Int) (la : Int) (ch : Int) (us : Int) (g : Int → Int) (x : Int) (v : Int) (s : Int) (y : Int) (hG : AllOk g) (hx : -2147483648 ≤ x ∧ x < 2147483648) (hv : -2147483648 ≤ v ∧ v < 2147483648) (hs : -2147483648 ≤ s ∧ s < 2147483648) (hy : -2147483648 ≤ y ∧ y < 2147483648) : Cn E yX10_exchange wsX10_exchange { frames := 2, cells := 0, slots := 0, locals := 43 } [.ref q0, .int (iI x), .int (iI v), .int (iI s), .int (iI y)] [(q0, .inr (10, [.ref q1, .ref q2, .ref q3, .int (iI c0), .ref q4, .ref q5, .int (iI la), .ref q6, .ref q7, .ref q8, .ref q9, .ref q10, .ref q11, .int (iI ch), .int (iI us)])), (q1, ia E 5400 g)] (fun v9 w9 => ∃ (r : Int) (g' : Int → Int), v9 = some (.int (iI r)) ∧ w9 = [(q0, .inr (10, [.ref q1, .ref q2, .ref q3, .int (iI c0), .ref q4, .ref q5, .int (iI la), .ref q6, .ref q7, .ref q8, .ref q9, .ref q10, .ref q11, .int (iI ch), .int (iI us)])), (q1, ia E 5400 g')] ∧ r = (if (0 ≤ x ∧ x ≤ g 0 - 1 ∧ 0 ≤ v ∧ v ≤ 2 ∧ 0 ≤ s ∧ s ≤ 9999 ∧ 0 ≤ y ∧ y ≤ 39999 ∧ g (10 + x) ≠ 12) then g (10 + x) else -1) ∧ g' = (if (0 ≤ x ∧ x ≤ g 0 - 1 ∧ 0 ≤ v ∧ v ≤ 2 ∧ 0 ≤ s ∧ s ≤ 9999 ∧ 0 ≤ y ∧ y ≤ 39999 ∧ g (10 + x) ≠ 12) then exI g x v s y else g)) 0 0 := by
  refine Cn.ofP (own := RX10) (cc := cX10_exchange) (maxL := 6) (ret := (some .int)) false [(0, .ref q0), (1, .int (iI x)), (2, .int (iI v)), (3, .int (iI s)), (4, .int (iI y))] (by decide +kernel) rfl rfl (Nat.le_of_ble_eq_true rfl) rfl (fun h => nomatch h) (fun v w h => by obtain ⟨r, g', rfl, h9⟩ := h; exact ⟨_, rfl, rfl⟩) ?_
  intro P G
  obtain ⟨hg, hg0, hgs⟩ := id hG
  refine g_aload_n G 0 dX10_exchange_0 rfl ?_
  refine g_iload_n G 1 dX10_exchange_1 rfl ?_
  refine g_callV G [0, 1] [] 2 [] [.int (iI x)] [] (c_X10_isRow E q0 q1 q2 q3 q4 q5 q6 q7 q8 q9 q10 q11 c0 la ch us g x (by first | assumption | omega) (by first | assumption | omega)) dX10_exchange_2 gX10_exchange_X10_isRow ⟨rfl, ⟨rfl, rfl⟩, e_X10_isRow, ⟨Nat.le_of_ble_eq_true rfl, Nat.le_of_ble_eq_true rfl⟩, Nat.le_of_ble_eq_true rfl, Nat.le_of_ble_eq_true rfl, Nat.le_of_ble_eq_true rfl⟩ rfl rfl rfl rfl rfl (by decide +kernel) rfl (by decide +kernel) rfl (fun v9 w9 h9 => ?_)
  obtain ⟨o1, rfl, rfl, rfl⟩ := h9
  refine ⟨[(q0, .inr (10, [.ref q1, .ref q2, .ref q3, .int (iI c0), .ref q4, .ref q5, .int (iI la), .ref q6, .ref q7, .ref q8, .ref q9, .ref q10, .ref q11, .int (iI ch), .int (iI us)])), (q1, ia E 5400 g)], ⟨rfl, rfl, rfl, rfl⟩, g_to 0 0 _ _ [.int (iI (if 0 ≤ x ∧ x ≤ g 0 - 1 then 1 else 0))] rfl rfl rfl rfl rfl ?_⟩
  refine g_ifb_eq G 49 dX10_exchange_5 (by decide) (fun c5 => ?_) (fun c5 => ?_)
  · refine g_iconst G dX10_exchange_49 ?_
    exact g_ret G (some (.int (iI (-1)))) rfl dX10_exchange_50 (Nat.le_refl _) (Nat.le_refl _) ⟨(-1), g, rfl, rfl, by first | (rw [if_neg (by omega)]; done) | (rw [if_pos (by omega), upI_same]; show exA g x v s y (10 + x) + 1 - 1 = _; rw [e0]; omega), by first | (rw [if_neg (by omega)]; done) | (rw [if_pos (by omega)]; show upI (exA g x v s y) (10 + x) (exA g x v s y (10 + x) + 1) = _; rw [e0]; rfl)⟩
  · refine g_iload_n G 2 dX10_exchange_8 rfl ?_
    refine g_iconst G dX10_exchange_9 ?_
    refine g_iconst G dX10_exchange_10 ?_
    refine g_callS G [] [0, 1] 2 [(q0, .inr (10, [.ref q1, .ref q2, .ref q3, .int (iI c0), .ref q4, .ref q5, .int (iI la), .ref q6, .ref q7, .ref q8, .ref q9, .ref q10, .ref q11, .int (iI ch), .int (iI us)])), (q1, ia E 5400 g)] [.int (iI v), .int (iI 0), .int (iI 2)] [] (c_X10_isIn E v 0 2 (by first | assumption | omega) (by first | assumption | omega) (by first | assumption | omega)) dX10_exchange_11 gX10_exchange_X10_isIn ⟨rfl, ⟨rfl, rfl⟩, e_X10_isIn, ⟨Nat.le_of_ble_eq_true rfl, Nat.le_of_ble_eq_true rfl⟩, Nat.le_of_ble_eq_true rfl, Nat.le_of_ble_eq_true rfl, Nat.le_of_ble_eq_true rfl⟩ rfl (by decide +kernel) rfl (by decide +kernel) rfl (fun v9 w9 h9 => ?_)
    obtain ⟨o2, rfl, rfl, rfl⟩ := h9
    refine ⟨[(q0, .inr (10, [.ref q1, .ref q2, .ref q3, .int (iI c0), .ref q4, .ref q5, .int (iI la), .ref q6, .ref q7, .ref q8, .ref q9, .ref q10, .ref q11, .int (iI ch), .int (iI us)])), (q1, ia E 5400 g)], ⟨rfl, rfl, rfl, rfl⟩, g_to 0 0 _ _ [.int (iI (if 0 ≤ v ∧ v ≤ 2 then 1 else 0))] rfl rfl rfl rfl rfl ?_⟩
    refine g_ifb_eq G 49 dX10_exchange_14 (by decide) (fun c14 => ?_) (fun c14 => ?_)
    · refine g_iconst G dX10_exchange_49 ?_
      exact g_ret G (some (.int (iI (-1)))) rfl dX10_exchange_50 (Nat.le_refl _) (Nat.le_refl _) ⟨(-1), g, rfl, rfl, by first | (rw [if_neg (by omega)]; done) | (rw [if_pos (by omega), upI_same]; show exA g x v s y (10 + x) + 1 - 1 = _; rw [e0]; omega), by first | (rw [if_neg (by omega)]; done) | (rw [if_pos (by omega)]; show upI (exA g x v s y) (10 + x) (exA g x v s y (10 + x) + 1) = _; rw [e0]; rfl)⟩
    · refine g_iload_n G 3 dX10_exchange_17 rfl ?_
      refine g_iconst G dX10_exchange_18 ?_
      refine g_sipush G dX10_exchange_19 (by decide +kernel) ?_
      refine g_callS G [] [0, 1] 2 [(q0, .inr (10, [.ref q1, .ref q2, .ref q3, .int (iI c0), .ref q4, .ref q5, .int (iI la), .ref q6, .ref q7, .ref q8, .ref q9, .ref q10, .ref q11, .int (iI ch), .int (iI us)])), (q1, ia E 5400 g)] [.int (iI s), .int (iI 0), .int (iI 9999)] [] (c_X10_isIn E s 0 9999 (by first | assumption | omega) (by first | assumption | omega) (by first | assumption | omega)) dX10_exchange_22 gX10_exchange_X10_isIn ⟨rfl, ⟨rfl, rfl⟩, e_X10_isIn, ⟨Nat.le_of_ble_eq_true rfl, Nat.le_of_ble_eq_true rfl⟩, Nat.le_of_ble_eq_true rfl, Nat.le_of_ble_eq_true rfl, Nat.le_of_ble_eq_true rfl⟩ rfl (by decide +kernel) rfl (by decide +kernel) rfl (fun v9 w9 h9 => ?_)
      obtain ⟨o3, rfl, rfl, rfl⟩ := h9
      refine ⟨[(q0, .inr (10, [.ref q1, .ref q2, .ref q3, .int (iI c0), .ref q4, .ref q5, .int (iI la), .ref q6, .ref q7, .ref q8, .ref q9, .ref q10, .ref q11, .int (iI ch), .int (iI us)])), (q1, ia E 5400 g)], ⟨rfl, rfl, rfl, rfl⟩, g_to 0 0 _ _ [.int (iI (if 0 ≤ s ∧ s ≤ 9999 then 1 else 0))] rfl rfl rfl rfl rfl ?_⟩
      refine g_ifb_eq G 49 dX10_exchange_25 (by decide) (fun c25 => ?_) (fun c25 => ?_)
      · refine g_iconst G dX10_exchange_49 ?_
        exact g_ret G (some (.int (iI (-1)))) rfl dX10_exchange_50 (Nat.le_refl _) (Nat.le_refl _) ⟨(-1), g, rfl, rfl, by first | (rw [if_neg (by omega)]; done) | (rw [if_pos (by omega), upI_same]; show exA g x v s y (10 + x) + 1 - 1 = _; rw [e0]; omega), by first | (rw [if_neg (by omega)]; done) | (rw [if_pos (by omega)]; show upI (exA g x v s y) (10 + x) (exA g x v s y (10 + x) + 1) = _; rw [e0]; rfl)⟩
      · refine g_iload G 4 dX10_exchange_28 rfl ?_
        refine g_iconst G dX10_exchange_30 ?_
        refine g_ldc G (39999) dX10_exchange_31 (by decide +kernel) ?_
        refine g_callS G [] [0, 1] 2 [(q0, .inr (10, [.ref q1, .ref q2, .ref q3, .int (iI c0), .ref q4, .ref q5, .int (iI la), .ref q6, .ref q7, .ref q8, .ref q9, .ref q10, .ref q11, .int (iI ch), .int (iI us)])), (q1, ia E 5400 g)] [.int (iI y), .int (iI 0), .int (iI 39999)] [] (c_X10_isIn E y 0 39999 (by first | assumption | omega) (by first | assumption | omega) (by first | assumption | omega)) dX10_exchange_33 gX10_exchange_X10_isIn ⟨rfl, ⟨rfl, rfl⟩, e_X10_isIn, ⟨Nat.le_of_ble_eq_true rfl, Nat.le_of_ble_eq_true rfl⟩, Nat.le_of_ble_eq_true rfl, Nat.le_of_ble_eq_true rfl, Nat.le_of_ble_eq_true rfl⟩ rfl (by decide +kernel) rfl (by decide +kernel) rfl (fun v9 w9 h9 => ?_)
        obtain ⟨o4, rfl, rfl, rfl⟩ := h9
        refine ⟨[(q0, .inr (10, [.ref q1, .ref q2, .ref q3, .int (iI c0), .ref q4, .ref q5, .int (iI la), .ref q6, .ref q7, .ref q8, .ref q9, .ref q10, .ref q11, .int (iI ch), .int (iI us)])), (q1, ia E 5400 g)], ⟨rfl, rfl, rfl, rfl⟩, g_to 0 0 _ _ [.int (iI (if 0 ≤ y ∧ y ≤ 39999 then 1 else 0))] rfl rfl rfl rfl rfl ?_⟩
        refine g_ifb_eq G 49 dX10_exchange_36 (by decide) (fun c36 => ?_) (fun c36 => ?_)
        · refine g_iconst G dX10_exchange_49 ?_
          exact g_ret G (some (.int (iI (-1)))) rfl dX10_exchange_50 (Nat.le_refl _) (Nat.le_refl _) ⟨(-1), g, rfl, rfl, by first | (rw [if_neg (by omega)]; done) | (rw [if_pos (by omega), upI_same]; show exA g x v s y (10 + x) + 1 - 1 = _; rw [e0]; omega), by first | (rw [if_neg (by omega)]; done) | (rw [if_pos (by omega)]; show upI (exA g x v s y) (10 + x) (exA g x v s y (10 + x) + 1) = _; rw [e0]; rfl)⟩
        · have hx1 := hgs x (by omega) (by omega)
          refine g_aload_n G 0 dX10_exchange_39 rfl ?_
          refine g_iload_n G 1 dX10_exchange_40 rfl ?_
          refine g_callV G [0, 1] [] 2 [] [.int (iI x)] [] (c_X10_sizeOf E q0 q1 q2 q3 q4 q5 q6 q7 q8 q9 q10 q11 c0 la ch us g x (by first | assumption | omega)) dX10_exchange_41 gX10_exchange_X10_sizeOf ⟨rfl, ⟨rfl, rfl⟩, e_X10_sizeOf, ⟨Nat.le_of_ble_eq_true rfl, Nat.le_of_ble_eq_true rfl⟩, Nat.le_of_ble_eq_true rfl, Nat.le_of_ble_eq_true rfl, Nat.le_of_ble_eq_true rfl⟩ rfl rfl rfl rfl rfl (by decide +kernel) rfl (by decide +kernel) rfl (fun v9 w9 h9 => ?_)
          obtain ⟨o5, rfl, rfl, rfl⟩ := h9
          have b6 := hg (10 + x)
          refine ⟨[(q0, .inr (10, [.ref q1, .ref q2, .ref q3, .int (iI c0), .ref q4, .ref q5, .int (iI la), .ref q6, .ref q7, .ref q8, .ref q9, .ref q10, .ref q11, .int (iI ch), .int (iI us)])), (q1, ia E 5400 g)], ⟨rfl, rfl, rfl, rfl⟩, g_to 0 0 _ _ [.int (iI (g (10 + x)))] rfl rfl rfl rfl rfl ?_⟩
          refine g_bipush G dX10_exchange_44 (by decide +kernel) ?_
          refine g_icmp_ne G 51 dX10_exchange_46 (by decide) (by omega) (by omega) (fun c46 => ?_) (fun c46 => ?_)
          · have hx2 := hgs x (by omega) (by omega)
            refine g_bipush G dX10_exchange_51 (by decide +kernel) ?_
            refine g_bipush G dX10_exchange_53 (by decide +kernel) ?_
            refine g_iload_n G 1 dX10_exchange_55 rfl ?_
            refine g_imul G dX10_exchange_56 ?_
            refine g_iadd G dX10_exchange_57 ?_
            refine g_bipush G dX10_exchange_58 (by decide +kernel) ?_
            refine g_aload_n G 0 dX10_exchange_60 rfl ?_
            refine g_iload_n G 1 dX10_exchange_61 rfl ?_
            refine g_callV G [0, 1] [] 2 [] [.int (iI x)] [.int (iI 6), .int (iI (20 + (72 * x)))] (c_X10_sizeOf E q0 q1 q2 q3 q4 q5 q6 q7 q8 q9 q10 q11 c0 la ch us g x (by first | assumption | omega)) dX10_exchange_62 gX10_exchange_X10_sizeOf ⟨rfl, ⟨rfl, rfl⟩, e_X10_sizeOf, ⟨Nat.le_of_ble_eq_true rfl, Nat.le_of_ble_eq_true rfl⟩, Nat.le_of_ble_eq_true rfl, Nat.le_of_ble_eq_true rfl, Nat.le_of_ble_eq_true rfl⟩ rfl rfl rfl rfl rfl (by decide +kernel) rfl (by decide +kernel) rfl (fun v9 w9 h9 => ?_)
            obtain ⟨o7, rfl, rfl, rfl⟩ := h9
            have b8 := hg (10 + x)
            refine ⟨[(q0, .inr (10, [.ref q1, .ref q2, .ref q3, .int (iI c0), .ref q4, .ref q5, .int (iI la), .ref q6, .ref q7, .ref q8, .ref q9, .ref q10, .ref q11, .int (iI ch), .int (iI us)])), (q1, ia E 5400 g)], ⟨rfl, rfl, rfl, rfl⟩, g_to 0 0 _ _ [.int (iI (g (10 + x))), .int (iI 6), .int (iI (20 + (72 * x)))] rfl rfl rfl rfl rfl ?_⟩
            refine g_imul G dX10_exchange_65 ?_
            refine g_iadd G dX10_exchange_66 ?_
            refine g_istore G [(0, .ref q0), (1, .int (iI x)), (2, .int (iI v)), (3, .int (iI s)), (4, .int (iI y)), (5, .int (iI ((20 + (72 * x)) + (6 * (g (10 + x))))))] dX10_exchange_67 (by decide) rfl rfl ?_
            refine g_aload_n G 0 dX10_exchange_69 rfl ?_
            refine g_get G 0 0 dX10_exchange_70 i_X10_exchange_X10 f_X10_exchange_7 rfl rfl (by decide) rfl ?_
            refine g_iload G 5 dX10_exchange_73 rfl ?_
            refine g_iload_n G 2 dX10_exchange_75 rfl ?_
            refine g_iast G 1 [(q0, .inr (10, [.ref q1, .ref q2, .ref q3, .int (iI c0), .ref q4, .ref q5, .int (iI la), .ref q6, .ref q7, .ref q8, .ref q9, .ref q10, .ref q11, .int (iI ch), .int (iI us)])), (q1, ia E 5400 (upI g ((20 + (72 * x)) + (6 * (g (10 + x)))) v))] dX10_exchange_76 rfl (by omega) (by omega) (by decide) rfl ?_
            refine g_aload_n G 0 dX10_exchange_77 rfl ?_
            refine g_get G 0 0 dX10_exchange_78 i_X10_exchange_X10 f_X10_exchange_7 rfl rfl (by decide) rfl ?_
            refine g_iload G 5 dX10_exchange_81 rfl ?_
            refine g_iconst G dX10_exchange_83 ?_
            refine g_iadd G dX10_exchange_84 ?_
            refine g_iload_n G 3 dX10_exchange_85 rfl ?_
            refine g_bipush G dX10_exchange_86 (by decide +kernel) ?_
            refine g_idiv G dX10_exchange_88 (by omega) (by omega) (by omega) (by omega) ?_
            refine g_iast G 1 [(q0, .inr (10, [.ref q1, .ref q2, .ref q3, .int (iI c0), .ref q4, .ref q5, .int (iI la), .ref q6, .ref q7, .ref q8, .ref q9, .ref q10, .ref q11, .int (iI ch), .int (iI us)])), (q1, ia E 5400 (upI (upI g ((20 + (72 * x)) + (6 * (g (10 + x)))) v) (((20 + (72 * x)) + (6 * (g (10 + x)))) + 1) (s / 100)))] dX10_exchange_89 rfl (by omega) (by omega) (by decide) rfl ?_
            refine g_aload_n G 0 dX10_exchange_90 rfl ?_
            refine g_get G 0 0 dX10_exchange_91 i_X10_exchange_X10 f_X10_exchange_7 rfl rfl (by decide) rfl ?_
            refine g_iload G 5 dX10_exchange_94 rfl ?_
            refine g_iconst G dX10_exchange_96 ?_
            refine g_iadd G dX10_exchange_97 ?_
            refine g_iload_n G 3 dX10_exchange_98 rfl ?_
            refine g_bipush G dX10_exchange_99 (by decide +kernel) ?_
            refine g_irem G dX10_exchange_101 (by omega) (by omega) (by omega) (by omega) ?_
            refine g_iast G 1 [(q0, .inr (10, [.ref q1, .ref q2, .ref q3, .int (iI c0), .ref q4, .ref q5, .int (iI la), .ref q6, .ref q7, .ref q8, .ref q9, .ref q10, .ref q11, .int (iI ch), .int (iI us)])), (q1, ia E 5400 (upI (upI (upI g ((20 + (72 * x)) + (6 * (g (10 + x)))) v) (((20 + (72 * x)) + (6 * (g (10 + x)))) + 1) (s / 100)) (((20 + (72 * x)) + (6 * (g (10 + x)))) + 2) (s % 100)))] dX10_exchange_102 rfl (by omega) (by omega) (by decide) rfl ?_
            refine g_aload_n G 0 dX10_exchange_103 rfl ?_
            refine g_get G 0 0 dX10_exchange_104 i_X10_exchange_X10 f_X10_exchange_7 rfl rfl (by decide) rfl ?_
            refine g_iload G 5 dX10_exchange_107 rfl ?_
            refine g_iconst G dX10_exchange_109 ?_
            refine g_iadd G dX10_exchange_110 ?_
            refine g_iload G 4 dX10_exchange_111 rfl ?_
            refine g_sipush G dX10_exchange_113 (by decide +kernel) ?_
            refine g_idiv G dX10_exchange_116 (by omega) (by omega) (by omega) (by omega) ?_
            refine g_iast G 1 [(q0, .inr (10, [.ref q1, .ref q2, .ref q3, .int (iI c0), .ref q4, .ref q5, .int (iI la), .ref q6, .ref q7, .ref q8, .ref q9, .ref q10, .ref q11, .int (iI ch), .int (iI us)])), (q1, ia E 5400 (upI (upI (upI (upI g ((20 + (72 * x)) + (6 * (g (10 + x)))) v) (((20 + (72 * x)) + (6 * (g (10 + x)))) + 1) (s / 100)) (((20 + (72 * x)) + (6 * (g (10 + x)))) + 2) (s % 100)) (((20 + (72 * x)) + (6 * (g (10 + x)))) + 3) (y / 10000)))] dX10_exchange_117 rfl (by omega) (by omega) (by decide) rfl ?_
            refine g_aload_n G 0 dX10_exchange_118 rfl ?_
            refine g_get G 0 0 dX10_exchange_119 i_X10_exchange_X10 f_X10_exchange_7 rfl rfl (by decide) rfl ?_
            refine g_iload G 5 dX10_exchange_122 rfl ?_
            refine g_iconst G dX10_exchange_124 ?_
            refine g_iadd G dX10_exchange_125 ?_
            refine g_iload G 4 dX10_exchange_126 rfl ?_
            refine g_bipush G dX10_exchange_128 (by decide +kernel) ?_
            refine g_idiv G dX10_exchange_130 (by omega) (by omega) (by omega) (by omega) ?_
            refine g_bipush G dX10_exchange_131 (by decide +kernel) ?_
            refine g_irem G dX10_exchange_133 (by omega) (by omega) (by omega) (by omega) ?_
            refine g_iast G 1 [(q0, .inr (10, [.ref q1, .ref q2, .ref q3, .int (iI c0), .ref q4, .ref q5, .int (iI la), .ref q6, .ref q7, .ref q8, .ref q9, .ref q10, .ref q11, .int (iI ch), .int (iI us)])), (q1, ia E 5400 (upI (upI (upI (upI (upI g ((20 + (72 * x)) + (6 * (g (10 + x)))) v) (((20 + (72 * x)) + (6 * (g (10 + x)))) + 1) (s / 100)) (((20 + (72 * x)) + (6 * (g (10 + x)))) + 2) (s % 100)) (((20 + (72 * x)) + (6 * (g (10 + x)))) + 3) (y / 10000)) (((20 + (72 * x)) + (6 * (g (10 + x)))) + 4) ((y / 100) % 100)))] dX10_exchange_134 rfl (by omega) (by omega) (by decide) rfl ?_
            refine g_aload_n G 0 dX10_exchange_135 rfl ?_
            refine g_get G 0 0 dX10_exchange_136 i_X10_exchange_X10 f_X10_exchange_7 rfl rfl (by decide) rfl ?_
            refine g_iload G 5 dX10_exchange_139 rfl ?_
            refine g_iconst G dX10_exchange_141 ?_
            refine g_iadd G dX10_exchange_142 ?_
            refine g_iload G 4 dX10_exchange_143 rfl ?_
            refine g_bipush G dX10_exchange_145 (by decide +kernel) ?_
            refine g_irem G dX10_exchange_147 (by omega) (by omega) (by omega) (by omega) ?_
            refine g_iast G 1 [(q0, .inr (10, [.ref q1, .ref q2, .ref q3, .int (iI c0), .ref q4, .ref q5, .int (iI la), .ref q6, .ref q7, .ref q8, .ref q9, .ref q10, .ref q11, .int (iI ch), .int (iI us)])), (q1, ia E 5400 (upI (upI (upI (upI (upI (upI g ((20 + (72 * x)) + (6 * (g (10 + x)))) v) (((20 + (72 * x)) + (6 * (g (10 + x)))) + 1) (s / 100)) (((20 + (72 * x)) + (6 * (g (10 + x)))) + 2) (s % 100)) (((20 + (72 * x)) + (6 * (g (10 + x)))) + 3) (y / 10000)) (((20 + (72 * x)) + (6 * (g (10 + x)))) + 4) ((y / 100) % 100)) (((20 + (72 * x)) + (6 * (g (10 + x)))) + 5) (y % 100)))] dX10_exchange_148 rfl (by omega) (by omega) (by decide) rfl ?_
            have e0 : exA g x v s y (10 + x) = g (10 + x) := exA_lo g v s y (by omega) (by omega)
            refine g_aload_n G 0 dX10_exchange_149 rfl ?_
            refine g_get G 0 0 dX10_exchange_150 i_X10_exchange_X10 f_X10_exchange_7 rfl rfl (by decide) rfl ?_
            refine g_bipush G dX10_exchange_153 (by decide +kernel) ?_
            refine g_iload_n G 1 dX10_exchange_155 rfl ?_
            refine g_iadd G dX10_exchange_156 ?_
            refine g_dup2 G dX10_exchange_157 rfl rfl ?_
            refine g_iald G 1 dX10_exchange_158 rfl (by omega) (by omega) (by decide) ?_
            refine g_iconst G dX10_exchange_159 ?_
            refine g_iadd G dX10_exchange_160 ?_
            refine g_iast G 1 [(q0, .inr (10, [.ref q1, .ref q2, .ref q3, .int (iI c0), .ref q4, .ref q5, .int (iI la), .ref q6, .ref q7, .ref q8, .ref q9, .ref q10, .ref q11, .int (iI ch), .int (iI us)])), (q1, ia E 5400 (upI (upI (upI (upI (upI (upI (upI g ((20 + (72 * x)) + (6 * (g (10 + x)))) v) (((20 + (72 * x)) + (6 * (g (10 + x)))) + 1) (s / 100)) (((20 + (72 * x)) + (6 * (g (10 + x)))) + 2) (s % 100)) (((20 + (72 * x)) + (6 * (g (10 + x)))) + 3) (y / 10000)) (((20 + (72 * x)) + (6 * (g (10 + x)))) + 4) ((y / 100) % 100)) (((20 + (72 * x)) + (6 * (g (10 + x)))) + 5) (y % 100)) (10 + x) (((upI (upI (upI (upI (upI (upI g ((20 + (72 * x)) + (6 * (g (10 + x)))) v) (((20 + (72 * x)) + (6 * (g (10 + x)))) + 1) (s / 100)) (((20 + (72 * x)) + (6 * (g (10 + x)))) + 2) (s % 100)) (((20 + (72 * x)) + (6 * (g (10 + x)))) + 3) (y / 10000)) (((20 + (72 * x)) + (6 * (g (10 + x)))) + 4) ((y / 100) % 100)) (((20 + (72 * x)) + (6 * (g (10 + x)))) + 5) (y % 100)) (10 + x)) + 1)))] dX10_exchange_161 rfl (by omega) (by omega) (by decide) rfl ?_
            refine g_aload_n G 0 dX10_exchange_162 rfl ?_
            refine g_iload_n G 1 dX10_exchange_163 rfl ?_
            refine g_callV G [0, 1] [] 2 [] [.int (iI x)] [] (c_X10_sizeOf E q0 q1 q2 q3 q4 q5 q6 q7 q8 q9 q10 q11 c0 la ch us (upI (upI (upI (upI (upI (upI (upI g ((20 + (72 * x)) + (6 * (g (10 + x)))) v) (((20 + (72 * x)) + (6 * (g (10 + x)))) + 1) (s / 100)) (((20 + (72 * x)) + (6 * (g (10 + x)))) + 2) (s % 100)) (((20 + (72 * x)) + (6 * (g (10 + x)))) + 3) (y / 10000)) (((20 + (72 * x)) + (6 * (g (10 + x)))) + 4) ((y / 100) % 100)) (((20 + (72 * x)) + (6 * (g (10 + x)))) + 5) (y % 100)) (10 + x) (((upI (upI (upI (upI (upI (upI g ((20 + (72 * x)) + (6 * (g (10 + x)))) v) (((20 + (72 * x)) + (6 * (g (10 + x)))) + 1) (s / 100)) (((20 + (72 * x)) + (6 * (g (10 + x)))) + 2) (s % 100)) (((20 + (72 * x)) + (6 * (g (10 + x)))) + 3) (y / 10000)) (((20 + (72 * x)) + (6 * (g (10 + x)))) + 4) ((y / 100) % 100)) (((20 + (72 * x)) + (6 * (g (10 + x)))) + 5) (y % 100)) (10 + x)) + 1)) x (by first | assumption | omega)) dX10_exchange_164 gX10_exchange_X10_sizeOf ⟨rfl, ⟨rfl, rfl⟩, e_X10_sizeOf, ⟨Nat.le_of_ble_eq_true rfl, Nat.le_of_ble_eq_true rfl⟩, Nat.le_of_ble_eq_true rfl, Nat.le_of_ble_eq_true rfl, Nat.le_of_ble_eq_true rfl⟩ rfl rfl rfl rfl rfl (by decide +kernel) rfl (by decide +kernel) rfl (fun v9 w9 h9 => ?_)
            obtain ⟨o9, rfl, rfl, rfl⟩ := h9
            refine ⟨[(q0, .inr (10, [.ref q1, .ref q2, .ref q3, .int (iI c0), .ref q4, .ref q5, .int (iI la), .ref q6, .ref q7, .ref q8, .ref q9, .ref q10, .ref q11, .int (iI ch), .int (iI us)])), (q1, ia E 5400 (upI (upI (upI (upI (upI (upI (upI g ((20 + (72 * x)) + (6 * (g (10 + x)))) v) (((20 + (72 * x)) + (6 * (g (10 + x)))) + 1) (s / 100)) (((20 + (72 * x)) + (6 * (g (10 + x)))) + 2) (s % 100)) (((20 + (72 * x)) + (6 * (g (10 + x)))) + 3) (y / 10000)) (((20 + (72 * x)) + (6 * (g (10 + x)))) + 4) ((y / 100) % 100)) (((20 + (72 * x)) + (6 * (g (10 + x)))) + 5) (y % 100)) (10 + x) (((upI (upI (upI (upI (upI (upI g ((20 + (72 * x)) + (6 * (g (10 + x)))) v) (((20 + (72 * x)) + (6 * (g (10 + x)))) + 1) (s / 100)) (((20 + (72 * x)) + (6 * (g (10 + x)))) + 2) (s % 100)) (((20 + (72 * x)) + (6 * (g (10 + x)))) + 3) (y / 10000)) (((20 + (72 * x)) + (6 * (g (10 + x)))) + 4) ((y / 100) % 100)) (((20 + (72 * x)) + (6 * (g (10 + x)))) + 5) (y % 100)) (10 + x)) + 1)))], ⟨rfl, rfl, rfl, rfl⟩, g_to 0 0 _ _ [.int (iI ((upI (upI (upI (upI (upI (upI (upI g ((20 + (72 * x)) + (6 * (g (10 + x)))) v) (((20 + (72 * x)) + (6 * (g (10 + x)))) + 1) (s / 100)) (((20 + (72 * x)) + (6 * (g (10 + x)))) + 2) (s % 100)) (((20 + (72 * x)) + (6 * (g (10 + x)))) + 3) (y / 10000)) (((20 + (72 * x)) + (6 * (g (10 + x)))) + 4) ((y / 100) % 100)) (((20 + (72 * x)) + (6 * (g (10 + x)))) + 5) (y % 100)) (10 + x) (((upI (upI (upI (upI (upI (upI g ((20 + (72 * x)) + (6 * (g (10 + x)))) v) (((20 + (72 * x)) + (6 * (g (10 + x)))) + 1) (s / 100)) (((20 + (72 * x)) + (6 * (g (10 + x)))) + 2) (s % 100)) (((20 + (72 * x)) + (6 * (g (10 + x)))) + 3) (y / 10000)) (((20 + (72 * x)) + (6 * (g (10 + x)))) + 4) ((y / 100) % 100)) (((20 + (72 * x)) + (6 * (g (10 + x)))) + 5) (y % 100)) (10 + x)) + 1)) (10 + x)))] rfl rfl rfl rfl rfl ?_⟩
            refine g_iconst G dX10_exchange_167 ?_
            refine g_isub G dX10_exchange_168 ?_
            exact g_ret G (some (.int (iI (((upI (upI (upI (upI (upI (upI (upI g ((20 + (72 * x)) + (6 * (g (10 + x)))) v) (((20 + (72 * x)) + (6 * (g (10 + x)))) + 1) (s / 100)) (((20 + (72 * x)) + (6 * (g (10 + x)))) + 2) (s % 100)) (((20 + (72 * x)) + (6 * (g (10 + x)))) + 3) (y / 10000)) (((20 + (72 * x)) + (6 * (g (10 + x)))) + 4) ((y / 100) % 100)) (((20 + (72 * x)) + (6 * (g (10 + x)))) + 5) (y % 100)) (10 + x) (((upI (upI (upI (upI (upI (upI g ((20 + (72 * x)) + (6 * (g (10 + x)))) v) (((20 + (72 * x)) + (6 * (g (10 + x)))) + 1) (s / 100)) (((20 + (72 * x)) + (6 * (g (10 + x)))) + 2) (s % 100)) (((20 + (72 * x)) + (6 * (g (10 + x)))) + 3) (y / 10000)) (((20 + (72 * x)) + (6 * (g (10 + x)))) + 4) ((y / 100) % 100)) (((20 + (72 * x)) + (6 * (g (10 + x)))) + 5) (y % 100)) (10 + x)) + 1)) (10 + x)) - 1)))) rfl dX10_exchange_169 (Nat.le_refl _) (Nat.le_refl _) ⟨(((upI (upI (upI (upI (upI (upI (upI g ((20 + (72 * x)) + (6 * (g (10 + x)))) v) (((20 + (72 * x)) + (6 * (g (10 + x)))) + 1) (s / 100)) (((20 + (72 * x)) + (6 * (g (10 + x)))) + 2) (s % 100)) (((20 + (72 * x)) + (6 * (g (10 + x)))) + 3) (y / 10000)) (((20 + (72 * x)) + (6 * (g (10 + x)))) + 4) ((y / 100) % 100)) (((20 + (72 * x)) + (6 * (g (10 + x)))) + 5) (y % 100)) (10 + x) (((upI (upI (upI (upI (upI (upI g ((20 + (72 * x)) + (6 * (g (10 + x)))) v) (((20 + (72 * x)) + (6 * (g (10 + x)))) + 1) (s / 100)) (((20 + (72 * x)) + (6 * (g (10 + x)))) + 2) (s % 100)) (((20 + (72 * x)) + (6 * (g (10 + x)))) + 3) (y / 10000)) (((20 + (72 * x)) + (6 * (g (10 + x)))) + 4) ((y / 100) % 100)) (((20 + (72 * x)) + (6 * (g (10 + x)))) + 5) (y % 100)) (10 + x)) + 1)) (10 + x)) - 1), (upI (upI (upI (upI (upI (upI (upI g ((20 + (72 * x)) + (6 * (g (10 + x)))) v) (((20 + (72 * x)) + (6 * (g (10 + x)))) + 1) (s / 100)) (((20 + (72 * x)) + (6 * (g (10 + x)))) + 2) (s % 100)) (((20 + (72 * x)) + (6 * (g (10 + x)))) + 3) (y / 10000)) (((20 + (72 * x)) + (6 * (g (10 + x)))) + 4) ((y / 100) % 100)) (((20 + (72 * x)) + (6 * (g (10 + x)))) + 5) (y % 100)) (10 + x) (((upI (upI (upI (upI (upI (upI g ((20 + (72 * x)) + (6 * (g (10 + x)))) v) (((20 + (72 * x)) + (6 * (g (10 + x)))) + 1) (s / 100)) (((20 + (72 * x)) + (6 * (g (10 + x)))) + 2) (s % 100)) (((20 + (72 * x)) + (6 * (g (10 + x)))) + 3) (y / 10000)) (((20 + (72 * x)) + (6 * (g (10 + x)))) + 4) ((y / 100) % 100)) (((20 + (72 * x)) + (6 * (g (10 + x)))) + 5) (y % 100)) (10 + x)) + 1)), rfl, rfl, by first | (rw [if_neg (by omega)]; done) | (rw [if_pos (by omega), upI_same]; show exA g x v s y (10 + x) + 1 - 1 = _; rw [e0]; omega), by first | (rw [if_neg (by omega)]; done) | (rw [if_pos (by omega)]; show upI (exA g x v s y) (10 + x) (exA g x v s y (10 + x) + 1) = _; rw [e0]; rfl)⟩
          · refine g_iconst G dX10_exchange_49 ?_
            exact g_ret G (some (.int (iI (-1)))) rfl dX10_exchange_50 (Nat.le_refl _) (Nat.le_refl _) ⟨(-1), g, rfl, rfl, by first | (rw [if_neg (by omega)]; done) | (rw [if_pos (by omega), upI_same]; show exA g x v s y (10 + x) + 1 - 1 = _; rw [e0]; omega), by first | (rw [if_neg (by omega)]; done) | (rw [if_pos (by omega)]; show upI (exA g x v s y) (10 + x) (exA g x v s y (10 + x) + 1) = _; rw [e0]; rfl)⟩
theorem f_X10_cut_7 : Cond.fieldLink RX10 7 (TX10 0).1 (TX10 0).2.1 (TX10 0).2.2.1 ∈ wsX10_cut := by decide +kernel
theorem i_X10_cut_X10 : ∀ w ∈ wsX100, w ∈ wsX10_cut := by decide +kernel
set_option maxRecDepth 100000 in
set_option maxHeartbeats 4000000 in
theorem c_X10_cut (E : qE) (q0 : Nat) (q1 : Nat) (q2 : Nat) (q3 : Nat) (q4 : Nat) (q5 : Nat) (q6 : Nat) (q7 : Nat) (q8 : Nat) (q9 : Nat) (q10 : Nat) (q11 : Nat) (c0 : Int) (la : Int) (ch : Int) (us : Int) (g : Int → Int) (x : Int) (y : Int) (hG : AllOk g) (hx : -2147483648 ≤ x ∧ x < 2147483648) (hy : -2147483648 ≤ y ∧ y < 2147483648) : Cn E yX10_cut wsX10_cut { frames := 2, cells := 0, slots := 0, locals := 43 } [.ref q0, .int (iI x), .int (iI y)] [(q0, .inr (10, [.ref q1, .ref q2, .ref q3, .int (iI c0), .ref q4, .ref q5, .int (iI la), .ref q6, .ref q7, .ref q8, .ref q9, .ref q10, .ref q11, .int (iI ch), .int (iI us)])), (q1, ia E 5400 g)] (fun v9 w9 => ∃ (r : Int) (g' : Int → Int), v9 = some (.int (iI r)) ∧ w9 = [(q0, .inr (10, [.ref q1, .ref q2, .ref q3, .int (iI c0), .ref q4, .ref q5, .int (iI la), .ref q6, .ref q7, .ref q8, .ref q9, .ref q10, .ref q11, .int (iI ch), .int (iI us)])), (q1, ia E 5400 g')] ∧ r = (if 0 ≤ x ∧ x ≤ g 0 - 1 ∧ 0 ≤ y ∧ y ≤ g (10 + x) then 1 else 0) ∧ g' = (if 0 ≤ x ∧ x ≤ g 0 - 1 ∧ 0 ≤ y ∧ y ≤ g (10 + x) then upI g (10 + x) y else g)) 0 0 := by
  refine Cn.ofP (own := RX10) (cc := cX10_cut) (maxL := 3) (ret := (some .boolean)) false [(0, .ref q0), (1, .int (iI x)), (2, .int (iI y))] (by decide +kernel) rfl rfl (Nat.le_of_ble_eq_true rfl) rfl (fun h => nomatch h) (fun v w h => by obtain ⟨r, g', rfl, h9⟩ := h; exact ⟨_, rfl, by (refine iI_b01 ?_; first | rw [h9.2] | rw [h9.2.1]); split <;> simp⟩) ?_
  intro P G
  obtain ⟨hg, hg0, hgs⟩ := id hG
  refine g_aload_n G 0 dX10_cut_0 rfl ?_
  refine g_iload_n G 1 dX10_cut_1 rfl ?_
  refine g_callV G [0, 1] [] 2 [] [.int (iI x)] [] (c_X10_isRow E q0 q1 q2 q3 q4 q5 q6 q7 q8 q9 q10 q11 c0 la ch us g x (by first | assumption | omega) (by first | assumption | omega)) dX10_cut_2 gX10_cut_X10_isRow ⟨rfl, ⟨rfl, rfl⟩, e_X10_isRow, ⟨Nat.le_of_ble_eq_true rfl, Nat.le_of_ble_eq_true rfl⟩, Nat.le_of_ble_eq_true rfl, Nat.le_of_ble_eq_true rfl, Nat.le_of_ble_eq_true rfl⟩ rfl rfl rfl rfl rfl (by decide +kernel) rfl (by decide +kernel) rfl (fun v9 w9 h9 => ?_)
  obtain ⟨o1, rfl, rfl, rfl⟩ := h9
  refine ⟨[(q0, .inr (10, [.ref q1, .ref q2, .ref q3, .int (iI c0), .ref q4, .ref q5, .int (iI la), .ref q6, .ref q7, .ref q8, .ref q9, .ref q10, .ref q11, .int (iI ch), .int (iI us)])), (q1, ia E 5400 g)], ⟨rfl, rfl, rfl, rfl⟩, g_to 0 0 _ _ [.int (iI (if 0 ≤ x ∧ x ≤ g 0 - 1 then 1 else 0))] rfl rfl rfl rfl rfl ?_⟩
  refine g_ifb_eq G 21 dX10_cut_5 (by decide) (fun c5 => ?_) (fun c5 => ?_)
  · refine g_iconst G dX10_cut_21 ?_
    exact g_ret G (some (.int (iI 0))) rfl dX10_cut_22 (Nat.le_refl _) (Nat.le_refl _) ⟨0, g, rfl, rfl, by first | rfl | (rw [if_pos (by omega)]; done) | (rw [if_neg (by omega)]; done) | (rw [if_neg (by omega)]; omega) | omega, by first | rfl | (rw [if_pos (by omega)]; done) | (rw [if_neg (by omega)]; done) | (rw [if_neg (by omega)]; omega) | omega⟩
  · refine g_iload_n G 2 dX10_cut_8 rfl ?_
    refine g_iconst G dX10_cut_9 ?_
    refine g_aload_n G 0 dX10_cut_10 rfl ?_
    refine g_iload_n G 1 dX10_cut_11 rfl ?_
    refine g_callV G [0, 1] [] 2 [] [.int (iI x)] [.int (iI 0), .int (iI y)] (c_X10_sizeOf E q0 q1 q2 q3 q4 q5 q6 q7 q8 q9 q10 q11 c0 la ch us g x (by first | assumption | omega)) dX10_cut_12 gX10_cut_X10_sizeOf ⟨rfl, ⟨rfl, rfl⟩, e_X10_sizeOf, ⟨Nat.le_of_ble_eq_true rfl, Nat.le_of_ble_eq_true rfl⟩, Nat.le_of_ble_eq_true rfl, Nat.le_of_ble_eq_true rfl, Nat.le_of_ble_eq_true rfl⟩ rfl rfl rfl rfl rfl (by decide +kernel) rfl (by decide +kernel) rfl (fun v9 w9 h9 => ?_)
    obtain ⟨o2, rfl, rfl, rfl⟩ := h9
    have b3 := hg (10 + x)
    refine ⟨[(q0, .inr (10, [.ref q1, .ref q2, .ref q3, .int (iI c0), .ref q4, .ref q5, .int (iI la), .ref q6, .ref q7, .ref q8, .ref q9, .ref q10, .ref q11, .int (iI ch), .int (iI us)])), (q1, ia E 5400 g)], ⟨rfl, rfl, rfl, rfl⟩, g_to 0 0 _ _ [.int (iI (g (10 + x))), .int (iI 0), .int (iI y)] rfl rfl rfl rfl rfl ?_⟩
    refine g_callS G [] [0, 1] 2 [(q0, .inr (10, [.ref q1, .ref q2, .ref q3, .int (iI c0), .ref q4, .ref q5, .int (iI la), .ref q6, .ref q7, .ref q8, .ref q9, .ref q10, .ref q11, .int (iI ch), .int (iI us)])), (q1, ia E 5400 g)] [.int (iI y), .int (iI 0), .int (iI (g (10 + x)))] [] (c_X10_isIn E y 0 (g (10 + x)) (by first | assumption | omega) (by first | assumption | omega) (by first | assumption | omega)) dX10_cut_15 gX10_cut_X10_isIn ⟨rfl, ⟨rfl, rfl⟩, e_X10_isIn, ⟨Nat.le_of_ble_eq_true rfl, Nat.le_of_ble_eq_true rfl⟩, Nat.le_of_ble_eq_true rfl, Nat.le_of_ble_eq_true rfl, Nat.le_of_ble_eq_true rfl⟩ rfl (by decide +kernel) rfl (by decide +kernel) rfl (fun v9 w9 h9 => ?_)
    obtain ⟨o4, rfl, rfl, rfl⟩ := h9
    refine ⟨[(q0, .inr (10, [.ref q1, .ref q2, .ref q3, .int (iI c0), .ref q4, .ref q5, .int (iI la), .ref q6, .ref q7, .ref q8, .ref q9, .ref q10, .ref q11, .int (iI ch), .int (iI us)])), (q1, ia E 5400 g)], ⟨rfl, rfl, rfl, rfl⟩, g_to 0 0 _ _ [.int (iI (if 0 ≤ y ∧ y ≤ (g (10 + x)) then 1 else 0))] rfl rfl rfl rfl rfl ?_⟩
    refine g_ifb_ne G 23 dX10_cut_18 (by decide) (fun c18 => ?_) (fun c18 => ?_)
    · refine g_aload_n G 0 dX10_cut_23 rfl ?_
      refine g_get G 0 0 dX10_cut_24 i_X10_cut_X10 f_X10_cut_7 rfl rfl (by decide) rfl ?_
      refine g_bipush G dX10_cut_27 (by decide +kernel) ?_
      refine g_iload_n G 1 dX10_cut_29 rfl ?_
      refine g_iadd G dX10_cut_30 ?_
      refine g_iload_n G 2 dX10_cut_31 rfl ?_
      refine g_iast G 1 [(q0, .inr (10, [.ref q1, .ref q2, .ref q3, .int (iI c0), .ref q4, .ref q5, .int (iI la), .ref q6, .ref q7, .ref q8, .ref q9, .ref q10, .ref q11, .int (iI ch), .int (iI us)])), (q1, ia E 5400 (upI g (10 + x) y))] dX10_cut_32 rfl (by omega) (by omega) (by decide) rfl ?_
      refine g_iconst G dX10_cut_33 ?_
      exact g_ret G (some (.int (iI 1))) rfl dX10_cut_34 (Nat.le_refl _) (Nat.le_refl _) ⟨1, (upI g (10 + x) y), rfl, rfl, by first | rfl | (rw [if_pos (by omega)]; done) | (rw [if_neg (by omega)]; done) | (rw [if_neg (by omega)]; omega) | omega, by first | rfl | (rw [if_pos (by omega)]; done) | (rw [if_neg (by omega)]; done) | (rw [if_neg (by omega)]; omega) | omega⟩
    · refine g_iconst G dX10_cut_21 ?_
      exact g_ret G (some (.int (iI 0))) rfl dX10_cut_22 (Nat.le_refl _) (Nat.le_refl _) ⟨0, g, rfl, rfl, by first | rfl | (rw [if_pos (by omega)]; done) | (rw [if_neg (by omega)]; done) | (rw [if_neg (by omega)]; omega) | omega, by first | rfl | (rw [if_pos (by omega)]; done) | (rw [if_neg (by omega)]; done) | (rw [if_neg (by omega)]; omega) | omega⟩
theorem e_X10_of : yX10_of.cls ≠ "java/lang/invoke/MethodHandle" ∧ yX10_of.cls ≠ "java/lang/invoke/VarHandle" ∧ (parseMethodDescriptor yX10_of.desc).map (fun d => d.parameters.length) = some 3 := by decide +kernel
set_option maxRecDepth 100000 in
set_option maxHeartbeats 4000000 in
theorem c_X10_tell (E : qE) (q0 : Nat) (q1 : Nat) (q2 : Nat) (q3 : Nat) (q4 : Nat) (q5 : Nat) (q6 : Nat) (q7 : Nat) (q8 : Nat) (q9 : Nat) (q10 : Nat) (q11 : Nat) (c0 : Int) (la : Int) (ch : Int) (us : Int) (g : Int → Int) (x : Int) (y : Int) (v : Int) (hG : AllOk g) (hx : -2147483648 ≤ x ∧ x < 2147483648) (hy : -2147483648 ≤ y ∧ y < 2147483648) (hv : -2147483648 ≤ v ∧ v < 2147483648) : Cn E yX10_tell wsX10_tell { frames := 2, cells := 0, slots := 0, locals := 43 } [.ref q0, .int (iI x), .int (iI y), .int (iI v)] [(q0, .inr (10, [.ref q1, .ref q2, .ref q3, .int (iI c0), .ref q4, .ref q5, .int (iI la), .ref q6, .ref q7, .ref q8, .ref q9, .ref q10, .ref q11, .int (iI ch), .int (iI us)])), (q1, ia E 5400 g)] (fun v9 w9 => ∃ (r : Int), v9 = some (.int (iI r)) ∧ w9 = [(q0, .inr (10, [.ref q1, .ref q2, .ref q3, .int (iI c0), .ref q4, .ref q5, .int (iI la), .ref q6, .ref q7, .ref q8, .ref q9, .ref q10, .ref q11, .int (iI ch), .int (iI us)])), (q1, ia E 5400 g)] ∧ r = (if 0 ≤ x ∧ x ≤ g 0 - 1 ∧ 0 ≤ y ∧ y ≤ g (10 + x) - 1 ∧ 0 ≤ v ∧ v ≤ 5 then g (20 + 72 * x + 6 * y + v) else -1)) 0 0 := by
  refine Cn.ofP (own := RX10) (cc := cX10_tell) (maxL := 4) (ret := (some .int)) false [(0, .ref q0), (1, .int (iI x)), (2, .int (iI y)), (3, .int (iI v))] (by decide +kernel) rfl rfl (Nat.le_of_ble_eq_true rfl) rfl (fun h => nomatch h) (fun v w h => by obtain ⟨r, rfl, h9⟩ := h; exact ⟨_, rfl, rfl⟩) ?_
  intro P G
  obtain ⟨hg, hg0, hgs⟩ := id hG
  refine g_aload_n G 0 dX10_tell_0 rfl ?_
  refine g_iload_n G 1 dX10_tell_1 rfl ?_
  refine g_callV G [0, 1] [] 2 [] [.int (iI x)] [] (c_X10_isRow E q0 q1 q2 q3 q4 q5 q6 q7 q8 q9 q10 q11 c0 la ch us g x (by first | assumption | omega) (by first | assumption | omega)) dX10_tell_2 gX10_tell_X10_isRow ⟨rfl, ⟨rfl, rfl⟩, e_X10_isRow, ⟨Nat.le_of_ble_eq_true rfl, Nat.le_of_ble_eq_true rfl⟩, Nat.le_of_ble_eq_true rfl, Nat.le_of_ble_eq_true rfl, Nat.le_of_ble_eq_true rfl⟩ rfl rfl rfl rfl rfl (by decide +kernel) rfl (by decide +kernel) rfl (fun v9 w9 h9 => ?_)
  obtain ⟨o1, rfl, rfl, rfl⟩ := h9
  refine ⟨[(q0, .inr (10, [.ref q1, .ref q2, .ref q3, .int (iI c0), .ref q4, .ref q5, .int (iI la), .ref q6, .ref q7, .ref q8, .ref q9, .ref q10, .ref q11, .int (iI ch), .int (iI us)])), (q1, ia E 5400 g)], ⟨rfl, rfl, rfl, rfl⟩, g_to 0 0 _ _ [.int (iI (if 0 ≤ x ∧ x ≤ g 0 - 1 then 1 else 0))] rfl rfl rfl rfl rfl ?_⟩
  refine g_ifb_eq G 42 dX10_tell_5 (by decide) (fun c5 => ?_) (fun c5 => ?_)
  · refine g_iconst G dX10_tell_42 ?_
    exact g_ret G (some (.int (iI (-1)))) rfl dX10_tell_43 (Nat.le_refl _) (Nat.le_refl _) ⟨(-1), rfl, rfl, by first | rfl | (rw [if_pos (by omega)]; done) | (rw [if_neg (by omega)]; done) | (rw [if_neg (by omega)]; omega) | omega⟩
  · refine g_iload_n G 2 dX10_tell_8 rfl ?_
    refine g_iconst G dX10_tell_9 ?_
    refine g_aload_n G 0 dX10_tell_10 rfl ?_
    refine g_iload_n G 1 dX10_tell_11 rfl ?_
    refine g_callV G [0, 1] [] 2 [] [.int (iI x)] [.int (iI 0), .int (iI y)] (c_X10_sizeOf E q0 q1 q2 q3 q4 q5 q6 q7 q8 q9 q10 q11 c0 la ch us g x (by first | assumption | omega)) dX10_tell_12 gX10_tell_X10_sizeOf ⟨rfl, ⟨rfl, rfl⟩, e_X10_sizeOf, ⟨Nat.le_of_ble_eq_true rfl, Nat.le_of_ble_eq_true rfl⟩, Nat.le_of_ble_eq_true rfl, Nat.le_of_ble_eq_true rfl, Nat.le_of_ble_eq_true rfl⟩ rfl rfl rfl rfl rfl (by decide +kernel) rfl (by decide +kernel) rfl (fun v9 w9 h9 => ?_)
    obtain ⟨o2, rfl, rfl, rfl⟩ := h9
    have b3 := hg (10 + x)
    refine ⟨[(q0, .inr (10, [.ref q1, .ref q2, .ref q3, .int (iI c0), .ref q4, .ref q5, .int (iI la), .ref q6, .ref q7, .ref q8, .ref q9, .ref q10, .ref q11, .int (iI ch), .int (iI us)])), (q1, ia E 5400 g)], ⟨rfl, rfl, rfl, rfl⟩, g_to 0 0 _ _ [.int (iI (g (10 + x))), .int (iI 0), .int (iI y)] rfl rfl rfl rfl rfl ?_⟩
    refine g_iconst G dX10_tell_15 ?_
    refine g_isub G dX10_tell_16 ?_
    refine g_callS G [] [0, 1] 2 [(q0, .inr (10, [.ref q1, .ref q2, .ref q3, .int (iI c0), .ref q4, .ref q5, .int (iI la), .ref q6, .ref q7, .ref q8, .ref q9, .ref q10, .ref q11, .int (iI ch), .int (iI us)])), (q1, ia E 5400 g)] [.int (iI y), .int (iI 0), .int (iI ((g (10 + x)) - 1))] [] (c_X10_isIn E y 0 ((g (10 + x)) - 1) (by first | assumption | omega) (by first | assumption | omega) (by first | assumption | omega)) dX10_tell_17 gX10_tell_X10_isIn ⟨rfl, ⟨rfl, rfl⟩, e_X10_isIn, ⟨Nat.le_of_ble_eq_true rfl, Nat.le_of_ble_eq_true rfl⟩, Nat.le_of_ble_eq_true rfl, Nat.le_of_ble_eq_true rfl, Nat.le_of_ble_eq_true rfl⟩ rfl (by decide +kernel) rfl (by decide +kernel) rfl (fun v9 w9 h9 => ?_)
    obtain ⟨o4, rfl, rfl, rfl⟩ := h9
    refine ⟨[(q0, .inr (10, [.ref q1, .ref q2, .ref q3, .int (iI c0), .ref q4, .ref q5, .int (iI la), .ref q6, .ref q7, .ref q8, .ref q9, .ref q10, .ref q11, .int (iI ch), .int (iI us)])), (q1, ia E 5400 g)], ⟨rfl, rfl, rfl, rfl⟩, g_to 0 0 _ _ [.int (iI (if 0 ≤ y ∧ y ≤ ((g (10 + x)) - 1) then 1 else 0))] rfl rfl rfl rfl rfl ?_⟩
    refine g_ifb_eq G 42 dX10_tell_20 (by decide) (fun c20 => ?_) (fun c20 => ?_)
    · refine g_iconst G dX10_tell_42 ?_
      exact g_ret G (some (.int (iI (-1)))) rfl dX10_tell_43 (Nat.le_refl _) (Nat.le_refl _) ⟨(-1), rfl, rfl, by first | rfl | (rw [if_pos (by omega)]; done) | (rw [if_neg (by omega)]; done) | (rw [if_neg (by omega)]; omega) | omega⟩
    · refine g_iload_n G 3 dX10_tell_23 rfl ?_
      refine g_iconst G dX10_tell_24 ?_
      refine g_iconst G dX10_tell_25 ?_
      refine g_callS G [] [0, 1] 2 [(q0, .inr (10, [.ref q1, .ref q2, .ref q3, .int (iI c0), .ref q4, .ref q5, .int (iI la), .ref q6, .ref q7, .ref q8, .ref q9, .ref q10, .ref q11, .int (iI ch), .int (iI us)])), (q1, ia E 5400 g)] [.int (iI v), .int (iI 0), .int (iI 5)] [] (c_X10_isIn E v 0 5 (by first | assumption | omega) (by first | assumption | omega) (by first | assumption | omega)) dX10_tell_26 gX10_tell_X10_isIn ⟨rfl, ⟨rfl, rfl⟩, e_X10_isIn, ⟨Nat.le_of_ble_eq_true rfl, Nat.le_of_ble_eq_true rfl⟩, Nat.le_of_ble_eq_true rfl, Nat.le_of_ble_eq_true rfl, Nat.le_of_ble_eq_true rfl⟩ rfl (by decide +kernel) rfl (by decide +kernel) rfl (fun v9 w9 h9 => ?_)
      obtain ⟨o5, rfl, rfl, rfl⟩ := h9
      refine ⟨[(q0, .inr (10, [.ref q1, .ref q2, .ref q3, .int (iI c0), .ref q4, .ref q5, .int (iI la), .ref q6, .ref q7, .ref q8, .ref q9, .ref q10, .ref q11, .int (iI ch), .int (iI us)])), (q1, ia E 5400 g)], ⟨rfl, rfl, rfl, rfl⟩, g_to 0 0 _ _ [.int (iI (if 0 ≤ v ∧ v ≤ 5 then 1 else 0))] rfl rfl rfl rfl rfl ?_⟩
      refine g_ifb_eq G 42 dX10_tell_29 (by decide) (fun c29 => ?_) (fun c29 => ?_)
      · refine g_iconst G dX10_tell_42 ?_
        exact g_ret G (some (.int (iI (-1)))) rfl dX10_tell_43 (Nat.le_refl _) (Nat.le_refl _) ⟨(-1), rfl, rfl, by first | rfl | (rw [if_pos (by omega)]; done) | (rw [if_neg (by omega)]; done) | (rw [if_neg (by omega)]; omega) | omega⟩
      · have hx1 := hgs x (by omega) (by omega)
        refine g_aload_n G 0 dX10_tell_32 rfl ?_
        refine g_iload_n G 1 dX10_tell_33 rfl ?_
        refine g_iload_n G 2 dX10_tell_34 rfl ?_
        refine g_iload_n G 3 dX10_tell_35 rfl ?_
        refine g_callV G [0, 1] [] 2 [] [.int (iI x), .int (iI y), .int (iI v)] [] (c_X10_of E q0 q1 q2 q3 q4 q5 q6 q7 q8 q9 q10 q11 c0 la ch us g x y v (by first | assumption | omega) (by first | assumption | omega) (by first | assumption | omega)) dX10_tell_36 gX10_tell_X10_of ⟨rfl, ⟨rfl, rfl⟩, e_X10_of, ⟨Nat.le_of_ble_eq_true rfl, Nat.le_of_ble_eq_true rfl⟩, Nat.le_of_ble_eq_true rfl, Nat.le_of_ble_eq_true rfl, Nat.le_of_ble_eq_true rfl⟩ rfl rfl rfl rfl rfl (by decide +kernel) rfl (by decide +kernel) rfl (fun v9 w9 h9 => ?_)
        obtain ⟨o6, rfl, rfl, rfl⟩ := h9
        have b7 := hg (20 + 72 * x + 6 * y + v)
        refine ⟨[(q0, .inr (10, [.ref q1, .ref q2, .ref q3, .int (iI c0), .ref q4, .ref q5, .int (iI la), .ref q6, .ref q7, .ref q8, .ref q9, .ref q10, .ref q11, .int (iI ch), .int (iI us)])), (q1, ia E 5400 g)], ⟨rfl, rfl, rfl, rfl⟩, g_to 0 0 _ _ [.int (iI (g (20 + 72 * x + 6 * y + v)))] rfl rfl rfl rfl rfl ?_⟩
        refine g_goto G 43 dX10_tell_39 (by decide) ?_
        exact g_ret G (some (.int (iI (g (20 + 72 * x + 6 * y + v))))) rfl dX10_tell_43 (Nat.le_refl _) (Nat.le_refl _) ⟨(g (20 + 72 * x + 6 * y + v)), rfl, rfl, by first | rfl | (rw [if_pos (by omega)]; done) | (rw [if_neg (by omega)]; done) | (rw [if_neg (by omega)]; omega) | omega⟩
set_option maxRecDepth 100000 in
set_option maxHeartbeats 4000000 in
theorem c_X10_quarrelAt (E : qE) (q0 : Nat) (q1 : Nat) (q2 : Nat) (q3 : Nat) (q4 : Nat) (q5 : Nat) (q6 : Nat) (q7 : Nat) (q8 : Nat) (q9 : Nat) (q10 : Nat) (q11 : Nat) (c0 : Int) (la : Int) (ch : Int) (us : Int) (g : Int → Int) (x : Int) (y : Int) (hG : AllOk g) (hx : 0 ≤ x ∧ x < 8) (hy : 0 ≤ y ∧ y < 8) : Cn E yX10_quarrelAt wsX10_quarrelAt { frames := 1, cells := 0, slots := 0, locals := 23 } [.ref q0, .int (iI x), .int (iI y)] [(q0, .inr (10, [.ref q1, .ref q2, .ref q3, .int (iI c0), .ref q4, .ref q5, .int (iI la), .ref q6, .ref q7, .ref q8, .ref q9, .ref q10, .ref q11, .int (iI ch), .int (iI us)])), (q1, ia E 5400 g)] (fun v9 w9 => ∃ (r : Int), v9 = some (.int (iI r)) ∧ w9 = [(q0, .inr (10, [.ref q1, .ref q2, .ref q3, .int (iI c0), .ref q4, .ref q5, .int (iI la), .ref q6, .ref q7, .ref q8, .ref q9, .ref q10, .ref q11, .int (iI ch), .int (iI us)])), (q1, ia E 5400 g)] ∧ r = (qAt g x y)) 0 0 := by
  refine Cn.ofP (own := RX10) (cc := cX10_quarrelAt) (maxL := 4) (ret := (some .int)) false [(0, .ref q0), (1, .int (iI x)), (2, .int (iI y))] (by decide +kernel) rfl rfl (Nat.le_of_ble_eq_true rfl) rfl (fun h => nomatch h) (fun v w h => by obtain ⟨r, rfl, h9⟩ := h; exact ⟨_, rfl, rfl⟩) ?_
  intro P G
  obtain ⟨hg, hg0, hgs⟩ := id hG
  have hx1 := hgs x hx.1 hx.2
  have hy1 := hgs y hy.1 hy.2
  refine g_iconst G dX10_quarrelAt_0 ?_
  refine g_istore_n G [(0, .ref q0), (1, .int (iI x)), (2, .int (iI y)), (3, .int (iI 0))] dX10_quarrelAt_1 (by decide) rfl rfl ?_
  have L2 : ∀ (fuel : Nat), ∀ (p : Int), (0 ≤ p ∧ p ≤ (min (g (10 + x)) (g (10 + y)))) → (qAt g x y = qpl (fun p => g (20 + 72 * x + 6 * p + 0) ≠ g (20 + 72 * y + 6 * p + 0)) (fun p => g (20 + 72 * x + 6 * p + 3) ≠ g (20 + 72 * y + 6 * p + 3)) ((min (g (10 + x)) (g (10 + y))) - p).toNat p) → ((min (g (10 + x)) (g (10 + y))) - p : Int).toNat < fuel → P 0 0 [(q0, .inr (10, [.ref q1, .ref q2, .ref q3, .int (iI c0), .ref q4, .ref q5, .int (iI la), .ref q6, .ref q7, .ref q8, .ref q9, .ref q10, .ref q11, .int (iI ch), .int (iI us)])), (q1, ia E 5400 g)] 2 [(0, .ref q0), (1, .int (iI x)), (2, .int (iI y)), (3, .int (iI p))] [] := by
    intro fuel
    induction fuel with
    | zero => intro p hp hq hm; exact absurd hm (Nat.not_lt_zero _)
    | succ fuel ih2 =>
      intro p hp hq hm
      refine g_iload_n G 3 dX10_quarrelAt_2 rfl ?_
      refine g_aload_n G 0 dX10_quarrelAt_3 rfl ?_
      refine g_iload_n G 1 dX10_quarrelAt_4 rfl ?_
      refine g_callV G [0, 1] [] 2 [] [.int (iI x)] [.int (iI p)] (c_X10_sizeOf E q0 q1 q2 q3 q4 q5 q6 q7 q8 q9 q10 q11 c0 la ch us g x (by first | assumption | omega)) dX10_quarrelAt_5 gX10_quarrelAt_X10_sizeOf ⟨rfl, ⟨rfl, rfl⟩, e_X10_sizeOf, ⟨Nat.le_of_ble_eq_true rfl, Nat.le_of_ble_eq_true rfl⟩, Nat.le_of_ble_eq_true rfl, Nat.le_of_ble_eq_true rfl, Nat.le_of_ble_eq_true rfl⟩ rfl rfl rfl rfl rfl (by decide +kernel) rfl (by decide +kernel) rfl (fun v9 w9 h9 => ?_)
      obtain ⟨o1, rfl, rfl, rfl⟩ := h9
      have b2 := hg (10 + x)
      refine ⟨[(q0, .inr (10, [.ref q1, .ref q2, .ref q3, .int (iI c0), .ref q4, .ref q5, .int (iI la), .ref q6, .ref q7, .ref q8, .ref q9, .ref q10, .ref q11, .int (iI ch), .int (iI us)])), (q1, ia E 5400 g)], ⟨rfl, rfl, rfl, rfl⟩, g_to 0 0 _ _ [.int (iI (g (10 + x))), .int (iI p)] rfl rfl rfl rfl rfl ?_⟩
      refine g_icmp_ge G 64 dX10_quarrelAt_8 (by decide) (by omega) (by omega) (fun c8 => ?_) (fun c8 => ?_)
      · refine g_iconst G dX10_quarrelAt_64 ?_
        exact g_ret G (some (.int (iI (-1)))) rfl dX10_quarrelAt_65 (Nat.le_refl _) (Nat.le_refl _) ⟨(-1), rfl, rfl, by rw [hq, (show ((min (g (10 + x)) (g (10 + y))) - p).toNat = 0 by omega)]; rfl⟩
      · refine g_iload_n G 3 dX10_quarrelAt_11 rfl ?_
        refine g_aload_n G 0 dX10_quarrelAt_12 rfl ?_
        refine g_iload_n G 2 dX10_quarrelAt_13 rfl ?_
        refine g_callV G [0, 1] [] 2 [] [.int (iI y)] [.int (iI p)] (c_X10_sizeOf E q0 q1 q2 q3 q4 q5 q6 q7 q8 q9 q10 q11 c0 la ch us g y (by first | assumption | omega)) dX10_quarrelAt_14 gX10_quarrelAt_X10_sizeOf ⟨rfl, ⟨rfl, rfl⟩, e_X10_sizeOf, ⟨Nat.le_of_ble_eq_true rfl, Nat.le_of_ble_eq_true rfl⟩, Nat.le_of_ble_eq_true rfl, Nat.le_of_ble_eq_true rfl, Nat.le_of_ble_eq_true rfl⟩ rfl rfl rfl rfl rfl (by decide +kernel) rfl (by decide +kernel) rfl (fun v9 w9 h9 => ?_)
        obtain ⟨o3, rfl, rfl, rfl⟩ := h9
        have b4 := hg (10 + y)
        refine ⟨[(q0, .inr (10, [.ref q1, .ref q2, .ref q3, .int (iI c0), .ref q4, .ref q5, .int (iI la), .ref q6, .ref q7, .ref q8, .ref q9, .ref q10, .ref q11, .int (iI ch), .int (iI us)])), (q1, ia E 5400 g)], ⟨rfl, rfl, rfl, rfl⟩, g_to 0 0 _ _ [.int (iI (g (10 + y))), .int (iI p)] rfl rfl rfl rfl rfl ?_⟩
        refine g_icmp_ge G 64 dX10_quarrelAt_17 (by decide) (by omega) (by omega) (fun c17 => ?_) (fun c17 => ?_)
        · refine g_iconst G dX10_quarrelAt_64 ?_
          exact g_ret G (some (.int (iI (-1)))) rfl dX10_quarrelAt_65 (Nat.le_refl _) (Nat.le_refl _) ⟨(-1), rfl, rfl, by rw [hq, (show ((min (g (10 + x)) (g (10 + y))) - p).toNat = 0 by omega)]; rfl⟩
        · have hpm : p < (min (g (10 + x)) (g (10 + y))) := by omega
          refine g_aload_n G 0 dX10_quarrelAt_20 rfl ?_
          refine g_iload_n G 1 dX10_quarrelAt_21 rfl ?_
          refine g_iload_n G 3 dX10_quarrelAt_22 rfl ?_
          refine g_iconst G dX10_quarrelAt_23 ?_
          refine g_callV G [0, 1] [] 2 [] [.int (iI x), .int (iI p), .int (iI 0)] [] (c_X10_of E q0 q1 q2 q3 q4 q5 q6 q7 q8 q9 q10 q11 c0 la ch us g x p 0 (by first | assumption | omega) (by first | assumption | omega) (by first | assumption | omega)) dX10_quarrelAt_24 gX10_quarrelAt_X10_of ⟨rfl, ⟨rfl, rfl⟩, e_X10_of, ⟨Nat.le_of_ble_eq_true rfl, Nat.le_of_ble_eq_true rfl⟩, Nat.le_of_ble_eq_true rfl, Nat.le_of_ble_eq_true rfl, Nat.le_of_ble_eq_true rfl⟩ rfl rfl rfl rfl rfl (by decide +kernel) rfl (by decide +kernel) rfl (fun v9 w9 h9 => ?_)
          obtain ⟨o5, rfl, rfl, rfl⟩ := h9
          have b6 := hg (20 + 72 * x + 6 * p + 0)
          refine ⟨[(q0, .inr (10, [.ref q1, .ref q2, .ref q3, .int (iI c0), .ref q4, .ref q5, .int (iI la), .ref q6, .ref q7, .ref q8, .ref q9, .ref q10, .ref q11, .int (iI ch), .int (iI us)])), (q1, ia E 5400 g)], ⟨rfl, rfl, rfl, rfl⟩, g_to 0 0 _ _ [.int (iI (g (20 + 72 * x + 6 * p + 0)))] rfl rfl rfl rfl rfl ?_⟩
          refine g_aload_n G 0 dX10_quarrelAt_27 rfl ?_
          refine g_iload_n G 2 dX10_quarrelAt_28 rfl ?_
          refine g_iload_n G 3 dX10_quarrelAt_29 rfl ?_
          refine g_iconst G dX10_quarrelAt_30 ?_
          refine g_callV G [0, 1] [] 2 [] [.int (iI y), .int (iI p), .int (iI 0)] [.int (iI (g (20 + 72 * x + 6 * p + 0)))] (c_X10_of E q0 q1 q2 q3 q4 q5 q6 q7 q8 q9 q10 q11 c0 la ch us g y p 0 (by first | assumption | omega) (by first | assumption | omega) (by first | assumption | omega)) dX10_quarrelAt_31 gX10_quarrelAt_X10_of ⟨rfl, ⟨rfl, rfl⟩, e_X10_of, ⟨Nat.le_of_ble_eq_true rfl, Nat.le_of_ble_eq_true rfl⟩, Nat.le_of_ble_eq_true rfl, Nat.le_of_ble_eq_true rfl, Nat.le_of_ble_eq_true rfl⟩ rfl rfl rfl rfl rfl (by decide +kernel) rfl (by decide +kernel) rfl (fun v9 w9 h9 => ?_)
          obtain ⟨o7, rfl, rfl, rfl⟩ := h9
          have b8 := hg (20 + 72 * y + 6 * p + 0)
          refine ⟨[(q0, .inr (10, [.ref q1, .ref q2, .ref q3, .int (iI c0), .ref q4, .ref q5, .int (iI la), .ref q6, .ref q7, .ref q8, .ref q9, .ref q10, .ref q11, .int (iI ch), .int (iI us)])), (q1, ia E 5400 g)], ⟨rfl, rfl, rfl, rfl⟩, g_to 0 0 _ _ [.int (iI (g (20 + 72 * y + 6 * p + 0))), .int (iI (g (20 + 72 * x + 6 * p + 0)))] rfl rfl rfl rfl rfl ?_⟩
          refine g_icmp_eq G 39 dX10_quarrelAt_34 (by decide) (by omega) (by omega) (fun c34 => ?_) (fun c34 => ?_)
          · refine g_aload_n G 0 dX10_quarrelAt_39 rfl ?_
            refine g_iload_n G 1 dX10_quarrelAt_40 rfl ?_
            refine g_iload_n G 3 dX10_quarrelAt_41 rfl ?_
            refine g_iconst G dX10_quarrelAt_42 ?_
            refine g_callV G [0, 1] [] 2 [] [.int (iI x), .int (iI p), .int (iI 3)] [] (c_X10_of E q0 q1 q2 q3 q4 q5 q6 q7 q8 q9 q10 q11 c0 la ch us g x p 3 (by first | assumption | omega) (by first | assumption | omega) (by first | assumption | omega)) dX10_quarrelAt_43 gX10_quarrelAt_X10_of ⟨rfl, ⟨rfl, rfl⟩, e_X10_of, ⟨Nat.le_of_ble_eq_true rfl, Nat.le_of_ble_eq_true rfl⟩, Nat.le_of_ble_eq_true rfl, Nat.le_of_ble_eq_true rfl, Nat.le_of_ble_eq_true rfl⟩ rfl rfl rfl rfl rfl (by decide +kernel) rfl (by decide +kernel) rfl (fun v9 w9 h9 => ?_)
            obtain ⟨o9, rfl, rfl, rfl⟩ := h9
            have b10 := hg (20 + 72 * x + 6 * p + 3)
            refine ⟨[(q0, .inr (10, [.ref q1, .ref q2, .ref q3, .int (iI c0), .ref q4, .ref q5, .int (iI la), .ref q6, .ref q7, .ref q8, .ref q9, .ref q10, .ref q11, .int (iI ch), .int (iI us)])), (q1, ia E 5400 g)], ⟨rfl, rfl, rfl, rfl⟩, g_to 0 0 _ _ [.int (iI (g (20 + 72 * x + 6 * p + 3)))] rfl rfl rfl rfl rfl ?_⟩
            refine g_aload_n G 0 dX10_quarrelAt_46 rfl ?_
            refine g_iload_n G 2 dX10_quarrelAt_47 rfl ?_
            refine g_iload_n G 3 dX10_quarrelAt_48 rfl ?_
            refine g_iconst G dX10_quarrelAt_49 ?_
            refine g_callV G [0, 1] [] 2 [] [.int (iI y), .int (iI p), .int (iI 3)] [.int (iI (g (20 + 72 * x + 6 * p + 3)))] (c_X10_of E q0 q1 q2 q3 q4 q5 q6 q7 q8 q9 q10 q11 c0 la ch us g y p 3 (by first | assumption | omega) (by first | assumption | omega) (by first | assumption | omega)) dX10_quarrelAt_50 gX10_quarrelAt_X10_of ⟨rfl, ⟨rfl, rfl⟩, e_X10_of, ⟨Nat.le_of_ble_eq_true rfl, Nat.le_of_ble_eq_true rfl⟩, Nat.le_of_ble_eq_true rfl, Nat.le_of_ble_eq_true rfl, Nat.le_of_ble_eq_true rfl⟩ rfl rfl rfl rfl rfl (by decide +kernel) rfl (by decide +kernel) rfl (fun v9 w9 h9 => ?_)
            obtain ⟨o11, rfl, rfl, rfl⟩ := h9
            have b12 := hg (20 + 72 * y + 6 * p + 3)
            refine ⟨[(q0, .inr (10, [.ref q1, .ref q2, .ref q3, .int (iI c0), .ref q4, .ref q5, .int (iI la), .ref q6, .ref q7, .ref q8, .ref q9, .ref q10, .ref q11, .int (iI ch), .int (iI us)])), (q1, ia E 5400 g)], ⟨rfl, rfl, rfl, rfl⟩, g_to 0 0 _ _ [.int (iI (g (20 + 72 * y + 6 * p + 3))), .int (iI (g (20 + 72 * x + 6 * p + 3)))] rfl rfl rfl rfl rfl ?_⟩
            refine g_icmp_eq G 58 dX10_quarrelAt_53 (by decide) (by omega) (by omega) (fun c53 => ?_) (fun c53 => ?_)
            · refine g_iinc G 3 [(0, .ref q0), (1, .int (iI x)), (2, .int (iI y)), (3, .int (iI (p + 1)))] dX10_quarrelAt_58 rfl (by decide) rfl rfl ?_
              refine g_goto G 2 dX10_quarrelAt_61 (by decide) ?_
              exact ih2 (p + 1) (by first | assumption | omega) (by rw [hq]; exact qpl_go _ _ hpm (fun q => q c34) (fun q => q c53)) (by omega)
            · refine g_iload_n G 3 dX10_quarrelAt_56 rfl ?_
              exact g_ret G (some (.int (iI p))) rfl dX10_quarrelAt_57 (Nat.le_refl _) (Nat.le_refl _) ⟨p, rfl, rfl, by rw [hq]; exact (qpl_c _ _ hpm (fun q => q c34) c53).symm⟩
          · refine g_iconst G dX10_quarrelAt_37 ?_
            exact g_ret G (some (.int (iI (-1)))) rfl dX10_quarrelAt_38 (Nat.le_refl _) (Nat.le_refl _) ⟨(-1), rfl, rfl, by rw [hq]; exact (qpl_v _ _ hpm c34).symm⟩
  exact L2 (((min (g (10 + x)) (g (10 + y))) - 0 : Int).toNat + 1) 0 (by first | assumption | omega) (by unfold qAt; rw [Int.sub_zero]) (by omega)
set_option maxRecDepth 100000 in
set_option maxHeartbeats 4000000 in
theorem c_X10_ahead (E : qE) (q0 : Nat) (q1 : Nat) (q2 : Nat) (q3 : Nat) (q4 : Nat) (q5 : Nat) (q6 : Nat) (q7 : Nat) (q8 : Nat) (q9 : Nat) (q10 : Nat) (q11 : Nat) (c0 : Int) (la : Int) (ch : Int) (us : Int) (g : Int → Int) (x : Int) (y : Int) (hG : AllOk g) (hx : 0 ≤ x ∧ x < 8) (hy : 0 ≤ y ∧ y < 12) : Cn E yX10_ahead wsX10_ahead { frames := 1, cells := 0, slots := 0, locals := 23 } [.ref q0, .int (iI x), .int (iI y)] [(q0, .inr (10, [.ref q1, .ref q2, .ref q3, .int (iI c0), .ref q4, .ref q5, .int (iI la), .ref q6, .ref q7, .ref q8, .ref q9, .ref q10, .ref q11, .int (iI ch), .int (iI us)])), (q1, ia E 5400 g)] (fun v9 w9 => ∃ (r : Int), v9 = some (.int (iI r)) ∧ w9 = [(q0, .inr (10, [.ref q1, .ref q2, .ref q3, .int (iI c0), .ref q4, .ref q5, .int (iI la), .ref q6, .ref q7, .ref q8, .ref q9, .ref q10, .ref q11, .int (iI ch), .int (iI us)])), (q1, ia E 5400 g)] ∧ r = (ahI g x y)) 0 0 := by
  refine Cn.ofP (own := RX10) (cc := cX10_ahead) (maxL := 5) (ret := (some .int)) false [(0, .ref q0), (1, .int (iI x)), (2, .int (iI y))] (by decide +kernel) rfl rfl (Nat.le_of_ble_eq_true rfl) rfl (fun h => nomatch h) (fun v w h => by obtain ⟨r, rfl, h9⟩ := h; exact ⟨_, rfl, rfl⟩) ?_
  intro P G
  obtain ⟨hg, hg0, hgs⟩ := id hG
  refine g_iconst G dX10_ahead_0 ?_
  refine g_istore_n G [(0, .ref q0), (1, .int (iI x)), (2, .int (iI y)), (3, .int (iI 0))] dX10_ahead_1 (by decide) rfl rfl ?_
  refine g_iconst G dX10_ahead_2 ?_
  refine g_istore G [(0, .ref q0), (1, .int (iI x)), (2, .int (iI y)), (3, .int (iI 0)), (4, .int (iI 0))] dX10_ahead_3 (by decide) rfl rfl ?_
  have L5 : ∀ (fuel : Nat), ∀ (i : Int) (t : Int), (0 ≤ i ∧ i ≤ y) → (t = sumI (fun k => if g (20 + 72 * x + 6 * k + 0) = g (20 + 72 * x + 6 * y + 0) then 1 else 0) i.toNat) → (y - i : Int).toNat < fuel → P 0 0 [(q0, .inr (10, [.ref q1, .ref q2, .ref q3, .int (iI c0), .ref q4, .ref q5, .int (iI la), .ref q6, .ref q7, .ref q8, .ref q9, .ref q10, .ref q11, .int (iI ch), .int (iI us)])), (q1, ia E 5400 g)] 5 [(0, .ref q0), (1, .int (iI x)), (2, .int (iI y)), (3, .int (iI t)), (4, .int (iI i))] [] := by
    intro fuel
    induction fuel with
    | zero => intro i t hi ht hm; exact absurd hm (Nat.not_lt_zero _)
    | succ fuel ih5 =>
      intro i t hi ht hm
      refine g_iload G 4 dX10_ahead_5 rfl ?_
      refine g_iload_n G 2 dX10_ahead_7 rfl ?_
      refine g_icmp_ge G 43 dX10_ahead_8 (by decide) (by omega) (by omega) (fun c8 => ?_) (fun c8 => ?_)
      · refine g_iload_n G 3 dX10_ahead_43 rfl ?_
        exact g_ret G (some (.int (iI t))) rfl dX10_ahead_44 (Nat.le_refl _) (Nat.le_refl _) ⟨t, rfl, rfl, by rw [ht, (show i = y by omega)]; rfl⟩
      · refine g_iload_n G 3 dX10_ahead_11 rfl ?_
        refine g_aload_n G 0 dX10_ahead_12 rfl ?_
        refine g_iload_n G 1 dX10_ahead_13 rfl ?_
        refine g_iload G 4 dX10_ahead_14 rfl ?_
        refine g_iconst G dX10_ahead_16 ?_
        refine g_callV G [0, 1] [] 2 [] [.int (iI x), .int (iI i), .int (iI 0)] [.int (iI t)] (c_X10_of E q0 q1 q2 q3 q4 q5 q6 q7 q8 q9 q10 q11 c0 la ch us g x i 0 (by first | assumption | omega) (by first | assumption | omega) (by first | assumption | omega)) dX10_ahead_17 gX10_ahead_X10_of ⟨rfl, ⟨rfl, rfl⟩, e_X10_of, ⟨Nat.le_of_ble_eq_true rfl, Nat.le_of_ble_eq_true rfl⟩, Nat.le_of_ble_eq_true rfl, Nat.le_of_ble_eq_true rfl, Nat.le_of_ble_eq_true rfl⟩ rfl rfl rfl rfl rfl (by decide +kernel) rfl (by decide +kernel) rfl (fun v9 w9 h9 => ?_)
        obtain ⟨o1, rfl, rfl, rfl⟩ := h9
        have b2 := hg (20 + 72 * x + 6 * i + 0)
        refine ⟨[(q0, .inr (10, [.ref q1, .ref q2, .ref q3, .int (iI c0), .ref q4, .ref q5, .int (iI la), .ref q6, .ref q7, .ref q8, .ref q9, .ref q10, .ref q11, .int (iI ch), .int (iI us)])), (q1, ia E 5400 g)], ⟨rfl, rfl, rfl, rfl⟩, g_to 0 0 _ _ [.int (iI (g (20 + 72 * x + 6 * i + 0))), .int (iI t)] rfl rfl rfl rfl rfl ?_⟩
        refine g_aload_n G 0 dX10_ahead_20 rfl ?_
        refine g_iload_n G 1 dX10_ahead_21 rfl ?_
        refine g_iload_n G 2 dX10_ahead_22 rfl ?_
        refine g_iconst G dX10_ahead_23 ?_
        refine g_callV G [0, 1] [] 2 [] [.int (iI x), .int (iI y), .int (iI 0)] [.int (iI (g (20 + 72 * x + 6 * i + 0))), .int (iI t)] (c_X10_of E q0 q1 q2 q3 q4 q5 q6 q7 q8 q9 q10 q11 c0 la ch us g x y 0 (by first | assumption | omega) (by first | assumption | omega) (by first | assumption | omega)) dX10_ahead_24 gX10_ahead_X10_of ⟨rfl, ⟨rfl, rfl⟩, e_X10_of, ⟨Nat.le_of_ble_eq_true rfl, Nat.le_of_ble_eq_true rfl⟩, Nat.le_of_ble_eq_true rfl, Nat.le_of_ble_eq_true rfl, Nat.le_of_ble_eq_true rfl⟩ rfl rfl rfl rfl rfl (by decide +kernel) rfl (by decide +kernel) rfl (fun v9 w9 h9 => ?_)
        obtain ⟨o3, rfl, rfl, rfl⟩ := h9
        have b4 := hg (20 + 72 * x + 6 * y + 0)
        refine ⟨[(q0, .inr (10, [.ref q1, .ref q2, .ref q3, .int (iI c0), .ref q4, .ref q5, .int (iI la), .ref q6, .ref q7, .ref q8, .ref q9, .ref q10, .ref q11, .int (iI ch), .int (iI us)])), (q1, ia E 5400 g)], ⟨rfl, rfl, rfl, rfl⟩, g_to 0 0 _ _ [.int (iI (g (20 + 72 * x + 6 * y + 0))), .int (iI (g (20 + 72 * x + 6 * i + 0))), .int (iI t)] rfl rfl rfl rfl rfl ?_⟩
        refine g_icmp_ne G 34 dX10_ahead_27 (by decide) (by omega) (by omega) (fun c27 => ?_) (fun c27 => ?_)
        · refine g_iconst G dX10_ahead_34 ?_
          refine g_iadd G dX10_ahead_35 ?_
          refine g_istore_n G [(0, .ref q0), (1, .int (iI x)), (2, .int (iI y)), (3, .int (iI (t + 0))), (4, .int (iI i))] dX10_ahead_36 (by decide) rfl rfl ?_
          refine g_iinc G 4 [(0, .ref q0), (1, .int (iI x)), (2, .int (iI y)), (3, .int (iI (t + 0))), (4, .int (iI (i + 1)))] dX10_ahead_37 rfl (by decide) rfl rfl ?_
          refine g_goto G 5 dX10_ahead_40 (by decide) ?_
          exact ih5 (i + 1) (t + 0) (by first | assumption | omega) (by rw [sumI_up _ hi.1, ht]; (try dsimp only); first | (rw [if_pos c27]; done) | (rw [if_neg c27]; done)) (by omega)
        · refine g_iconst G dX10_ahead_30 ?_
          refine g_goto G 35 dX10_ahead_31 (by decide) ?_
          refine g_iadd G dX10_ahead_35 ?_
          refine g_istore_n G [(0, .ref q0), (1, .int (iI x)), (2, .int (iI y)), (3, .int (iI (t + 1))), (4, .int (iI i))] dX10_ahead_36 (by decide) rfl rfl ?_
          refine g_iinc G 4 [(0, .ref q0), (1, .int (iI x)), (2, .int (iI y)), (3, .int (iI (t + 1))), (4, .int (iI (i + 1)))] dX10_ahead_37 rfl (by decide) rfl rfl ?_
          refine g_goto G 5 dX10_ahead_40 (by decide) ?_
          exact ih5 (i + 1) (t + 1) (by first | assumption | omega) (by rw [sumI_up _ hi.1, ht]; (try dsimp only); first | (rw [if_pos c27]; done) | (rw [if_neg c27]; done)) (by omega)
  exact L5 ((y - 0 : Int).toNat + 1) 0 0 (by first | assumption | omega) (by rfl) (by omega)
set_option maxRecDepth 100000 in
set_option maxHeartbeats 4000000 in
theorem c_X10_latest (E : qE) (q0 : Nat) (q1 : Nat) (q2 : Nat) (q3 : Nat) (q4 : Nat) (q5 : Nat) (q6 : Nat) (q7 : Nat) (q8 : Nat) (q9 : Nat) (q10 : Nat) (q11 : Nat) (c0 : Int) (la : Int) (ch : Int) (us : Int) (g : Int → Int) (x : Int) (y : Int) (hG : AllOk g) (hx : 0 ≤ x ∧ x < 8) (hy : 0 ≤ y ∧ y < 12) : Cn E yX10_latest wsX10_latest { frames := 1, cells := 0, slots := 0, locals := 23 } [.ref q0, .int (iI x), .int (iI y)] [(q0, .inr (10, [.ref q1, .ref q2, .ref q3, .int (iI c0), .ref q4, .ref q5, .int (iI la), .ref q6, .ref q7, .ref q8, .ref q9, .ref q10, .ref q11, .int (iI ch), .int (iI us)])), (q1, ia E 5400 g)] (fun v9 w9 => ∃ (r : Int), v9 = some (.int (iI r)) ∧ w9 = [(q0, .inr (10, [.ref q1, .ref q2, .ref q3, .int (iI c0), .ref q4, .ref q5, .int (iI la), .ref q6, .ref q7, .ref q8, .ref q9, .ref q10, .ref q11, .int (iI ch), .int (iI us)])), (q1, ia E 5400 g)] ∧ r = (ltI g x y y.toNat)) 0 0 := by
  refine Cn.ofP (own := RX10) (cc := cX10_latest) (maxL := 5) (ret := (some .int)) false [(0, .ref q0), (1, .int (iI x)), (2, .int (iI y))] (by decide +kernel) rfl rfl (Nat.le_of_ble_eq_true rfl) rfl (fun h => nomatch h) (fun v w h => by obtain ⟨r, rfl, h9⟩ := h; exact ⟨_, rfl, rfl⟩) ?_
  intro P G
  obtain ⟨hg, hg0, hgs⟩ := id hG
  refine g_iconst G dX10_latest_0 ?_
  refine g_istore_n G [(0, .ref q0), (1, .int (iI x)), (2, .int (iI y)), (3, .int (iI (-1)))] dX10_latest_1 (by decide) rfl rfl ?_
  refine g_iconst G dX10_latest_2 ?_
  refine g_istore G [(0, .ref q0), (1, .int (iI x)), (2, .int (iI y)), (3, .int (iI (-1))), (4, .int (iI 0))] dX10_latest_3 (by decide) rfl rfl ?_
  have L5 : ∀ (fuel : Nat), ∀ (i : Int) (t : Int), (0 ≤ i ∧ i ≤ y) → (t = ltI g x y i.toNat) → (y - i : Int).toNat < fuel → P 0 0 [(q0, .inr (10, [.ref q1, .ref q2, .ref q3, .int (iI c0), .ref q4, .ref q5, .int (iI la), .ref q6, .ref q7, .ref q8, .ref q9, .ref q10, .ref q11, .int (iI ch), .int (iI us)])), (q1, ia E 5400 g)] 5 [(0, .ref q0), (1, .int (iI x)), (2, .int (iI y)), (3, .int (iI t)), (4, .int (iI i))] [] := by
    intro fuel
    induction fuel with
    | zero => intro i t hi ht hm; exact absurd hm (Nat.not_lt_zero _)
    | succ fuel ih5 =>
      intro i t hi ht hm
      refine g_iload G 4 dX10_latest_5 rfl ?_
      refine g_iload_n G 2 dX10_latest_7 rfl ?_
      refine g_icmp_ge G 44 dX10_latest_8 (by decide) (by omega) (by omega) (fun c8 => ?_) (fun c8 => ?_)
      · refine g_iload_n G 3 dX10_latest_44 rfl ?_
        exact g_ret G (some (.int (iI t))) rfl dX10_latest_45 (Nat.le_refl _) (Nat.le_refl _) ⟨t, rfl, rfl, by rw [ht, (show i = y by omega)]⟩
      · refine g_aload_n G 0 dX10_latest_11 rfl ?_
        refine g_iload_n G 1 dX10_latest_12 rfl ?_
        refine g_iload G 4 dX10_latest_13 rfl ?_
        refine g_iconst G dX10_latest_15 ?_
        refine g_callV G [0, 1] [] 2 [] [.int (iI x), .int (iI i), .int (iI 1)] [] (c_X10_of E q0 q1 q2 q3 q4 q5 q6 q7 q8 q9 q10 q11 c0 la ch us g x i 1 (by first | assumption | omega) (by first | assumption | omega) (by first | assumption | omega)) dX10_latest_16 gX10_latest_X10_of ⟨rfl, ⟨rfl, rfl⟩, e_X10_of, ⟨Nat.le_of_ble_eq_true rfl, Nat.le_of_ble_eq_true rfl⟩, Nat.le_of_ble_eq_true rfl, Nat.le_of_ble_eq_true rfl, Nat.le_of_ble_eq_true rfl⟩ rfl rfl rfl rfl rfl (by decide +kernel) rfl (by decide +kernel) rfl (fun v9 w9 h9 => ?_)
        obtain ⟨o1, rfl, rfl, rfl⟩ := h9
        have b2 := hg (20 + 72 * x + 6 * i + 1)
        refine ⟨[(q0, .inr (10, [.ref q1, .ref q2, .ref q3, .int (iI c0), .ref q4, .ref q5, .int (iI la), .ref q6, .ref q7, .ref q8, .ref q9, .ref q10, .ref q11, .int (iI ch), .int (iI us)])), (q1, ia E 5400 g)], ⟨rfl, rfl, rfl, rfl⟩, g_to 0 0 _ _ [.int (iI (g (20 + 72 * x + 6 * i + 1)))] rfl rfl rfl rfl rfl ?_⟩
        refine g_aload_n G 0 dX10_latest_19 rfl ?_
        refine g_iload_n G 1 dX10_latest_20 rfl ?_
        refine g_iload_n G 2 dX10_latest_21 rfl ?_
        refine g_iconst G dX10_latest_22 ?_
        refine g_callV G [0, 1] [] 2 [] [.int (iI x), .int (iI y), .int (iI 1)] [.int (iI (g (20 + 72 * x + 6 * i + 1)))] (c_X10_of E q0 q1 q2 q3 q4 q5 q6 q7 q8 q9 q10 q11 c0 la ch us g x y 1 (by first | assumption | omega) (by first | assumption | omega) (by first | assumption | omega)) dX10_latest_23 gX10_latest_X10_of ⟨rfl, ⟨rfl, rfl⟩, e_X10_of, ⟨Nat.le_of_ble_eq_true rfl, Nat.le_of_ble_eq_true rfl⟩, Nat.le_of_ble_eq_true rfl, Nat.le_of_ble_eq_true rfl, Nat.le_of_ble_eq_true rfl⟩ rfl rfl rfl rfl rfl (by decide +kernel) rfl (by decide +kernel) rfl (fun v9 w9 h9 => ?_)
        obtain ⟨o3, rfl, rfl, rfl⟩ := h9
        have b4 := hg (20 + 72 * x + 6 * y + 1)
        refine ⟨[(q0, .inr (10, [.ref q1, .ref q2, .ref q3, .int (iI c0), .ref q4, .ref q5, .int (iI la), .ref q6, .ref q7, .ref q8, .ref q9, .ref q10, .ref q11, .int (iI ch), .int (iI us)])), (q1, ia E 5400 g)], ⟨rfl, rfl, rfl, rfl⟩, g_to 0 0 _ _ [.int (iI (g (20 + 72 * x + 6 * y + 1))), .int (iI (g (20 + 72 * x + 6 * i + 1)))] rfl rfl rfl rfl rfl ?_⟩
        refine g_icmp_ne G 38 dX10_latest_26 (by decide) (by omega) (by omega) (fun c26 => ?_) (fun c26 => ?_)
        · refine g_iinc G 4 [(0, .ref q0), (1, .int (iI x)), (2, .int (iI y)), (3, .int (iI t)), (4, .int (iI (i + 1)))] dX10_latest_38 rfl (by decide) rfl rfl ?_
          refine g_goto G 5 dX10_latest_41 (by decide) ?_
          exact ih5 (i + 1) t (by first | assumption | omega) (by rw [ltI_up g x y hi.1]; first | (rw [if_pos c26]; done) | (rw [if_neg c26, ht]; done)) (by omega)
        · refine g_aload_n G 0 dX10_latest_29 rfl ?_
          refine g_iload_n G 1 dX10_latest_30 rfl ?_
          refine g_iload G 4 dX10_latest_31 rfl ?_
          refine g_iconst G dX10_latest_33 ?_
          refine g_callV G [0, 1] [] 2 [] [.int (iI x), .int (iI i), .int (iI 2)] [] (c_X10_of E q0 q1 q2 q3 q4 q5 q6 q7 q8 q9 q10 q11 c0 la ch us g x i 2 (by first | assumption | omega) (by first | assumption | omega) (by first | assumption | omega)) dX10_latest_34 gX10_latest_X10_of ⟨rfl, ⟨rfl, rfl⟩, e_X10_of, ⟨Nat.le_of_ble_eq_true rfl, Nat.le_of_ble_eq_true rfl⟩, Nat.le_of_ble_eq_true rfl, Nat.le_of_ble_eq_true rfl, Nat.le_of_ble_eq_true rfl⟩ rfl rfl rfl rfl rfl (by decide +kernel) rfl (by decide +kernel) rfl (fun v9 w9 h9 => ?_)
          obtain ⟨o5, rfl, rfl, rfl⟩ := h9
          have b6 := hg (20 + 72 * x + 6 * i + 2)
          refine ⟨[(q0, .inr (10, [.ref q1, .ref q2, .ref q3, .int (iI c0), .ref q4, .ref q5, .int (iI la), .ref q6, .ref q7, .ref q8, .ref q9, .ref q10, .ref q11, .int (iI ch), .int (iI us)])), (q1, ia E 5400 g)], ⟨rfl, rfl, rfl, rfl⟩, g_to 0 0 _ _ [.int (iI (g (20 + 72 * x + 6 * i + 2)))] rfl rfl rfl rfl rfl ?_⟩
          refine g_istore_n G [(0, .ref q0), (1, .int (iI x)), (2, .int (iI y)), (3, .int (iI (g (20 + 72 * x + 6 * i + 2)))), (4, .int (iI i))] dX10_latest_37 (by decide) rfl rfl ?_
          refine g_iinc G 4 [(0, .ref q0), (1, .int (iI x)), (2, .int (iI y)), (3, .int (iI (g (20 + 72 * x + 6 * i + 2)))), (4, .int (iI (i + 1)))] dX10_latest_38 rfl (by decide) rfl rfl ?_
          refine g_goto G 5 dX10_latest_41 (by decide) ?_
          exact ih5 (i + 1) (g (20 + 72 * x + 6 * i + 2)) (by first | assumption | omega) (by rw [ltI_up g x y hi.1]; first | (rw [if_pos c26]; done) | (rw [if_neg c26, ht]; done)) (by omega)
  exact L5 ((y - 0 : Int).toNat + 1) 0 (-1) (by first | assumption | omega) (by rfl) (by omega)
