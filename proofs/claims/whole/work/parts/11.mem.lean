def baseI (c b : Int → Int) (x v s : Int) : Int := if x = 1 then s / 100 else if x = 2 then s % 100 else if x = 3 then c v else if x = 4 then b (s / 100) else 0
def RulesOk (k o a b : Int → Int) (z : Int) : Prop := 0 ≤ z ∧ z ≤ 96 ∧ (∀ i, -1 ≤ k i ∧ k i ≤ 6) ∧ (∀ i, -1000 ≤ o i ∧ o i ≤ 1000) ∧ (∀ i, 0 ≤ a i ∧ a i < 30000) ∧ (∀ i, 0 ≤ b i ∧ b i < 40000)
noncomputable def findI (a : Int → Int) (z v s : Int) : Int := qpl (fun _ => False) (fun i => a i = v * 10000 + s) z.toNat 0
theorem f_X3_init_9 : Cond.fieldLink RX3 9 (TX3 0).1 (TX3 0).2.1 (TX3 0).2.2.1 ∈ wsX3_init := by decide +kernel
theorem i_X3_init_X3 : ∀ w ∈ wsX30, w ∈ wsX3_init := by decide +kernel
theorem f_X3_init_15 : Cond.fieldLink RX3 15 (TX3 1).1 (TX3 1).2.1 (TX3 1).2.2.1 ∈ wsX3_init := by decide +kernel
set_option maxRecDepth 100000 in
set_option maxHeartbeats 4000000 in
theorem c_X3_init (E : qE) (q0 : Nat)  : Cn E yX3_init wsX3_init { frames := 1, cells := 2, slots := 103, locals := 12 } [.ref q0] [(q0, .inr (3, [.null, .null]))] (fun v9 w9 => ∃ (q1 : Nat) (q2 : Nat), v9 = none ∧ w9 = [(q0, .inr (3, [.ref q1, .ref q2])), (q1, ia E 3 (fun _ => 0)), (q2, ia E 100 (fun _ => 0))]) 2 103 := by
  refine Cn.ofP (own := RX3) (cc := cX3_init) (maxL := 1) (ret := none) true [(0, .ref q0)] (by decide +kernel) rfl rfl (Nat.le_of_ble_eq_true rfl) rfl (fun _ => rfl) (fun v w h => by obtain ⟨q1, q2, rfl, h9⟩ := h; exact (rfl : (none : Option FieldType) = none)) ?_
  intro P G
  refine g_aload_n G 0 dX3_init_0 rfl ?_
  refine g_objInit G dX3_init_1 (by decide +kernel) (by decide +kernel) (by decide +kernel) (Nat.le_of_ble_eq_true rfl) (Nat.le_of_ble_eq_true rfl) ?_
  refine g_aload_n G 0 dX3_init_4 rfl ?_
  refine g_iconst G dX3_init_5 ?_
  refine g_newi G 3 dX3_init_6 (by decide +kernel) rfl (by decide) (Nat.le_of_ble_eq_true rfl) (Nat.le_of_ble_eq_true rfl) (fun p1 => ?_)
  refine g_to 1 3 [(q0, .inr (3, [.null, .null])), (p1, ia E 3 (fun _ => 0))] _ [.ref p1, .ref q0] rfl rfl rfl rfl rfl ?_
  refine g_putF G 0 0 [(q0, .inr (3, [.ref p1, .null])), (p1, ia E 3 (fun _ => 0))] dX3_init_8 i_X3_init_X3 f_X3_init_9 tyX3_ok nmX3 rfl rfl (by decide) rfl rfl rfl rfl rfl (Nat.le_of_ble_eq_true rfl) rfl ?_
  refine g_aload_n G 0 dX3_init_11 rfl ?_
  refine g_bipush G dX3_init_12 (by decide +kernel) ?_
  refine g_newi G 100 dX3_init_14 (by decide +kernel) rfl (by decide) (Nat.le_of_ble_eq_true rfl) (Nat.le_of_ble_eq_true rfl) (fun p2 => ?_)
  refine g_to 2 103 [(q0, .inr (3, [.ref p1, .null])), (p1, ia E 3 (fun _ => 0)), (p2, ia E 100 (fun _ => 0))] _ [.ref p2, .ref q0] rfl rfl rfl rfl rfl ?_
  refine g_putF G 0 1 [(q0, .inr (3, [.ref p1, .ref p2])), (p1, ia E 3 (fun _ => 0)), (p2, ia E 100 (fun _ => 0))] dX3_init_16 i_X3_init_X3 f_X3_init_15 tyX3_ok nmX3 rfl rfl (by decide) rfl rfl rfl rfl rfl (Nat.le_of_ble_eq_true rfl) rfl ?_
  exact g_ret G none rfl dX3_init_19 (Nat.le_refl _) (Nat.le_refl _) ⟨p1, p2, rfl, rfl⟩
theorem f_X3_clear_9 : Cond.fieldLink RX3 9 (TX3 0).1 (TX3 0).2.1 (TX3 0).2.2.1 ∈ wsX3_clear := by decide +kernel
theorem i_X3_clear_X3 : ∀ w ∈ wsX30, w ∈ wsX3_clear := by decide +kernel
theorem e_J7_fill_53178 : yJ7_fill_53178.cls ≠ "java/lang/invoke/MethodHandle" ∧ yJ7_fill_53178.cls ≠ "java/lang/invoke/VarHandle" ∧ (parseMethodDescriptor yJ7_fill_53178.desc).map (fun d => d.parameters.length) = some 2 := by decide +kernel
theorem f_X3_clear_15 : Cond.fieldLink RX3 15 (TX3 1).1 (TX3 1).2.1 (TX3 1).2.2.1 ∈ wsX3_clear := by decide +kernel
set_option maxRecDepth 100000 in
set_option maxHeartbeats 4000000 in
theorem c_X3_clear (E : qE) (q0 : Nat) (q1 : Nat) (q2 : Nat) (c : Int → Int) (b : Int → Int)  : Cn E yX3_clear wsX3_clear { frames := 1, cells := 0, slots := 0, locals := 23 } [.ref q0] [(q0, .inr (3, [.ref q1, .ref q2])), (q1, ia E 3 c), (q2, ia E 100 b)] (fun v9 w9 => v9 = none ∧ w9 = [(q0, .inr (3, [.ref q1, .ref q2])), (q1, ia E 3 (fiI c 3 0)), (q2, ia E 100 (fiI b 100 (-1)))]) 0 0 := by
  refine Cn.ofP (own := RX3) (cc := cX3_clear) (maxL := 1) (ret := none) false [(0, .ref q0)] (by decide +kernel) rfl rfl (Nat.le_of_ble_eq_true rfl) rfl (fun h => nomatch h) (fun v w h => by obtain ⟨rfl, h9⟩ := h; exact (rfl : (none : Option FieldType) = none)) ?_
  intro P G
  refine g_aload_n G 0 dX3_clear_0 rfl ?_
  refine g_get G 0 0 dX3_clear_1 i_X3_clear_X3 f_X3_clear_9 rfl rfl (by decide) rfl ?_
  refine g_iconst G dX3_clear_4 ?_
  refine g_callS G [1] [0, 2] 3 [(q0, .inr (3, [.ref q1, .ref q2])), (q2, ia E 100 b)] [.ref q1, .int (iI 0)] [] (c_J7_fill_53178 E q1 3 c 0 (by first | assumption | omega)) dX3_clear_5 gX3_clear_J7_fill_53178 ⟨rfl, ⟨rfl, rfl⟩, e_J7_fill_53178, ⟨Nat.le_of_ble_eq_true rfl, Nat.le_of_ble_eq_true rfl⟩, Nat.le_of_ble_eq_true rfl, Nat.le_of_ble_eq_true rfl, Nat.le_of_ble_eq_true rfl⟩ rfl (by decide +kernel) rfl (by decide +kernel) rfl (fun v9 w9 h9 => ?_)
  obtain ⟨o1, rfl, rfl, rfl⟩ := h9
  refine ⟨[(q0, .inr (3, [.ref q1, .ref q2])), (q1, ia E 3 (fiI c 3 0)), (q2, ia E 100 b)], ⟨rfl, rfl, rfl, rfl⟩, g_to 0 0 _ _ [] rfl rfl rfl rfl rfl ?_⟩
  refine g_aload_n G 0 dX3_clear_8 rfl ?_
  refine g_get G 0 1 dX3_clear_9 i_X3_clear_X3 f_X3_clear_15 rfl rfl (by decide) rfl ?_
  refine g_iconst G dX3_clear_12 ?_
  refine g_callS G [2] [0, 1] 3 [(q0, .inr (3, [.ref q1, .ref q2])), (q1, ia E 3 (fiI c 3 0))] [.ref q2, .int (iI (-1))] [] (c_J7_fill_53178 E q2 100 b (-1) (by first | assumption | omega)) dX3_clear_13 gX3_clear_J7_fill_53178 ⟨rfl, ⟨rfl, rfl⟩, e_J7_fill_53178, ⟨Nat.le_of_ble_eq_true rfl, Nat.le_of_ble_eq_true rfl⟩, Nat.le_of_ble_eq_true rfl, Nat.le_of_ble_eq_true rfl, Nat.le_of_ble_eq_true rfl⟩ rfl (by decide +kernel) rfl (by decide +kernel) rfl (fun v9 w9 h9 => ?_)
  obtain ⟨o2, rfl, rfl, rfl⟩ := h9
  refine ⟨[(q0, .inr (3, [.ref q1, .ref q2])), (q1, ia E 3 (fiI c 3 0)), (q2, ia E 100 (fiI b 100 (-1)))], ⟨rfl, rfl, rfl, rfl⟩, g_to 0 0 _ _ [] rfl rfl rfl rfl rfl ?_⟩
  exact g_ret G none rfl dX3_clear_16 (Nat.le_refl _) (Nat.le_refl _) ⟨rfl, rfl⟩
theorem f_X3_note_9 : Cond.fieldLink RX3 9 (TX3 0).1 (TX3 0).2.1 (TX3 0).2.2.1 ∈ wsX3_note := by decide +kernel
theorem i_X3_note_X3 : ∀ w ∈ wsX30, w ∈ wsX3_note := by decide +kernel
theorem f_X3_note_15 : Cond.fieldLink RX3 15 (TX3 1).1 (TX3 1).2.1 (TX3 1).2.2.1 ∈ wsX3_note := by decide +kernel
set_option maxRecDepth 100000 in
set_option maxHeartbeats 4000000 in
theorem c_X3_note (E : qE) (q0 : Nat) (q1 : Nat) (q2 : Nat) (c : Int → Int) (b : Int → Int) (v : Int) (s : Int) (hv : 0 ≤ v ∧ v < 3) (hs : 0 ≤ s ∧ s < 10000) : Cn E yX3_note wsX3_note { frames := 0, cells := 0, slots := 0, locals := 0 } [.ref q0, .int (iI v), .int (iI s)] [(q0, .inr (3, [.ref q1, .ref q2])), (q1, ia E 3 c), (q2, ia E 100 b)] (fun v9 w9 => v9 = none ∧ w9 = [(q0, .inr (3, [.ref q1, .ref q2])), (q1, ia E 3 (upI c v (c v + 1))), (q2, ia E 100 (upI b (s / 100) (s % 100)))]) 0 0 := by
  refine Cn.ofP (own := RX3) (cc := cX3_note) (maxL := 3) (ret := none) false [(0, .ref q0), (1, .int (iI v)), (2, .int (iI s))] (by decide +kernel) rfl rfl (Nat.le_of_ble_eq_true rfl) rfl (fun h => nomatch h) (fun v w h => by obtain ⟨rfl, h9⟩ := h; exact (rfl : (none : Option FieldType) = none)) ?_
  intro P G
  refine g_aload_n G 0 dX3_note_0 rfl ?_
  refine g_get G 0 0 dX3_note_1 i_X3_note_X3 f_X3_note_9 rfl rfl (by decide) rfl ?_
  refine g_iload_n G 1 dX3_note_4 rfl ?_
  refine g_dup2 G dX3_note_5 rfl rfl ?_
  refine g_iald G 1 dX3_note_6 rfl (by omega) (by omega) (by decide) ?_
  refine g_iconst G dX3_note_7 ?_
  refine g_iadd G dX3_note_8 ?_
  refine g_iast G 1 [(q0, .inr (3, [.ref q1, .ref q2])), (q1, ia E 3 (upI c v ((c v) + 1))), (q2, ia E 100 b)] dX3_note_9 rfl (by omega) (by omega) (by decide) rfl ?_
  refine g_aload_n G 0 dX3_note_10 rfl ?_
  refine g_get G 0 1 dX3_note_11 i_X3_note_X3 f_X3_note_15 rfl rfl (by decide) rfl ?_
  refine g_iload_n G 2 dX3_note_14 rfl ?_
  refine g_bipush G dX3_note_15 (by decide +kernel) ?_
  refine g_idiv G dX3_note_17 (by omega) (by omega) (by omega) (by omega) ?_
  refine g_iload_n G 2 dX3_note_18 rfl ?_
  refine g_bipush G dX3_note_19 (by decide +kernel) ?_
  refine g_irem G dX3_note_21 (by omega) (by omega) (by omega) (by omega) ?_
  refine g_iast G 2 [(q0, .inr (3, [.ref q1, .ref q2])), (q1, ia E 3 (upI c v ((c v) + 1))), (q2, ia E 100 (upI b (s / 100) (s % 100)))] dX3_note_22 rfl (by omega) (by omega) (by decide) rfl ?_
  exact g_ret G none rfl dX3_note_23 (Nat.le_refl _) (Nat.le_refl _) ⟨rfl, rfl⟩
theorem f_X3_baseOf_9 : Cond.fieldLink RX3 9 (TX3 0).1 (TX3 0).2.1 (TX3 0).2.2.1 ∈ wsX3_baseOf := by decide +kernel
theorem i_X3_baseOf_X3 : ∀ w ∈ wsX30, w ∈ wsX3_baseOf := by decide +kernel
theorem f_X3_baseOf_15 : Cond.fieldLink RX3 15 (TX3 1).1 (TX3 1).2.1 (TX3 1).2.2.1 ∈ wsX3_baseOf := by decide +kernel
set_option maxRecDepth 100000 in
set_option maxHeartbeats 4000000 in
theorem c_X3_baseOf (E : qE) (q0 : Nat) (q1 : Nat) (q2 : Nat) (c : Int → Int) (b : Int → Int) (x : Int) (v : Int) (s : Int) (hx : -2147483648 ≤ x ∧ x < 2147483648) (hv : 0 ≤ v ∧ v < 3) (hs : 0 ≤ s ∧ s < 10000) : Cn E yX3_baseOf wsX3_baseOf { frames := 0, cells := 0, slots := 0, locals := 0 } [.ref q0, .int (iI x), .int (iI v), .int (iI s)] [(q0, .inr (3, [.ref q1, .ref q2])), (q1, ia E 3 c), (q2, ia E 100 b)] (fun v9 w9 => ∃ (r : Int), v9 = some (.int (iI r)) ∧ w9 = [(q0, .inr (3, [.ref q1, .ref q2])), (q1, ia E 3 c), (q2, ia E 100 b)] ∧ r = (baseI c b x v s)) 0 0 := by
  refine Cn.ofP (own := RX3) (cc := cX3_baseOf) (maxL := 4) (ret := (some .int)) false [(0, .ref q0), (1, .int (iI x)), (2, .int (iI v)), (3, .int (iI s))] (by decide +kernel) rfl rfl (Nat.le_of_ble_eq_true rfl) rfl (fun h => nomatch h) (fun v w h => by obtain ⟨r, rfl, h9⟩ := h; exact ⟨_, rfl, rfl⟩) ?_
  intro P G
  refine g_iload_n G 1 dX3_baseOf_0 rfl ?_
  rcases (show x = 1 ∨ x = 2 ∨ x = 3 ∨ x = 4 ∨ (x < 1 ∨ 4 < x) by omega) with c1 | c1 | c1 | c1 | c1
  · refine g_tsIn G (1) (31) 32 dX3_baseOf_1 c1 (by decide) (by decide) (by decide) rfl (by decide) ?_
    refine g_iload_n G 3 dX3_baseOf_32 rfl ?_
    refine g_bipush G dX3_baseOf_33 (by decide +kernel) ?_
    refine g_idiv G dX3_baseOf_35 (by omega) (by omega) (by omega) (by omega) ?_
    exact g_ret G (some (.int (iI (s / 100)))) rfl dX3_baseOf_36 (Nat.le_refl _) (Nat.le_refl _) ⟨(s / 100), rfl, rfl, by unfold baseI; first | (rw [if_pos c1]; done) | (rw [if_neg (by omega), if_pos c1]; done) | (rw [if_neg (by omega), if_neg (by omega), if_pos c1]; done) | (rw [if_neg (by omega), if_neg (by omega), if_neg (by omega), if_pos c1]; done) | (rw [if_neg (by omega), if_neg (by omega), if_neg (by omega), if_neg (by omega)])⟩
  · refine g_tsIn G (2) (36) 37 dX3_baseOf_1 c1 (by decide) (by decide) (by decide) rfl (by decide) ?_
    refine g_iload_n G 3 dX3_baseOf_37 rfl ?_
    refine g_bipush G dX3_baseOf_38 (by decide +kernel) ?_
    refine g_irem G dX3_baseOf_40 (by omega) (by omega) (by omega) (by omega) ?_
    exact g_ret G (some (.int (iI (s % 100)))) rfl dX3_baseOf_41 (Nat.le_refl _) (Nat.le_refl _) ⟨(s % 100), rfl, rfl, by unfold baseI; first | (rw [if_pos c1]; done) | (rw [if_neg (by omega), if_pos c1]; done) | (rw [if_neg (by omega), if_neg (by omega), if_pos c1]; done) | (rw [if_neg (by omega), if_neg (by omega), if_neg (by omega), if_pos c1]; done) | (rw [if_neg (by omega), if_neg (by omega), if_neg (by omega), if_neg (by omega)])⟩
  · refine g_tsIn G (3) (41) 42 dX3_baseOf_1 c1 (by decide) (by decide) (by decide) rfl (by decide) ?_
    refine g_aload_n G 0 dX3_baseOf_42 rfl ?_
    refine g_get G 0 0 dX3_baseOf_43 i_X3_baseOf_X3 f_X3_baseOf_9 rfl rfl (by decide) rfl ?_
    refine g_iload_n G 2 dX3_baseOf_46 rfl ?_
    refine g_iald G 1 dX3_baseOf_47 rfl (by omega) (by omega) (by decide) ?_
    exact g_ret G (some (.int (iI (c v)))) rfl dX3_baseOf_48 (Nat.le_refl _) (Nat.le_refl _) ⟨(c v), rfl, rfl, by unfold baseI; first | (rw [if_pos c1]; done) | (rw [if_neg (by omega), if_pos c1]; done) | (rw [if_neg (by omega), if_neg (by omega), if_pos c1]; done) | (rw [if_neg (by omega), if_neg (by omega), if_neg (by omega), if_pos c1]; done) | (rw [if_neg (by omega), if_neg (by omega), if_neg (by omega), if_neg (by omega)])⟩
  · refine g_tsIn G (4) (48) 49 dX3_baseOf_1 c1 (by decide) (by decide) (by decide) rfl (by decide) ?_
    refine g_aload_n G 0 dX3_baseOf_49 rfl ?_
    refine g_get G 0 1 dX3_baseOf_50 i_X3_baseOf_X3 f_X3_baseOf_15 rfl rfl (by decide) rfl ?_
    refine g_iload_n G 3 dX3_baseOf_53 rfl ?_
    refine g_bipush G dX3_baseOf_54 (by decide +kernel) ?_
    refine g_idiv G dX3_baseOf_56 (by omega) (by omega) (by omega) (by omega) ?_
    refine g_iald G 2 dX3_baseOf_57 rfl (by omega) (by omega) (by decide) ?_
    exact g_ret G (some (.int (iI (b (s / 100))))) rfl dX3_baseOf_58 (Nat.le_refl _) (Nat.le_refl _) ⟨(b (s / 100)), rfl, rfl, by unfold baseI; first | (rw [if_pos c1]; done) | (rw [if_neg (by omega), if_pos c1]; done) | (rw [if_neg (by omega), if_neg (by omega), if_pos c1]; done) | (rw [if_neg (by omega), if_neg (by omega), if_neg (by omega), if_pos c1]; done) | (rw [if_neg (by omega), if_neg (by omega), if_neg (by omega), if_neg (by omega)])⟩
  · refine g_tsOut G 59 dX3_baseOf_1 (by omega) c1 (by decide) ?_
    refine g_iconst G dX3_baseOf_59 ?_
    exact g_ret G (some (.int (iI 0))) rfl dX3_baseOf_60 (Nat.le_refl _) (Nat.le_refl _) ⟨0, rfl, rfl, by unfold baseI; first | (rw [if_pos c1]; done) | (rw [if_neg (by omega), if_pos c1]; done) | (rw [if_neg (by omega), if_neg (by omega), if_pos c1]; done) | (rw [if_neg (by omega), if_neg (by omega), if_neg (by omega), if_pos c1]; done) | (rw [if_neg (by omega), if_neg (by omega), if_neg (by omega), if_neg (by omega)])⟩
theorem f_X3_copy_9 : Cond.fieldLink RX3 9 (TX3 0).1 (TX3 0).2.1 (TX3 0).2.2.1 ∈ wsX3_copy := by decide +kernel
theorem i_X3_copy_X3 : ∀ w ∈ wsX30, w ∈ wsX3_copy := by decide +kernel
theorem f_X3_copy_15 : Cond.fieldLink RX3 15 (TX3 1).1 (TX3 1).2.1 (TX3 1).2.2.1 ∈ wsX3_copy := by decide +kernel
set_option maxRecDepth 100000 in
set_option maxHeartbeats 4000000 in
theorem c_X3_copy (E : qE) (q0 : Nat) (q1 : Nat) (q2 : Nat) (c : Int → Int) (b : Int → Int) (u0 : Nat) (u1 : Nat) (u2 : Nat) (c1 : Int → Int) (b1 : Int → Int)  : Cn E yX3_copy wsX3_copy { frames := 1, cells := 0, slots := 0, locals := 18 } [.ref q0, .ref u0] [(q0, .inr (3, [.ref q1, .ref q2])), (q1, ia E 3 c), (q2, ia E 100 b), (u0, .inr (3, [.ref u1, .ref u2])), (u1, ia E 3 c1), (u2, ia E 100 b1)] (fun v9 w9 => v9 = none ∧ w9 = [(q0, .inr (3, [.ref q1, .ref q2])), (q1, ia E 3 (cpI c1 c 3)), (q2, ia E 100 (cpI b1 b 100)), (u0, .inr (3, [.ref u1, .ref u2])), (u1, ia E 3 c1), (u2, ia E 100 b1)]) 0 0 := by
  refine Cn.ofP (own := RX3) (cc := cX3_copy) (maxL := 2) (ret := none) false [(0, .ref q0), (1, .ref u0)] (by decide +kernel) rfl rfl (Nat.le_of_ble_eq_true rfl) rfl (fun h => nomatch h) (fun v w h => by obtain ⟨rfl, h9⟩ := h; exact (rfl : (none : Option FieldType) = none)) ?_
  intro P G
  refine g_aload_n G 1 dX3_copy_0 rfl ?_
  refine g_get G 3 0 dX3_copy_1 i_X3_copy_X3 f_X3_copy_9 rfl rfl (by decide) rfl ?_
  refine g_iconst G dX3_copy_4 ?_
  refine g_aload_n G 0 dX3_copy_5 rfl ?_
  refine g_get G 0 0 dX3_copy_6 i_X3_copy_X3 f_X3_copy_9 rfl rfl (by decide) rfl ?_
  refine g_iconst G dX3_copy_9 ?_
  refine g_iconst G dX3_copy_10 ?_
  refine g_copy G 4 1 [(q0, .inr (3, [.ref q1, .ref q2])), (q1, ia E 3 (cpI c1 c 3)), (q2, ia E 100 b), (u0, .inr (3, [.ref u1, .ref u2])), (u1, ia E 3 c1), (u2, ia E 100 b1)] dX3_copy_11 (by decide +kernel) (by decide +kernel) (by decide +kernel) (by decide +kernel) rfl rfl (by decide) (by decide) (by decide) (by decide) (Nat.le_of_ble_eq_true rfl) (Nat.le_of_ble_eq_true rfl) rfl ?_
  refine g_aload_n G 1 dX3_copy_14 rfl ?_
  refine g_get G 3 1 dX3_copy_15 i_X3_copy_X3 f_X3_copy_15 rfl rfl (by decide) rfl ?_
  refine g_iconst G dX3_copy_18 ?_
  refine g_aload_n G 0 dX3_copy_19 rfl ?_
  refine g_get G 0 1 dX3_copy_20 i_X3_copy_X3 f_X3_copy_15 rfl rfl (by decide) rfl ?_
  refine g_iconst G dX3_copy_23 ?_
  refine g_bipush G dX3_copy_24 (by decide +kernel) ?_
  refine g_copy G 5 2 [(q0, .inr (3, [.ref q1, .ref q2])), (q1, ia E 3 (cpI c1 c 3)), (q2, ia E 100 (cpI b1 b 100)), (u0, .inr (3, [.ref u1, .ref u2])), (u1, ia E 3 c1), (u2, ia E 100 b1)] dX3_copy_26 (by decide +kernel) (by decide +kernel) (by decide +kernel) (by decide +kernel) rfl rfl (by decide) (by decide) (by decide) (by decide) (Nat.le_of_ble_eq_true rfl) (Nat.le_of_ble_eq_true rfl) rfl ?_
  exact g_ret G none rfl dX3_copy_29 (Nat.le_refl _) (Nat.le_refl _) ⟨rfl, rfl⟩
theorem f_X1_init_9 : Cond.fieldLink RX1 9 (TX1 0).1 (TX1 0).2.1 (TX1 0).2.2.1 ∈ wsX1_init := by decide +kernel
theorem i_X1_init_X1 : ∀ w ∈ wsX10, w ∈ wsX1_init := by decide +kernel
theorem f_X1_init_15 : Cond.fieldLink RX1 15 (TX1 1).1 (TX1 1).2.1 (TX1 1).2.2.1 ∈ wsX1_init := by decide +kernel
set_option maxRecDepth 100000 in
set_option maxHeartbeats 4000000 in
theorem c_X1_init (E : qE) (q0 : Nat)  : Cn E yX1_init wsX1_init { frames := 1, cells := 2, slots := 24, locals := 12 } [.ref q0] [(q0, .inr (1, [.null, .null, .int (iI 0)]))] (fun v9 w9 => ∃ (q1 : Nat) (q2 : Nat), v9 = none ∧ w9 = [(q0, .inr (1, [.ref q1, .ref q2, .int (iI 0)])), (q1, ia E 12 (fun _ => 0)), (q2, ia E 12 (fun _ => 0))]) 2 24 := by
  refine Cn.ofP (own := RX1) (cc := cX1_init) (maxL := 1) (ret := none) true [(0, .ref q0)] (by decide +kernel) rfl rfl (Nat.le_of_ble_eq_true rfl) rfl (fun _ => rfl) (fun v w h => by obtain ⟨q1, q2, rfl, h9⟩ := h; exact (rfl : (none : Option FieldType) = none)) ?_
  intro P G
  refine g_aload_n G 0 dX1_init_0 rfl ?_
  refine g_objInit G dX1_init_1 (by decide +kernel) (by decide +kernel) (by decide +kernel) (Nat.le_of_ble_eq_true rfl) (Nat.le_of_ble_eq_true rfl) ?_
  refine g_aload_n G 0 dX1_init_4 rfl ?_
  refine g_bipush G dX1_init_5 (by decide +kernel) ?_
  refine g_newi G 12 dX1_init_7 (by decide +kernel) rfl (by decide) (Nat.le_of_ble_eq_true rfl) (Nat.le_of_ble_eq_true rfl) (fun p1 => ?_)
  refine g_to 1 12 [(q0, .inr (1, [.null, .null, .int (iI 0)])), (p1, ia E 12 (fun _ => 0))] _ [.ref p1, .ref q0] rfl rfl rfl rfl rfl ?_
  refine g_putF G 0 0 [(q0, .inr (1, [.ref p1, .null, .int (iI 0)])), (p1, ia E 12 (fun _ => 0))] dX1_init_9 i_X1_init_X1 f_X1_init_9 tyX1_ok nmX1 rfl rfl (by decide) rfl rfl rfl rfl rfl (Nat.le_of_ble_eq_true rfl) rfl ?_
  refine g_aload_n G 0 dX1_init_12 rfl ?_
  refine g_bipush G dX1_init_13 (by decide +kernel) ?_
  refine g_newi G 12 dX1_init_15 (by decide +kernel) rfl (by decide) (Nat.le_of_ble_eq_true rfl) (Nat.le_of_ble_eq_true rfl) (fun p2 => ?_)
  refine g_to 2 24 [(q0, .inr (1, [.ref p1, .null, .int (iI 0)])), (p1, ia E 12 (fun _ => 0)), (p2, ia E 12 (fun _ => 0))] _ [.ref p2, .ref q0] rfl rfl rfl rfl rfl ?_
  refine g_putF G 0 1 [(q0, .inr (1, [.ref p1, .ref p2, .int (iI 0)])), (p1, ia E 12 (fun _ => 0)), (p2, ia E 12 (fun _ => 0))] dX1_init_17 i_X1_init_X1 f_X1_init_15 tyX1_ok nmX1 rfl rfl (by decide) rfl rfl rfl rfl rfl (Nat.le_of_ble_eq_true rfl) rfl ?_
  exact g_ret G none rfl dX1_init_20 (Nat.le_refl _) (Nat.le_refl _) ⟨p1, p2, rfl, rfl⟩
theorem f_X1_clear_9 : Cond.fieldLink RX1 9 (TX1 0).1 (TX1 0).2.1 (TX1 0).2.2.1 ∈ wsX1_clear := by decide +kernel
theorem i_X1_clear_X1 : ∀ w ∈ wsX10, w ∈ wsX1_clear := by decide +kernel
theorem f_X1_clear_15 : Cond.fieldLink RX1 15 (TX1 1).1 (TX1 1).2.1 (TX1 1).2.2.1 ∈ wsX1_clear := by decide +kernel
theorem f_X1_clear_24 : Cond.fieldLink RX1 24 (TX1 2).1 (TX1 2).2.1 (TX1 2).2.2.1 ∈ wsX1_clear := by decide +kernel
set_option maxRecDepth 100000 in
set_option maxHeartbeats 4000000 in
theorem c_X1_clear (E : qE) (q0 : Nat) (q1 : Nat) (q2 : Nat) (t : Int → Int) (c : Int → Int) (z : Int) (x : Int)  : Cn E yX1_clear wsX1_clear { frames := 1, cells := 0, slots := 0, locals := 23 } [.ref q0, .int (iI x)] [(q0, .inr (1, [.ref q1, .ref q2, .int (iI z)])), (q1, ia E 12 t), (q2, ia E 12 c)] (fun v9 w9 => v9 = none ∧ w9 = [(q0, .inr (1, [.ref q1, .ref q2, .int (iI x)])), (q1, ia E 12 (fiI t 12 (-1))), (q2, ia E 12 (fiI c 12 (-1)))]) 0 0 := by
  refine Cn.ofP (own := RX1) (cc := cX1_clear) (maxL := 2) (ret := none) false [(0, .ref q0), (1, .int (iI x))] (by decide +kernel) rfl rfl (Nat.le_of_ble_eq_true rfl) rfl (fun h => nomatch h) (fun v w h => by obtain ⟨rfl, h9⟩ := h; exact (rfl : (none : Option FieldType) = none)) ?_
  intro P G
  refine g_aload_n G 0 dX1_clear_0 rfl ?_
  refine g_get G 0 0 dX1_clear_1 i_X1_clear_X1 f_X1_clear_9 rfl rfl (by decide) rfl ?_
  refine g_iconst G dX1_clear_4 ?_
  refine g_callS G [1] [0, 2] 3 [(q0, .inr (1, [.ref q1, .ref q2, .int (iI z)])), (q2, ia E 12 c)] [.ref q1, .int (iI (-1))] [] (c_J7_fill_53178 E q1 12 t (-1) (by first | assumption | omega)) dX1_clear_5 gX1_clear_J7_fill_53178 ⟨rfl, ⟨rfl, rfl⟩, e_J7_fill_53178, ⟨Nat.le_of_ble_eq_true rfl, Nat.le_of_ble_eq_true rfl⟩, Nat.le_of_ble_eq_true rfl, Nat.le_of_ble_eq_true rfl, Nat.le_of_ble_eq_true rfl⟩ rfl (by decide +kernel) rfl (by decide +kernel) rfl (fun v9 w9 h9 => ?_)
  obtain ⟨o1, rfl, rfl, rfl⟩ := h9
  refine ⟨[(q0, .inr (1, [.ref q1, .ref q2, .int (iI z)])), (q1, ia E 12 (fiI t 12 (-1))), (q2, ia E 12 c)], ⟨rfl, rfl, rfl, rfl⟩, g_to 0 0 _ _ [] rfl rfl rfl rfl rfl ?_⟩
  refine g_aload_n G 0 dX1_clear_8 rfl ?_
  refine g_get G 0 1 dX1_clear_9 i_X1_clear_X1 f_X1_clear_15 rfl rfl (by decide) rfl ?_
  refine g_iconst G dX1_clear_12 ?_
  refine g_callS G [2] [0, 1] 3 [(q0, .inr (1, [.ref q1, .ref q2, .int (iI z)])), (q1, ia E 12 (fiI t 12 (-1)))] [.ref q2, .int (iI (-1))] [] (c_J7_fill_53178 E q2 12 c (-1) (by first | assumption | omega)) dX1_clear_13 gX1_clear_J7_fill_53178 ⟨rfl, ⟨rfl, rfl⟩, e_J7_fill_53178, ⟨Nat.le_of_ble_eq_true rfl, Nat.le_of_ble_eq_true rfl⟩, Nat.le_of_ble_eq_true rfl, Nat.le_of_ble_eq_true rfl, Nat.le_of_ble_eq_true rfl⟩ rfl (by decide +kernel) rfl (by decide +kernel) rfl (fun v9 w9 h9 => ?_)
  obtain ⟨o2, rfl, rfl, rfl⟩ := h9
  refine ⟨[(q0, .inr (1, [.ref q1, .ref q2, .int (iI z)])), (q1, ia E 12 (fiI t 12 (-1))), (q2, ia E 12 (fiI c 12 (-1)))], ⟨rfl, rfl, rfl, rfl⟩, g_to 0 0 _ _ [] rfl rfl rfl rfl rfl ?_⟩
  refine g_aload_n G 0 dX1_clear_16 rfl ?_
  refine g_iload_n G 1 dX1_clear_17 rfl ?_
  refine g_put G 0 2 [(q0, .inr (1, [.ref q1, .ref q2, .int (iI x)])), (q1, ia E 12 (fiI t 12 (-1))), (q2, ia E 12 (fiI c 12 (-1)))] dX1_clear_18 i_X1_clear_X1 f_X1_clear_24 tyX1_ok nmX1 rfl rfl (by decide) rfl rfl rfl rfl (Nat.le_of_ble_eq_true rfl) rfl ?_
  exact g_ret G none rfl dX1_clear_21 (Nat.le_refl _) (Nat.le_refl _) ⟨rfl, rfl⟩
theorem f_X1_setMove_9 : Cond.fieldLink RX1 9 (TX1 0).1 (TX1 0).2.1 (TX1 0).2.2.1 ∈ wsX1_setMove := by decide +kernel
theorem i_X1_setMove_X1 : ∀ w ∈ wsX10, w ∈ wsX1_setMove := by decide +kernel
theorem f_X1_setMove_15 : Cond.fieldLink RX1 15 (TX1 1).1 (TX1 1).2.1 (TX1 1).2.2.1 ∈ wsX1_setMove := by decide +kernel
set_option maxRecDepth 100000 in
set_option maxHeartbeats 4000000 in
theorem c_X1_setMove (E : qE) (q0 : Nat) (q1 : Nat) (q2 : Nat) (t : Int → Int) (c : Int → Int) (z : Int) (x : Int) (y : Int) (d : Int) (hx : 0 ≤ x ∧ x < 12) : Cn E yX1_setMove wsX1_setMove { frames := 0, cells := 0, slots := 0, locals := 0 } [.ref q0, .int (iI x), .int (iI y), .int (iI d)] [(q0, .inr (1, [.ref q1, .ref q2, .int (iI z)])), (q1, ia E 12 t), (q2, ia E 12 c)] (fun v9 w9 => v9 = none ∧ w9 = [(q0, .inr (1, [.ref q1, .ref q2, .int (iI z)])), (q1, ia E 12 (upI t x y)), (q2, ia E 12 (upI c x d))]) 0 0 := by
  refine Cn.ofP (own := RX1) (cc := cX1_setMove) (maxL := 4) (ret := none) false [(0, .ref q0), (1, .int (iI x)), (2, .int (iI y)), (3, .int (iI d))] (by decide +kernel) rfl rfl (Nat.le_of_ble_eq_true rfl) rfl (fun h => nomatch h) (fun v w h => by obtain ⟨rfl, h9⟩ := h; exact (rfl : (none : Option FieldType) = none)) ?_
  intro P G
  refine g_aload_n G 0 dX1_setMove_0 rfl ?_
  refine g_get G 0 0 dX1_setMove_1 i_X1_setMove_X1 f_X1_setMove_9 rfl rfl (by decide) rfl ?_
  refine g_iload_n G 1 dX1_setMove_4 rfl ?_
  refine g_iload_n G 2 dX1_setMove_5 rfl ?_
  refine g_iast G 1 [(q0, .inr (1, [.ref q1, .ref q2, .int (iI z)])), (q1, ia E 12 (upI t x y)), (q2, ia E 12 c)] dX1_setMove_6 rfl (by omega) (by omega) (by decide) rfl ?_
  refine g_aload_n G 0 dX1_setMove_7 rfl ?_
  refine g_get G 0 1 dX1_setMove_8 i_X1_setMove_X1 f_X1_setMove_15 rfl rfl (by decide) rfl ?_
  refine g_iload_n G 1 dX1_setMove_11 rfl ?_
  refine g_iload_n G 3 dX1_setMove_12 rfl ?_
  refine g_iast G 2 [(q0, .inr (1, [.ref q1, .ref q2, .int (iI z)])), (q1, ia E 12 (upI t x y)), (q2, ia E 12 (upI c x d))] dX1_setMove_13 rfl (by omega) (by omega) (by decide) rfl ?_
  exact g_ret G none rfl dX1_setMove_14 (Nat.le_refl _) (Nat.le_refl _) ⟨rfl, rfl⟩
theorem f_X1_size_24 : Cond.fieldLink RX1 24 (TX1 2).1 (TX1 2).2.1 (TX1 2).2.2.1 ∈ wsX1_size := by decide +kernel
theorem i_X1_size_X1 : ∀ w ∈ wsX10, w ∈ wsX1_size := by decide +kernel
set_option maxRecDepth 100000 in
set_option maxHeartbeats 4000000 in
theorem c_X1_size (E : qE) (q0 : Nat) (q1 : Nat) (q2 : Nat) (t : Int → Int) (c : Int → Int) (z : Int)  : Cn E yX1_size wsX1_size { frames := 0, cells := 0, slots := 0, locals := 0 } [.ref q0] [(q0, .inr (1, [.ref q1, .ref q2, .int (iI z)])), (q1, ia E 12 t), (q2, ia E 12 c)] (fun v9 w9 => v9 = some (.int (iI z)) ∧ w9 = [(q0, .inr (1, [.ref q1, .ref q2, .int (iI z)])), (q1, ia E 12 t), (q2, ia E 12 c)]) 0 0 := by
  refine Cn.ofP (own := RX1) (cc := cX1_size) (maxL := 1) (ret := (some .int)) false [(0, .ref q0)] (by decide +kernel) rfl rfl (Nat.le_of_ble_eq_true rfl) rfl (fun h => nomatch h) (fun v w h => by obtain ⟨rfl, h9⟩ := h; exact ⟨_, rfl, rfl⟩) ?_
  intro P G
  refine g_aload_n G 0 dX1_size_0 rfl ?_
  refine g_get G 0 2 dX1_size_1 i_X1_size_X1 f_X1_size_24 rfl rfl (by decide) rfl ?_
  exact g_ret G (some (.int (iI z))) rfl dX1_size_4 (Nat.le_refl _) (Nat.le_refl _) ⟨rfl, rfl⟩
theorem f_X1_stands_24 : Cond.fieldLink RX1 24 (TX1 2).1 (TX1 2).2.1 (TX1 2).2.2.1 ∈ wsX1_stands := by decide +kernel
theorem i_X1_stands_X1 : ∀ w ∈ wsX10, w ∈ wsX1_stands := by decide +kernel
set_option maxRecDepth 100000 in
set_option maxHeartbeats 4000000 in
theorem c_X1_stands (E : qE) (q0 : Nat) (q1 : Nat) (q2 : Nat) (t : Int → Int) (c : Int → Int) (z : Int) (hz : -2147483648 ≤ z ∧ z < 2147483648) : Cn E yX1_stands wsX1_stands { frames := 0, cells := 0, slots := 0, locals := 0 } [.ref q0] [(q0, .inr (1, [.ref q1, .ref q2, .int (iI z)])), (q1, ia E 12 t), (q2, ia E 12 c)] (fun v9 w9 => ∃ (r : Int), v9 = some (.int (iI r)) ∧ w9 = [(q0, .inr (1, [.ref q1, .ref q2, .int (iI z)])), (q1, ia E 12 t), (q2, ia E 12 c)] ∧ r = (if 0 < z then 1 else 0)) 0 0 := by
  refine Cn.ofP (own := RX1) (cc := cX1_stands) (maxL := 1) (ret := (some .boolean)) false [(0, .ref q0)] (by decide +kernel) rfl rfl (Nat.le_of_ble_eq_true rfl) rfl (fun h => nomatch h) (fun v w h => by obtain ⟨r, rfl, h9⟩ := h; exact ⟨_, rfl, by (refine iI_b01 ?_; first | rw [h9.2] | rw [h9.2.1]); split <;> simp⟩) ?_
  intro P G
  refine g_aload_n G 0 dX1_stands_0 rfl ?_
  refine g_get G 0 2 dX1_stands_1 i_X1_stands_X1 f_X1_stands_24 rfl rfl (by decide) rfl ?_
  refine g_if_le G 11 dX1_stands_4 (by decide) (by omega) (fun c4 => ?_) (fun c4 => ?_)
  · refine g_iconst G dX1_stands_11 ?_
    exact g_ret G (some (.int (iI 0))) rfl dX1_stands_12 (Nat.le_refl _) (Nat.le_refl _) ⟨0, rfl, rfl, by first | rfl | omega | (split <;> omega)⟩
  · refine g_iconst G dX1_stands_7 ?_
    refine g_goto G 12 dX1_stands_8 (by decide) ?_
    exact g_ret G (some (.int (iI 1))) rfl dX1_stands_12 (Nat.le_refl _) (Nat.le_refl _) ⟨1, rfl, rfl, by first | rfl | omega | (split <;> omega)⟩
theorem f_X1_targetOf_9 : Cond.fieldLink RX1 9 (TX1 0).1 (TX1 0).2.1 (TX1 0).2.2.1 ∈ wsX1_targetOf := by decide +kernel
theorem i_X1_targetOf_X1 : ∀ w ∈ wsX10, w ∈ wsX1_targetOf := by decide +kernel
set_option maxRecDepth 100000 in
set_option maxHeartbeats 4000000 in
theorem c_X1_targetOf (E : qE) (q0 : Nat) (q1 : Nat) (q2 : Nat) (t : Int → Int) (c : Int → Int) (z : Int) (x : Int) (y : Int) (h : 0 ≤ x * 3 + y ∧ x * 3 + y < 12) : Cn E yX1_targetOf wsX1_targetOf { frames := 0, cells := 0, slots := 0, locals := 0 } [.ref q0, .int (iI x), .int (iI y)] [(q0, .inr (1, [.ref q1, .ref q2, .int (iI z)])), (q1, ia E 12 t), (q2, ia E 12 c)] (fun v9 w9 => ∃ (r : Int), v9 = some (.int (iI r)) ∧ w9 = [(q0, .inr (1, [.ref q1, .ref q2, .int (iI z)])), (q1, ia E 12 t), (q2, ia E 12 c)] ∧ r = (t (x * 3 + y))) 0 0 := by
  refine Cn.ofP (own := RX1) (cc := cX1_targetOf) (maxL := 3) (ret := (some .int)) false [(0, .ref q0), (1, .int (iI x)), (2, .int (iI y))] (by decide +kernel) rfl rfl (Nat.le_of_ble_eq_true rfl) rfl (fun h => nomatch h) (fun v w h => by obtain ⟨r, rfl, h9⟩ := h; exact ⟨_, rfl, rfl⟩) ?_
  intro P G
  refine g_aload_n G 0 dX1_targetOf_0 rfl ?_
  refine g_get G 0 0 dX1_targetOf_1 i_X1_targetOf_X1 f_X1_targetOf_9 rfl rfl (by decide) rfl ?_
  refine g_iload_n G 1 dX1_targetOf_4 rfl ?_
  refine g_iconst G dX1_targetOf_5 ?_
  refine g_imul G dX1_targetOf_6 ?_
  refine g_iload_n G 2 dX1_targetOf_7 rfl ?_
  refine g_iadd G dX1_targetOf_8 ?_
  refine g_iald G 1 dX1_targetOf_9 rfl (by omega) (by omega) (by decide) ?_
  exact g_ret G (some (.int (iI (t ((x * 3) + y))))) rfl dX1_targetOf_10 (Nat.le_refl _) (Nat.le_refl _) ⟨(t ((x * 3) + y)), rfl, rfl, by first | rfl | omega | (split <;> omega)⟩
theorem f_X1_toldBy_15 : Cond.fieldLink RX1 15 (TX1 1).1 (TX1 1).2.1 (TX1 1).2.2.1 ∈ wsX1_toldBy := by decide +kernel
theorem i_X1_toldBy_X1 : ∀ w ∈ wsX10, w ∈ wsX1_toldBy := by decide +kernel
set_option maxRecDepth 100000 in
set_option maxHeartbeats 4000000 in
theorem c_X1_toldBy (E : qE) (q0 : Nat) (q1 : Nat) (q2 : Nat) (t : Int → Int) (c : Int → Int) (z : Int) (x : Int) (y : Int) (h : 0 ≤ x * 3 + y ∧ x * 3 + y < 12) : Cn E yX1_toldBy wsX1_toldBy { frames := 0, cells := 0, slots := 0, locals := 0 } [.ref q0, .int (iI x), .int (iI y)] [(q0, .inr (1, [.ref q1, .ref q2, .int (iI z)])), (q1, ia E 12 t), (q2, ia E 12 c)] (fun v9 w9 => ∃ (r : Int), v9 = some (.int (iI r)) ∧ w9 = [(q0, .inr (1, [.ref q1, .ref q2, .int (iI z)])), (q1, ia E 12 t), (q2, ia E 12 c)] ∧ r = (c (x * 3 + y))) 0 0 := by
  refine Cn.ofP (own := RX1) (cc := cX1_toldBy) (maxL := 3) (ret := (some .int)) false [(0, .ref q0), (1, .int (iI x)), (2, .int (iI y))] (by decide +kernel) rfl rfl (Nat.le_of_ble_eq_true rfl) rfl (fun h => nomatch h) (fun v w h => by obtain ⟨r, rfl, h9⟩ := h; exact ⟨_, rfl, rfl⟩) ?_
  intro P G
  refine g_aload_n G 0 dX1_toldBy_0 rfl ?_
  refine g_get G 0 1 dX1_toldBy_1 i_X1_toldBy_X1 f_X1_toldBy_15 rfl rfl (by decide) rfl ?_
  refine g_iload_n G 1 dX1_toldBy_4 rfl ?_
  refine g_iconst G dX1_toldBy_5 ?_
  refine g_imul G dX1_toldBy_6 ?_
  refine g_iload_n G 2 dX1_toldBy_7 rfl ?_
  refine g_iadd G dX1_toldBy_8 ?_
  refine g_iald G 2 dX1_toldBy_9 rfl (by omega) (by omega) (by decide) ?_
  exact g_ret G (some (.int (iI (c ((x * 3) + y))))) rfl dX1_toldBy_10 (Nat.le_refl _) (Nat.le_refl _) ⟨(c ((x * 3) + y)), rfl, rfl, by first | rfl | omega | (split <;> omega)⟩
theorem f_X1_copy_9 : Cond.fieldLink RX1 9 (TX1 0).1 (TX1 0).2.1 (TX1 0).2.2.1 ∈ wsX1_copy := by decide +kernel
theorem i_X1_copy_X1 : ∀ w ∈ wsX10, w ∈ wsX1_copy := by decide +kernel
theorem f_X1_copy_15 : Cond.fieldLink RX1 15 (TX1 1).1 (TX1 1).2.1 (TX1 1).2.2.1 ∈ wsX1_copy := by decide +kernel
theorem f_X1_copy_24 : Cond.fieldLink RX1 24 (TX1 2).1 (TX1 2).2.1 (TX1 2).2.2.1 ∈ wsX1_copy := by decide +kernel
set_option maxRecDepth 100000 in
set_option maxHeartbeats 4000000 in
theorem c_X1_copy (E : qE) (q0 : Nat) (q1 : Nat) (q2 : Nat) (t : Int → Int) (c : Int → Int) (z : Int) (u0 : Nat) (u1 : Nat) (u2 : Nat) (t1 : Int → Int) (c1 : Int → Int) (z1 : Int)  : Cn E yX1_copy wsX1_copy { frames := 1, cells := 0, slots := 0, locals := 18 } [.ref q0, .ref u0] [(q0, .inr (1, [.ref q1, .ref q2, .int (iI z)])), (q1, ia E 12 t), (q2, ia E 12 c), (u0, .inr (1, [.ref u1, .ref u2, .int (iI z1)])), (u1, ia E 12 t1), (u2, ia E 12 c1)] (fun v9 w9 => v9 = none ∧ w9 = [(q0, .inr (1, [.ref q1, .ref q2, .int (iI z1)])), (q1, ia E 12 (cpI t1 t 12)), (q2, ia E 12 (cpI c1 c 12)), (u0, .inr (1, [.ref u1, .ref u2, .int (iI z1)])), (u1, ia E 12 t1), (u2, ia E 12 c1)]) 0 0 := by
  refine Cn.ofP (own := RX1) (cc := cX1_copy) (maxL := 2) (ret := none) false [(0, .ref q0), (1, .ref u0)] (by decide +kernel) rfl rfl (Nat.le_of_ble_eq_true rfl) rfl (fun h => nomatch h) (fun v w h => by obtain ⟨rfl, h9⟩ := h; exact (rfl : (none : Option FieldType) = none)) ?_
  intro P G
  refine g_aload_n G 1 dX1_copy_0 rfl ?_
  refine g_get G 3 0 dX1_copy_1 i_X1_copy_X1 f_X1_copy_9 rfl rfl (by decide) rfl ?_
  refine g_iconst G dX1_copy_4 ?_
  refine g_aload_n G 0 dX1_copy_5 rfl ?_
  refine g_get G 0 0 dX1_copy_6 i_X1_copy_X1 f_X1_copy_9 rfl rfl (by decide) rfl ?_
  refine g_iconst G dX1_copy_9 ?_
  refine g_bipush G dX1_copy_10 (by decide +kernel) ?_
  refine g_copy G 4 1 [(q0, .inr (1, [.ref q1, .ref q2, .int (iI z)])), (q1, ia E 12 (cpI t1 t 12)), (q2, ia E 12 c), (u0, .inr (1, [.ref u1, .ref u2, .int (iI z1)])), (u1, ia E 12 t1), (u2, ia E 12 c1)] dX1_copy_12 (by decide +kernel) (by decide +kernel) (by decide +kernel) (by decide +kernel) rfl rfl (by decide) (by decide) (by decide) (by decide) (Nat.le_of_ble_eq_true rfl) (Nat.le_of_ble_eq_true rfl) rfl ?_
  refine g_aload_n G 1 dX1_copy_15 rfl ?_
  refine g_get G 3 1 dX1_copy_16 i_X1_copy_X1 f_X1_copy_15 rfl rfl (by decide) rfl ?_
  refine g_iconst G dX1_copy_19 ?_
  refine g_aload_n G 0 dX1_copy_20 rfl ?_
  refine g_get G 0 1 dX1_copy_21 i_X1_copy_X1 f_X1_copy_15 rfl rfl (by decide) rfl ?_
  refine g_iconst G dX1_copy_24 ?_
  refine g_bipush G dX1_copy_25 (by decide +kernel) ?_
  refine g_copy G 5 2 [(q0, .inr (1, [.ref q1, .ref q2, .int (iI z)])), (q1, ia E 12 (cpI t1 t 12)), (q2, ia E 12 (cpI c1 c 12)), (u0, .inr (1, [.ref u1, .ref u2, .int (iI z1)])), (u1, ia E 12 t1), (u2, ia E 12 c1)] dX1_copy_27 (by decide +kernel) (by decide +kernel) (by decide +kernel) (by decide +kernel) rfl rfl (by decide) (by decide) (by decide) (by decide) (Nat.le_of_ble_eq_true rfl) (Nat.le_of_ble_eq_true rfl) rfl ?_
  refine g_aload_n G 0 dX1_copy_30 rfl ?_
  refine g_aload_n G 1 dX1_copy_31 rfl ?_
  refine g_get G 3 2 dX1_copy_32 i_X1_copy_X1 f_X1_copy_24 rfl rfl (by decide) rfl ?_
  refine g_put G 0 2 [(q0, .inr (1, [.ref q1, .ref q2, .int (iI z1)])), (q1, ia E 12 (cpI t1 t 12)), (q2, ia E 12 (cpI c1 c 12)), (u0, .inr (1, [.ref u1, .ref u2, .int (iI z1)])), (u1, ia E 12 t1), (u2, ia E 12 c1)] dX1_copy_35 i_X1_copy_X1 f_X1_copy_24 tyX1_ok nmX1 rfl rfl (by decide) rfl rfl rfl rfl (Nat.le_of_ble_eq_true rfl) rfl ?_
  exact g_ret G none rfl dX1_copy_38 (Nat.le_refl _) (Nat.le_refl _) ⟨rfl, rfl⟩
theorem f_X6_init_9 : Cond.fieldLink RX6 9 (TX6 0).1 (TX6 0).2.1 (TX6 0).2.2.1 ∈ wsX6_init := by decide +kernel
theorem i_X6_init_X6 : ∀ w ∈ wsX60, w ∈ wsX6_init := by decide +kernel
theorem f_X6_init_15 : Cond.fieldLink RX6 15 (TX6 1).1 (TX6 1).2.1 (TX6 1).2.2.1 ∈ wsX6_init := by decide +kernel
theorem f_X6_init_18 : Cond.fieldLink RX6 18 (TX6 2).1 (TX6 2).2.1 (TX6 2).2.2.1 ∈ wsX6_init := by decide +kernel
theorem f_X6_init_21 : Cond.fieldLink RX6 21 (TX6 3).1 (TX6 3).2.1 (TX6 3).2.2.1 ∈ wsX6_init := by decide +kernel
set_option maxRecDepth 100000 in
set_option maxHeartbeats 4000000 in
theorem c_X6_init (E : qE) (q0 : Nat)  : Cn E yX6_init wsX6_init { frames := 1, cells := 4, slots := 204, locals := 12 } [.ref q0] [(q0, .inr (6, [.null, .null, .null, .null, .int (iI 0)]))] (fun v9 w9 => ∃ (q1 : Nat) (q2 : Nat) (q3 : Nat) (q4 : Nat), v9 = none ∧ w9 = [(q0, .inr (6, [.ref q1, .ref q2, .ref q3, .ref q4, .int (iI 0)])), (q1, ia E 6 (fun _ => 0)), (q2, ia E 6 (fun _ => 0)), (q3, ia E 96 (fun _ => 0)), (q4, ia E 96 (fun _ => 0))]) 4 204 := by
  refine Cn.ofP (own := RX6) (cc := cX6_init) (maxL := 1) (ret := none) true [(0, .ref q0)] (by decide +kernel) rfl rfl (Nat.le_of_ble_eq_true rfl) rfl (fun _ => rfl) (fun v w h => by obtain ⟨q1, q2, q3, q4, rfl, h9⟩ := h; exact (rfl : (none : Option FieldType) = none)) ?_
  intro P G
  refine g_aload_n G 0 dX6_init_0 rfl ?_
  refine g_objInit G dX6_init_1 (by decide +kernel) (by decide +kernel) (by decide +kernel) (Nat.le_of_ble_eq_true rfl) (Nat.le_of_ble_eq_true rfl) ?_
  refine g_aload_n G 0 dX6_init_4 rfl ?_
  refine g_bipush G dX6_init_5 (by decide +kernel) ?_
  refine g_newi G 6 dX6_init_7 (by decide +kernel) rfl (by decide) (Nat.le_of_ble_eq_true rfl) (Nat.le_of_ble_eq_true rfl) (fun p1 => ?_)
  refine g_to 1 6 [(q0, .inr (6, [.null, .null, .null, .null, .int (iI 0)])), (p1, ia E 6 (fun _ => 0))] _ [.ref p1, .ref q0] rfl rfl rfl rfl rfl ?_
  refine g_putF G 0 0 [(q0, .inr (6, [.ref p1, .null, .null, .null, .int (iI 0)])), (p1, ia E 6 (fun _ => 0))] dX6_init_9 i_X6_init_X6 f_X6_init_9 tyX6_ok nmX6 rfl rfl (by decide) rfl rfl rfl rfl rfl (Nat.le_of_ble_eq_true rfl) rfl ?_
  refine g_aload_n G 0 dX6_init_12 rfl ?_
  refine g_bipush G dX6_init_13 (by decide +kernel) ?_
  refine g_newi G 6 dX6_init_15 (by decide +kernel) rfl (by decide) (Nat.le_of_ble_eq_true rfl) (Nat.le_of_ble_eq_true rfl) (fun p2 => ?_)
  refine g_to 2 12 [(q0, .inr (6, [.ref p1, .null, .null, .null, .int (iI 0)])), (p1, ia E 6 (fun _ => 0)), (p2, ia E 6 (fun _ => 0))] _ [.ref p2, .ref q0] rfl rfl rfl rfl rfl ?_
  refine g_putF G 0 1 [(q0, .inr (6, [.ref p1, .ref p2, .null, .null, .int (iI 0)])), (p1, ia E 6 (fun _ => 0)), (p2, ia E 6 (fun _ => 0))] dX6_init_17 i_X6_init_X6 f_X6_init_15 tyX6_ok nmX6 rfl rfl (by decide) rfl rfl rfl rfl rfl (Nat.le_of_ble_eq_true rfl) rfl ?_
  refine g_aload_n G 0 dX6_init_20 rfl ?_
  refine g_bipush G dX6_init_21 (by decide +kernel) ?_
  refine g_newi G 96 dX6_init_23 (by decide +kernel) rfl (by decide) (Nat.le_of_ble_eq_true rfl) (Nat.le_of_ble_eq_true rfl) (fun p3 => ?_)
  refine g_to 3 108 [(q0, .inr (6, [.ref p1, .ref p2, .null, .null, .int (iI 0)])), (p1, ia E 6 (fun _ => 0)), (p2, ia E 6 (fun _ => 0)), (p3, ia E 96 (fun _ => 0))] _ [.ref p3, .ref q0] rfl rfl rfl rfl rfl ?_
  refine g_putF G 0 2 [(q0, .inr (6, [.ref p1, .ref p2, .ref p3, .null, .int (iI 0)])), (p1, ia E 6 (fun _ => 0)), (p2, ia E 6 (fun _ => 0)), (p3, ia E 96 (fun _ => 0))] dX6_init_25 i_X6_init_X6 f_X6_init_18 tyX6_ok nmX6 rfl rfl (by decide) rfl rfl rfl rfl rfl (Nat.le_of_ble_eq_true rfl) rfl ?_
  refine g_aload_n G 0 dX6_init_28 rfl ?_
  refine g_bipush G dX6_init_29 (by decide +kernel) ?_
  refine g_newi G 96 dX6_init_31 (by decide +kernel) rfl (by decide) (Nat.le_of_ble_eq_true rfl) (Nat.le_of_ble_eq_true rfl) (fun p4 => ?_)
  refine g_to 4 204 [(q0, .inr (6, [.ref p1, .ref p2, .ref p3, .null, .int (iI 0)])), (p1, ia E 6 (fun _ => 0)), (p2, ia E 6 (fun _ => 0)), (p3, ia E 96 (fun _ => 0)), (p4, ia E 96 (fun _ => 0))] _ [.ref p4, .ref q0] rfl rfl rfl rfl rfl ?_
  refine g_putF G 0 3 [(q0, .inr (6, [.ref p1, .ref p2, .ref p3, .ref p4, .int (iI 0)])), (p1, ia E 6 (fun _ => 0)), (p2, ia E 6 (fun _ => 0)), (p3, ia E 96 (fun _ => 0)), (p4, ia E 96 (fun _ => 0))] dX6_init_33 i_X6_init_X6 f_X6_init_21 tyX6_ok nmX6 rfl rfl (by decide) rfl rfl rfl rfl rfl (Nat.le_of_ble_eq_true rfl) rfl ?_
  exact g_ret G none rfl dX6_init_36 (Nat.le_refl _) (Nat.le_refl _) ⟨p1, p2, p3, p4, rfl, rfl⟩
theorem f_X6_clear_9 : Cond.fieldLink RX6 9 (TX6 0).1 (TX6 0).2.1 (TX6 0).2.2.1 ∈ wsX6_clear := by decide +kernel
theorem i_X6_clear_X6 : ∀ w ∈ wsX60, w ∈ wsX6_clear := by decide +kernel
theorem f_X6_clear_15 : Cond.fieldLink RX6 15 (TX6 1).1 (TX6 1).2.1 (TX6 1).2.2.1 ∈ wsX6_clear := by decide +kernel
theorem f_X6_clear_30 : Cond.fieldLink RX6 30 (TX6 4).1 (TX6 4).2.1 (TX6 4).2.2.1 ∈ wsX6_clear := by decide +kernel
set_option maxRecDepth 100000 in
set_option maxHeartbeats 4000000 in
theorem c_X6_clear (E : qE) (q0 : Nat) (q1 : Nat) (q2 : Nat) (q3 : Nat) (q4 : Nat) (k : Int → Int) (o : Int → Int) (a : Int → Int) (b : Int → Int) (z : Int)  : Cn E yX6_clear wsX6_clear { frames := 1, cells := 0, slots := 0, locals := 23 } [.ref q0] [(q0, .inr (6, [.ref q1, .ref q2, .ref q3, .ref q4, .int (iI z)])), (q1, ia E 6 k), (q2, ia E 6 o), (q3, ia E 96 a), (q4, ia E 96 b)] (fun v9 w9 => v9 = none ∧ w9 = [(q0, .inr (6, [.ref q1, .ref q2, .ref q3, .ref q4, .int (iI 0)])), (q1, ia E 6 (fiI k 6 (-1))), (q2, ia E 6 (fiI o 6 (-1000))), (q3, ia E 96 a), (q4, ia E 96 b)]) 0 0 := by
  refine Cn.ofP (own := RX6) (cc := cX6_clear) (maxL := 1) (ret := none) false [(0, .ref q0)] (by decide +kernel) rfl rfl (Nat.le_of_ble_eq_true rfl) rfl (fun h => nomatch h) (fun v w h => by obtain ⟨rfl, h9⟩ := h; exact (rfl : (none : Option FieldType) = none)) ?_
  intro P G
  refine g_aload_n G 0 dX6_clear_0 rfl ?_
  refine g_get G 0 0 dX6_clear_1 i_X6_clear_X6 f_X6_clear_9 rfl rfl (by decide) rfl ?_
  refine g_iconst G dX6_clear_4 ?_
  refine g_callS G [1] [0, 2, 3, 4] 5 [(q0, .inr (6, [.ref q1, .ref q2, .ref q3, .ref q4, .int (iI z)])), (q2, ia E 6 o), (q3, ia E 96 a), (q4, ia E 96 b)] [.ref q1, .int (iI (-1))] [] (c_J7_fill_53178 E q1 6 k (-1) (by first | assumption | omega)) dX6_clear_5 gX6_clear_J7_fill_53178 ⟨rfl, ⟨rfl, rfl⟩, e_J7_fill_53178, ⟨Nat.le_of_ble_eq_true rfl, Nat.le_of_ble_eq_true rfl⟩, Nat.le_of_ble_eq_true rfl, Nat.le_of_ble_eq_true rfl, Nat.le_of_ble_eq_true rfl⟩ rfl (by decide +kernel) rfl (by decide +kernel) rfl (fun v9 w9 h9 => ?_)
  obtain ⟨o1, rfl, rfl, rfl⟩ := h9
  refine ⟨[(q0, .inr (6, [.ref q1, .ref q2, .ref q3, .ref q4, .int (iI z)])), (q1, ia E 6 (fiI k 6 (-1))), (q2, ia E 6 o), (q3, ia E 96 a), (q4, ia E 96 b)], ⟨rfl, rfl, rfl, rfl⟩, g_to 0 0 _ _ [] rfl rfl rfl rfl rfl ?_⟩
  refine g_aload_n G 0 dX6_clear_8 rfl ?_
  refine g_get G 0 1 dX6_clear_9 i_X6_clear_X6 f_X6_clear_15 rfl rfl (by decide) rfl ?_
  refine g_sipush G dX6_clear_12 (by decide +kernel) ?_
  refine g_callS G [2] [0, 1, 3, 4] 5 [(q0, .inr (6, [.ref q1, .ref q2, .ref q3, .ref q4, .int (iI z)])), (q1, ia E 6 (fiI k 6 (-1))), (q3, ia E 96 a), (q4, ia E 96 b)] [.ref q2, .int (iI (-1000))] [] (c_J7_fill_53178 E q2 6 o (-1000) (by first | assumption | omega)) dX6_clear_15 gX6_clear_J7_fill_53178 ⟨rfl, ⟨rfl, rfl⟩, e_J7_fill_53178, ⟨Nat.le_of_ble_eq_true rfl, Nat.le_of_ble_eq_true rfl⟩, Nat.le_of_ble_eq_true rfl, Nat.le_of_ble_eq_true rfl, Nat.le_of_ble_eq_true rfl⟩ rfl (by decide +kernel) rfl (by decide +kernel) rfl (fun v9 w9 h9 => ?_)
  obtain ⟨o2, rfl, rfl, rfl⟩ := h9
  refine ⟨[(q0, .inr (6, [.ref q1, .ref q2, .ref q3, .ref q4, .int (iI z)])), (q1, ia E 6 (fiI k 6 (-1))), (q2, ia E 6 (fiI o 6 (-1000))), (q3, ia E 96 a), (q4, ia E 96 b)], ⟨rfl, rfl, rfl, rfl⟩, g_to 0 0 _ _ [] rfl rfl rfl rfl rfl ?_⟩
  refine g_aload_n G 0 dX6_clear_18 rfl ?_
  refine g_iconst G dX6_clear_19 ?_
  refine g_put G 0 4 [(q0, .inr (6, [.ref q1, .ref q2, .ref q3, .ref q4, .int (iI 0)])), (q1, ia E 6 (fiI k 6 (-1))), (q2, ia E 6 (fiI o 6 (-1000))), (q3, ia E 96 a), (q4, ia E 96 b)] dX6_clear_20 i_X6_clear_X6 f_X6_clear_30 tyX6_ok nmX6 rfl rfl (by decide) rfl rfl rfl rfl (Nat.le_of_ble_eq_true rfl) rfl ?_
  exact g_ret G none rfl dX6_clear_23 (Nat.le_refl _) (Nat.le_refl _) ⟨rfl, rfl⟩
theorem f_X6_decide_9 : Cond.fieldLink RX6 9 (TX6 0).1 (TX6 0).2.1 (TX6 0).2.2.1 ∈ wsX6_decide := by decide +kernel
theorem i_X6_decide_X6 : ∀ w ∈ wsX60, w ∈ wsX6_decide := by decide +kernel
theorem f_X6_decide_15 : Cond.fieldLink RX6 15 (TX6 1).1 (TX6 1).2.1 (TX6 1).2.2.1 ∈ wsX6_decide := by decide +kernel
set_option maxRecDepth 100000 in
set_option maxHeartbeats 4000000 in
theorem c_X6_decide (E : qE) (q0 : Nat) (q1 : Nat) (q2 : Nat) (q3 : Nat) (q4 : Nat) (k : Int → Int) (o : Int → Int) (a : Int → Int) (b : Int → Int) (z : Int) (v : Int) (f : Int) (x : Int) (y : Int) (h : 0 ≤ v * 2 + f ∧ v * 2 + f < 6) : Cn E yX6_decide wsX6_decide { frames := 0, cells := 0, slots := 0, locals := 0 } [.ref q0, .int (iI v), .int (iI f), .int (iI x), .int (iI y)] [(q0, .inr (6, [.ref q1, .ref q2, .ref q3, .ref q4, .int (iI z)])), (q1, ia E 6 k), (q2, ia E 6 o), (q3, ia E 96 a), (q4, ia E 96 b)] (fun v9 w9 => v9 = none ∧ w9 = [(q0, .inr (6, [.ref q1, .ref q2, .ref q3, .ref q4, .int (iI z)])), (q1, ia E 6 (upI k (v * 2 + f) x)), (q2, ia E 6 (upI o (v * 2 + f) y)), (q3, ia E 96 a), (q4, ia E 96 b)]) 0 0 := by
  refine Cn.ofP (own := RX6) (cc := cX6_decide) (maxL := 5) (ret := none) false [(0, .ref q0), (1, .int (iI v)), (2, .int (iI f)), (3, .int (iI x)), (4, .int (iI y))] (by decide +kernel) rfl rfl (Nat.le_of_ble_eq_true rfl) rfl (fun h => nomatch h) (fun v w h => by obtain ⟨rfl, h9⟩ := h; exact (rfl : (none : Option FieldType) = none)) ?_
  intro P G
  refine g_aload_n G 0 dX6_decide_0 rfl ?_
  refine g_get G 0 0 dX6_decide_1 i_X6_decide_X6 f_X6_decide_9 rfl rfl (by decide) rfl ?_
  refine g_iload_n G 1 dX6_decide_4 rfl ?_
  refine g_iconst G dX6_decide_5 ?_
  refine g_imul G dX6_decide_6 ?_
  refine g_iload_n G 2 dX6_decide_7 rfl ?_
  refine g_iadd G dX6_decide_8 ?_
  refine g_iload_n G 3 dX6_decide_9 rfl ?_
  refine g_iast G 1 [(q0, .inr (6, [.ref q1, .ref q2, .ref q3, .ref q4, .int (iI z)])), (q1, ia E 6 (upI k ((v * 2) + f) x)), (q2, ia E 6 o), (q3, ia E 96 a), (q4, ia E 96 b)] dX6_decide_10 rfl (by omega) (by omega) (by decide) rfl ?_
  refine g_aload_n G 0 dX6_decide_11 rfl ?_
  refine g_get G 0 1 dX6_decide_12 i_X6_decide_X6 f_X6_decide_15 rfl rfl (by decide) rfl ?_
  refine g_iload_n G 1 dX6_decide_15 rfl ?_
  refine g_iconst G dX6_decide_16 ?_
  refine g_imul G dX6_decide_17 ?_
  refine g_iload_n G 2 dX6_decide_18 rfl ?_
  refine g_iadd G dX6_decide_19 ?_
  refine g_iload G 4 dX6_decide_20 rfl ?_
  refine g_iast G 2 [(q0, .inr (6, [.ref q1, .ref q2, .ref q3, .ref q4, .int (iI z)])), (q1, ia E 6 (upI k ((v * 2) + f) x)), (q2, ia E 6 (upI o ((v * 2) + f) y)), (q3, ia E 96 a), (q4, ia E 96 b)] dX6_decide_22 rfl (by omega) (by omega) (by decide) rfl ?_
  exact g_ret G none rfl dX6_decide_23 (Nat.le_refl _) (Nat.le_refl _) ⟨rfl, rfl⟩
theorem f_X6_kindOf_9 : Cond.fieldLink RX6 9 (TX6 0).1 (TX6 0).2.1 (TX6 0).2.2.1 ∈ wsX6_kindOf := by decide +kernel
theorem i_X6_kindOf_X6 : ∀ w ∈ wsX60, w ∈ wsX6_kindOf := by decide +kernel
set_option maxRecDepth 100000 in
set_option maxHeartbeats 4000000 in
theorem c_X6_kindOf (E : qE) (q0 : Nat) (q1 : Nat) (q2 : Nat) (q3 : Nat) (q4 : Nat) (k : Int → Int) (o : Int → Int) (a : Int → Int) (b : Int → Int) (z : Int) (x : Int) (y : Int) (h : 0 ≤ x * 2 + y ∧ x * 2 + y < 6) : Cn E yX6_kindOf wsX6_kindOf { frames := 0, cells := 0, slots := 0, locals := 0 } [.ref q0, .int (iI x), .int (iI y)] [(q0, .inr (6, [.ref q1, .ref q2, .ref q3, .ref q4, .int (iI z)])), (q1, ia E 6 k), (q2, ia E 6 o), (q3, ia E 96 a), (q4, ia E 96 b)] (fun v9 w9 => ∃ (r : Int), v9 = some (.int (iI r)) ∧ w9 = [(q0, .inr (6, [.ref q1, .ref q2, .ref q3, .ref q4, .int (iI z)])), (q1, ia E 6 k), (q2, ia E 6 o), (q3, ia E 96 a), (q4, ia E 96 b)] ∧ r = (k (x * 2 + y))) 0 0 := by
  refine Cn.ofP (own := RX6) (cc := cX6_kindOf) (maxL := 3) (ret := (some .int)) false [(0, .ref q0), (1, .int (iI x)), (2, .int (iI y))] (by decide +kernel) rfl rfl (Nat.le_of_ble_eq_true rfl) rfl (fun h => nomatch h) (fun v w h => by obtain ⟨r, rfl, h9⟩ := h; exact ⟨_, rfl, rfl⟩) ?_
  intro P G
  refine g_aload_n G 0 dX6_kindOf_0 rfl ?_
  refine g_get G 0 0 dX6_kindOf_1 i_X6_kindOf_X6 f_X6_kindOf_9 rfl rfl (by decide) rfl ?_
  refine g_iload_n G 1 dX6_kindOf_4 rfl ?_
  refine g_iconst G dX6_kindOf_5 ?_
  refine g_imul G dX6_kindOf_6 ?_
  refine g_iload_n G 2 dX6_kindOf_7 rfl ?_
  refine g_iadd G dX6_kindOf_8 ?_
  refine g_iald G 1 dX6_kindOf_9 rfl (by omega) (by omega) (by decide) ?_
  exact g_ret G (some (.int (iI (k ((x * 2) + y))))) rfl dX6_kindOf_10 (Nat.le_refl _) (Nat.le_refl _) ⟨(k ((x * 2) + y)), rfl, rfl, by first | rfl | omega | (split <;> omega)⟩
theorem f_X6_offsetOf_15 : Cond.fieldLink RX6 15 (TX6 1).1 (TX6 1).2.1 (TX6 1).2.2.1 ∈ wsX6_offsetOf := by decide +kernel
theorem i_X6_offsetOf_X6 : ∀ w ∈ wsX60, w ∈ wsX6_offsetOf := by decide +kernel
set_option maxRecDepth 100000 in
set_option maxHeartbeats 4000000 in
theorem c_X6_offsetOf (E : qE) (q0 : Nat) (q1 : Nat) (q2 : Nat) (q3 : Nat) (q4 : Nat) (k : Int → Int) (o : Int → Int) (a : Int → Int) (b : Int → Int) (z : Int) (x : Int) (y : Int) (h : 0 ≤ x * 2 + y ∧ x * 2 + y < 6) : Cn E yX6_offsetOf wsX6_offsetOf { frames := 0, cells := 0, slots := 0, locals := 0 } [.ref q0, .int (iI x), .int (iI y)] [(q0, .inr (6, [.ref q1, .ref q2, .ref q3, .ref q4, .int (iI z)])), (q1, ia E 6 k), (q2, ia E 6 o), (q3, ia E 96 a), (q4, ia E 96 b)] (fun v9 w9 => ∃ (r : Int), v9 = some (.int (iI r)) ∧ w9 = [(q0, .inr (6, [.ref q1, .ref q2, .ref q3, .ref q4, .int (iI z)])), (q1, ia E 6 k), (q2, ia E 6 o), (q3, ia E 96 a), (q4, ia E 96 b)] ∧ r = (o (x * 2 + y))) 0 0 := by
  refine Cn.ofP (own := RX6) (cc := cX6_offsetOf) (maxL := 3) (ret := (some .int)) false [(0, .ref q0), (1, .int (iI x)), (2, .int (iI y))] (by decide +kernel) rfl rfl (Nat.le_of_ble_eq_true rfl) rfl (fun h => nomatch h) (fun v w h => by obtain ⟨r, rfl, h9⟩ := h; exact ⟨_, rfl, rfl⟩) ?_
  intro P G
  refine g_aload_n G 0 dX6_offsetOf_0 rfl ?_
  refine g_get G 0 1 dX6_offsetOf_1 i_X6_offsetOf_X6 f_X6_offsetOf_15 rfl rfl (by decide) rfl ?_
  refine g_iload_n G 1 dX6_offsetOf_4 rfl ?_
  refine g_iconst G dX6_offsetOf_5 ?_
  refine g_imul G dX6_offsetOf_6 ?_
  refine g_iload_n G 2 dX6_offsetOf_7 rfl ?_
  refine g_iadd G dX6_offsetOf_8 ?_
  refine g_iald G 2 dX6_offsetOf_9 rfl (by omega) (by omega) (by decide) ?_
  exact g_ret G (some (.int (iI (o ((x * 2) + y))))) rfl dX6_offsetOf_10 (Nat.le_refl _) (Nat.le_refl _) ⟨(o ((x * 2) + y)), rfl, rfl, by first | rfl | omega | (split <;> omega)⟩
theorem f_X6_unlikeAsks_30 : Cond.fieldLink RX6 30 (TX6 4).1 (TX6 4).2.1 (TX6 4).2.2.1 ∈ wsX6_unlikeAsks := by decide +kernel
theorem i_X6_unlikeAsks_X6 : ∀ w ∈ wsX60, w ∈ wsX6_unlikeAsks := by decide +kernel
set_option maxRecDepth 100000 in
set_option maxHeartbeats 4000000 in
theorem c_X6_unlikeAsks (E : qE) (q0 : Nat) (q1 : Nat) (q2 : Nat) (q3 : Nat) (q4 : Nat) (k : Int → Int) (o : Int → Int) (a : Int → Int) (b : Int → Int) (z : Int)  : Cn E yX6_unlikeAsks wsX6_unlikeAsks { frames := 0, cells := 0, slots := 0, locals := 0 } [.ref q0] [(q0, .inr (6, [.ref q1, .ref q2, .ref q3, .ref q4, .int (iI z)])), (q1, ia E 6 k), (q2, ia E 6 o), (q3, ia E 96 a), (q4, ia E 96 b)] (fun v9 w9 => v9 = some (.int (iI z)) ∧ w9 = [(q0, .inr (6, [.ref q1, .ref q2, .ref q3, .ref q4, .int (iI z)])), (q1, ia E 6 k), (q2, ia E 6 o), (q3, ia E 96 a), (q4, ia E 96 b)]) 0 0 := by
  refine Cn.ofP (own := RX6) (cc := cX6_unlikeAsks) (maxL := 1) (ret := (some .int)) false [(0, .ref q0)] (by decide +kernel) rfl rfl (Nat.le_of_ble_eq_true rfl) rfl (fun h => nomatch h) (fun v w h => by obtain ⟨rfl, h9⟩ := h; exact ⟨_, rfl, rfl⟩) ?_
  intro P G
  refine g_aload_n G 0 dX6_unlikeAsks_0 rfl ?_
  refine g_get G 0 4 dX6_unlikeAsks_1 i_X6_unlikeAsks_X6 f_X6_unlikeAsks_30 rfl rfl (by decide) rfl ?_
  exact g_ret G (some (.int (iI z))) rfl dX6_unlikeAsks_4 (Nat.le_refl _) (Nat.le_refl _) ⟨rfl, rfl⟩
theorem f_X6_find_30 : Cond.fieldLink RX6 30 (TX6 4).1 (TX6 4).2.1 (TX6 4).2.2.1 ∈ wsX6_find := by decide +kernel
theorem i_X6_find_X6 : ∀ w ∈ wsX60, w ∈ wsX6_find := by decide +kernel
theorem f_X6_find_18 : Cond.fieldLink RX6 18 (TX6 2).1 (TX6 2).2.1 (TX6 2).2.2.1 ∈ wsX6_find := by decide +kernel
set_option maxRecDepth 100000 in
set_option maxHeartbeats 4000000 in
theorem c_X6_find (E : qE) (q0 : Nat) (q1 : Nat) (q2 : Nat) (q3 : Nat) (q4 : Nat) (k : Int → Int) (o : Int → Int) (a : Int → Int) (b : Int → Int) (z : Int) (v : Int) (s : Int) (hU : RulesOk k o a b z) (hv : 0 ≤ v ∧ v < 3) (hs : 0 ≤ s ∧ s < 10000) : Cn E yX6_find wsX6_find { frames := 0, cells := 0, slots := 0, locals := 0 } [.ref q0, .int (iI v), .int (iI s)] [(q0, .inr (6, [.ref q1, .ref q2, .ref q3, .ref q4, .int (iI z)])), (q1, ia E 6 k), (q2, ia E 6 o), (q3, ia E 96 a), (q4, ia E 96 b)] (fun v9 w9 => ∃ (r : Int), v9 = some (.int (iI r)) ∧ w9 = [(q0, .inr (6, [.ref q1, .ref q2, .ref q3, .ref q4, .int (iI z)])), (q1, ia E 6 k), (q2, ia E 6 o), (q3, ia E 96 a), (q4, ia E 96 b)] ∧ r = (findI a z v s)) 0 0 := by
  refine Cn.ofP (own := RX6) (cc := cX6_find) (maxL := 5) (ret := (some .int)) false [(0, .ref q0), (1, .int (iI v)), (2, .int (iI s))] (by decide +kernel) rfl rfl (Nat.le_of_ble_eq_true rfl) rfl (fun h => nomatch h) (fun v w h => by obtain ⟨r, rfl, h9⟩ := h; exact ⟨_, rfl, rfl⟩) ?_
  intro P G
  obtain ⟨hz0, hz1, hk, ho, ha, hb⟩ := id hU
  refine g_iload_n G 1 dX6_find_0 rfl ?_
  refine g_sipush G dX6_find_1 (by decide +kernel) ?_
  refine g_imul G dX6_find_4 ?_
  refine g_iload_n G 2 dX6_find_5 rfl ?_
  refine g_iadd G dX6_find_6 ?_
  refine g_istore_n G [(0, .ref q0), (1, .int (iI v)), (2, .int (iI s)), (3, .int (iI ((v * 10000) + s)))] dX6_find_7 (by decide) rfl rfl ?_
  refine g_iconst G dX6_find_8 ?_
  refine g_istore G [(0, .ref q0), (1, .int (iI v)), (2, .int (iI s)), (3, .int (iI ((v * 10000) + s))), (4, .int (iI 0))] dX6_find_9 (by decide) rfl rfl ?_
  have L11 : ∀ (fuel : Nat), ∀ (i : Int), (0 ≤ i ∧ i ≤ z) → (findI a z v s = qpl (fun _ => False) (fun i => a i = v * 10000 + s) (z - i).toNat i) → (z - i : Int).toNat < fuel → P 0 0 [(q0, .inr (6, [.ref q1, .ref q2, .ref q3, .ref q4, .int (iI z)])), (q1, ia E 6 k), (q2, ia E 6 o), (q3, ia E 96 a), (q4, ia E 96 b)] 11 [(0, .ref q0), (1, .int (iI v)), (2, .int (iI s)), (3, .int (iI ((v * 10000) + s))), (4, .int (iI i))] [] := by
    intro fuel
    induction fuel with
    | zero => intro i hi hq hm; exact absurd hm (Nat.not_lt_zero _)
    | succ fuel ih11 =>
      intro i hi hq hm
      refine g_iload G 4 dX6_find_11 rfl ?_
      refine g_aload_n G 0 dX6_find_13 rfl ?_
      refine g_get G 0 4 dX6_find_14 i_X6_find_X6 f_X6_find_30 rfl rfl (by decide) rfl ?_
      refine g_icmp_ge G 40 dX6_find_17 (by decide) (by omega) (by omega) (fun c17 => ?_) (fun c17 => ?_)
      · refine g_iconst G dX6_find_40 ?_
        exact g_ret G (some (.int (iI (-1)))) rfl dX6_find_41 (Nat.le_refl _) (Nat.le_refl _) ⟨(-1), rfl, rfl, by rw [hq, (show (z - i).toNat = 0 by omega)]; rfl⟩
      · refine g_aload_n G 0 dX6_find_20 rfl ?_
        refine g_get G 0 2 dX6_find_21 i_X6_find_X6 f_X6_find_18 rfl rfl (by decide) rfl ?_
        refine g_iload G 4 dX6_find_24 rfl ?_
        refine g_iald G 3 dX6_find_26 rfl (by omega) (by omega) (by decide) ?_
        have b1 := ha i
        refine g_iload_n G 3 dX6_find_27 rfl ?_
        refine g_icmp_ne G 34 dX6_find_28 (by decide) (by omega) (by omega) (fun c28 => ?_) (fun c28 => ?_)
        · refine g_iinc G 4 [(0, .ref q0), (1, .int (iI v)), (2, .int (iI s)), (3, .int (iI ((v * 10000) + s))), (4, .int (iI (i + 1)))] dX6_find_34 rfl (by decide) rfl rfl ?_
          refine g_goto G 11 dX6_find_37 (by decide) ?_
          exact ih11 (i + 1) (by first | assumption | omega) (by rw [hq, qpl_go _ _ (show i < z by omega) (fun q => q) c28]) (by omega)
        · refine g_iload G 4 dX6_find_31 rfl ?_
          exact g_ret G (some (.int (iI i))) rfl dX6_find_33 (Nat.le_refl _) (Nat.le_refl _) ⟨i, rfl, rfl, by rw [hq, qpl_c _ _ (show i < z by omega) (fun q => q) c28]⟩
  exact L11 ((z - 0 : Int).toNat + 1) 0 (by first | assumption | omega) (by unfold findI; rw [Int.sub_zero]) (by omega)
