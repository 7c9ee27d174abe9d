theorem upI_self (V : Int → Int) (i : Int) : upI V i (V i) = V := by
  funext j; unfold upI; by_cases h : j = i
  · rw [if_pos h, h]
  · rw [if_neg h]
def wgh (o b v : Int) : Int := if o = 1001 then o else if b = -1 then (if v = 0 then o else 1001) else if o = 1000 then v - b else if o = v - b then o else 1001
def hfI (g c b : Int → Int) (v f s x i : Int) : Int → Int := fun j => if (v * 2 + f) * 5 ≤ j ∧ j < (v * 2 + f) * 5 + i then wgh (g j) (baseI c b (j - (v * 2 + f) * 5) v s) x else g j
theorem hfI_0 (g c b : Int → Int) (v f s x : Int) : hfI g c b v f s x 0 = g := by
  funext j; unfold hfI; rw [if_neg (by omega)]
theorem hfI_at (g c b : Int → Int) (v f s x i : Int) : hfI g c b v f s x i ((v * 2 + f) * 5 + i) = g ((v * 2 + f) * 5 + i) := by
  unfold hfI; rw [if_neg (by omega)]
theorem hfI_up (g c b : Int → Int) (v f s x : Int) {i : Int} (h : 0 ≤ i) : upI (hfI g c b v f s x i) ((v * 2 + f) * 5 + i) (wgh (g ((v * 2 + f) * 5 + i)) (baseI c b i v s) x) = hfI g c b v f s x (i + 1) := by
  funext j
  unfold upI hfI
  by_cases h1 : j = (v * 2 + f) * 5 + i
  · rw [if_pos h1, if_pos (by omega), h1, (show (v * 2 + f) * 5 + i - (v * 2 + f) * 5 = i by omega)]
  · rw [if_neg h1]
    by_cases h2 : (v * 2 + f) * 5 ≤ j ∧ j < (v * 2 + f) * 5 + i
    · rw [if_pos h2, if_pos (by omega)]
    · rw [if_neg h2, if_neg (by omega)]
noncomputable def fstK (g : Int → Int) (v f : Int) : Int := qpl (fun _ => False) (fun j => g ((v * 2 + f) * 5 + j) ≠ 1000 ∧ g ((v * 2 + f) * 5 + j) ≠ 1001) 5 0
noncomputable def decK (g t : Int → Int) (v f : Int) : Int := if fstK g v f = -1 then (if t (v * 2 + f) = 1001 then 6 else 5) else fstK g v f
noncomputable def decO (g : Int → Int) (v f : Int) : Int := if fstK g v f = -1 then -1000 else g ((v * 2 + f) * 5 + fstK g v f)
theorem i_X5_init_X3 : ∀ w ∈ wsX30, w ∈ wsX5_init := by decide +kernel
theorem e_X3_init : yX3_init.cls ≠ "java/lang/invoke/MethodHandle" ∧ yX3_init.cls ≠ "java/lang/invoke/VarHandle" ∧ (parseMethodDescriptor yX3_init.desc).map (fun d => d.parameters.length) = some 0 := by decide +kernel
theorem f_X5_init_12 : Cond.fieldLink RX5 12 (TX5 0).1 (TX5 0).2.1 (TX5 0).2.2.1 ∈ wsX5_init := by decide +kernel
theorem i_X5_init_X5 : ∀ w ∈ wsX50, w ∈ wsX5_init := by decide +kernel
theorem f_X5_init_18 : Cond.fieldLink RX5 18 (TX5 1).1 (TX5 1).2.1 (TX5 1).2.2.1 ∈ wsX5_init := by decide +kernel
theorem f_X5_init_22 : Cond.fieldLink RX5 22 (TX5 2).1 (TX5 2).2.1 (TX5 2).2.2.1 ∈ wsX5_init := by decide +kernel
set_option maxRecDepth 100000 in
set_option maxHeartbeats 4000000 in
theorem c_X5_init (E : qE) (q0 : Nat)  : Cn E yX5_init wsX5_init { frames := 2, cells := 5, slots := 141, locals := 32 } [.ref q0] [(q0, .inr (5, [.null, .null, .null]))] (fun v9 w9 => ∃ (p0 : Nat) (p1 : Nat) (p2 : Nat) (q1 : Nat) (q2 : Nat), v9 = none ∧ w9 = [(q0, .inr (5, [.ref p0, .ref q1, .ref q2])), (q1, ia E 30 (fun _ => 0)), (q2, ia E 6 (fun _ => 0)), (p0, .inr (3, [.ref p1, .ref p2])), (p1, ia E 3 (fun _ => 0)), (p2, ia E 100 (fun _ => 0))]) 5 141 := by
  refine Cn.ofP (own := RX5) (cc := cX5_init) (maxL := 1) (ret := none) true [(0, .ref q0)] (by decide +kernel) rfl rfl (Nat.le_of_ble_eq_true rfl) rfl (fun _ => rfl) (fun v w h => by obtain ⟨p0, p1, p2, q1, q2, rfl, h9⟩ := h; exact (rfl : (none : Option FieldType) = none)) ?_
  intro P G
  refine g_aload_n G 0 dX5_init_0 rfl ?_
  refine g_objInit G dX5_init_1 (by decide +kernel) (by decide +kernel) (by decide +kernel) (Nat.le_of_ble_eq_true rfl) (Nat.le_of_ble_eq_true rfl) ?_
  refine g_aload_n G 0 dX5_init_4 rfl ?_
  refine g_new G [.null, .null] (ci := 3) dX5_init_5 i_X5_init_X3 tyX3_ok (by decide +kernel) (by decide +kernel) (by decide +kernel) rfl (fun j hj => by rcases (show j = 0 ∨ j = 1 by omega) with rfl | rfl <;> first | rfl | (rw [iI_0]; rfl)) (Nat.le_of_ble_eq_true rfl) (Nat.le_of_ble_eq_true rfl) (fun p1 => ?_)
  refine g_to 1 2 [(q0, .inr (5, [.null, .null, .null])), (p1, .inr (3, [.null, .null]))] _ [.ref p1, .ref q0] rfl rfl rfl rfl rfl ?_
  refine g_dup G dX5_init_8 rfl ?_
  refine g_callIN (host := RX9) G [1] [0] [.ref p1, .ref q0] (wr := [(q0, .inr (5, [.null, .null, .null]))]) (c_X3_init E p1 ) dX5_init_9 gX5_init_X3_init_n11 (by decide +kernel) (by decide +kernel) (by decide +kernel) rfl ⟨rfl, ⟨rfl, rfl⟩, e_X3_init, ⟨Nat.le_of_ble_eq_true rfl, Nat.le_of_ble_eq_true rfl⟩, Nat.le_of_ble_eq_true rfl, Nat.le_of_ble_eq_true rfl, Nat.le_of_ble_eq_true rfl⟩ rfl rfl rfl rfl (by decide +kernel) rfl (fun v9 w9 h9 => ?_)
  obtain ⟨q1_2, q2_3, rfl, rfl⟩ := h9
  refine g_to 3 105 [(q0, .inr (5, [.null, .null, .null])), (p1, .inr (3, [.ref q1_2, .ref q2_3])), (q1_2, ia E 3 (fun _ => 0)), (q2_3, ia E 100 (fun _ => 0))] _ [.ref p1, .ref q0] rfl rfl rfl rfl rfl ?_
  refine g_putF G 0 0 [(q0, .inr (5, [.ref p1, .null, .null])), (p1, .inr (3, [.ref q1_2, .ref q2_3])), (q1_2, ia E 3 (fun _ => 0)), (q2_3, ia E 100 (fun _ => 0))] dX5_init_12 i_X5_init_X5 f_X5_init_12 tyX5_ok nmX5 rfl rfl (by decide) rfl rfl rfl rfl rfl (Nat.le_of_ble_eq_true rfl) rfl ?_
  refine g_aload_n G 0 dX5_init_15 rfl ?_
  refine g_bipush G dX5_init_16 (by decide +kernel) ?_
  refine g_newi G 30 dX5_init_18 (by decide +kernel) rfl (by decide) (Nat.le_of_ble_eq_true rfl) (Nat.le_of_ble_eq_true rfl) (fun p4 => ?_)
  refine g_to 4 135 [(q0, .inr (5, [.ref p1, .null, .null])), (p1, .inr (3, [.ref q1_2, .ref q2_3])), (q1_2, ia E 3 (fun _ => 0)), (q2_3, ia E 100 (fun _ => 0)), (p4, ia E 30 (fun _ => 0))] _ [.ref p4, .ref q0] rfl rfl rfl rfl rfl ?_
  refine g_putF G 0 1 [(q0, .inr (5, [.ref p1, .ref p4, .null])), (p1, .inr (3, [.ref q1_2, .ref q2_3])), (q1_2, ia E 3 (fun _ => 0)), (q2_3, ia E 100 (fun _ => 0)), (p4, ia E 30 (fun _ => 0))] dX5_init_20 i_X5_init_X5 f_X5_init_18 tyX5_ok nmX5 rfl rfl (by decide) rfl rfl rfl rfl rfl (Nat.le_of_ble_eq_true rfl) rfl ?_
  refine g_aload_n G 0 dX5_init_23 rfl ?_
  refine g_bipush G dX5_init_24 (by decide +kernel) ?_
  refine g_newi G 6 dX5_init_26 (by decide +kernel) rfl (by decide) (Nat.le_of_ble_eq_true rfl) (Nat.le_of_ble_eq_true rfl) (fun p5 => ?_)
  refine g_to 5 141 [(q0, .inr (5, [.ref p1, .ref p4, .null])), (p1, .inr (3, [.ref q1_2, .ref q2_3])), (q1_2, ia E 3 (fun _ => 0)), (q2_3, ia E 100 (fun _ => 0)), (p4, ia E 30 (fun _ => 0)), (p5, ia E 6 (fun _ => 0))] _ [.ref p5, .ref q0] rfl rfl rfl rfl rfl ?_
  refine g_putF G 0 2 [(q0, .inr (5, [.ref p1, .ref p4, .ref p5])), (p1, .inr (3, [.ref q1_2, .ref q2_3])), (q1_2, ia E 3 (fun _ => 0)), (q2_3, ia E 100 (fun _ => 0)), (p4, ia E 30 (fun _ => 0)), (p5, ia E 6 (fun _ => 0))] dX5_init_28 i_X5_init_X5 f_X5_init_22 tyX5_ok nmX5 rfl rfl (by decide) rfl rfl rfl rfl rfl (Nat.le_of_ble_eq_true rfl) rfl ?_
  refine g_sub G [0, 4, 5, 1, 2, 3] [(q0, .inr (5, [.ref p1, .ref p4, .ref p5])), (p4, ia E 30 (fun _ => 0)), (p5, ia E 6 (fun _ => 0)), (p1, .inr (3, [.ref q1_2, .ref q2_3])), (q1_2, ia E 3 (fun _ => 0)), (q2_3, ia E 100 (fun _ => 0))] rfl rfl ?_
  exact g_ret G none rfl dX5_init_31 (Nat.le_refl _) (Nat.le_refl _) ⟨p1, q1_2, q2_3, p4, p5, rfl, rfl⟩
theorem f_X5_weigh_18 : Cond.fieldLink RX5 18 (TX5 1).1 (TX5 1).2.1 (TX5 1).2.2.1 ∈ wsX5_weigh := by decide +kernel
theorem i_X5_weigh_X5 : ∀ w ∈ wsX50, w ∈ wsX5_weigh := by decide +kernel
set_option maxRecDepth 100000 in
set_option maxHeartbeats 4000000 in
theorem c_X5_weigh (E : qE) (q0 : Nat) (q1 : Nat) (q2 : Nat) (p0 : Nat) (g : Int → Int) (x : Int) (y : Int) (v : Int) (hx : 0 ≤ x ∧ x < 30) (hg : -2147483648 ≤ g x ∧ g x < 2147483648) (hy : -1 ≤ y ∧ y ≤ 1000000) (hv : 0 ≤ v ∧ v < 100) : Cn E yX5_weigh wsX5_weigh { frames := 0, cells := 0, slots := 0, locals := 0 } [.ref q0, .int (iI x), .int (iI y), .int (iI v)] [(q0, .inr (5, [.ref p0, .ref q1, .ref q2])), (q1, ia E 30 g)] (fun v9 w9 => ∃ (g' : Int → Int), v9 = none ∧ w9 = [(q0, .inr (5, [.ref p0, .ref q1, .ref q2])), (q1, ia E 30 g')] ∧ g' = (upI g x (wgh (g x) y v))) 0 0 := by
  refine Cn.ofP (own := RX5) (cc := cX5_weigh) (maxL := 5) (ret := none) false [(0, .ref q0), (1, .int (iI x)), (2, .int (iI y)), (3, .int (iI v))] (by decide +kernel) rfl rfl (Nat.le_of_ble_eq_true rfl) rfl (fun h => nomatch h) (fun v w h => by obtain ⟨g', rfl, h9⟩ := h; exact (rfl : (none : Option FieldType) = none)) ?_
  intro P G
  refine g_aload_n G 0 dX5_weigh_0 rfl ?_
  refine g_get G 0 1 dX5_weigh_1 i_X5_weigh_X5 f_X5_weigh_18 rfl rfl (by decide) rfl ?_
  refine g_iload_n G 1 dX5_weigh_4 rfl ?_
  refine g_iald G 1 dX5_weigh_5 rfl (by omega) (by omega) (by decide) ?_
  refine g_istore G [(0, .ref q0), (1, .int (iI x)), (2, .int (iI y)), (3, .int (iI v)), (4, .int (iI (g x)))] dX5_weigh_6 (by decide) rfl rfl ?_
  refine g_iload G 4 dX5_weigh_8 rfl ?_
  refine g_sipush G dX5_weigh_10 (by decide +kernel) ?_
  refine g_icmp_ne G 17 dX5_weigh_13 (by decide) (by omega) (by omega) (fun c13 => ?_) (fun c13 => ?_)
  · refine g_iload_n G 2 dX5_weigh_17 rfl ?_
    refine g_iconst G dX5_weigh_18 ?_
    refine g_icmp_ne G 43 dX5_weigh_19 (by decide) (by omega) (by omega) (fun c19 => ?_) (fun c19 => ?_)
    · refine g_iload G 4 dX5_weigh_43 rfl ?_
      refine g_sipush G dX5_weigh_45 (by decide +kernel) ?_
      refine g_icmp_ne G 63 dX5_weigh_48 (by decide) (by omega) (by omega) (fun c48 => ?_) (fun c48 => ?_)
      · refine g_iload G 4 dX5_weigh_63 rfl ?_
        refine g_iload_n G 3 dX5_weigh_65 rfl ?_
        refine g_iload_n G 2 dX5_weigh_66 rfl ?_
        refine g_isub G dX5_weigh_67 ?_
        refine g_icmp_eq G 80 dX5_weigh_68 (by decide) (by omega) (by omega) (fun c68 => ?_) (fun c68 => ?_)
        · exact g_ret G none rfl dX5_weigh_80 (Nat.le_refl _) (Nat.le_refl _) ⟨g, rfl, rfl, by unfold wgh; first | (rw [if_pos c13, upI_self]; done) | (rw [if_neg c13, if_pos c19, if_pos c28]; done) | (rw [if_neg c13, if_pos c19, if_neg c28]; done) | (rw [if_neg c13, if_neg c19, if_pos c48]; done) | (rw [if_neg c13, if_neg c19, if_neg c48, if_pos c68, upI_self]; done) | (rw [if_neg c13, if_neg c19, if_neg c48, if_neg c68])⟩
        · refine g_aload_n G 0 dX5_weigh_71 rfl ?_
          refine g_get G 0 1 dX5_weigh_72 i_X5_weigh_X5 f_X5_weigh_18 rfl rfl (by decide) rfl ?_
          refine g_iload_n G 1 dX5_weigh_75 rfl ?_
          refine g_sipush G dX5_weigh_76 (by decide +kernel) ?_
          refine g_iast G 1 [(q0, .inr (5, [.ref p0, .ref q1, .ref q2])), (q1, ia E 30 (upI g x 1001))] dX5_weigh_79 rfl (by omega) (by omega) (by decide) rfl ?_
          exact g_ret G none rfl dX5_weigh_80 (Nat.le_refl _) (Nat.le_refl _) ⟨(upI g x 1001), rfl, rfl, by unfold wgh; first | (rw [if_pos c13, upI_self]; done) | (rw [if_neg c13, if_pos c19, if_pos c28]; done) | (rw [if_neg c13, if_pos c19, if_neg c28]; done) | (rw [if_neg c13, if_neg c19, if_pos c48]; done) | (rw [if_neg c13, if_neg c19, if_neg c48, if_pos c68, upI_self]; done) | (rw [if_neg c13, if_neg c19, if_neg c48, if_neg c68])⟩
      · refine g_aload_n G 0 dX5_weigh_51 rfl ?_
        refine g_get G 0 1 dX5_weigh_52 i_X5_weigh_X5 f_X5_weigh_18 rfl rfl (by decide) rfl ?_
        refine g_iload_n G 1 dX5_weigh_55 rfl ?_
        refine g_iload_n G 3 dX5_weigh_56 rfl ?_
        refine g_iload_n G 2 dX5_weigh_57 rfl ?_
        refine g_isub G dX5_weigh_58 ?_
        refine g_iast G 1 [(q0, .inr (5, [.ref p0, .ref q1, .ref q2])), (q1, ia E 30 (upI g x (v - y)))] dX5_weigh_59 rfl (by omega) (by omega) (by decide) rfl ?_
        refine g_goto G 80 dX5_weigh_60 (by decide) ?_
        exact g_ret G none rfl dX5_weigh_80 (Nat.le_refl _) (Nat.le_refl _) ⟨(upI g x (v - y)), rfl, rfl, by unfold wgh; first | (rw [if_pos c13, upI_self]; done) | (rw [if_neg c13, if_pos c19, if_pos c28]; done) | (rw [if_neg c13, if_pos c19, if_neg c28]; done) | (rw [if_neg c13, if_neg c19, if_pos c48]; done) | (rw [if_neg c13, if_neg c19, if_neg c48, if_pos c68, upI_self]; done) | (rw [if_neg c13, if_neg c19, if_neg c48, if_neg c68])⟩
    · refine g_aload_n G 0 dX5_weigh_22 rfl ?_
      refine g_get G 0 1 dX5_weigh_23 i_X5_weigh_X5 f_X5_weigh_18 rfl rfl (by decide) rfl ?_
      refine g_iload_n G 1 dX5_weigh_26 rfl ?_
      refine g_iload_n G 3 dX5_weigh_27 rfl ?_
      refine g_if_ne G 36 dX5_weigh_28 (by decide) (by omega) (fun c28 => ?_) (fun c28 => ?_)
      · refine g_sipush G dX5_weigh_36 (by decide +kernel) ?_
        refine g_iast G 1 [(q0, .inr (5, [.ref p0, .ref q1, .ref q2])), (q1, ia E 30 (upI g x 1001))] dX5_weigh_39 rfl (by omega) (by omega) (by decide) rfl ?_
        refine g_goto G 80 dX5_weigh_40 (by decide) ?_
        exact g_ret G none rfl dX5_weigh_80 (Nat.le_refl _) (Nat.le_refl _) ⟨(upI g x 1001), rfl, rfl, by unfold wgh; first | (rw [if_pos c13, upI_self]; done) | (rw [if_neg c13, if_pos c19, if_pos c28]; done) | (rw [if_neg c13, if_pos c19, if_neg c28]; done) | (rw [if_neg c13, if_neg c19, if_pos c48]; done) | (rw [if_neg c13, if_neg c19, if_neg c48, if_pos c68, upI_self]; done) | (rw [if_neg c13, if_neg c19, if_neg c48, if_neg c68])⟩
      · refine g_iload G 4 dX5_weigh_31 rfl ?_
        refine g_goto G 39 dX5_weigh_33 (by decide) ?_
        refine g_iast G 1 [(q0, .inr (5, [.ref p0, .ref q1, .ref q2])), (q1, ia E 30 (upI g x (g x)))] dX5_weigh_39 rfl (by omega) (by omega) (by decide) rfl ?_
        refine g_goto G 80 dX5_weigh_40 (by decide) ?_
        exact g_ret G none rfl dX5_weigh_80 (Nat.le_refl _) (Nat.le_refl _) ⟨(upI g x (g x)), rfl, rfl, by unfold wgh; first | (rw [if_pos c13, upI_self]; done) | (rw [if_neg c13, if_pos c19, if_pos c28]; done) | (rw [if_neg c13, if_pos c19, if_neg c28]; done) | (rw [if_neg c13, if_neg c19, if_pos c48]; done) | (rw [if_neg c13, if_neg c19, if_neg c48, if_pos c68, upI_self]; done) | (rw [if_neg c13, if_neg c19, if_neg c48, if_neg c68])⟩
  · exact g_ret G none rfl dX5_weigh_16 (Nat.le_refl _) (Nat.le_refl _) ⟨g, rfl, rfl, by unfold wgh; first | (rw [if_pos c13, upI_self]; done) | (rw [if_neg c13, if_pos c19, if_pos c28]; done) | (rw [if_neg c13, if_pos c19, if_neg c28]; done) | (rw [if_neg c13, if_neg c19, if_pos c48]; done) | (rw [if_neg c13, if_neg c19, if_neg c48, if_pos c68, upI_self]; done) | (rw [if_neg c13, if_neg c19, if_neg c48, if_neg c68])⟩
theorem f_X5_hearField_12 : Cond.fieldLink RX5 12 (TX5 0).1 (TX5 0).2.1 (TX5 0).2.2.1 ∈ wsX5_hearField := by decide +kernel
theorem i_X5_hearField_X5 : ∀ w ∈ wsX50, w ∈ wsX5_hearField := by decide +kernel
theorem e_X5_weigh : yX5_weigh.cls ≠ "java/lang/invoke/MethodHandle" ∧ yX5_weigh.cls ≠ "java/lang/invoke/VarHandle" ∧ (parseMethodDescriptor yX5_weigh.desc).map (fun d => d.parameters.length) = some 3 := by decide +kernel
set_option maxRecDepth 100000 in
set_option maxHeartbeats 4000000 in
theorem c_X5_hearField (E : qE) (q0 : Nat) (q1 : Nat) (q2 : Nat) (p0 : Nat) (p1 : Nat) (p2 : Nat) (g : Int → Int) (t : Int → Int) (c : Int → Int) (b : Int → Int) (v : Int) (f : Int) (s : Int) (x : Int) (hv : 0 ≤ v ∧ v < 3) (hf : 0 ≤ f ∧ f < 2) (hs : 0 ≤ s ∧ s < 10000) (hx : 0 ≤ x ∧ x < 100) (hM : MemOk c b) (hg : ∀ i, -2147483648 ≤ g i ∧ g i < 2147483648) : Cn E yX5_hearField wsX5_hearField { frames := 1, cells := 0, slots := 0, locals := 24 } [.ref q0, .int (iI v), .int (iI f), .int (iI s), .int (iI x)] [(q0, .inr (5, [.ref p0, .ref q1, .ref q2])), (q1, ia E 30 g), (q2, ia E 6 t), (p0, .inr (3, [.ref p1, .ref p2])), (p1, ia E 3 c), (p2, ia E 100 b)] (fun v9 w9 => ∃ (g' : Int → Int), v9 = none ∧ w9 = [(q0, .inr (5, [.ref p0, .ref q1, .ref q2])), (q1, ia E 30 g'), (q2, ia E 6 t), (p0, .inr (3, [.ref p1, .ref p2])), (p1, ia E 3 c), (p2, ia E 100 b)] ∧ g' = (hfI g c b v f s x 5)) 0 0 := by
  refine Cn.ofP (own := RX5) (cc := cX5_hearField) (maxL := 7) (ret := none) false [(0, .ref q0), (1, .int (iI v)), (2, .int (iI f)), (3, .int (iI s)), (4, .int (iI x))] (by decide +kernel) rfl rfl (Nat.le_of_ble_eq_true rfl) rfl (fun h => nomatch h) (fun v w h => by obtain ⟨g', rfl, h9⟩ := h; exact (rfl : (none : Option FieldType) = none)) ?_
  intro P G
  obtain ⟨hc, hb⟩ := hM
  refine g_iload_n G 1 dX5_hearField_0 rfl ?_
  refine g_iconst G dX5_hearField_1 ?_
  refine g_imul G dX5_hearField_2 ?_
  refine g_iload_n G 2 dX5_hearField_3 rfl ?_
  refine g_iadd G dX5_hearField_4 ?_
  refine g_iconst G dX5_hearField_5 ?_
  refine g_imul G dX5_hearField_6 ?_
  refine g_istore G [(0, .ref q0), (1, .int (iI v)), (2, .int (iI f)), (3, .int (iI s)), (4, .int (iI x)), (5, .int (iI (((v * 2) + f) * 5)))] dX5_hearField_7 (by decide) rfl rfl ?_
  refine g_iconst G dX5_hearField_9 ?_
  refine g_istore G [(0, .ref q0), (1, .int (iI v)), (2, .int (iI f)), (3, .int (iI s)), (4, .int (iI x)), (5, .int (iI (((v * 2) + f) * 5))), (6, .int (iI 0))] dX5_hearField_10 (by decide) rfl rfl ?_
  have L12 : ∀ (fuel : Nat), ∀ (i : Int) (U : Int → Int), (0 ≤ i ∧ i ≤ 5) → (U = hfI g c b v f s x i) → (5 - i : Int).toNat < fuel → P 0 0 [(q0, .inr (5, [.ref p0, .ref q1, .ref q2])), (q1, ia E 30 U), (q2, ia E 6 t), (p0, .inr (3, [.ref p1, .ref p2])), (p1, ia E 3 c), (p2, ia E 100 b)] 12 [(0, .ref q0), (1, .int (iI v)), (2, .int (iI f)), (3, .int (iI s)), (4, .int (iI x)), (5, .int (iI (((v * 2) + f) * 5))), (6, .int (iI i))] [] := by
    intro fuel
    induction fuel with
    | zero => intro i U hi hU hm; exact absurd hm (Nat.not_lt_zero _)
    | succ fuel ih12 =>
      intro i U hi hU hm
      refine g_iload G 6 dX5_hearField_12 rfl ?_
      refine g_iconst G dX5_hearField_14 ?_
      refine g_icmp_ge G 46 dX5_hearField_15 (by decide) (by omega) (by omega) (fun c15 => ?_) (fun c15 => ?_)
      · exact g_ret G none rfl dX5_hearField_46 (Nat.le_refl _) (Nat.le_refl _) ⟨U, rfl, rfl, by rw [hU, (show i = 5 by omega)]⟩
      · refine g_aload_n G 0 dX5_hearField_18 rfl ?_
        refine g_iload G 5 dX5_hearField_19 rfl ?_
        refine g_iload G 6 dX5_hearField_21 rfl ?_
        refine g_iadd G dX5_hearField_23 ?_
        refine g_aload_n G 0 dX5_hearField_24 rfl ?_
        refine g_get G 0 0 dX5_hearField_25 i_X5_hearField_X5 f_X5_hearField_12 rfl rfl (by decide) rfl ?_
        refine g_iload G 6 dX5_hearField_28 rfl ?_
        refine g_iload_n G 1 dX5_hearField_30 rfl ?_
        refine g_iload_n G 3 dX5_hearField_31 rfl ?_
        have hB := baseI_bd hc hb i v hs
        refine g_callV G [3, 4, 5] [0, 1, 2] 6 [(q0, .inr (5, [.ref p0, .ref q1, .ref q2])), (q1, ia E 30 U), (q2, ia E 6 t)] [.int (iI i), .int (iI v), .int (iI s)] [.int (iI ((((v * 2) + f) * 5) + i)), .ref q0] (c_X3_baseOf E p0 p1 p2 c b i v s (by omega) (by exact hv) (by exact hs)) dX5_hearField_32 gX5_hearField_X3_baseOf ⟨rfl, ⟨rfl, rfl⟩, e_X3_baseOf, ⟨Nat.le_of_ble_eq_true rfl, Nat.le_of_ble_eq_true rfl⟩, Nat.le_of_ble_eq_true rfl, Nat.le_of_ble_eq_true rfl, Nat.le_of_ble_eq_true rfl⟩ rfl rfl rfl rfl rfl (by decide +kernel) rfl (by decide +kernel) rfl (fun v9 w9 h9 => ?_)
        obtain ⟨o1, rfl, rfl, rfl⟩ := h9
        refine ⟨[(q0, .inr (5, [.ref p0, .ref q1, .ref q2])), (q1, ia E 30 U), (q2, ia E 6 t), (p0, .inr (3, [.ref p1, .ref p2])), (p1, ia E 3 c), (p2, ia E 100 b)], ⟨rfl, rfl, rfl, rfl⟩, g_to 0 0 _ _ [.int (iI (baseI c b i v s)), .int (iI ((((v * 2) + f) * 5) + i)), .ref q0] rfl rfl rfl rfl rfl ?_⟩
        refine g_iload G 4 dX5_hearField_35 rfl ?_
        have hg1 := hg ((v * 2 + f) * 5 + i)
        have hU1 := congrFun hU ((v * 2 + f) * 5 + i)
        rw [hfI_at] at hU1
        refine g_callV G [0, 1] [2, 3, 4, 5] 6 [(q2, ia E 6 t), (p0, .inr (3, [.ref p1, .ref p2])), (p1, ia E 3 c), (p2, ia E 100 b)] [.int (iI ((((v * 2) + f) * 5) + i)), .int (iI (baseI c b i v s)), .int (iI x)] [] (c_X5_weigh E q0 q1 q2 p0 U ((((v * 2) + f) * 5) + i) (baseI c b i v s) x (by first | assumption | omega) (by rw [hU1]; exact hg1) (by first | assumption | omega) (by first | assumption | omega)) dX5_hearField_37 gX5_hearField_X5_weigh ⟨rfl, ⟨rfl, rfl⟩, e_X5_weigh, ⟨Nat.le_of_ble_eq_true rfl, Nat.le_of_ble_eq_true rfl⟩, Nat.le_of_ble_eq_true rfl, Nat.le_of_ble_eq_true rfl, Nat.le_of_ble_eq_true rfl⟩ rfl rfl rfl rfl rfl (by decide +kernel) rfl (by decide +kernel) rfl (fun v9 w9 h9 => ?_)
        obtain ⟨o2, rfl, rfl, rfl⟩ := h9
        refine ⟨[(q0, .inr (5, [.ref p0, .ref q1, .ref q2])), (q1, ia E 30 (upI U ((((v * 2) + f) * 5) + i) (wgh (U ((((v * 2) + f) * 5) + i)) (baseI c b i v s) x))), (q2, ia E 6 t), (p0, .inr (3, [.ref p1, .ref p2])), (p1, ia E 3 c), (p2, ia E 100 b)], ⟨rfl, rfl, rfl, rfl⟩, g_to 0 0 _ _ [] rfl rfl rfl rfl rfl ?_⟩
        refine g_iinc G 6 [(0, .ref q0), (1, .int (iI v)), (2, .int (iI f)), (3, .int (iI s)), (4, .int (iI x)), (5, .int (iI (((v * 2) + f) * 5))), (6, .int (iI (i + 1)))] dX5_hearField_40 rfl (by decide) rfl rfl ?_
        refine g_goto G 12 dX5_hearField_43 (by decide) ?_
        exact ih12 (i + 1) (upI U ((((v * 2) + f) * 5) + i) (wgh (U ((((v * 2) + f) * 5) + i)) (baseI c b i v s) x)) (by first | assumption | omega) (by rw [hU1, hU]; exact hfI_up g c b v f s x hi.1) (by omega)
  exact L12 ((5 - 0 : Int).toNat + 1) 0 g (by first | assumption | omega) (by rw [hfI_0]) (by omega)
theorem f_X5_decideRule_18 : Cond.fieldLink RX5 18 (TX5 1).1 (TX5 1).2.1 (TX5 1).2.2.1 ∈ wsX5_decideRule := by decide +kernel
theorem i_X5_decideRule_X5 : ∀ w ∈ wsX50, w ∈ wsX5_decideRule := by decide +kernel
theorem f_X5_decideRule_22 : Cond.fieldLink RX5 22 (TX5 2).1 (TX5 2).2.1 (TX5 2).2.2.1 ∈ wsX5_decideRule := by decide +kernel
theorem e_X6_decide : yX6_decide.cls ≠ "java/lang/invoke/MethodHandle" ∧ yX6_decide.cls ≠ "java/lang/invoke/VarHandle" ∧ (parseMethodDescriptor yX6_decide.desc).map (fun d => d.parameters.length) = some 4 := by decide +kernel
set_option maxRecDepth 100000 in
set_option maxHeartbeats 4000000 in
theorem c_X5_decideRule (E : qE) (q0 : Nat) (q1 : Nat) (q2 : Nat) (p0 : Nat) (g : Int → Int) (t : Int → Int) (u0 : Nat) (u1 : Nat) (u2 : Nat) (u3 : Nat) (u4 : Nat) (k : Int → Int) (o : Int → Int) (a : Int → Int) (b : Int → Int) (z : Int) (v : Int) (f : Int) (hv : 0 ≤ v ∧ v < 3) (hf : 0 ≤ f ∧ f < 2) (hg : ∀ i, -2147483648 ≤ g i ∧ g i < 2147483648) (ht : ∀ i, -2147483648 ≤ t i ∧ t i < 2147483648) : Cn E yX5_decideRule wsX5_decideRule { frames := 1, cells := 0, slots := 0, locals := 24 } [.ref q0, .int (iI v), .int (iI f), .ref u0] [(q0, .inr (5, [.ref p0, .ref q1, .ref q2])), (q1, ia E 30 g), (q2, ia E 6 t), (u0, .inr (6, [.ref u1, .ref u2, .ref u3, .ref u4, .int (iI z)])), (u1, ia E 6 k), (u2, ia E 6 o), (u3, ia E 96 a), (u4, ia E 96 b)] (fun v9 w9 => ∃ (k2 : Int → Int) (o2 : Int → Int), v9 = none ∧ w9 = [(q0, .inr (5, [.ref p0, .ref q1, .ref q2])), (q1, ia E 30 g), (q2, ia E 6 t), (u0, .inr (6, [.ref u1, .ref u2, .ref u3, .ref u4, .int (iI z)])), (u1, ia E 6 k2), (u2, ia E 6 o2), (u3, ia E 96 a), (u4, ia E 96 b)] ∧ (k2 = if g ((v * 2 + f) * 5) = 1000 then k else upI k (v * 2 + f) (decK g t v f)) ∧ (o2 = if g ((v * 2 + f) * 5) = 1000 then o else upI o (v * 2 + f) (decO g v f))) 0 0 := by
  refine Cn.ofP (own := RX5) (cc := cX5_decideRule) (maxL := 8) (ret := none) false [(0, .ref q0), (1, .int (iI v)), (2, .int (iI f)), (3, .ref u0)] (by decide +kernel) rfl rfl (Nat.le_of_ble_eq_true rfl) rfl (fun h => nomatch h) (fun v w h => by obtain ⟨k2, o2, rfl, h9⟩ := h; exact (rfl : (none : Option FieldType) = none)) ?_
  intro P G
  refine g_iload_n G 1 dX5_decideRule_0 rfl ?_
  refine g_iconst G dX5_decideRule_1 ?_
  refine g_imul G dX5_decideRule_2 ?_
  refine g_iload_n G 2 dX5_decideRule_3 rfl ?_
  refine g_iadd G dX5_decideRule_4 ?_
  refine g_istore G [(0, .ref q0), (1, .int (iI v)), (2, .int (iI f)), (3, .ref u0), (4, .int (iI ((v * 2) + f)))] dX5_decideRule_5 (by decide) rfl rfl ?_
  refine g_iload G 4 dX5_decideRule_7 rfl ?_
  refine g_iconst G dX5_decideRule_9 ?_
  refine g_imul G dX5_decideRule_10 ?_
  refine g_istore G [(0, .ref q0), (1, .int (iI v)), (2, .int (iI f)), (3, .ref u0), (4, .int (iI ((v * 2) + f))), (5, .int (iI (((v * 2) + f) * 5)))] dX5_decideRule_11 (by decide) rfl rfl ?_
  refine g_aload_n G 0 dX5_decideRule_13 rfl ?_
  refine g_get G 0 1 dX5_decideRule_14 i_X5_decideRule_X5 f_X5_decideRule_18 rfl rfl (by decide) rfl ?_
  refine g_iload G 5 dX5_decideRule_17 rfl ?_
  refine g_iald G 1 dX5_decideRule_19 rfl (by omega) (by omega) (by decide) ?_
  have b1 := hg (((v * 2) + f) * 5)
  refine g_sipush G dX5_decideRule_20 (by decide +kernel) ?_
  refine g_icmp_ne G 27 dX5_decideRule_23 (by decide) (by omega) (by omega) (fun c23 => ?_) (fun c23 => ?_)
  · refine g_iconst G dX5_decideRule_27 ?_
    refine g_istore G [(0, .ref q0), (1, .int (iI v)), (2, .int (iI f)), (3, .ref u0), (4, .int (iI ((v * 2) + f))), (5, .int (iI (((v * 2) + f) * 5))), (6, .int (iI 0))] dX5_decideRule_28 (by decide) rfl rfl ?_
    have L30 : ∀ (fuel : Nat), ∀ (i : Int), (0 ≤ i ∧ i ≤ 5) → (fstK g v f = qpl (fun _ => False) (fun j => g ((v * 2 + f) * 5 + j) ≠ 1000 ∧ g ((v * 2 + f) * 5 + j) ≠ 1001) (5 - i).toNat i) → (5 - i : Int).toNat < fuel → P 0 0 [(q0, .inr (5, [.ref p0, .ref q1, .ref q2])), (q1, ia E 30 g), (q2, ia E 6 t), (u0, .inr (6, [.ref u1, .ref u2, .ref u3, .ref u4, .int (iI z)])), (u1, ia E 6 k), (u2, ia E 6 o), (u3, ia E 96 a), (u4, ia E 96 b)] 30 [(0, .ref q0), (1, .int (iI v)), (2, .int (iI f)), (3, .ref u0), (4, .int (iI ((v * 2) + f))), (5, .int (iI (((v * 2) + f) * 5))), (6, .int (iI i))] [] := by
      intro fuel
      induction fuel with
      | zero => intro i hi hq hm; exact absurd hm (Nat.not_lt_zero _)
      | succ fuel ih30 =>
        intro i hi hq hm
        refine g_iload G 6 dX5_decideRule_30 rfl ?_
        refine g_iconst G dX5_decideRule_32 ?_
        refine g_icmp_ge G 81 dX5_decideRule_33 (by decide) (by omega) (by omega) (fun c33 => ?_) (fun c33 => ?_)
        · have e9 : fstK g v f = -1 := by rw [hq, (show (5 - i).toNat = 0 by omega)]; rfl
          refine g_aload_n G 3 dX5_decideRule_81 rfl ?_
          refine g_iload_n G 1 dX5_decideRule_82 rfl ?_
          refine g_iload_n G 2 dX5_decideRule_83 rfl ?_
          refine g_aload_n G 0 dX5_decideRule_84 rfl ?_
          refine g_get G 0 2 dX5_decideRule_85 i_X5_decideRule_X5 f_X5_decideRule_22 rfl rfl (by decide) rfl ?_
          refine g_iload G 4 dX5_decideRule_88 rfl ?_
          refine g_iald G 2 dX5_decideRule_90 rfl (by omega) (by omega) (by decide) ?_
          have b2 := ht ((v * 2) + f)
          refine g_sipush G dX5_decideRule_91 (by decide +kernel) ?_
          refine g_icmp_ne G 102 dX5_decideRule_94 (by decide) (by omega) (by omega) (fun c94 => ?_) (fun c94 => ?_)
          · refine g_iconst G dX5_decideRule_102 ?_
            refine g_sipush G dX5_decideRule_103 (by decide +kernel) ?_
            refine g_callV G [3, 4, 5, 6, 7] [0, 1, 2] 8 [(q0, .inr (5, [.ref p0, .ref q1, .ref q2])), (q1, ia E 30 g), (q2, ia E 6 t)] [.int (iI v), .int (iI f), .int (iI 5), .int (iI (-1000))] [] (c_X6_decide E u0 u1 u2 u3 u4 k o a b z v f 5 (-1000) (by first | assumption | omega)) dX5_decideRule_106 gX5_decideRule_X6_decide ⟨rfl, ⟨rfl, rfl⟩, e_X6_decide, ⟨Nat.le_of_ble_eq_true rfl, Nat.le_of_ble_eq_true rfl⟩, Nat.le_of_ble_eq_true rfl, Nat.le_of_ble_eq_true rfl, Nat.le_of_ble_eq_true rfl⟩ rfl rfl rfl rfl rfl (by decide +kernel) rfl (by decide +kernel) rfl (fun v9 w9 h9 => ?_)
            obtain ⟨rfl, rfl⟩ := h9
            refine ⟨[(q0, .inr (5, [.ref p0, .ref q1, .ref q2])), (q1, ia E 30 g), (q2, ia E 6 t), (u0, .inr (6, [.ref u1, .ref u2, .ref u3, .ref u4, .int (iI z)])), (u1, ia E 6 (upI k (v * 2 + f) 5)), (u2, ia E 6 (upI o (v * 2 + f) (-1000))), (u3, ia E 96 a), (u4, ia E 96 b)], ⟨rfl, rfl, rfl, rfl⟩, g_to 0 0 _ _ [] rfl rfl rfl rfl rfl ?_⟩
            exact g_ret G none rfl dX5_decideRule_109 (Nat.le_refl _) (Nat.le_refl _) ⟨(upI k (v * 2 + f) 5), (upI o (v * 2 + f) (-1000)), rfl, rfl, by first | (rw [if_pos c23]; done) | (rw [if_neg c23]; unfold decK; rw [e9, if_neg (by omega)]; done) | (rw [if_neg c23]; unfold decO; rw [e9, if_neg (by omega)]; done) | (rw [if_neg c23]; unfold decK; rw [e9, if_pos rfl, if_pos c94]; done) | (rw [if_neg c23]; unfold decK; rw [e9, if_pos rfl, if_neg c94]; done) | (rw [if_neg c23]; unfold decO; rw [e9, if_pos rfl]), by first | (rw [if_pos c23]; done) | (rw [if_neg c23]; unfold decK; rw [e9, if_neg (by omega)]; done) | (rw [if_neg c23]; unfold decO; rw [e9, if_neg (by omega)]; done) | (rw [if_neg c23]; unfold decK; rw [e9, if_pos rfl, if_pos c94]; done) | (rw [if_neg c23]; unfold decK; rw [e9, if_pos rfl, if_neg c94]; done) | (rw [if_neg c23]; unfold decO; rw [e9, if_pos rfl])⟩
          · refine g_bipush G dX5_decideRule_97 (by decide +kernel) ?_
            refine g_goto G 103 dX5_decideRule_99 (by decide) ?_
            refine g_sipush G dX5_decideRule_103 (by decide +kernel) ?_
            refine g_callV G [3, 4, 5, 6, 7] [0, 1, 2] 8 [(q0, .inr (5, [.ref p0, .ref q1, .ref q2])), (q1, ia E 30 g), (q2, ia E 6 t)] [.int (iI v), .int (iI f), .int (iI 6), .int (iI (-1000))] [] (c_X6_decide E u0 u1 u2 u3 u4 k o a b z v f 6 (-1000) (by first | assumption | omega)) dX5_decideRule_106 gX5_decideRule_X6_decide ⟨rfl, ⟨rfl, rfl⟩, e_X6_decide, ⟨Nat.le_of_ble_eq_true rfl, Nat.le_of_ble_eq_true rfl⟩, Nat.le_of_ble_eq_true rfl, Nat.le_of_ble_eq_true rfl, Nat.le_of_ble_eq_true rfl⟩ rfl rfl rfl rfl rfl (by decide +kernel) rfl (by decide +kernel) rfl (fun v9 w9 h9 => ?_)
            obtain ⟨rfl, rfl⟩ := h9
            refine ⟨[(q0, .inr (5, [.ref p0, .ref q1, .ref q2])), (q1, ia E 30 g), (q2, ia E 6 t), (u0, .inr (6, [.ref u1, .ref u2, .ref u3, .ref u4, .int (iI z)])), (u1, ia E 6 (upI k (v * 2 + f) 6)), (u2, ia E 6 (upI o (v * 2 + f) (-1000))), (u3, ia E 96 a), (u4, ia E 96 b)], ⟨rfl, rfl, rfl, rfl⟩, g_to 0 0 _ _ [] rfl rfl rfl rfl rfl ?_⟩
            exact g_ret G none rfl dX5_decideRule_109 (Nat.le_refl _) (Nat.le_refl _) ⟨(upI k (v * 2 + f) 6), (upI o (v * 2 + f) (-1000)), rfl, rfl, by first | (rw [if_pos c23]; done) | (rw [if_neg c23]; unfold decK; rw [e9, if_neg (by omega)]; done) | (rw [if_neg c23]; unfold decO; rw [e9, if_neg (by omega)]; done) | (rw [if_neg c23]; unfold decK; rw [e9, if_pos rfl, if_pos c94]; done) | (rw [if_neg c23]; unfold decK; rw [e9, if_pos rfl, if_neg c94]; done) | (rw [if_neg c23]; unfold decO; rw [e9, if_pos rfl]), by first | (rw [if_pos c23]; done) | (rw [if_neg c23]; unfold decK; rw [e9, if_neg (by omega)]; done) | (rw [if_neg c23]; unfold decO; rw [e9, if_neg (by omega)]; done) | (rw [if_neg c23]; unfold decK; rw [e9, if_pos rfl, if_pos c94]; done) | (rw [if_neg c23]; unfold decK; rw [e9, if_pos rfl, if_neg c94]; done) | (rw [if_neg c23]; unfold decO; rw [e9, if_pos rfl])⟩
        · refine g_aload_n G 0 dX5_decideRule_36 rfl ?_
          refine g_get G 0 1 dX5_decideRule_37 i_X5_decideRule_X5 f_X5_decideRule_18 rfl rfl (by decide) rfl ?_
          refine g_iload G 5 dX5_decideRule_40 rfl ?_
          refine g_iload G 6 dX5_decideRule_42 rfl ?_
          refine g_iadd G dX5_decideRule_44 ?_
          refine g_iald G 1 dX5_decideRule_45 rfl (by omega) (by omega) (by decide) ?_
          have b3 := hg ((((v * 2) + f) * 5) + i)
          refine g_istore G [(0, .ref q0), (1, .int (iI v)), (2, .int (iI f)), (3, .ref u0), (4, .int (iI ((v * 2) + f))), (5, .int (iI (((v * 2) + f) * 5))), (6, .int (iI i)), (7, .int (iI (g ((((v * 2) + f) * 5) + i))))] dX5_decideRule_46 (by decide) rfl rfl ?_
          refine g_iload G 7 dX5_decideRule_48 rfl ?_
          refine g_sipush G dX5_decideRule_50 (by decide +kernel) ?_
          refine g_icmp_eq G 75 dX5_decideRule_53 (by decide) (by omega) (by omega) (fun c53 => ?_) (fun c53 => ?_)
          · refine g_iinc G 6 [(0, .ref q0), (1, .int (iI v)), (2, .int (iI f)), (3, .ref u0), (4, .int (iI ((v * 2) + f))), (5, .int (iI (((v * 2) + f) * 5))), (6, .int (iI (i + 1))), (7, .int (iI (g ((((v * 2) + f) * 5) + i))))] dX5_decideRule_75 rfl (by decide) rfl rfl ?_
            refine g_goto G 30 dX5_decideRule_78 (by decide) ?_
            refine g_lv G [0, 1, 2, 3, 4, 5, 6] (lv' := [(0, .ref q0), (1, .int (iI v)), (2, .int (iI f)), (3, .ref u0), (4, .int (iI ((v * 2) + f))), (5, .int (iI (((v * 2) + f) * 5))), (6, .int (iI (i + 1)))]) rfl ?_
            exact ih30 (i + 1) (by first | assumption | omega) (by rw [hq]; exact qpl_go _ _ (show i < 5 by omega) (fun q => q) (fun q => by omega)) (by omega)
          · refine g_iload G 7 dX5_decideRule_56 rfl ?_
            refine g_sipush G dX5_decideRule_58 (by decide +kernel) ?_
            refine g_icmp_eq G 75 dX5_decideRule_61 (by decide) (by omega) (by omega) (fun c61 => ?_) (fun c61 => ?_)
            · refine g_iinc G 6 [(0, .ref q0), (1, .int (iI v)), (2, .int (iI f)), (3, .ref u0), (4, .int (iI ((v * 2) + f))), (5, .int (iI (((v * 2) + f) * 5))), (6, .int (iI (i + 1))), (7, .int (iI (g ((((v * 2) + f) * 5) + i))))] dX5_decideRule_75 rfl (by decide) rfl rfl ?_
              refine g_goto G 30 dX5_decideRule_78 (by decide) ?_
              refine g_lv G [0, 1, 2, 3, 4, 5, 6] (lv' := [(0, .ref q0), (1, .int (iI v)), (2, .int (iI f)), (3, .ref u0), (4, .int (iI ((v * 2) + f))), (5, .int (iI (((v * 2) + f) * 5))), (6, .int (iI (i + 1)))]) rfl ?_
              exact ih30 (i + 1) (by first | assumption | omega) (by rw [hq]; exact qpl_go _ _ (show i < 5 by omega) (fun q => q) (fun q => by omega)) (by omega)
            · have e9 : fstK g v f = i := by rw [hq]; exact qpl_c _ _ (show i < 5 by omega) (fun q => q) ⟨c53, c61⟩
              refine g_aload_n G 3 dX5_decideRule_64 rfl ?_
              refine g_iload_n G 1 dX5_decideRule_65 rfl ?_
              refine g_iload_n G 2 dX5_decideRule_66 rfl ?_
              refine g_iload G 6 dX5_decideRule_67 rfl ?_
              refine g_iload G 7 dX5_decideRule_69 rfl ?_
              refine g_callV G [3, 4, 5, 6, 7] [0, 1, 2] 8 [(q0, .inr (5, [.ref p0, .ref q1, .ref q2])), (q1, ia E 30 g), (q2, ia E 6 t)] [.int (iI v), .int (iI f), .int (iI i), .int (iI (g ((((v * 2) + f) * 5) + i)))] [] (c_X6_decide E u0 u1 u2 u3 u4 k o a b z v f i (g ((((v * 2) + f) * 5) + i)) (by first | assumption | omega)) dX5_decideRule_71 gX5_decideRule_X6_decide ⟨rfl, ⟨rfl, rfl⟩, e_X6_decide, ⟨Nat.le_of_ble_eq_true rfl, Nat.le_of_ble_eq_true rfl⟩, Nat.le_of_ble_eq_true rfl, Nat.le_of_ble_eq_true rfl, Nat.le_of_ble_eq_true rfl⟩ rfl rfl rfl rfl rfl (by decide +kernel) rfl (by decide +kernel) rfl (fun v9 w9 h9 => ?_)
              obtain ⟨rfl, rfl⟩ := h9
              refine ⟨[(q0, .inr (5, [.ref p0, .ref q1, .ref q2])), (q1, ia E 30 g), (q2, ia E 6 t), (u0, .inr (6, [.ref u1, .ref u2, .ref u3, .ref u4, .int (iI z)])), (u1, ia E 6 (upI k (v * 2 + f) i)), (u2, ia E 6 (upI o (v * 2 + f) (g ((((v * 2) + f) * 5) + i)))), (u3, ia E 96 a), (u4, ia E 96 b)], ⟨rfl, rfl, rfl, rfl⟩, g_to 0 0 _ _ [] rfl rfl rfl rfl rfl ?_⟩
              exact g_ret G none rfl dX5_decideRule_74 (Nat.le_refl _) (Nat.le_refl _) ⟨(upI k (v * 2 + f) i), (upI o (v * 2 + f) (g ((((v * 2) + f) * 5) + i))), rfl, rfl, by first | (rw [if_pos c23]; done) | (rw [if_neg c23]; unfold decK; rw [e9, if_neg (by omega)]; done) | (rw [if_neg c23]; unfold decO; rw [e9, if_neg (by omega)]; done) | (rw [if_neg c23]; unfold decK; rw [e9, if_pos rfl, if_pos c94]; done) | (rw [if_neg c23]; unfold decK; rw [e9, if_pos rfl, if_neg c94]; done) | (rw [if_neg c23]; unfold decO; rw [e9, if_pos rfl]), by first | (rw [if_pos c23]; done) | (rw [if_neg c23]; unfold decK; rw [e9, if_neg (by omega)]; done) | (rw [if_neg c23]; unfold decO; rw [e9, if_neg (by omega)]; done) | (rw [if_neg c23]; unfold decK; rw [e9, if_pos rfl, if_pos c94]; done) | (rw [if_neg c23]; unfold decK; rw [e9, if_pos rfl, if_neg c94]; done) | (rw [if_neg c23]; unfold decO; rw [e9, if_pos rfl])⟩
    exact L30 ((5 - 0 : Int).toNat + 1) 0 (by first | assumption | omega) (by rfl) (by omega)
  · exact g_ret G none rfl dX5_decideRule_26 (Nat.le_refl _) (Nat.le_refl _) ⟨k, o, rfl, rfl, by first | (rw [if_pos c23]; done) | (rw [if_neg c23]; unfold decK; rw [e9, if_neg (by omega)]; done) | (rw [if_neg c23]; unfold decO; rw [e9, if_neg (by omega)]; done) | (rw [if_neg c23]; unfold decK; rw [e9, if_pos rfl, if_pos c94]; done) | (rw [if_neg c23]; unfold decK; rw [e9, if_pos rfl, if_neg c94]; done) | (rw [if_neg c23]; unfold decO; rw [e9, if_pos rfl]), by first | (rw [if_pos c23]; done) | (rw [if_neg c23]; unfold decK; rw [e9, if_neg (by omega)]; done) | (rw [if_neg c23]; unfold decO; rw [e9, if_neg (by omega)]; done) | (rw [if_neg c23]; unfold decK; rw [e9, if_pos rfl, if_pos c94]; done) | (rw [if_neg c23]; unfold decK; rw [e9, if_pos rfl, if_neg c94]; done) | (rw [if_neg c23]; unfold decO; rw [e9, if_pos rfl])⟩
