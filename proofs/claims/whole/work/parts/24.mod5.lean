def mdI (x y a b d l t : Int) : Int := if x = 0 then y else if x = 1 then a + y else if x = 2 then b + y else if x = 3 then d + y else if x = 4 then (if l < 0 then 0 else l + y) else if x = 5 then t else -1000
def OldOk (g : Int → Int) : Prop := (∀ r, 0 ≤ r → r < 8 → 0 ≤ g (600 + r) ∧ g (600 + r) ≤ 12) ∧ ∀ i, 610 ≤ i → i < 1186 → 0 ≤ g i ∧ g i < 100
def ofS (g : Int → Int) (v x y f : Int) (r p s : Int) : Int := if s = -1 ∧ g (610 + 72 * r + 6 * p) = v ∧ g (610 + 72 * r + 6 * p + 1) = x ∧ g (610 + 72 * r + 6 * p + 2) = y then g (610 + 72 * r + 6 * p + 4 + f) else s
def ofI (g : Int → Int) (v x y f : Int) : Int := nR (ofS g v x y f) (fun r => g (600 + r)) (-1) (8 : Int).toNat (-1)
theorem e_X10_reckons : yX10_reckons.cls ≠ "java/lang/invoke/MethodHandle" ∧ yX10_reckons.cls ≠ "java/lang/invoke/VarHandle" ∧ (parseMethodDescriptor yX10_reckons.desc).map (fun d => d.parameters.length) = some 3 := by decide +kernel
set_option maxRecDepth 100000 in
set_option maxHeartbeats 4000000 in
theorem c_X10_rulesBut (E : qE) (q0 : Nat) (q1 : Nat) (q2 : Nat) (q3 : Nat) (q4 : Nat) (q5 : Nat) (q6 : Nat) (q7 : Nat) (q8 : Nat) (q9 : Nat) (q10 : Nat) (q11 : Nat) (c0 : Int) (la : Int) (ch : Int) (us : Int) (g : Int → Int) (u : Int → Int) (b : Int) (hG : AllOk g) (hX : ∀ i, 20 ≤ i → i < 596 → 0 ≤ g i ∧ g i < 100) (hb : -2147483648 ≤ b ∧ b < 2147483648) : Cn E yX10_rulesBut wsX10_rulesBut { frames := 5, cells := 0, slots := 0, locals := 124 } [.ref q0, .int (iI b)] [(q0, .inr (10, [.ref q1, .ref q2, .ref q3, .int (iI c0), .ref q4, .ref q5, .int (iI la), .ref q6, .ref q7, .ref q8, .ref q9, .ref q10, .ref q11, .int (iI ch), .int (iI us)])), (q1, ia E 5400 g), (q3, ia E 12 u)] (fun v9 w9 => ∃ (U : Int → Int) (c1 : Int), v9 = none ∧ w9 = [(q0, .inr (10, [.ref q1, .ref q2, .ref q3, .int (iI c1), .ref q4, .ref q5, .int (iI la), .ref q6, .ref q7, .ref q8, .ref q9, .ref q10, .ref q11, .int (iI ch), .int (iI us)])), (q1, ia E 5400 g), (q3, ia E 12 U)] ∧ (∀ v f, 0 ≤ v ∧ v < 3 → 0 ≤ f ∧ f < 2 → U (4 * v + 2 * f) = (rkI g v f b).1 ∧ U (4 * v + 2 * f + 1) = (rkI g v f b).2)) 0 0 := by
  refine Cn.ofP (own := RX10) (cc := cX10_rulesBut) (maxL := 3) (ret := none) false [(0, .ref q0), (1, .int (iI b))] (by decide +kernel) rfl rfl (Nat.le_of_ble_eq_true rfl) rfl (fun h => nomatch h) (fun v w h => by obtain ⟨U, c1, rfl, h9⟩ := h; exact (rfl : (none : Option FieldType) = none)) ?_
  intro P G
  refine g_iconst G dX10_rulesBut_0 ?_
  refine g_istore_n G [(0, .ref q0), (1, .int (iI b)), (2, .int (iI 0))] dX10_rulesBut_1 (by decide) rfl rfl ?_
  refine g_iload_n G 2 dX10_rulesBut_2 rfl ?_
  refine g_iconst G dX10_rulesBut_3 ?_
  refine g_icmp_ge G 27 dX10_rulesBut_4 (by decide) (by omega) (by omega) (fun c4 => ?_) (fun c4 => ?_)
  · exfalso; omega
  · refine g_aload_n G 0 dX10_rulesBut_7 rfl ?_
    refine g_iload_n G 2 dX10_rulesBut_8 rfl ?_
    refine g_iconst G dX10_rulesBut_9 ?_
    refine g_iload_n G 1 dX10_rulesBut_10 rfl ?_
    refine g_callV G [0, 1, 2] [] 3 [] [.int (iI 0), .int (iI 0), .int (iI b)] [] (c_X10_reckons E q0 q1 q2 q3 q4 q5 q6 q7 q8 q9 q10 q11 c0 la ch us g u 0 0 b (by first | assumption | omega) (by first | assumption | omega) (by first | assumption | omega) (by first | assumption | omega) (by first | assumption | omega)) dX10_rulesBut_11 gX10_rulesBut_X10_reckons ⟨rfl, ⟨rfl, rfl⟩, e_X10_reckons, ⟨Nat.le_of_ble_eq_true rfl, Nat.le_of_ble_eq_true rfl⟩, Nat.le_of_ble_eq_true rfl, Nat.le_of_ble_eq_true rfl, Nat.le_of_ble_eq_true rfl⟩ rfl rfl rfl rfl rfl (by decide +kernel) rfl (by decide +kernel) rfl (fun v9 w9 h9 => ?_)
    obtain ⟨U_1, c1_2, rfl, rfl, hu_3⟩ := h9
    refine ⟨[(q0, .inr (10, [.ref q1, .ref q2, .ref q3, .int (iI c1_2), .ref q4, .ref q5, .int (iI la), .ref q6, .ref q7, .ref q8, .ref q9, .ref q10, .ref q11, .int (iI ch), .int (iI us)])), (q1, ia E 5400 g), (q3, ia E 12 U_1)], ⟨rfl, rfl, rfl, rfl⟩, g_to 0 0 _ _ [] rfl rfl rfl rfl rfl ?_⟩
    refine g_aload_n G 0 dX10_rulesBut_14 rfl ?_
    refine g_iload_n G 2 dX10_rulesBut_15 rfl ?_
    refine g_iconst G dX10_rulesBut_16 ?_
    refine g_iload_n G 1 dX10_rulesBut_17 rfl ?_
    refine g_callV G [0, 1, 2] [] 3 [] [.int (iI 0), .int (iI 1), .int (iI b)] [] (c_X10_reckons E q0 q1 q2 q3 q4 q5 q6 q7 q8 q9 q10 q11 c1_2 la ch us g U_1 0 1 b (by first | assumption | omega) (by first | assumption | omega) (by first | assumption | omega) (by first | assumption | omega) (by first | assumption | omega)) dX10_rulesBut_18 gX10_rulesBut_X10_reckons ⟨rfl, ⟨rfl, rfl⟩, e_X10_reckons, ⟨Nat.le_of_ble_eq_true rfl, Nat.le_of_ble_eq_true rfl⟩, Nat.le_of_ble_eq_true rfl, Nat.le_of_ble_eq_true rfl, Nat.le_of_ble_eq_true rfl⟩ rfl rfl rfl rfl rfl (by decide +kernel) rfl (by decide +kernel) rfl (fun v9 w9 h9 => ?_)
    obtain ⟨U_4, c1_5, rfl, rfl, hu_6⟩ := h9
    refine ⟨[(q0, .inr (10, [.ref q1, .ref q2, .ref q3, .int (iI c1_5), .ref q4, .ref q5, .int (iI la), .ref q6, .ref q7, .ref q8, .ref q9, .ref q10, .ref q11, .int (iI ch), .int (iI us)])), (q1, ia E 5400 g), (q3, ia E 12 U_4)], ⟨rfl, rfl, rfl, rfl⟩, g_to 0 0 _ _ [] rfl rfl rfl rfl rfl ?_⟩
    refine g_iinc G 2 [(0, .ref q0), (1, .int (iI b)), (2, .int (iI 1))] dX10_rulesBut_21 rfl (by decide) rfl rfl ?_
    refine g_goto G 2 dX10_rulesBut_24 (by decide) ?_
    refine g_iload_n G 2 dX10_rulesBut_2 rfl ?_
    refine g_iconst G dX10_rulesBut_3 ?_
    refine g_icmp_ge G 27 dX10_rulesBut_4 (by decide) (by omega) (by omega) (fun c4_2 => ?_) (fun c4_2 => ?_)
    · exfalso; omega
    · refine g_aload_n G 0 dX10_rulesBut_7 rfl ?_
      refine g_iload_n G 2 dX10_rulesBut_8 rfl ?_
      refine g_iconst G dX10_rulesBut_9 ?_
      refine g_iload_n G 1 dX10_rulesBut_10 rfl ?_
      refine g_callV G [0, 1, 2] [] 3 [] [.int (iI 1), .int (iI 0), .int (iI b)] [] (c_X10_reckons E q0 q1 q2 q3 q4 q5 q6 q7 q8 q9 q10 q11 c1_5 la ch us g U_4 1 0 b (by first | assumption | omega) (by first | assumption | omega) (by first | assumption | omega) (by first | assumption | omega) (by first | assumption | omega)) dX10_rulesBut_11 gX10_rulesBut_X10_reckons ⟨rfl, ⟨rfl, rfl⟩, e_X10_reckons, ⟨Nat.le_of_ble_eq_true rfl, Nat.le_of_ble_eq_true rfl⟩, Nat.le_of_ble_eq_true rfl, Nat.le_of_ble_eq_true rfl, Nat.le_of_ble_eq_true rfl⟩ rfl rfl rfl rfl rfl (by decide +kernel) rfl (by decide +kernel) rfl (fun v9 w9 h9 => ?_)
      obtain ⟨U_7, c1_8, rfl, rfl, hu_9⟩ := h9
      refine ⟨[(q0, .inr (10, [.ref q1, .ref q2, .ref q3, .int (iI c1_8), .ref q4, .ref q5, .int (iI la), .ref q6, .ref q7, .ref q8, .ref q9, .ref q10, .ref q11, .int (iI ch), .int (iI us)])), (q1, ia E 5400 g), (q3, ia E 12 U_7)], ⟨rfl, rfl, rfl, rfl⟩, g_to 0 0 _ _ [] rfl rfl rfl rfl rfl ?_⟩
      refine g_aload_n G 0 dX10_rulesBut_14 rfl ?_
      refine g_iload_n G 2 dX10_rulesBut_15 rfl ?_
      refine g_iconst G dX10_rulesBut_16 ?_
      refine g_iload_n G 1 dX10_rulesBut_17 rfl ?_
      refine g_callV G [0, 1, 2] [] 3 [] [.int (iI 1), .int (iI 1), .int (iI b)] [] (c_X10_reckons E q0 q1 q2 q3 q4 q5 q6 q7 q8 q9 q10 q11 c1_8 la ch us g U_7 1 1 b (by first | assumption | omega) (by first | assumption | omega) (by first | assumption | omega) (by first | assumption | omega) (by first | assumption | omega)) dX10_rulesBut_18 gX10_rulesBut_X10_reckons ⟨rfl, ⟨rfl, rfl⟩, e_X10_reckons, ⟨Nat.le_of_ble_eq_true rfl, Nat.le_of_ble_eq_true rfl⟩, Nat.le_of_ble_eq_true rfl, Nat.le_of_ble_eq_true rfl, Nat.le_of_ble_eq_true rfl⟩ rfl rfl rfl rfl rfl (by decide +kernel) rfl (by decide +kernel) rfl (fun v9 w9 h9 => ?_)
      obtain ⟨U_10, c1_11, rfl, rfl, hu_12⟩ := h9
      refine ⟨[(q0, .inr (10, [.ref q1, .ref q2, .ref q3, .int (iI c1_11), .ref q4, .ref q5, .int (iI la), .ref q6, .ref q7, .ref q8, .ref q9, .ref q10, .ref q11, .int (iI ch), .int (iI us)])), (q1, ia E 5400 g), (q3, ia E 12 U_10)], ⟨rfl, rfl, rfl, rfl⟩, g_to 0 0 _ _ [] rfl rfl rfl rfl rfl ?_⟩
      refine g_iinc G 2 [(0, .ref q0), (1, .int (iI b)), (2, .int (iI 2))] dX10_rulesBut_21 rfl (by decide) rfl rfl ?_
      refine g_goto G 2 dX10_rulesBut_24 (by decide) ?_
      refine g_iload_n G 2 dX10_rulesBut_2 rfl ?_
      refine g_iconst G dX10_rulesBut_3 ?_
      refine g_icmp_ge G 27 dX10_rulesBut_4 (by decide) (by omega) (by omega) (fun c4_3 => ?_) (fun c4_3 => ?_)
      · exfalso; omega
      · refine g_aload_n G 0 dX10_rulesBut_7 rfl ?_
        refine g_iload_n G 2 dX10_rulesBut_8 rfl ?_
        refine g_iconst G dX10_rulesBut_9 ?_
        refine g_iload_n G 1 dX10_rulesBut_10 rfl ?_
        refine g_callV G [0, 1, 2] [] 3 [] [.int (iI 2), .int (iI 0), .int (iI b)] [] (c_X10_reckons E q0 q1 q2 q3 q4 q5 q6 q7 q8 q9 q10 q11 c1_11 la ch us g U_10 2 0 b (by first | assumption | omega) (by first | assumption | omega) (by first | assumption | omega) (by first | assumption | omega) (by first | assumption | omega)) dX10_rulesBut_11 gX10_rulesBut_X10_reckons ⟨rfl, ⟨rfl, rfl⟩, e_X10_reckons, ⟨Nat.le_of_ble_eq_true rfl, Nat.le_of_ble_eq_true rfl⟩, Nat.le_of_ble_eq_true rfl, Nat.le_of_ble_eq_true rfl, Nat.le_of_ble_eq_true rfl⟩ rfl rfl rfl rfl rfl (by decide +kernel) rfl (by decide +kernel) rfl (fun v9 w9 h9 => ?_)
        obtain ⟨U_13, c1_14, rfl, rfl, hu_15⟩ := h9
        refine ⟨[(q0, .inr (10, [.ref q1, .ref q2, .ref q3, .int (iI c1_14), .ref q4, .ref q5, .int (iI la), .ref q6, .ref q7, .ref q8, .ref q9, .ref q10, .ref q11, .int (iI ch), .int (iI us)])), (q1, ia E 5400 g), (q3, ia E 12 U_13)], ⟨rfl, rfl, rfl, rfl⟩, g_to 0 0 _ _ [] rfl rfl rfl rfl rfl ?_⟩
        refine g_aload_n G 0 dX10_rulesBut_14 rfl ?_
        refine g_iload_n G 2 dX10_rulesBut_15 rfl ?_
        refine g_iconst G dX10_rulesBut_16 ?_
        refine g_iload_n G 1 dX10_rulesBut_17 rfl ?_
        refine g_callV G [0, 1, 2] [] 3 [] [.int (iI 2), .int (iI 1), .int (iI b)] [] (c_X10_reckons E q0 q1 q2 q3 q4 q5 q6 q7 q8 q9 q10 q11 c1_14 la ch us g U_13 2 1 b (by first | assumption | omega) (by first | assumption | omega) (by first | assumption | omega) (by first | assumption | omega) (by first | assumption | omega)) dX10_rulesBut_18 gX10_rulesBut_X10_reckons ⟨rfl, ⟨rfl, rfl⟩, e_X10_reckons, ⟨Nat.le_of_ble_eq_true rfl, Nat.le_of_ble_eq_true rfl⟩, Nat.le_of_ble_eq_true rfl, Nat.le_of_ble_eq_true rfl, Nat.le_of_ble_eq_true rfl⟩ rfl rfl rfl rfl rfl (by decide +kernel) rfl (by decide +kernel) rfl (fun v9 w9 h9 => ?_)
        obtain ⟨U_16, c1_17, rfl, rfl, hu_18⟩ := h9
        refine ⟨[(q0, .inr (10, [.ref q1, .ref q2, .ref q3, .int (iI c1_17), .ref q4, .ref q5, .int (iI la), .ref q6, .ref q7, .ref q8, .ref q9, .ref q10, .ref q11, .int (iI ch), .int (iI us)])), (q1, ia E 5400 g), (q3, ia E 12 U_16)], ⟨rfl, rfl, rfl, rfl⟩, g_to 0 0 _ _ [] rfl rfl rfl rfl rfl ?_⟩
        refine g_iinc G 2 [(0, .ref q0), (1, .int (iI b)), (2, .int (iI 3))] dX10_rulesBut_21 rfl (by decide) rfl rfl ?_
        refine g_goto G 2 dX10_rulesBut_24 (by decide) ?_
        refine g_iload_n G 2 dX10_rulesBut_2 rfl ?_
        refine g_iconst G dX10_rulesBut_3 ?_
        refine g_icmp_ge G 27 dX10_rulesBut_4 (by decide) (by omega) (by omega) (fun c4_4 => ?_) (fun c4_4 => ?_)
        · exact g_ret G none rfl dX10_rulesBut_27 (Nat.le_refl _) (Nat.le_refl _) ⟨U_16, c1_17, rfl, rfl, by intro v f hv hf; rcases (show v = 0 ∨ v = 1 ∨ v = 2 by omega) with rfl | rfl | rfl <;> rcases (show f = 0 ∨ f = 1 by omega) with rfl | rfl <;> simp [hu_3, hu_6, hu_9, hu_12, hu_15, hu_18]⟩
        · exfalso; omega
theorem f_X10_rule_17 : Cond.fieldLink RX10 17 (TX10 2).1 (TX10 2).2.1 (TX10 2).2.2.1 ∈ wsX10_rule := by decide +kernel
theorem i_X10_rule_X10 : ∀ w ∈ wsX100, w ∈ wsX10_rule := by decide +kernel
set_option maxRecDepth 100000 in
set_option maxHeartbeats 4000000 in
theorem c_X10_rule (E : qE) (q0 : Nat) (q1 : Nat) (q2 : Nat) (q3 : Nat) (q4 : Nat) (q5 : Nat) (q6 : Nat) (q7 : Nat) (q8 : Nat) (q9 : Nat) (q10 : Nat) (q11 : Nat) (c0 : Int) (la : Int) (ch : Int) (us : Int) (g : Int → Int) (u : Int → Int) (x : Int) (y : Int) (hG : AllOk g) (hX : ∀ i, 20 ≤ i → i < 596 → 0 ≤ g i ∧ g i < 100) (hx : -2147483648 ≤ x ∧ x < 2147483648) (hy : -2147483648 ≤ y ∧ y < 2147483648) : Cn E yX10_rule wsX10_rule { frames := 5, cells := 0, slots := 0, locals := 124 } [.ref q0, .int (iI x), .int (iI y)] [(q0, .inr (10, [.ref q1, .ref q2, .ref q3, .int (iI c0), .ref q4, .ref q5, .int (iI la), .ref q6, .ref q7, .ref q8, .ref q9, .ref q10, .ref q11, .int (iI ch), .int (iI us)])), (q1, ia E 5400 g), (q3, ia E 12 u)] (fun v9 w9 => ∃ (r : Int) (U : Int → Int) (c1 : Int), v9 = some (.int (iI r)) ∧ w9 = [(q0, .inr (10, [.ref q1, .ref q2, .ref q3, .int (iI c1), .ref q4, .ref q5, .int (iI la), .ref q6, .ref q7, .ref q8, .ref q9, .ref q10, .ref q11, .int (iI ch), .int (iI us)])), (q1, ia E 5400 g), (q3, ia E 12 U)] ∧ (r = if 0 ≤ x ∧ x ≤ 2 ∧ 0 ≤ y ∧ y ≤ 1 then (rkI g x y (-1)).1 else -1)) 0 0 := by
  refine Cn.ofP (own := RX10) (cc := cX10_rule) (maxL := 3) (ret := (some .int)) false [(0, .ref q0), (1, .int (iI x)), (2, .int (iI y))] (by decide +kernel) rfl rfl (Nat.le_of_ble_eq_true rfl) rfl (fun h => nomatch h) (fun v w h => by obtain ⟨r, U, c1, rfl, h9⟩ := h; exact ⟨_, rfl, rfl⟩) ?_
  intro P G
  refine g_iload_n G 1 dX10_rule_0 rfl ?_
  refine g_iconst G dX10_rule_1 ?_
  refine g_iconst G dX10_rule_2 ?_
  refine g_callS G [] [0, 1, 2] 3 [(q0, .inr (10, [.ref q1, .ref q2, .ref q3, .int (iI c0), .ref q4, .ref q5, .int (iI la), .ref q6, .ref q7, .ref q8, .ref q9, .ref q10, .ref q11, .int (iI ch), .int (iI us)])), (q1, ia E 5400 g), (q3, ia E 12 u)] [.int (iI x), .int (iI 0), .int (iI 2)] [] (c_X10_isIn E x 0 2 (by first | assumption | omega) (by first | assumption | omega) (by first | assumption | omega)) dX10_rule_3 gX10_rule_X10_isIn ⟨rfl, ⟨rfl, rfl⟩, e_X10_isIn, ⟨Nat.le_of_ble_eq_true rfl, Nat.le_of_ble_eq_true rfl⟩, Nat.le_of_ble_eq_true rfl, Nat.le_of_ble_eq_true rfl, Nat.le_of_ble_eq_true rfl⟩ rfl (by decide +kernel) rfl (by decide +kernel) rfl (fun v9 w9 h9 => ?_)
  obtain ⟨o1, rfl, rfl, rfl⟩ := h9
  refine ⟨[(q0, .inr (10, [.ref q1, .ref q2, .ref q3, .int (iI c0), .ref q4, .ref q5, .int (iI la), .ref q6, .ref q7, .ref q8, .ref q9, .ref q10, .ref q11, .int (iI ch), .int (iI us)])), (q1, ia E 5400 g), (q3, ia E 12 u)], ⟨rfl, rfl, rfl, rfl⟩, g_to 0 0 _ _ [.int (iI (if 0 ≤ x ∧ x ≤ 2 then 1 else 0))] rfl rfl rfl rfl rfl ?_⟩
  refine g_ifb_eq G 18 dX10_rule_6 (by decide) (fun c6 => ?_) (fun c6 => ?_)
  · refine g_iconst G dX10_rule_18 ?_
    exact g_ret G (some (.int (iI (-1)))) rfl dX10_rule_19 (Nat.le_refl _) (Nat.le_refl _) ⟨(-1), u, c0, rfl, rfl, by first | (rw [if_neg (by omega)]; done) | (rw [if_pos (by omega)]; have h8 := hU (4 * x + 2 * y); rw [if_pos rfl] at h8; exact h8) | (rw [if_pos (by omega)]; have h8 := hU (4 * x + 2 * y + 1); rw [if_neg (by omega), if_pos rfl] at h8; exact h8)⟩
  · refine g_iload_n G 2 dX10_rule_9 rfl ?_
    refine g_iconst G dX10_rule_10 ?_
    refine g_iconst G dX10_rule_11 ?_
    refine g_callS G [] [0, 1, 2] 3 [(q0, .inr (10, [.ref q1, .ref q2, .ref q3, .int (iI c0), .ref q4, .ref q5, .int (iI la), .ref q6, .ref q7, .ref q8, .ref q9, .ref q10, .ref q11, .int (iI ch), .int (iI us)])), (q1, ia E 5400 g), (q3, ia E 12 u)] [.int (iI y), .int (iI 0), .int (iI 1)] [] (c_X10_isIn E y 0 1 (by first | assumption | omega) (by first | assumption | omega) (by first | assumption | omega)) dX10_rule_12 gX10_rule_X10_isIn ⟨rfl, ⟨rfl, rfl⟩, e_X10_isIn, ⟨Nat.le_of_ble_eq_true rfl, Nat.le_of_ble_eq_true rfl⟩, Nat.le_of_ble_eq_true rfl, Nat.le_of_ble_eq_true rfl, Nat.le_of_ble_eq_true rfl⟩ rfl (by decide +kernel) rfl (by decide +kernel) rfl (fun v9 w9 h9 => ?_)
    obtain ⟨o2, rfl, rfl, rfl⟩ := h9
    refine ⟨[(q0, .inr (10, [.ref q1, .ref q2, .ref q3, .int (iI c0), .ref q4, .ref q5, .int (iI la), .ref q6, .ref q7, .ref q8, .ref q9, .ref q10, .ref q11, .int (iI ch), .int (iI us)])), (q1, ia E 5400 g), (q3, ia E 12 u)], ⟨rfl, rfl, rfl, rfl⟩, g_to 0 0 _ _ [.int (iI (if 0 ≤ y ∧ y ≤ 1 then 1 else 0))] rfl rfl rfl rfl rfl ?_⟩
    refine g_ifb_ne G 20 dX10_rule_15 (by decide) (fun c15 => ?_) (fun c15 => ?_)
    · refine g_aload_n G 0 dX10_rule_20 rfl ?_
      refine g_iload_n G 1 dX10_rule_21 rfl ?_
      refine g_iload_n G 2 dX10_rule_22 rfl ?_
      refine g_iconst G dX10_rule_23 ?_
      refine g_callV G [0, 1, 2] [] 3 [] [.int (iI x), .int (iI y), .int (iI (-1))] [] (c_X10_reckons E q0 q1 q2 q3 q4 q5 q6 q7 q8 q9 q10 q11 c0 la ch us g u x y (-1) (by exact hG) (by exact hX) (by first | assumption | omega) (by first | assumption | omega) (by first | assumption | omega)) dX10_rule_24 gX10_rule_X10_reckons ⟨rfl, ⟨rfl, rfl⟩, e_X10_reckons, ⟨Nat.le_of_ble_eq_true rfl, Nat.le_of_ble_eq_true rfl⟩, Nat.le_of_ble_eq_true rfl, Nat.le_of_ble_eq_true rfl, Nat.le_of_ble_eq_true rfl⟩ rfl rfl rfl rfl rfl (by decide +kernel) rfl (by decide +kernel) rfl (fun v9 w9 h9 => ?_)
      obtain ⟨U_3, c1_4, rfl, rfl, hU⟩ := h9
      refine ⟨[(q0, .inr (10, [.ref q1, .ref q2, .ref q3, .int (iI c1_4), .ref q4, .ref q5, .int (iI la), .ref q6, .ref q7, .ref q8, .ref q9, .ref q10, .ref q11, .int (iI ch), .int (iI us)])), (q1, ia E 5400 g), (q3, ia E 12 U_3)], ⟨rfl, rfl, rfl, rfl⟩, g_to 0 0 _ _ [] rfl rfl rfl rfl rfl ?_⟩
      refine g_aload_n G 0 dX10_rule_27 rfl ?_
      refine g_get G 0 2 dX10_rule_28 i_X10_rule_X10 f_X10_rule_17 rfl rfl (by decide) rfl ?_
      refine g_iconst G dX10_rule_31 ?_
      refine g_iload_n G 1 dX10_rule_32 rfl ?_
      refine g_imul G dX10_rule_33 ?_
      refine g_iconst G dX10_rule_34 ?_
      refine g_iload_n G 2 dX10_rule_35 rfl ?_
      refine g_imul G dX10_rule_36 ?_
      refine g_iadd G dX10_rule_37 ?_
      refine g_iald G 2 dX10_rule_38 rfl (by omega) (by omega) (by decide) ?_
      exact g_ret G (some (.int (iI (U_3 ((4 * x) + (2 * y)))))) rfl dX10_rule_39 (Nat.le_refl _) (Nat.le_refl _) ⟨(U_3 ((4 * x) + (2 * y))), U_3, c1_4, rfl, rfl, by first | (rw [if_neg (by omega)]; done) | (rw [if_pos (by omega)]; have h8 := hU (4 * x + 2 * y); rw [if_pos rfl] at h8; exact h8) | (rw [if_pos (by omega)]; have h8 := hU (4 * x + 2 * y + 1); rw [if_neg (by omega), if_pos rfl] at h8; exact h8)⟩
    · refine g_iconst G dX10_rule_18 ?_
      exact g_ret G (some (.int (iI (-1)))) rfl dX10_rule_19 (Nat.le_refl _) (Nat.le_refl _) ⟨(-1), u, c0, rfl, rfl, by first | (rw [if_neg (by omega)]; done) | (rw [if_pos (by omega)]; have h8 := hU (4 * x + 2 * y); rw [if_pos rfl] at h8; exact h8) | (rw [if_pos (by omega)]; have h8 := hU (4 * x + 2 * y + 1); rw [if_neg (by omega), if_pos rfl] at h8; exact h8)⟩
theorem f_X10_by_17 : Cond.fieldLink RX10 17 (TX10 2).1 (TX10 2).2.1 (TX10 2).2.2.1 ∈ wsX10_by := by decide +kernel
theorem i_X10_by_X10 : ∀ w ∈ wsX100, w ∈ wsX10_by := by decide +kernel
set_option maxRecDepth 100000 in
set_option maxHeartbeats 4000000 in
theorem c_X10_by (E : qE) (q0 : Nat) (q1 : Nat) (q2 : Nat) (q3 : Nat) (q4 : Nat) (q5 : Nat) (q6 : Nat) (q7 : Nat) (q8 : Nat) (q9 : Nat) (q10 : Nat) (q11 : Nat) (c0 : Int) (la : Int) (ch : Int) (us : Int) (g : Int → Int) (u : Int → Int) (x : Int) (y : Int) (hG : AllOk g) (hX : ∀ i, 20 ≤ i → i < 596 → 0 ≤ g i ∧ g i < 100) (hx : -2147483648 ≤ x ∧ x < 2147483648) (hy : -2147483648 ≤ y ∧ y < 2147483648) : Cn E yX10_by wsX10_by { frames := 5, cells := 0, slots := 0, locals := 124 } [.ref q0, .int (iI x), .int (iI y)] [(q0, .inr (10, [.ref q1, .ref q2, .ref q3, .int (iI c0), .ref q4, .ref q5, .int (iI la), .ref q6, .ref q7, .ref q8, .ref q9, .ref q10, .ref q11, .int (iI ch), .int (iI us)])), (q1, ia E 5400 g), (q3, ia E 12 u)] (fun v9 w9 => ∃ (r : Int) (U : Int → Int) (c1 : Int), v9 = some (.int (iI r)) ∧ w9 = [(q0, .inr (10, [.ref q1, .ref q2, .ref q3, .int (iI c1), .ref q4, .ref q5, .int (iI la), .ref q6, .ref q7, .ref q8, .ref q9, .ref q10, .ref q11, .int (iI ch), .int (iI us)])), (q1, ia E 5400 g), (q3, ia E 12 U)] ∧ (r = if 0 ≤ x ∧ x ≤ 2 ∧ 0 ≤ y ∧ y ≤ 1 then (rkI g x y (-1)).2 else -1000)) 0 0 := by
  refine Cn.ofP (own := RX10) (cc := cX10_by) (maxL := 3) (ret := (some .int)) false [(0, .ref q0), (1, .int (iI x)), (2, .int (iI y))] (by decide +kernel) rfl rfl (Nat.le_of_ble_eq_true rfl) rfl (fun h => nomatch h) (fun v w h => by obtain ⟨r, U, c1, rfl, h9⟩ := h; exact ⟨_, rfl, rfl⟩) ?_
  intro P G
  refine g_iload_n G 1 dX10_by_0 rfl ?_
  refine g_iconst G dX10_by_1 ?_
  refine g_iconst G dX10_by_2 ?_
  refine g_callS G [] [0, 1, 2] 3 [(q0, .inr (10, [.ref q1, .ref q2, .ref q3, .int (iI c0), .ref q4, .ref q5, .int (iI la), .ref q6, .ref q7, .ref q8, .ref q9, .ref q10, .ref q11, .int (iI ch), .int (iI us)])), (q1, ia E 5400 g), (q3, ia E 12 u)] [.int (iI x), .int (iI 0), .int (iI 2)] [] (c_X10_isIn E x 0 2 (by first | assumption | omega) (by first | assumption | omega) (by first | assumption | omega)) dX10_by_3 gX10_by_X10_isIn ⟨rfl, ⟨rfl, rfl⟩, e_X10_isIn, ⟨Nat.le_of_ble_eq_true rfl, Nat.le_of_ble_eq_true rfl⟩, Nat.le_of_ble_eq_true rfl, Nat.le_of_ble_eq_true rfl, Nat.le_of_ble_eq_true rfl⟩ rfl (by decide +kernel) rfl (by decide +kernel) rfl (fun v9 w9 h9 => ?_)
  obtain ⟨o1, rfl, rfl, rfl⟩ := h9
  refine ⟨[(q0, .inr (10, [.ref q1, .ref q2, .ref q3, .int (iI c0), .ref q4, .ref q5, .int (iI la), .ref q6, .ref q7, .ref q8, .ref q9, .ref q10, .ref q11, .int (iI ch), .int (iI us)])), (q1, ia E 5400 g), (q3, ia E 12 u)], ⟨rfl, rfl, rfl, rfl⟩, g_to 0 0 _ _ [.int (iI (if 0 ≤ x ∧ x ≤ 2 then 1 else 0))] rfl rfl rfl rfl rfl ?_⟩
  refine g_ifb_eq G 18 dX10_by_6 (by decide) (fun c6 => ?_) (fun c6 => ?_)
  · refine g_sipush G dX10_by_18 (by decide +kernel) ?_
    exact g_ret G (some (.int (iI (-1000)))) rfl dX10_by_21 (Nat.le_refl _) (Nat.le_refl _) ⟨(-1000), u, c0, rfl, rfl, by first | (rw [if_neg (by omega)]; done) | (rw [if_pos (by omega)]; have h8 := hU (4 * x + 2 * y); rw [if_pos rfl] at h8; exact h8) | (rw [if_pos (by omega)]; have h8 := hU (4 * x + 2 * y + 1); rw [if_neg (by omega), if_pos rfl] at h8; exact h8)⟩
  · refine g_iload_n G 2 dX10_by_9 rfl ?_
    refine g_iconst G dX10_by_10 ?_
    refine g_iconst G dX10_by_11 ?_
    refine g_callS G [] [0, 1, 2] 3 [(q0, .inr (10, [.ref q1, .ref q2, .ref q3, .int (iI c0), .ref q4, .ref q5, .int (iI la), .ref q6, .ref q7, .ref q8, .ref q9, .ref q10, .ref q11, .int (iI ch), .int (iI us)])), (q1, ia E 5400 g), (q3, ia E 12 u)] [.int (iI y), .int (iI 0), .int (iI 1)] [] (c_X10_isIn E y 0 1 (by first | assumption | omega) (by first | assumption | omega) (by first | assumption | omega)) dX10_by_12 gX10_by_X10_isIn ⟨rfl, ⟨rfl, rfl⟩, e_X10_isIn, ⟨Nat.le_of_ble_eq_true rfl, Nat.le_of_ble_eq_true rfl⟩, Nat.le_of_ble_eq_true rfl, Nat.le_of_ble_eq_true rfl, Nat.le_of_ble_eq_true rfl⟩ rfl (by decide +kernel) rfl (by decide +kernel) rfl (fun v9 w9 h9 => ?_)
    obtain ⟨o2, rfl, rfl, rfl⟩ := h9
    refine ⟨[(q0, .inr (10, [.ref q1, .ref q2, .ref q3, .int (iI c0), .ref q4, .ref q5, .int (iI la), .ref q6, .ref q7, .ref q8, .ref q9, .ref q10, .ref q11, .int (iI ch), .int (iI us)])), (q1, ia E 5400 g), (q3, ia E 12 u)], ⟨rfl, rfl, rfl, rfl⟩, g_to 0 0 _ _ [.int (iI (if 0 ≤ y ∧ y ≤ 1 then 1 else 0))] rfl rfl rfl rfl rfl ?_⟩
    refine g_ifb_ne G 22 dX10_by_15 (by decide) (fun c15 => ?_) (fun c15 => ?_)
    · refine g_aload_n G 0 dX10_by_22 rfl ?_
      refine g_iload_n G 1 dX10_by_23 rfl ?_
      refine g_iload_n G 2 dX10_by_24 rfl ?_
      refine g_iconst G dX10_by_25 ?_
      refine g_callV G [0, 1, 2] [] 3 [] [.int (iI x), .int (iI y), .int (iI (-1))] [] (c_X10_reckons E q0 q1 q2 q3 q4 q5 q6 q7 q8 q9 q10 q11 c0 la ch us g u x y (-1) (by exact hG) (by exact hX) (by first | assumption | omega) (by first | assumption | omega) (by first | assumption | omega)) dX10_by_26 gX10_by_X10_reckons ⟨rfl, ⟨rfl, rfl⟩, e_X10_reckons, ⟨Nat.le_of_ble_eq_true rfl, Nat.le_of_ble_eq_true rfl⟩, Nat.le_of_ble_eq_true rfl, Nat.le_of_ble_eq_true rfl, Nat.le_of_ble_eq_true rfl⟩ rfl rfl rfl rfl rfl (by decide +kernel) rfl (by decide +kernel) rfl (fun v9 w9 h9 => ?_)
      obtain ⟨U_3, c1_4, rfl, rfl, hU⟩ := h9
      refine ⟨[(q0, .inr (10, [.ref q1, .ref q2, .ref q3, .int (iI c1_4), .ref q4, .ref q5, .int (iI la), .ref q6, .ref q7, .ref q8, .ref q9, .ref q10, .ref q11, .int (iI ch), .int (iI us)])), (q1, ia E 5400 g), (q3, ia E 12 U_3)], ⟨rfl, rfl, rfl, rfl⟩, g_to 0 0 _ _ [] rfl rfl rfl rfl rfl ?_⟩
      refine g_aload_n G 0 dX10_by_29 rfl ?_
      refine g_get G 0 2 dX10_by_30 i_X10_by_X10 f_X10_by_17 rfl rfl (by decide) rfl ?_
      refine g_iconst G dX10_by_33 ?_
      refine g_iload_n G 1 dX10_by_34 rfl ?_
      refine g_imul G dX10_by_35 ?_
      refine g_iconst G dX10_by_36 ?_
      refine g_iload_n G 2 dX10_by_37 rfl ?_
      refine g_imul G dX10_by_38 ?_
      refine g_iadd G dX10_by_39 ?_
      refine g_iconst G dX10_by_40 ?_
      refine g_iadd G dX10_by_41 ?_
      refine g_iald G 2 dX10_by_42 rfl (by omega) (by omega) (by decide) ?_
      exact g_ret G (some (.int (iI (U_3 (((4 * x) + (2 * y)) + 1))))) rfl dX10_by_43 (Nat.le_refl _) (Nat.le_refl _) ⟨(U_3 (((4 * x) + (2 * y)) + 1)), U_3, c1_4, rfl, rfl, by first | (rw [if_neg (by omega)]; done) | (rw [if_pos (by omega)]; have h8 := hU (4 * x + 2 * y); rw [if_pos rfl] at h8; exact h8) | (rw [if_pos (by omega)]; have h8 := hU (4 * x + 2 * y + 1); rw [if_neg (by omega), if_pos rfl] at h8; exact h8)⟩
    · refine g_sipush G dX10_by_18 (by decide +kernel) ?_
      exact g_ret G (some (.int (iI (-1000)))) rfl dX10_by_21 (Nat.le_refl _) (Nat.le_refl _) ⟨(-1000), u, c0, rfl, rfl, by first | (rw [if_neg (by omega)]; done) | (rw [if_pos (by omega)]; have h8 := hU (4 * x + 2 * y); rw [if_pos rfl] at h8; exact h8) | (rw [if_pos (by omega)]; have h8 := hU (4 * x + 2 * y + 1); rw [if_neg (by omega), if_pos rfl] at h8; exact h8)⟩
set_option maxRecDepth 100000 in
set_option maxHeartbeats 4000000 in
theorem c_X10_made (E : qE) (x : Int) (y : Int) (a : Int) (b : Int) (d : Int) (l : Int) (t : Int) (hx : -2147483648 ≤ x ∧ x < 2147483648) (hl : -2147483648 ≤ l ∧ l < 2147483648) : Cn E yX10_made wsX10_made { frames := 0, cells := 0, slots := 0, locals := 0 } [.int (iI x), .int (iI y), .int (iI a), .int (iI b), .int (iI d), .int (iI l), .int (iI t)] [] (fun v9 w9 => ∃ (r : Int), v9 = some (.int (iI r)) ∧ w9 = [] ∧ r = (mdI x y a b d l t)) 0 0 := by
  refine Cn.ofP (own := RX10) (cc := cX10_made) (maxL := 7) (ret := (some .int)) false [(0, .int (iI x)), (1, .int (iI y)), (2, .int (iI a)), (3, .int (iI b)), (4, .int (iI d)), (5, .int (iI l)), (6, .int (iI t))] (by decide +kernel) rfl rfl (Nat.le_of_ble_eq_true rfl) rfl (fun h => nomatch h) (fun v w h => by obtain ⟨r, rfl, h9⟩ := h; exact ⟨_, rfl, rfl⟩) ?_
  intro P G
  refine g_iload_n G 0 dX10_made_0 rfl ?_
  rcases (show x = 0 ∨ x = 1 ∨ x = 2 ∨ x = 3 ∨ x = 4 ∨ x = 5 ∨ (x < 0 ∨ 5 < x) by omega) with c1 | c1 | c1 | c1 | c1 | c1 | c1
  · refine g_tsIn G (0) (39) 40 dX10_made_1 c1 (by decide) (by decide) (by decide) rfl (by decide) ?_
    refine g_iload_n G 1 dX10_made_40 rfl ?_
    exact g_ret G (some (.int (iI y))) rfl dX10_made_41 (Nat.le_refl _) (Nat.le_refl _) ⟨y, rfl, rfl, by unfold mdI; first | (rw [if_pos c1]; done) | (rw [if_neg (by omega), if_pos c1]; done) | (rw [if_neg (by omega), if_neg (by omega), if_pos c1]; done) | (rw [if_neg (by omega), if_neg (by omega), if_neg (by omega), if_pos c1]; done) | (rw [if_neg (by omega), if_neg (by omega), if_neg (by omega), if_neg (by omega), if_pos c1, if_pos c57]; done) | (rw [if_neg (by omega), if_neg (by omega), if_neg (by omega), if_neg (by omega), if_pos c1, if_neg (by omega)]; done) | (rw [if_neg (by omega), if_neg (by omega), if_neg (by omega), if_neg (by omega), if_neg (by omega), if_pos c1]; done) | (rw [if_neg (by omega), if_neg (by omega), if_neg (by omega), if_neg (by omega), if_neg (by omega), if_neg (by omega)])⟩
  · refine g_tsIn G (1) (41) 42 dX10_made_1 c1 (by decide) (by decide) (by decide) rfl (by decide) ?_
    refine g_iload_n G 2 dX10_made_42 rfl ?_
    refine g_iload_n G 1 dX10_made_43 rfl ?_
    refine g_iadd G dX10_made_44 ?_
    exact g_ret G (some (.int (iI (a + y)))) rfl dX10_made_45 (Nat.le_refl _) (Nat.le_refl _) ⟨(a + y), rfl, rfl, by unfold mdI; first | (rw [if_pos c1]; done) | (rw [if_neg (by omega), if_pos c1]; done) | (rw [if_neg (by omega), if_neg (by omega), if_pos c1]; done) | (rw [if_neg (by omega), if_neg (by omega), if_neg (by omega), if_pos c1]; done) | (rw [if_neg (by omega), if_neg (by omega), if_neg (by omega), if_neg (by omega), if_pos c1, if_pos c57]; done) | (rw [if_neg (by omega), if_neg (by omega), if_neg (by omega), if_neg (by omega), if_pos c1, if_neg (by omega)]; done) | (rw [if_neg (by omega), if_neg (by omega), if_neg (by omega), if_neg (by omega), if_neg (by omega), if_pos c1]; done) | (rw [if_neg (by omega), if_neg (by omega), if_neg (by omega), if_neg (by omega), if_neg (by omega), if_neg (by omega)])⟩
  · refine g_tsIn G (2) (45) 46 dX10_made_1 c1 (by decide) (by decide) (by decide) rfl (by decide) ?_
    refine g_iload_n G 3 dX10_made_46 rfl ?_
    refine g_iload_n G 1 dX10_made_47 rfl ?_
    refine g_iadd G dX10_made_48 ?_
    exact g_ret G (some (.int (iI (b + y)))) rfl dX10_made_49 (Nat.le_refl _) (Nat.le_refl _) ⟨(b + y), rfl, rfl, by unfold mdI; first | (rw [if_pos c1]; done) | (rw [if_neg (by omega), if_pos c1]; done) | (rw [if_neg (by omega), if_neg (by omega), if_pos c1]; done) | (rw [if_neg (by omega), if_neg (by omega), if_neg (by omega), if_pos c1]; done) | (rw [if_neg (by omega), if_neg (by omega), if_neg (by omega), if_neg (by omega), if_pos c1, if_pos c57]; done) | (rw [if_neg (by omega), if_neg (by omega), if_neg (by omega), if_neg (by omega), if_pos c1, if_neg (by omega)]; done) | (rw [if_neg (by omega), if_neg (by omega), if_neg (by omega), if_neg (by omega), if_neg (by omega), if_pos c1]; done) | (rw [if_neg (by omega), if_neg (by omega), if_neg (by omega), if_neg (by omega), if_neg (by omega), if_neg (by omega)])⟩
  · refine g_tsIn G (3) (49) 50 dX10_made_1 c1 (by decide) (by decide) (by decide) rfl (by decide) ?_
    refine g_iload G 4 dX10_made_50 rfl ?_
    refine g_iload_n G 1 dX10_made_52 rfl ?_
    refine g_iadd G dX10_made_53 ?_
    exact g_ret G (some (.int (iI (d + y)))) rfl dX10_made_54 (Nat.le_refl _) (Nat.le_refl _) ⟨(d + y), rfl, rfl, by unfold mdI; first | (rw [if_pos c1]; done) | (rw [if_neg (by omega), if_pos c1]; done) | (rw [if_neg (by omega), if_neg (by omega), if_pos c1]; done) | (rw [if_neg (by omega), if_neg (by omega), if_neg (by omega), if_pos c1]; done) | (rw [if_neg (by omega), if_neg (by omega), if_neg (by omega), if_neg (by omega), if_pos c1, if_pos c57]; done) | (rw [if_neg (by omega), if_neg (by omega), if_neg (by omega), if_neg (by omega), if_pos c1, if_neg (by omega)]; done) | (rw [if_neg (by omega), if_neg (by omega), if_neg (by omega), if_neg (by omega), if_neg (by omega), if_pos c1]; done) | (rw [if_neg (by omega), if_neg (by omega), if_neg (by omega), if_neg (by omega), if_neg (by omega), if_neg (by omega)])⟩
  · refine g_tsIn G (4) (54) 55 dX10_made_1 c1 (by decide) (by decide) (by decide) rfl (by decide) ?_
    refine g_iload G 5 dX10_made_55 rfl ?_
    refine g_if_ge G 64 dX10_made_57 (by decide) (by omega) (fun c57 => ?_) (fun c57 => ?_)
    · refine g_iload G 5 dX10_made_64 rfl ?_
      refine g_iload_n G 1 dX10_made_66 rfl ?_
      refine g_iadd G dX10_made_67 ?_
      exact g_ret G (some (.int (iI (l + y)))) rfl dX10_made_68 (Nat.le_refl _) (Nat.le_refl _) ⟨(l + y), rfl, rfl, by unfold mdI; first | (rw [if_pos c1]; done) | (rw [if_neg (by omega), if_pos c1]; done) | (rw [if_neg (by omega), if_neg (by omega), if_pos c1]; done) | (rw [if_neg (by omega), if_neg (by omega), if_neg (by omega), if_pos c1]; done) | (rw [if_neg (by omega), if_neg (by omega), if_neg (by omega), if_neg (by omega), if_pos c1, if_pos c57]; done) | (rw [if_neg (by omega), if_neg (by omega), if_neg (by omega), if_neg (by omega), if_pos c1, if_neg (by omega)]; done) | (rw [if_neg (by omega), if_neg (by omega), if_neg (by omega), if_neg (by omega), if_neg (by omega), if_pos c1]; done) | (rw [if_neg (by omega), if_neg (by omega), if_neg (by omega), if_neg (by omega), if_neg (by omega), if_neg (by omega)])⟩
    · refine g_iconst G dX10_made_60 ?_
      refine g_goto G 68 dX10_made_61 (by decide) ?_
      exact g_ret G (some (.int (iI 0))) rfl dX10_made_68 (Nat.le_refl _) (Nat.le_refl _) ⟨0, rfl, rfl, by unfold mdI; first | (rw [if_pos c1]; done) | (rw [if_neg (by omega), if_pos c1]; done) | (rw [if_neg (by omega), if_neg (by omega), if_pos c1]; done) | (rw [if_neg (by omega), if_neg (by omega), if_neg (by omega), if_pos c1]; done) | (rw [if_neg (by omega), if_neg (by omega), if_neg (by omega), if_neg (by omega), if_pos c1, if_pos c57]; done) | (rw [if_neg (by omega), if_neg (by omega), if_neg (by omega), if_neg (by omega), if_pos c1, if_neg (by omega)]; done) | (rw [if_neg (by omega), if_neg (by omega), if_neg (by omega), if_neg (by omega), if_neg (by omega), if_pos c1]; done) | (rw [if_neg (by omega), if_neg (by omega), if_neg (by omega), if_neg (by omega), if_neg (by omega), if_neg (by omega)])⟩
  · refine g_tsIn G (5) (68) 69 dX10_made_1 c1 (by decide) (by decide) (by decide) rfl (by decide) ?_
    refine g_iload G 6 dX10_made_69 rfl ?_
    exact g_ret G (some (.int (iI t))) rfl dX10_made_71 (Nat.le_refl _) (Nat.le_refl _) ⟨t, rfl, rfl, by unfold mdI; first | (rw [if_pos c1]; done) | (rw [if_neg (by omega), if_pos c1]; done) | (rw [if_neg (by omega), if_neg (by omega), if_pos c1]; done) | (rw [if_neg (by omega), if_neg (by omega), if_neg (by omega), if_pos c1]; done) | (rw [if_neg (by omega), if_neg (by omega), if_neg (by omega), if_neg (by omega), if_pos c1, if_pos c57]; done) | (rw [if_neg (by omega), if_neg (by omega), if_neg (by omega), if_neg (by omega), if_pos c1, if_neg (by omega)]; done) | (rw [if_neg (by omega), if_neg (by omega), if_neg (by omega), if_neg (by omega), if_neg (by omega), if_pos c1]; done) | (rw [if_neg (by omega), if_neg (by omega), if_neg (by omega), if_neg (by omega), if_neg (by omega), if_neg (by omega)])⟩
  · refine g_tsOut G 72 dX10_made_1 (by omega) c1 (by decide) ?_
    refine g_sipush G dX10_made_72 (by decide +kernel) ?_
    exact g_ret G (some (.int (iI (-1000)))) rfl dX10_made_75 (Nat.le_refl _) (Nat.le_refl _) ⟨(-1000), rfl, rfl, by unfold mdI; first | (rw [if_pos c1]; done) | (rw [if_neg (by omega), if_pos c1]; done) | (rw [if_neg (by omega), if_neg (by omega), if_pos c1]; done) | (rw [if_neg (by omega), if_neg (by omega), if_neg (by omega), if_pos c1]; done) | (rw [if_neg (by omega), if_neg (by omega), if_neg (by omega), if_neg (by omega), if_pos c1, if_pos c57]; done) | (rw [if_neg (by omega), if_neg (by omega), if_neg (by omega), if_neg (by omega), if_pos c1, if_neg (by omega)]; done) | (rw [if_neg (by omega), if_neg (by omega), if_neg (by omega), if_neg (by omega), if_neg (by omega), if_pos c1]; done) | (rw [if_neg (by omega), if_neg (by omega), if_neg (by omega), if_neg (by omega), if_neg (by omega), if_neg (by omega)])⟩
set_option maxRecDepth 100000 in
set_option maxHeartbeats 4000000 in
theorem c_X10_part (E : qE) (x : Int) (y : Int) (hx : -2147483648 ≤ x ∧ x < 2147483648) (hy : -2147483648 ≤ y ∧ y < 2147483648) : Cn E yX10_part wsX10_part { frames := 0, cells := 0, slots := 0, locals := 0 } [.int (iI x), .int (iI y)] [] (fun v9 w9 => ∃ (r : Int), v9 = some (.int (iI r)) ∧ w9 = [] ∧ r = (if x < 0 then -1 else if y = 0 then x / 4 else if y = 1 then x % 4 else -1)) 0 0 := by
  refine Cn.ofP (own := RX10) (cc := cX10_part) (maxL := 2) (ret := (some .int)) false [(0, .int (iI x)), (1, .int (iI y))] (by decide +kernel) rfl rfl (Nat.le_of_ble_eq_true rfl) rfl (fun h => nomatch h) (fun v w h => by obtain ⟨r, rfl, h9⟩ := h; exact ⟨_, rfl, rfl⟩) ?_
  intro P G
  refine g_iload_n G 0 dX10_part_0 rfl ?_
  refine g_if_ge G 8 dX10_part_1 (by decide) (by omega) (fun c1 => ?_) (fun c1 => ?_)
  · refine g_iload_n G 1 dX10_part_8 rfl ?_
    refine g_if_ne G 18 dX10_part_9 (by decide) (by omega) (fun c9 => ?_) (fun c9 => ?_)
    · refine g_iload_n G 1 dX10_part_18 rfl ?_
      refine g_iconst G dX10_part_19 ?_
      refine g_icmp_ne G 29 dX10_part_20 (by decide) (by omega) (by omega) (fun c20 => ?_) (fun c20 => ?_)
      · refine g_iconst G dX10_part_29 ?_
        exact g_ret G (some (.int (iI (-1)))) rfl dX10_part_30 (Nat.le_refl _) (Nat.le_refl _) ⟨(-1), rfl, rfl, by first | (rw [if_pos (by omega)]; done) | (rw [if_neg (by omega), if_pos (by omega)]; done) | (rw [if_neg (by omega), if_neg (by omega), if_pos (by omega)]; done) | (rw [if_neg (by omega), if_neg (by omega), if_neg (by omega)])⟩
      · refine g_iload_n G 0 dX10_part_23 rfl ?_
        refine g_iconst G dX10_part_24 ?_
        refine g_irem G dX10_part_25 (by omega) (by omega) (by omega) (by omega) ?_
        refine g_goto G 30 dX10_part_26 (by decide) ?_
        exact g_ret G (some (.int (iI (x % 4)))) rfl dX10_part_30 (Nat.le_refl _) (Nat.le_refl _) ⟨(x % 4), rfl, rfl, by first | (rw [if_pos (by omega)]; done) | (rw [if_neg (by omega), if_pos (by omega)]; done) | (rw [if_neg (by omega), if_neg (by omega), if_pos (by omega)]; done) | (rw [if_neg (by omega), if_neg (by omega), if_neg (by omega)])⟩
    · refine g_iload_n G 0 dX10_part_12 rfl ?_
      refine g_iconst G dX10_part_13 ?_
      refine g_idiv G dX10_part_14 (by omega) (by omega) (by omega) (by omega) ?_
      refine g_goto G 30 dX10_part_15 (by decide) ?_
      exact g_ret G (some (.int (iI (x / 4)))) rfl dX10_part_30 (Nat.le_refl _) (Nat.le_refl _) ⟨(x / 4), rfl, rfl, by first | (rw [if_pos (by omega)]; done) | (rw [if_neg (by omega), if_pos (by omega)]; done) | (rw [if_neg (by omega), if_neg (by omega), if_pos (by omega)]; done) | (rw [if_neg (by omega), if_neg (by omega), if_neg (by omega)])⟩
  · refine g_iconst G dX10_part_4 ?_
    refine g_goto G 30 dX10_part_5 (by decide) ?_
    exact g_ret G (some (.int (iI (-1)))) rfl dX10_part_30 (Nat.le_refl _) (Nat.le_refl _) ⟨(-1), rfl, rfl, by first | (rw [if_pos (by omega)]; done) | (rw [if_neg (by omega), if_pos (by omega)]; done) | (rw [if_neg (by omega), if_neg (by omega), if_pos (by omega)]; done) | (rw [if_neg (by omega), if_neg (by omega), if_neg (by omega)])⟩
theorem f_X10_field_7 : Cond.fieldLink RX10 7 (TX10 0).1 (TX10 0).2.1 (TX10 0).2.2.1 ∈ wsX10_field := by decide +kernel
theorem i_X10_field_X10 : ∀ w ∈ wsX100, w ∈ wsX10_field := by decide +kernel
set_option maxRecDepth 100000 in
set_option maxHeartbeats 4000000 in
theorem c_X10_field (E : qE) (q0 : Nat) (q1 : Nat) (q2 : Nat) (q3 : Nat) (q4 : Nat) (q5 : Nat) (q6 : Nat) (q7 : Nat) (q8 : Nat) (q9 : Nat) (q10 : Nat) (q11 : Nat) (c0 : Int) (la : Int) (ch : Int) (us : Int) (g : Int → Int) (x : Int) (hx : -2147483648 ≤ x ∧ x < 2147483648) : Cn E yX10_field wsX10_field { frames := 1, cells := 0, slots := 0, locals := 22 } [.ref q0, .int (iI x)] [(q0, .inr (10, [.ref q1, .ref q2, .ref q3, .int (iI c0), .ref q4, .ref q5, .int (iI la), .ref q6, .ref q7, .ref q8, .ref q9, .ref q10, .ref q11, .int (iI ch), .int (iI us)])), (q1, ia E 5400 g)] (fun v9 w9 => ∃ (r : Int), v9 = some (.int (iI r)) ∧ w9 = [(q0, .inr (10, [.ref q1, .ref q2, .ref q3, .int (iI c0), .ref q4, .ref q5, .int (iI la), .ref q6, .ref q7, .ref q8, .ref q9, .ref q10, .ref q11, .int (iI ch), .int (iI us)])), (q1, ia E 5400 g)] ∧ r = (if 0 ≤ x ∧ x ≤ 1 then g (5 + x) else -1000)) 0 0 := by
  refine Cn.ofP (own := RX10) (cc := cX10_field) (maxL := 2) (ret := (some .int)) false [(0, .ref q0), (1, .int (iI x))] (by decide +kernel) rfl rfl (Nat.le_of_ble_eq_true rfl) rfl (fun h => nomatch h) (fun v w h => by obtain ⟨r, rfl, h9⟩ := h; exact ⟨_, rfl, rfl⟩) ?_
  intro P G
  refine g_iload_n G 1 dX10_field_0 rfl ?_
  refine g_iconst G dX10_field_1 ?_
  refine g_iconst G dX10_field_2 ?_
  refine g_callS G [] [0, 1] 2 [(q0, .inr (10, [.ref q1, .ref q2, .ref q3, .int (iI c0), .ref q4, .ref q5, .int (iI la), .ref q6, .ref q7, .ref q8, .ref q9, .ref q10, .ref q11, .int (iI ch), .int (iI us)])), (q1, ia E 5400 g)] [.int (iI x), .int (iI 0), .int (iI 1)] [] (c_X10_isIn E x 0 1 (by first | assumption | omega) (by first | assumption | omega) (by first | assumption | omega)) dX10_field_3 gX10_field_X10_isIn ⟨rfl, ⟨rfl, rfl⟩, e_X10_isIn, ⟨Nat.le_of_ble_eq_true rfl, Nat.le_of_ble_eq_true rfl⟩, Nat.le_of_ble_eq_true rfl, Nat.le_of_ble_eq_true rfl, Nat.le_of_ble_eq_true rfl⟩ rfl (by decide +kernel) rfl (by decide +kernel) rfl (fun v9 w9 h9 => ?_)
  obtain ⟨o1, rfl, rfl, rfl⟩ := h9
  refine ⟨[(q0, .inr (10, [.ref q1, .ref q2, .ref q3, .int (iI c0), .ref q4, .ref q5, .int (iI la), .ref q6, .ref q7, .ref q8, .ref q9, .ref q10, .ref q11, .int (iI ch), .int (iI us)])), (q1, ia E 5400 g)], ⟨rfl, rfl, rfl, rfl⟩, g_to 0 0 _ _ [.int (iI (if 0 ≤ x ∧ x ≤ 1 then 1 else 0))] rfl rfl rfl rfl rfl ?_⟩
  refine g_ifb_eq G 20 dX10_field_6 (by decide) (fun c6 => ?_) (fun c6 => ?_)
  · refine g_sipush G dX10_field_20 (by decide +kernel) ?_
    exact g_ret G (some (.int (iI (-1000)))) rfl dX10_field_23 (Nat.le_refl _) (Nat.le_refl _) ⟨(-1000), rfl, rfl, by first | rfl | (rw [if_pos (by omega)]; done) | (rw [if_neg (by omega)]; done) | (rw [if_neg (by omega)]; omega) | omega⟩
  · refine g_aload_n G 0 dX10_field_9 rfl ?_
    refine g_get G 0 0 dX10_field_10 i_X10_field_X10 f_X10_field_7 rfl rfl (by decide) rfl ?_
    refine g_iconst G dX10_field_13 ?_
    refine g_iload_n G 1 dX10_field_14 rfl ?_
    refine g_iadd G dX10_field_15 ?_
    refine g_iald G 1 dX10_field_16 rfl (by omega) (by omega) (by decide) ?_
    refine g_goto G 23 dX10_field_17 (by decide) ?_
    exact g_ret G (some (.int (iI (g (5 + x))))) rfl dX10_field_23 (Nat.le_refl _) (Nat.le_refl _) ⟨(g (5 + x)), rfl, rfl, by first | rfl | (rw [if_pos (by omega)]; done) | (rw [if_neg (by omega)]; done) | (rw [if_neg (by omega)]; omega) | omega⟩
theorem f_X10_ran_7 : Cond.fieldLink RX10 7 (TX10 0).1 (TX10 0).2.1 (TX10 0).2.2.1 ∈ wsX10_ran := by decide +kernel
theorem i_X10_ran_X10 : ∀ w ∈ wsX100, w ∈ wsX10_ran := by decide +kernel
set_option maxRecDepth 100000 in
set_option maxHeartbeats 4000000 in
theorem c_X10_ran (E : qE) (q0 : Nat) (q1 : Nat) (q2 : Nat) (q3 : Nat) (q4 : Nat) (q5 : Nat) (q6 : Nat) (q7 : Nat) (q8 : Nat) (q9 : Nat) (q10 : Nat) (q11 : Nat) (c0 : Int) (la : Int) (ch : Int) (us : Int) (g : Int → Int) (x : Int) (hG : AllOk g) (hx : -2147483648 ≤ x ∧ x < 2147483648) : Cn E yX10_ran wsX10_ran { frames := 1, cells := 0, slots := 0, locals := 22 } [.ref q0, .int (iI x)] [(q0, .inr (10, [.ref q1, .ref q2, .ref q3, .int (iI c0), .ref q4, .ref q5, .int (iI la), .ref q6, .ref q7, .ref q8, .ref q9, .ref q10, .ref q11, .int (iI ch), .int (iI us)])), (q1, ia E 5400 g)] (fun v9 w9 => ∃ (r : Int), v9 = some (.int (iI r)) ∧ w9 = [(q0, .inr (10, [.ref q1, .ref q2, .ref q3, .int (iI c0), .ref q4, .ref q5, .int (iI la), .ref q6, .ref q7, .ref q8, .ref q9, .ref q10, .ref q11, .int (iI ch), .int (iI us)])), (q1, ia E 5400 g)] ∧ r = (if g 1 = 1 ∧ 0 ≤ x ∧ x ≤ 2 then g (2 + x) else -1)) 0 0 := by
  refine Cn.ofP (own := RX10) (cc := cX10_ran) (maxL := 2) (ret := (some .int)) false [(0, .ref q0), (1, .int (iI x))] (by decide +kernel) rfl rfl (Nat.le_of_ble_eq_true rfl) rfl (fun h => nomatch h) (fun v w h => by obtain ⟨r, rfl, h9⟩ := h; exact ⟨_, rfl, rfl⟩) ?_
  intro P G
  obtain ⟨hg, hg0, hgs⟩ := id hG
  refine g_aload_n G 0 dX10_ran_0 rfl ?_
  refine g_get G 0 0 dX10_ran_1 i_X10_ran_X10 f_X10_ran_7 rfl rfl (by decide) rfl ?_
  refine g_iconst G dX10_ran_4 ?_
  refine g_iald G 1 dX10_ran_5 rfl (by omega) (by omega) (by decide) ?_
  have b1 := hg 1
  refine g_iconst G dX10_ran_6 ?_
  refine g_icmp_ne G 30 dX10_ran_7 (by decide) (by omega) (by omega) (fun c7 => ?_) (fun c7 => ?_)
  · refine g_iconst G dX10_ran_30 ?_
    exact g_ret G (some (.int (iI (-1)))) rfl dX10_ran_31 (Nat.le_refl _) (Nat.le_refl _) ⟨(-1), rfl, rfl, by first | rfl | (rw [if_pos (by omega)]; done) | (rw [if_neg (by omega)]; done) | (rw [if_neg (by omega)]; omega) | omega⟩
  · refine g_iload_n G 1 dX10_ran_10 rfl ?_
    refine g_iconst G dX10_ran_11 ?_
    refine g_iconst G dX10_ran_12 ?_
    refine g_callS G [] [0, 1] 2 [(q0, .inr (10, [.ref q1, .ref q2, .ref q3, .int (iI c0), .ref q4, .ref q5, .int (iI la), .ref q6, .ref q7, .ref q8, .ref q9, .ref q10, .ref q11, .int (iI ch), .int (iI us)])), (q1, ia E 5400 g)] [.int (iI x), .int (iI 0), .int (iI 2)] [] (c_X10_isIn E x 0 2 (by first | assumption | omega) (by first | assumption | omega) (by first | assumption | omega)) dX10_ran_13 gX10_ran_X10_isIn ⟨rfl, ⟨rfl, rfl⟩, e_X10_isIn, ⟨Nat.le_of_ble_eq_true rfl, Nat.le_of_ble_eq_true rfl⟩, Nat.le_of_ble_eq_true rfl, Nat.le_of_ble_eq_true rfl, Nat.le_of_ble_eq_true rfl⟩ rfl (by decide +kernel) rfl (by decide +kernel) rfl (fun v9 w9 h9 => ?_)
    obtain ⟨o2, rfl, rfl, rfl⟩ := h9
    refine ⟨[(q0, .inr (10, [.ref q1, .ref q2, .ref q3, .int (iI c0), .ref q4, .ref q5, .int (iI la), .ref q6, .ref q7, .ref q8, .ref q9, .ref q10, .ref q11, .int (iI ch), .int (iI us)])), (q1, ia E 5400 g)], ⟨rfl, rfl, rfl, rfl⟩, g_to 0 0 _ _ [.int (iI (if 0 ≤ x ∧ x ≤ 2 then 1 else 0))] rfl rfl rfl rfl rfl ?_⟩
    refine g_ifb_eq G 30 dX10_ran_16 (by decide) (fun c16 => ?_) (fun c16 => ?_)
    · refine g_iconst G dX10_ran_30 ?_
      exact g_ret G (some (.int (iI (-1)))) rfl dX10_ran_31 (Nat.le_refl _) (Nat.le_refl _) ⟨(-1), rfl, rfl, by first | rfl | (rw [if_pos (by omega)]; done) | (rw [if_neg (by omega)]; done) | (rw [if_neg (by omega)]; omega) | omega⟩
    · refine g_aload_n G 0 dX10_ran_19 rfl ?_
      refine g_get G 0 0 dX10_ran_20 i_X10_ran_X10 f_X10_ran_7 rfl rfl (by decide) rfl ?_
      refine g_iconst G dX10_ran_23 ?_
      refine g_iload_n G 1 dX10_ran_24 rfl ?_
      refine g_iadd G dX10_ran_25 ?_
      refine g_iald G 1 dX10_ran_26 rfl (by omega) (by omega) (by decide) ?_
      have b3 := hg (2 + x)
      refine g_goto G 31 dX10_ran_27 (by decide) ?_
      exact g_ret G (some (.int (iI (g (2 + x))))) rfl dX10_ran_31 (Nat.le_refl _) (Nat.le_refl _) ⟨(g (2 + x)), rfl, rfl, by first | rfl | (rw [if_pos (by omega)]; done) | (rw [if_neg (by omega)]; done) | (rw [if_neg (by omega)]; omega) | omega⟩
theorem f_X10_oldField_7 : Cond.fieldLink RX10 7 (TX10 0).1 (TX10 0).2.1 (TX10 0).2.2.1 ∈ wsX10_oldField := by decide +kernel
theorem i_X10_oldField_X10 : ∀ w ∈ wsX100, w ∈ wsX10_oldField := by decide +kernel
set_option maxRecDepth 100000 in
set_option maxHeartbeats 4000000 in
theorem c_X10_oldField (E : qE) (q0 : Nat) (q1 : Nat) (q2 : Nat) (q3 : Nat) (q4 : Nat) (q5 : Nat) (q6 : Nat) (q7 : Nat) (q8 : Nat) (q9 : Nat) (q10 : Nat) (q11 : Nat) (c0 : Int) (la : Int) (ch : Int) (us : Int) (g : Int → Int) (v : Int) (x : Int) (y : Int) (f : Int) (hG : AllOk g) (hv : -2147483648 ≤ v ∧ v < 2147483648) (hx : -2147483648 ≤ x ∧ x < 2147483648) (hy : -2147483648 ≤ y ∧ y < 2147483648) (hf : 0 ≤ f ∧ f < 2) (hO : OldOk g) : Cn E yX10_oldField wsX10_oldField { frames := 0, cells := 0, slots := 0, locals := 0 } [.ref q0, .int (iI v), .int (iI x), .int (iI y), .int (iI f)] [(q0, .inr (10, [.ref q1, .ref q2, .ref q3, .int (iI c0), .ref q4, .ref q5, .int (iI la), .ref q6, .ref q7, .ref q8, .ref q9, .ref q10, .ref q11, .int (iI ch), .int (iI us)])), (q1, ia E 5400 g)] (fun v9 w9 => ∃ (r : Int), v9 = some (.int (iI r)) ∧ w9 = [(q0, .inr (10, [.ref q1, .ref q2, .ref q3, .int (iI c0), .ref q4, .ref q5, .int (iI la), .ref q6, .ref q7, .ref q8, .ref q9, .ref q10, .ref q11, .int (iI ch), .int (iI us)])), (q1, ia E 5400 g)] ∧ r = (ofI g v x y f)) 0 0 := by
  refine Cn.ofP (own := RX10) (cc := cX10_oldField) (maxL := 8) (ret := (some .int)) false [(0, .ref q0), (1, .int (iI v)), (2, .int (iI x)), (3, .int (iI y)), (4, .int (iI f))] (by decide +kernel) rfl rfl (Nat.le_of_ble_eq_true rfl) rfl (fun h => nomatch h) (fun v w h => by obtain ⟨r, rfl, h9⟩ := h; exact ⟨_, rfl, rfl⟩) ?_
  intro P G
  obtain ⟨hg, hg0, hgs⟩ := id hG
  obtain ⟨hos, hox⟩ := id hO
  refine g_iconst G dX10_oldField_0 ?_
  refine g_istore G [(0, .ref q0), (1, .int (iI v)), (2, .int (iI x)), (3, .int (iI y)), (4, .int (iI f)), (5, .int (iI 0))] dX10_oldField_1 (by decide) rfl rfl ?_
  have L3 : ∀ (fuel : Nat), ∀ (i : Int), (0 ≤ i ∧ i ≤ 8) → (nR (ofS g v x y f) (fun r => g (600 + r)) (-1) i.toNat (-1) = -1) → (8 - i : Int).toNat < fuel → P 0 0 [(q0, .inr (10, [.ref q1, .ref q2, .ref q3, .int (iI c0), .ref q4, .ref q5, .int (iI la), .ref q6, .ref q7, .ref q8, .ref q9, .ref q10, .ref q11, .int (iI ch), .int (iI us)])), (q1, ia E 5400 g)] 3 [(0, .ref q0), (1, .int (iI v)), (2, .int (iI x)), (3, .int (iI y)), (4, .int (iI f)), (5, .int (iI i))] [] := by
    intro fuel
    induction fuel with
    | zero => intro i hi ho hm; exact absurd hm (Nat.not_lt_zero _)
    | succ fuel ih3 =>
      intro i hi ho hm
      refine g_iload G 5 dX10_oldField_3 rfl ?_
      refine g_bipush G dX10_oldField_5 (by decide +kernel) ?_
      refine g_icmp_ge G 108 dX10_oldField_7 (by decide) (by omega) (by omega) (fun c7 => ?_) (fun c7 => ?_)
      · refine g_iconst G dX10_oldField_108 ?_
        exact g_ret G (some (.int (iI (-1)))) rfl dX10_oldField_109 (Nat.le_refl _) (Nat.le_refl _) ⟨(-1), rfl, rfl, by unfold ofI; rw [(show (8 : Int) = i by omega), ho]⟩
      · have hgi := hos i hi.1 (by omega)
        refine g_iconst G dX10_oldField_10 ?_
        refine g_istore G [(0, .ref q0), (1, .int (iI v)), (2, .int (iI x)), (3, .int (iI y)), (4, .int (iI f)), (5, .int (iI i)), (6, .int (iI 0))] dX10_oldField_11 (by decide) rfl rfl ?_
        have L13 : ∀ (fuel : Nat), ∀ (j : Int), (0 ≤ j ∧ j ≤ g (600 + i)) → (nP (ofS g v x y f) i j.toNat (-1) = -1) → (g (600 + i) - j : Int).toNat < fuel → P 0 0 [(q0, .inr (10, [.ref q1, .ref q2, .ref q3, .int (iI c0), .ref q4, .ref q5, .int (iI la), .ref q6, .ref q7, .ref q8, .ref q9, .ref q10, .ref q11, .int (iI ch), .int (iI us)])), (q1, ia E 5400 g)] 13 [(0, .ref q0), (1, .int (iI v)), (2, .int (iI x)), (3, .int (iI y)), (4, .int (iI f)), (5, .int (iI i)), (6, .int (iI j))] [] := by
          intro fuel
          induction fuel with
          | zero => intro j hj ho2 hm; exact absurd hm (Nat.not_lt_zero _)
          | succ fuel ih13 =>
            intro j hj ho2 hm
            refine g_iload G 6 dX10_oldField_13 rfl ?_
            refine g_aload_n G 0 dX10_oldField_15 rfl ?_
            refine g_get G 0 0 dX10_oldField_16 i_X10_oldField_X10 f_X10_oldField_7 rfl rfl (by decide) rfl ?_
            refine g_sipush G dX10_oldField_19 (by decide +kernel) ?_
            refine g_iload G 5 dX10_oldField_22 rfl ?_
            refine g_iadd G dX10_oldField_24 ?_
            refine g_iald G 1 dX10_oldField_25 rfl (by omega) (by omega) (by decide) ?_
            have b1 := hg (600 + i)
            refine g_icmp_ge G 102 dX10_oldField_26 (by decide) (by omega) (by omega) (fun c26 => ?_) (fun c26 => ?_)
            · refine g_iinc G 5 [(0, .ref q0), (1, .int (iI v)), (2, .int (iI x)), (3, .int (iI y)), (4, .int (iI f)), (5, .int (iI (i + 1))), (6, .int (iI j))] dX10_oldField_102 rfl (by decide) rfl rfl ?_
              refine g_goto G 3 dX10_oldField_105 (by decide) ?_
              refine g_lv G [0, 1, 2, 3, 4, 5] (lv' := [(0, .ref q0), (1, .int (iI v)), (2, .int (iI x)), (3, .int (iI y)), (4, .int (iI f)), (5, .int (iI (i + 1)))]) rfl ?_
              exact ih3 (i + 1) (by first | assumption | omega) (by rw [nR_up _ _ _ hi.1, if_neg (by omega), ho]; (try dsimp only); rw [(show g (600 + i) = j by omega)]; exact ho2) (by omega)
            · refine g_sipush G dX10_oldField_29 (by decide +kernel) ?_
              refine g_bipush G dX10_oldField_32 (by decide +kernel) ?_
              refine g_iload G 5 dX10_oldField_34 rfl ?_
              refine g_imul G dX10_oldField_36 ?_
              refine g_iadd G dX10_oldField_37 ?_
              refine g_bipush G dX10_oldField_38 (by decide +kernel) ?_
              refine g_iload G 6 dX10_oldField_40 rfl ?_
              refine g_imul G dX10_oldField_42 ?_
              refine g_iadd G dX10_oldField_43 ?_
              refine g_istore G [(0, .ref q0), (1, .int (iI v)), (2, .int (iI x)), (3, .int (iI y)), (4, .int (iI f)), (5, .int (iI i)), (6, .int (iI j)), (7, .int (iI ((610 + (72 * i)) + (6 * j))))] dX10_oldField_44 (by decide) rfl rfl ?_
              refine g_aload_n G 0 dX10_oldField_46 rfl ?_
              refine g_get G 0 0 dX10_oldField_47 i_X10_oldField_X10 f_X10_oldField_7 rfl rfl (by decide) rfl ?_
              refine g_iload G 7 dX10_oldField_50 rfl ?_
              refine g_iald G 1 dX10_oldField_52 rfl (by omega) (by omega) (by decide) ?_
              have b2 := hg ((610 + (72 * i)) + (6 * j))
              refine g_iload_n G 1 dX10_oldField_53 rfl ?_
              refine g_icmp_ne G 96 dX10_oldField_54 (by decide) (by omega) (by omega) (fun c54 => ?_) (fun c54 => ?_)
              · refine g_iinc G 6 [(0, .ref q0), (1, .int (iI v)), (2, .int (iI x)), (3, .int (iI y)), (4, .int (iI f)), (5, .int (iI i)), (6, .int (iI (j + 1))), (7, .int (iI ((610 + (72 * i)) + (6 * j))))] dX10_oldField_96 rfl (by decide) rfl rfl ?_
                refine g_goto G 13 dX10_oldField_99 (by decide) ?_
                refine g_lv G [0, 1, 2, 3, 4, 5, 6] (lv' := [(0, .ref q0), (1, .int (iI v)), (2, .int (iI x)), (3, .int (iI y)), (4, .int (iI f)), (5, .int (iI i)), (6, .int (iI (j + 1)))]) rfl ?_
                exact ih13 (j + 1) (by first | assumption | omega) (by rw [nP_up _ _ hj.1, ho2]; exact if_neg (fun q => by omega)) (by omega)
              · refine g_aload_n G 0 dX10_oldField_57 rfl ?_
                refine g_get G 0 0 dX10_oldField_58 i_X10_oldField_X10 f_X10_oldField_7 rfl rfl (by decide) rfl ?_
                refine g_iload G 7 dX10_oldField_61 rfl ?_
                refine g_iconst G dX10_oldField_63 ?_
                refine g_iadd G dX10_oldField_64 ?_
                refine g_iald G 1 dX10_oldField_65 rfl (by omega) (by omega) (by decide) ?_
                have b3 := hg (((610 + (72 * i)) + (6 * j)) + 1)
                refine g_iload_n G 2 dX10_oldField_66 rfl ?_
                refine g_icmp_ne G 96 dX10_oldField_67 (by decide) (by omega) (by omega) (fun c67 => ?_) (fun c67 => ?_)
                · refine g_iinc G 6 [(0, .ref q0), (1, .int (iI v)), (2, .int (iI x)), (3, .int (iI y)), (4, .int (iI f)), (5, .int (iI i)), (6, .int (iI (j + 1))), (7, .int (iI ((610 + (72 * i)) + (6 * j))))] dX10_oldField_96 rfl (by decide) rfl rfl ?_
                  refine g_goto G 13 dX10_oldField_99 (by decide) ?_
                  refine g_lv G [0, 1, 2, 3, 4, 5, 6] (lv' := [(0, .ref q0), (1, .int (iI v)), (2, .int (iI x)), (3, .int (iI y)), (4, .int (iI f)), (5, .int (iI i)), (6, .int (iI (j + 1)))]) rfl ?_
                  exact ih13 (j + 1) (by first | assumption | omega) (by rw [nP_up _ _ hj.1, ho2]; exact if_neg (fun q => by omega)) (by omega)
                · refine g_aload_n G 0 dX10_oldField_70 rfl ?_
                  refine g_get G 0 0 dX10_oldField_71 i_X10_oldField_X10 f_X10_oldField_7 rfl rfl (by decide) rfl ?_
                  refine g_iload G 7 dX10_oldField_74 rfl ?_
                  refine g_iconst G dX10_oldField_76 ?_
                  refine g_iadd G dX10_oldField_77 ?_
                  refine g_iald G 1 dX10_oldField_78 rfl (by omega) (by omega) (by decide) ?_
                  have b4 := hg (((610 + (72 * i)) + (6 * j)) + 2)
                  refine g_iload_n G 3 dX10_oldField_79 rfl ?_
                  refine g_icmp_ne G 96 dX10_oldField_80 (by decide) (by omega) (by omega) (fun c80 => ?_) (fun c80 => ?_)
                  · refine g_iinc G 6 [(0, .ref q0), (1, .int (iI v)), (2, .int (iI x)), (3, .int (iI y)), (4, .int (iI f)), (5, .int (iI i)), (6, .int (iI (j + 1))), (7, .int (iI ((610 + (72 * i)) + (6 * j))))] dX10_oldField_96 rfl (by decide) rfl rfl ?_
                    refine g_goto G 13 dX10_oldField_99 (by decide) ?_
                    refine g_lv G [0, 1, 2, 3, 4, 5, 6] (lv' := [(0, .ref q0), (1, .int (iI v)), (2, .int (iI x)), (3, .int (iI y)), (4, .int (iI f)), (5, .int (iI i)), (6, .int (iI (j + 1)))]) rfl ?_
                    exact ih13 (j + 1) (by first | assumption | omega) (by rw [nP_up _ _ hj.1, ho2]; exact if_neg (fun q => by omega)) (by omega)
                  · have hm9 := hox (610 + 72 * i + 6 * j + 4 + f) (by omega) (by omega)
                    have e9 : ofI g v x y f = g (610 + 72 * i + 6 * j + 4 + f) := nR_exit (ofS g v x y f) (fun r => g (600 + r)) (-1) hi.1 (show i < 8 by omega) (by omega) hj.1 (by show j < g (600 + i); omega) (by rw [nP_up _ _ hj.1, ho, ho2]; exact if_pos ⟨rfl, c54, c67, c80⟩) (fun r p => if_neg (fun q => by omega))
                    refine g_aload_n G 0 dX10_oldField_83 rfl ?_
                    refine g_get G 0 0 dX10_oldField_84 i_X10_oldField_X10 f_X10_oldField_7 rfl rfl (by decide) rfl ?_
                    refine g_iload G 7 dX10_oldField_87 rfl ?_
                    refine g_iconst G dX10_oldField_89 ?_
                    refine g_iadd G dX10_oldField_90 ?_
                    refine g_iload G 4 dX10_oldField_91 rfl ?_
                    refine g_iadd G dX10_oldField_93 ?_
                    refine g_iald G 1 dX10_oldField_94 rfl (by omega) (by omega) (by decide) ?_
                    have b5 := hg ((((610 + (72 * i)) + (6 * j)) + 4) + f)
                    exact g_ret G (some (.int (iI (g ((((610 + (72 * i)) + (6 * j)) + 4) + f))))) rfl dX10_oldField_95 (Nat.le_refl _) (Nat.le_refl _) ⟨(g ((((610 + (72 * i)) + (6 * j)) + 4) + f)), rfl, rfl, by rw [e9]⟩
        exact L13 ((g (600 + i) - 0 : Int).toNat + 1) 0 (by first | assumption | omega) (by rfl) (by omega)
  exact L3 ((8 - 0 : Int).toNat + 1) 0 (by first | assumption | omega) (by rfl) (by omega)
