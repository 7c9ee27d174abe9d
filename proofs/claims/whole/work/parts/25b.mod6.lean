def imI (g : Int → Int) (x i : Int) : Int → Int := fun j => if 1350 * (x + 1) ≤ j ∧ j < 1350 * (x + 1) + i then g (j - 1350 * (x + 1)) else g j
theorem imI_0 (g : Int → Int) (x : Int) : imI g x 0 = g := by funext j; unfold imI; rw [if_neg (by omega)]
theorem imI_up (g : Int → Int) {x i : Int} (hx : 0 ≤ x ∧ x ≤ 2) (hi : 0 ≤ i ∧ i < 1350) : upI (imI g x i) (1350 * (x + 1) + i) (imI g x i i) = imI g x (i + 1) := by
  have e : imI g x i i = g i := by unfold imI; rw [if_neg (by omega)]
  rw [e]
  funext j
  unfold upI imI
  by_cases h1 : j = 1350 * (x + 1) + i
  · rw [if_pos h1, if_pos (by omega), h1, (show 1350 * (x + 1) + i - 1350 * (x + 1) = i by omega)]
  · rw [if_neg h1]
    by_cases h2 : 1350 * (x + 1) ≤ j ∧ j < 1350 * (x + 1) + i
    · rw [if_pos h2, if_pos (by omega)]
    · rw [if_neg h2, if_neg (by omega)]
def agI (g : Int → Int) (x i : Int) : Int → Int := fun j => if 0 ≤ j ∧ j < i then g (1350 * (x + 1) + j) else g j
theorem agI_0 (g : Int → Int) (x : Int) : agI g x 0 = g := by funext j; unfold agI; rw [if_neg (by omega)]
theorem agI_up (g : Int → Int) {x i : Int} (hx : 0 ≤ x ∧ x ≤ 2) (hi : 0 ≤ i ∧ i < 1350) : upI (agI g x i) i (agI g x i (1350 * (x + 1) + i)) = agI g x (i + 1) := by
  have e : agI g x i (1350 * (x + 1) + i) = g (1350 * (x + 1) + i) := by unfold agI; rw [if_neg (by omega)]
  rw [e]
  funext j
  unfold upI agI
  by_cases h1 : j = i
  · rw [if_pos h1, if_pos (by omega), h1]
  · rw [if_neg h1]
    by_cases h2 : 0 ≤ j ∧ j < i
    · rw [if_pos h2, if_pos (by omega)]
    · rw [if_neg h2, if_neg (by omega)]
def fsS (g : Int → Int) (x y : Int) (r p t : Int) : Int := if t = 1 ∧ g (20 + 72 * r + 6 * p + 0) = g (20 + 72 * x + 6 * y + 0) ∧ g (20 + 72 * r + 6 * p + 1) = g (20 + 72 * x + 6 * y + 1) ∧ g (20 + 72 * r + 6 * p + 2) = g (20 + 72 * x + 6 * y + 2) then 0 else t
def fsI (g : Int → Int) (x y : Int) : Int := nR (fsS g x y) (fun s => if s = x then y else g (10 + s)) (-1) (x + 1).toNat 1
theorem f_X10_image_13 : Cond.fieldLink RX10 13 (TX10 1).1 (TX10 1).2.1 (TX10 1).2.2.1 ∈ wsX10_image := by decide +kernel
theorem i_X10_image_X10 : ∀ w ∈ wsX100, w ∈ wsX10_image := by decide +kernel
theorem f_X10_image_7 : Cond.fieldLink RX10 7 (TX10 0).1 (TX10 0).2.1 (TX10 0).2.2.1 ∈ wsX10_image := by decide +kernel
set_option maxRecDepth 100000 in
set_option maxHeartbeats 4000000 in
theorem c_X10_image (E : qE) (q0 : Nat) (q1 : Nat) (q2 : Nat) (q3 : Nat) (q4 : Nat) (q5 : Nat) (q6 : Nat) (q7 : Nat) (q8 : Nat) (q9 : Nat) (q10 : Nat) (q11 : Nat) (c0 : Int) (la : Int) (ch : Int) (us : Int) (g : Int → Int) (h : Int → Int) (x : Int) (hx : -2147483648 ≤ x ∧ x < 2147483648) : Cn E yX10_image wsX10_image { frames := 1, cells := 0, slots := 0, locals := 22 } [.ref q0, .int (iI x)] [(q0, .inr (10, [.ref q1, .ref q2, .ref q3, .int (iI c0), .ref q4, .ref q5, .int (iI la), .ref q6, .ref q7, .ref q8, .ref q9, .ref q10, .ref q11, .int (iI ch), .int (iI us)])), (q1, ia E 5400 g), (q2, za E 3 h)] (fun v9 w9 => ∃ (r : Int) (G1 : Int → Int) (h' : Int → Int), v9 = some (.int (iI r)) ∧ w9 = [(q0, .inr (10, [.ref q1, .ref q2, .ref q3, .int (iI c0), .ref q4, .ref q5, .int (iI la), .ref q6, .ref q7, .ref q8, .ref q9, .ref q10, .ref q11, .int (iI ch), .int (iI us)])), (q1, ia E 5400 G1), (q2, za E 3 h')] ∧ r = (if 0 ≤ x ∧ x ≤ 2 then 1 else 0) ∧ G1 = (if 0 ≤ x ∧ x ≤ 2 then imI g x 1350 else g) ∧ h' = (if 0 ≤ x ∧ x ≤ 2 then upI h x 1 else h)) 0 0 := by
  refine Cn.ofP (own := RX10) (cc := cX10_image) (maxL := 3) (ret := (some .boolean)) false [(0, .ref q0), (1, .int (iI x))] (by decide +kernel) rfl rfl (Nat.le_of_ble_eq_true rfl) rfl (fun h => nomatch h) (fun v w h => by obtain ⟨r, G1, h', rfl, h9⟩ := h; exact ⟨_, rfl, by (refine iI_b01 ?_; first | rw [h9.2] | rw [h9.2.1]); split <;> simp⟩) ?_
  intro P G
  refine g_iload_n G 1 dX10_image_0 rfl ?_
  refine g_iconst G dX10_image_1 ?_
  refine g_iconst G dX10_image_2 ?_
  refine g_callS G [] [0, 1, 2] 3 [(q0, .inr (10, [.ref q1, .ref q2, .ref q3, .int (iI c0), .ref q4, .ref q5, .int (iI la), .ref q6, .ref q7, .ref q8, .ref q9, .ref q10, .ref q11, .int (iI ch), .int (iI us)])), (q1, ia E 5400 g), (q2, za E 3 h)] [.int (iI x), .int (iI 0), .int (iI 2)] [] (c_X10_isIn E x 0 2 (by first | assumption | omega) (by first | assumption | omega) (by first | assumption | omega)) dX10_image_3 gX10_image_X10_isIn ⟨rfl, ⟨rfl, rfl⟩, e_X10_isIn, ⟨Nat.le_of_ble_eq_true rfl, Nat.le_of_ble_eq_true rfl⟩, Nat.le_of_ble_eq_true rfl, Nat.le_of_ble_eq_true rfl, Nat.le_of_ble_eq_true rfl⟩ rfl (by decide +kernel) rfl (by decide +kernel) rfl (fun v9 w9 h9 => ?_)
  obtain ⟨o1, rfl, rfl, rfl⟩ := h9
  refine ⟨[(q0, .inr (10, [.ref q1, .ref q2, .ref q3, .int (iI c0), .ref q4, .ref q5, .int (iI la), .ref q6, .ref q7, .ref q8, .ref q9, .ref q10, .ref q11, .int (iI ch), .int (iI us)])), (q1, ia E 5400 g), (q2, za E 3 h)], ⟨rfl, rfl, rfl, rfl⟩, g_to 0 0 _ _ [.int (iI (if 0 ≤ x ∧ x ≤ 2 then 1 else 0))] rfl rfl rfl rfl rfl ?_⟩
  refine g_ifb_ne G 11 dX10_image_6 (by decide) (fun c6 => ?_) (fun c6 => ?_)
  · refine g_aload_n G 0 dX10_image_11 rfl ?_
    refine g_get G 0 1 dX10_image_12 i_X10_image_X10 f_X10_image_13 rfl rfl (by decide) rfl ?_
    refine g_iload_n G 1 dX10_image_15 rfl ?_
    refine g_iconst G dX10_image_16 ?_
    refine g_zast1 G 2 [(q0, .inr (10, [.ref q1, .ref q2, .ref q3, .int (iI c0), .ref q4, .ref q5, .int (iI la), .ref q6, .ref q7, .ref q8, .ref q9, .ref q10, .ref q11, .int (iI ch), .int (iI us)])), (q1, ia E 5400 g), (q2, za E 3 (upI h x 1))] dX10_image_17 rfl (by omega) (by omega) (by decide) rfl ?_
    refine g_iconst G dX10_image_18 ?_
    refine g_istore_n G [(0, .ref q0), (1, .int (iI x)), (2, .int (iI 0))] dX10_image_19 (by decide) rfl rfl ?_
    have L20 : ∀ (fuel : Nat), ∀ (i : Int) (U : Int → Int), (0 ≤ i ∧ i ≤ 1350) → (U = imI g x i) → (1350 - i : Int).toNat < fuel → P 0 0 [(q0, .inr (10, [.ref q1, .ref q2, .ref q3, .int (iI c0), .ref q4, .ref q5, .int (iI la), .ref q6, .ref q7, .ref q8, .ref q9, .ref q10, .ref q11, .int (iI ch), .int (iI us)])), (q1, ia E 5400 U), (q2, za E 3 (upI h x 1))] 20 [(0, .ref q0), (1, .int (iI x)), (2, .int (iI i))] [] := by
      intro fuel
      induction fuel with
      | zero => intro i U hi hU hm; exact absurd hm (Nat.not_lt_zero _)
      | succ fuel ih20 =>
        intro i U hi hU hm
        refine g_iload_n G 2 dX10_image_20 rfl ?_
        refine g_sipush G dX10_image_21 (by decide +kernel) ?_
        refine g_icmp_ge G 53 dX10_image_24 (by decide) (by omega) (by omega) (fun c24 => ?_) (fun c24 => ?_)
        · refine g_iconst G dX10_image_53 ?_
          exact g_ret G (some (.int (iI 1))) rfl dX10_image_54 (Nat.le_refl _) (Nat.le_refl _) ⟨1, U, (upI h x 1), rfl, rfl, by rw [if_pos c6], by rw [if_pos c6, hU, (show i = 1350 by omega)], by rw [if_pos c6]⟩
        · refine g_aload_n G 0 dX10_image_27 rfl ?_
          refine g_get G 0 0 dX10_image_28 i_X10_image_X10 f_X10_image_7 rfl rfl (by decide) rfl ?_
          refine g_sipush G dX10_image_31 (by decide +kernel) ?_
          refine g_iload_n G 1 dX10_image_34 rfl ?_
          refine g_iconst G dX10_image_35 ?_
          refine g_iadd G dX10_image_36 ?_
          refine g_imul G dX10_image_37 ?_
          refine g_iload_n G 2 dX10_image_38 rfl ?_
          refine g_iadd G dX10_image_39 ?_
          refine g_aload_n G 0 dX10_image_40 rfl ?_
          refine g_get G 0 0 dX10_image_41 i_X10_image_X10 f_X10_image_7 rfl rfl (by decide) rfl ?_
          refine g_iload_n G 2 dX10_image_44 rfl ?_
          refine g_iald G 1 dX10_image_45 rfl (by omega) (by omega) (by decide) ?_
          refine g_iast G 1 [(q0, .inr (10, [.ref q1, .ref q2, .ref q3, .int (iI c0), .ref q4, .ref q5, .int (iI la), .ref q6, .ref q7, .ref q8, .ref q9, .ref q10, .ref q11, .int (iI ch), .int (iI us)])), (q1, ia E 5400 (upI U ((1350 * (x + 1)) + i) (U i))), (q2, za E 3 (upI h x 1))] dX10_image_46 rfl (by omega) (by omega) (by decide) rfl ?_
          refine g_iinc G 2 [(0, .ref q0), (1, .int (iI x)), (2, .int (iI (i + 1)))] dX10_image_47 rfl (by decide) rfl rfl ?_
          refine g_goto G 20 dX10_image_50 (by decide) ?_
          exact ih20 (i + 1) (upI U ((1350 * (x + 1)) + i) (U i)) (by first | assumption | omega) (by rw [hU]; exact imI_up g c6 (by omega)) (by omega)
    exact L20 ((1350 - 0 : Int).toNat + 1) 0 g (by first | assumption | omega) (by rw [imI_0]) (by omega)
  · refine g_iconst G dX10_image_9 ?_
    exact g_ret G (some (.int (iI 0))) rfl dX10_image_10 (Nat.le_refl _) (Nat.le_refl _) ⟨0, g, h, rfl, rfl, by rw [if_neg c6], by rw [if_neg c6], by rw [if_neg c6]⟩
theorem f_X10_again_13 : Cond.fieldLink RX10 13 (TX10 1).1 (TX10 1).2.1 (TX10 1).2.2.1 ∈ wsX10_again := by decide +kernel
theorem i_X10_again_X10 : ∀ w ∈ wsX100, w ∈ wsX10_again := by decide +kernel
theorem f_X10_again_7 : Cond.fieldLink RX10 7 (TX10 0).1 (TX10 0).2.1 (TX10 0).2.2.1 ∈ wsX10_again := by decide +kernel
set_option maxRecDepth 100000 in
set_option maxHeartbeats 4000000 in
theorem c_X10_again (E : qE) (q0 : Nat) (q1 : Nat) (q2 : Nat) (q3 : Nat) (q4 : Nat) (q5 : Nat) (q6 : Nat) (q7 : Nat) (q8 : Nat) (q9 : Nat) (q10 : Nat) (q11 : Nat) (c0 : Int) (la : Int) (ch : Int) (us : Int) (g : Int → Int) (h : Int → Int) (x : Int) (hx : -2147483648 ≤ x ∧ x < 2147483648) (hh : ∀ i, 0 ≤ h i ∧ h i ≤ 1) : Cn E yX10_again wsX10_again { frames := 1, cells := 0, slots := 0, locals := 22 } [.ref q0, .int (iI x)] [(q0, .inr (10, [.ref q1, .ref q2, .ref q3, .int (iI c0), .ref q4, .ref q5, .int (iI la), .ref q6, .ref q7, .ref q8, .ref q9, .ref q10, .ref q11, .int (iI ch), .int (iI us)])), (q1, ia E 5400 g), (q2, za E 3 h)] (fun v9 w9 => ∃ (r : Int) (G1 : Int → Int), v9 = some (.int (iI r)) ∧ w9 = [(q0, .inr (10, [.ref q1, .ref q2, .ref q3, .int (iI c0), .ref q4, .ref q5, .int (iI la), .ref q6, .ref q7, .ref q8, .ref q9, .ref q10, .ref q11, .int (iI ch), .int (iI us)])), (q1, ia E 5400 G1), (q2, za E 3 h)] ∧ r = (if 0 ≤ x ∧ x ≤ 2 ∧ h x ≠ 0 then 1 else 0) ∧ G1 = (if 0 ≤ x ∧ x ≤ 2 ∧ h x ≠ 0 then agI g x 1350 else g)) 0 0 := by
  refine Cn.ofP (own := RX10) (cc := cX10_again) (maxL := 3) (ret := (some .boolean)) false [(0, .ref q0), (1, .int (iI x))] (by decide +kernel) rfl rfl (Nat.le_of_ble_eq_true rfl) rfl (fun h => nomatch h) (fun v w h => by obtain ⟨r, G1, rfl, h9⟩ := h; exact ⟨_, rfl, by (refine iI_b01 ?_; first | rw [h9.2] | rw [h9.2.1]); split <;> simp⟩) ?_
  intro P G
  refine g_iload_n G 1 dX10_again_0 rfl ?_
  refine g_iconst G dX10_again_1 ?_
  refine g_iconst G dX10_again_2 ?_
  refine g_callS G [] [0, 1, 2] 3 [(q0, .inr (10, [.ref q1, .ref q2, .ref q3, .int (iI c0), .ref q4, .ref q5, .int (iI la), .ref q6, .ref q7, .ref q8, .ref q9, .ref q10, .ref q11, .int (iI ch), .int (iI us)])), (q1, ia E 5400 g), (q2, za E 3 h)] [.int (iI x), .int (iI 0), .int (iI 2)] [] (c_X10_isIn E x 0 2 (by first | assumption | omega) (by first | assumption | omega) (by first | assumption | omega)) dX10_again_3 gX10_again_X10_isIn ⟨rfl, ⟨rfl, rfl⟩, e_X10_isIn, ⟨Nat.le_of_ble_eq_true rfl, Nat.le_of_ble_eq_true rfl⟩, Nat.le_of_ble_eq_true rfl, Nat.le_of_ble_eq_true rfl, Nat.le_of_ble_eq_true rfl⟩ rfl (by decide +kernel) rfl (by decide +kernel) rfl (fun v9 w9 h9 => ?_)
  obtain ⟨o1, rfl, rfl, rfl⟩ := h9
  refine ⟨[(q0, .inr (10, [.ref q1, .ref q2, .ref q3, .int (iI c0), .ref q4, .ref q5, .int (iI la), .ref q6, .ref q7, .ref q8, .ref q9, .ref q10, .ref q11, .int (iI ch), .int (iI us)])), (q1, ia E 5400 g), (q2, za E 3 h)], ⟨rfl, rfl, rfl, rfl⟩, g_to 0 0 _ _ [.int (iI (if 0 ≤ x ∧ x ≤ 2 then 1 else 0))] rfl rfl rfl rfl rfl ?_⟩
  refine g_ifb_eq G 18 dX10_again_6 (by decide) (fun c6 => ?_) (fun c6 => ?_)
  · refine g_iconst G dX10_again_18 ?_
    exact g_ret G (some (.int (iI 0))) rfl dX10_again_19 (Nat.le_refl _) (Nat.le_refl _) ⟨0, g, rfl, rfl, by rw [if_neg (by omega)], by rw [if_neg (by omega)]⟩
  · refine g_aload_n G 0 dX10_again_9 rfl ?_
    refine g_get G 0 1 dX10_again_10 i_X10_again_X10 f_X10_again_13 rfl rfl (by decide) rfl ?_
    refine g_iload_n G 1 dX10_again_13 rfl ?_
    refine g_zald G 2 dX10_again_14 rfl (by omega) (by omega) (by decide) ?_
    have b2 := hh x
    refine g_if_ne G 20 dX10_again_15 (by decide) (by omega) (fun c15 => ?_) (fun c15 => ?_)
    · refine g_iconst G dX10_again_20 ?_
      refine g_istore_n G [(0, .ref q0), (1, .int (iI x)), (2, .int (iI 0))] dX10_again_21 (by decide) rfl rfl ?_
      have L22 : ∀ (fuel : Nat), ∀ (i : Int) (U : Int → Int), (0 ≤ i ∧ i ≤ 1350) → (U = agI g x i) → (1350 - i : Int).toNat < fuel → P 0 0 [(q0, .inr (10, [.ref q1, .ref q2, .ref q3, .int (iI c0), .ref q4, .ref q5, .int (iI la), .ref q6, .ref q7, .ref q8, .ref q9, .ref q10, .ref q11, .int (iI ch), .int (iI us)])), (q1, ia E 5400 U), (q2, za E 3 h)] 22 [(0, .ref q0), (1, .int (iI x)), (2, .int (iI i))] [] := by
        intro fuel
        induction fuel with
        | zero => intro i U hi hU hm; exact absurd hm (Nat.not_lt_zero _)
        | succ fuel ih22 =>
          intro i U hi hU hm
          refine g_iload_n G 2 dX10_again_22 rfl ?_
          refine g_sipush G dX10_again_23 (by decide +kernel) ?_
          refine g_icmp_ge G 55 dX10_again_26 (by decide) (by omega) (by omega) (fun c26 => ?_) (fun c26 => ?_)
          · refine g_iconst G dX10_again_55 ?_
            exact g_ret G (some (.int (iI 1))) rfl dX10_again_56 (Nat.le_refl _) (Nat.le_refl _) ⟨1, U, rfl, rfl, by rw [if_pos (by omega)], by rw [if_pos (by omega), hU, (show i = 1350 by omega)]⟩
          · refine g_aload_n G 0 dX10_again_29 rfl ?_
            refine g_get G 0 0 dX10_again_30 i_X10_again_X10 f_X10_again_7 rfl rfl (by decide) rfl ?_
            refine g_iload_n G 2 dX10_again_33 rfl ?_
            refine g_aload_n G 0 dX10_again_34 rfl ?_
            refine g_get G 0 0 dX10_again_35 i_X10_again_X10 f_X10_again_7 rfl rfl (by decide) rfl ?_
            refine g_sipush G dX10_again_38 (by decide +kernel) ?_
            refine g_iload_n G 1 dX10_again_41 rfl ?_
            refine g_iconst G dX10_again_42 ?_
            refine g_iadd G dX10_again_43 ?_
            refine g_imul G dX10_again_44 ?_
            refine g_iload_n G 2 dX10_again_45 rfl ?_
            refine g_iadd G dX10_again_46 ?_
            refine g_iald G 1 dX10_again_47 rfl (by omega) (by omega) (by decide) ?_
            refine g_iast G 1 [(q0, .inr (10, [.ref q1, .ref q2, .ref q3, .int (iI c0), .ref q4, .ref q5, .int (iI la), .ref q6, .ref q7, .ref q8, .ref q9, .ref q10, .ref q11, .int (iI ch), .int (iI us)])), (q1, ia E 5400 (upI U i (U ((1350 * (x + 1)) + i)))), (q2, za E 3 h)] dX10_again_48 rfl (by omega) (by omega) (by decide) rfl ?_
            refine g_iinc G 2 [(0, .ref q0), (1, .int (iI x)), (2, .int (iI (i + 1)))] dX10_again_49 rfl (by decide) rfl rfl ?_
            refine g_goto G 22 dX10_again_52 (by decide) ?_
            exact ih22 (i + 1) (upI U i (U ((1350 * (x + 1)) + i))) (by first | assumption | omega) (by rw [hU]; exact agI_up g c6 (by omega)) (by omega)
      exact L22 ((1350 - 0 : Int).toNat + 1) 0 g (by first | assumption | omega) (by rw [agI_0]) (by omega)
    · refine g_iconst G dX10_again_18 ?_
      exact g_ret G (some (.int (iI 0))) rfl dX10_again_19 (Nat.le_refl _) (Nat.le_refl _) ⟨0, g, rfl, rfl, by rw [if_neg (by omega)], by rw [if_neg (by omega)]⟩
set_option maxRecDepth 100000 in
set_option maxHeartbeats 4000000 in
theorem c_X10_isFirst (E : qE) (q0 : Nat) (q1 : Nat) (q2 : Nat) (q3 : Nat) (q4 : Nat) (q5 : Nat) (q6 : Nat) (q7 : Nat) (q8 : Nat) (q9 : Nat) (q10 : Nat) (q11 : Nat) (c0 : Int) (la : Int) (ch : Int) (us : Int) (g : Int → Int) (x : Int) (y : Int) (hG : AllOk g) (hx : 0 ≤ x ∧ x < 8) (hy : 0 ≤ y ∧ y < 12) : Cn E yX10_isFirst wsX10_isFirst { frames := 1, cells := 0, slots := 0, locals := 23 } [.ref q0, .int (iI x), .int (iI y)] [(q0, .inr (10, [.ref q1, .ref q2, .ref q3, .int (iI c0), .ref q4, .ref q5, .int (iI la), .ref q6, .ref q7, .ref q8, .ref q9, .ref q10, .ref q11, .int (iI ch), .int (iI us)])), (q1, ia E 5400 g)] (fun v9 w9 => ∃ (r : Int), v9 = some (.int (iI r)) ∧ w9 = [(q0, .inr (10, [.ref q1, .ref q2, .ref q3, .int (iI c0), .ref q4, .ref q5, .int (iI la), .ref q6, .ref q7, .ref q8, .ref q9, .ref q10, .ref q11, .int (iI ch), .int (iI us)])), (q1, ia E 5400 g)] ∧ r = (if fsI g x y = 1 then 1 else 0)) 0 0 := by
  refine Cn.ofP (own := RX10) (cc := cX10_isFirst) (maxL := 5) (ret := (some .boolean)) false [(0, .ref q0), (1, .int (iI x)), (2, .int (iI y))] (by decide +kernel) rfl rfl (Nat.le_of_ble_eq_true rfl) rfl (fun h => nomatch h) (fun v w h => by obtain ⟨r, rfl, h9⟩ := h; exact ⟨_, rfl, by (refine iI_b01 ?_; first | rw [h9.2] | rw [h9.2.1]); split <;> simp⟩) ?_
  intro P G
  obtain ⟨hg, hg0, hgs⟩ := id hG
  refine g_iconst G dX10_isFirst_0 ?_
  refine g_istore_n G [(0, .ref q0), (1, .int (iI x)), (2, .int (iI y)), (3, .int (iI 0))] dX10_isFirst_1 (by decide) rfl rfl ?_
  have L2 : ∀ (fuel : Nat), ∀ (i : Int), (0 ≤ i ∧ i ≤ x + 1) → (nR (fsS g x y) (fun s => if s = x then y else g (10 + s)) (-1) i.toNat 1 = 1) → (x + 1 - i : Int).toNat < fuel → P 0 0 [(q0, .inr (10, [.ref q1, .ref q2, .ref q3, .int (iI c0), .ref q4, .ref q5, .int (iI la), .ref q6, .ref q7, .ref q8, .ref q9, .ref q10, .ref q11, .int (iI ch), .int (iI us)])), (q1, ia E 5400 g)] 2 [(0, .ref q0), (1, .int (iI x)), (2, .int (iI y)), (3, .int (iI i))] [] := by
    intro fuel
    induction fuel with
    | zero => intro i hi ho hm; exact absurd hm (Nat.not_lt_zero _)
    | succ fuel ih2 =>
      intro i hi ho hm
      refine g_iload_n G 3 dX10_isFirst_2 rfl ?_
      refine g_iload_n G 1 dX10_isFirst_3 rfl ?_
      refine g_icmp_gt G 97 dX10_isFirst_4 (by decide) (by omega) (by omega) (fun c4 => ?_) (fun c4 => ?_)
      · refine g_iconst G dX10_isFirst_97 ?_
        exact g_ret G (some (.int (iI 1))) rfl dX10_isFirst_98 (Nat.le_refl _) (Nat.le_refl _) ⟨1, rfl, rfl, by rw [if_pos]; unfold fsI; rw [(show x + 1 = i by omega), ho]⟩
      · have hgi := hgs i hi.1 (by omega)
        refine g_iconst G dX10_isFirst_7 ?_
        refine g_istore G [(0, .ref q0), (1, .int (iI x)), (2, .int (iI y)), (3, .int (iI i)), (4, .int (iI 0))] dX10_isFirst_8 (by decide) rfl rfl ?_
        have L10 : ∀ (fuel : Nat), ∀ (j : Int), (0 ≤ j ∧ j ≤ (if i = x then y else g (10 + i))) → (nP (fsS g x y) i j.toNat 1 = 1) → ((if i = x then y else g (10 + i)) - j : Int).toNat < fuel → P 0 0 [(q0, .inr (10, [.ref q1, .ref q2, .ref q3, .int (iI c0), .ref q4, .ref q5, .int (iI la), .ref q6, .ref q7, .ref q8, .ref q9, .ref q10, .ref q11, .int (iI ch), .int (iI us)])), (q1, ia E 5400 g)] 10 [(0, .ref q0), (1, .int (iI x)), (2, .int (iI y)), (3, .int (iI i)), (4, .int (iI j))] [] := by
          intro fuel
          induction fuel with
          | zero => intro j hj ho2 hm; exact absurd hm (Nat.not_lt_zero _)
          | succ fuel ih10 =>
            intro j hj ho2 hm
            refine g_iload G 4 dX10_isFirst_10 rfl ?_
            refine g_iload_n G 3 dX10_isFirst_12 rfl ?_
            refine g_iload_n G 1 dX10_isFirst_13 rfl ?_
            refine g_icmp_ne G 21 dX10_isFirst_14 (by decide) (by omega) (by omega) (fun c14 => ?_) (fun c14 => ?_)
            · refine g_aload_n G 0 dX10_isFirst_21 rfl ?_
              refine g_iload_n G 3 dX10_isFirst_22 rfl ?_
              refine g_callV G [0, 1] [] 2 [] [.int (iI i)] [.int (iI j)] (c_X10_sizeOf E q0 q1 q2 q3 q4 q5 q6 q7 q8 q9 q10 q11 c0 la ch us g i (by first | assumption | omega)) dX10_isFirst_23 gX10_isFirst_X10_sizeOf ⟨rfl, ⟨rfl, rfl⟩, e_X10_sizeOf, ⟨Nat.le_of_ble_eq_true rfl, Nat.le_of_ble_eq_true rfl⟩, Nat.le_of_ble_eq_true rfl, Nat.le_of_ble_eq_true rfl, Nat.le_of_ble_eq_true rfl⟩ rfl rfl rfl rfl rfl (by decide +kernel) rfl (by decide +kernel) rfl (fun v9 w9 h9 => ?_)
              obtain ⟨o1, rfl, rfl, rfl⟩ := h9
              have b2 := hg (10 + i)
              refine ⟨[(q0, .inr (10, [.ref q1, .ref q2, .ref q3, .int (iI c0), .ref q4, .ref q5, .int (iI la), .ref q6, .ref q7, .ref q8, .ref q9, .ref q10, .ref q11, .int (iI ch), .int (iI us)])), (q1, ia E 5400 g)], ⟨rfl, rfl, rfl, rfl⟩, g_to 0 0 _ _ [.int (iI (g (10 + i))), .int (iI j)] rfl rfl rfl rfl rfl ?_⟩
              refine g_icmp_ge G 91 dX10_isFirst_26 (by decide) (by first | omega | (split at hj <;> omega)) (by first | omega | (split at hj <;> omega)) (fun c26 => ?_) (fun c26 => ?_)
              · refine g_iinc G 3 [(0, .ref q0), (1, .int (iI x)), (2, .int (iI y)), (3, .int (iI (i + 1))), (4, .int (iI j))] dX10_isFirst_91 rfl (by decide) rfl rfl ?_
                refine g_goto G 2 dX10_isFirst_94 (by decide) ?_
                refine g_lv G [0, 1, 2, 3] (lv' := [(0, .ref q0), (1, .int (iI x)), (2, .int (iI y)), (3, .int (iI (i + 1)))]) rfl ?_
                exact ih2 (i + 1) (by first | assumption | omega) (by rw [nR_up _ _ _ hi.1, if_neg (by omega), ho]; have hll : (if i = x then y else g (10 + i)) = j := (by first | (rw [if_neg c14]; rw [if_neg c14] at hj; omega) | (rw [if_pos c14]; rw [if_pos c14] at hj; omega)); (try dsimp only); rw [hll]; exact ho2) (by omega)
              · have hjl : j < (fun s => if s = x then y else g (10 + s)) i := by first | ((try dsimp only); rw [if_neg c14]; exact c26) | ((try dsimp only); rw [if_pos c14]; exact c26)
                refine g_aload_n G 0 dX10_isFirst_29 rfl ?_
                refine g_iload_n G 3 dX10_isFirst_30 rfl ?_
                refine g_iload G 4 dX10_isFirst_31 rfl ?_
                refine g_iconst G dX10_isFirst_33 ?_
                refine g_callV G [0, 1] [] 2 [] [.int (iI i), .int (iI j), .int (iI 0)] [] (c_X10_of E q0 q1 q2 q3 q4 q5 q6 q7 q8 q9 q10 q11 c0 la ch us g i j 0 (by first | assumption | omega) (by first | assumption | omega) (by first | assumption | omega)) dX10_isFirst_34 gX10_isFirst_X10_of ⟨rfl, ⟨rfl, rfl⟩, e_X10_of, ⟨Nat.le_of_ble_eq_true rfl, Nat.le_of_ble_eq_true rfl⟩, Nat.le_of_ble_eq_true rfl, Nat.le_of_ble_eq_true rfl, Nat.le_of_ble_eq_true rfl⟩ rfl rfl rfl rfl rfl (by decide +kernel) rfl (by decide +kernel) rfl (fun v9 w9 h9 => ?_)
                obtain ⟨o3, rfl, rfl, rfl⟩ := h9
                have b4 := hg (20 + 72 * i + 6 * j + 0)
                refine ⟨[(q0, .inr (10, [.ref q1, .ref q2, .ref q3, .int (iI c0), .ref q4, .ref q5, .int (iI la), .ref q6, .ref q7, .ref q8, .ref q9, .ref q10, .ref q11, .int (iI ch), .int (iI us)])), (q1, ia E 5400 g)], ⟨rfl, rfl, rfl, rfl⟩, g_to 0 0 _ _ [.int (iI (g (20 + 72 * i + 6 * j + 0)))] rfl rfl rfl rfl rfl ?_⟩
                refine g_aload_n G 0 dX10_isFirst_37 rfl ?_
                refine g_iload_n G 1 dX10_isFirst_38 rfl ?_
                refine g_iload_n G 2 dX10_isFirst_39 rfl ?_
                refine g_iconst G dX10_isFirst_40 ?_
                refine g_callV G [0, 1] [] 2 [] [.int (iI x), .int (iI y), .int (iI 0)] [.int (iI (g (20 + 72 * i + 6 * j + 0)))] (c_X10_of E q0 q1 q2 q3 q4 q5 q6 q7 q8 q9 q10 q11 c0 la ch us g x y 0 (by first | assumption | omega) (by first | assumption | omega) (by first | assumption | omega)) dX10_isFirst_41 gX10_isFirst_X10_of ⟨rfl, ⟨rfl, rfl⟩, e_X10_of, ⟨Nat.le_of_ble_eq_true rfl, Nat.le_of_ble_eq_true rfl⟩, Nat.le_of_ble_eq_true rfl, Nat.le_of_ble_eq_true rfl, Nat.le_of_ble_eq_true rfl⟩ rfl rfl rfl rfl rfl (by decide +kernel) rfl (by decide +kernel) rfl (fun v9 w9 h9 => ?_)
                obtain ⟨o5, rfl, rfl, rfl⟩ := h9
                have b6 := hg (20 + 72 * x + 6 * y + 0)
                refine ⟨[(q0, .inr (10, [.ref q1, .ref q2, .ref q3, .int (iI c0), .ref q4, .ref q5, .int (iI la), .ref q6, .ref q7, .ref q8, .ref q9, .ref q10, .ref q11, .int (iI ch), .int (iI us)])), (q1, ia E 5400 g)], ⟨rfl, rfl, rfl, rfl⟩, g_to 0 0 _ _ [.int (iI (g (20 + 72 * x + 6 * y + 0))), .int (iI (g (20 + 72 * i + 6 * j + 0)))] rfl rfl rfl rfl rfl ?_⟩
                refine g_icmp_ne G 85 dX10_isFirst_44 (by decide) (by omega) (by omega) (fun c44 => ?_) (fun c44 => ?_)
                · refine g_iinc G 4 [(0, .ref q0), (1, .int (iI x)), (2, .int (iI y)), (3, .int (iI i)), (4, .int (iI (j + 1)))] dX10_isFirst_85 rfl (by decide) rfl rfl ?_
                  refine g_goto G 10 dX10_isFirst_88 (by decide) ?_
                  exact ih10 (j + 1) (by (try dsimp only at hjl); omega) (by rw [nP_up _ _ hj.1, ho2]; exact if_neg (fun q => by omega)) (by omega)
                · refine g_aload_n G 0 dX10_isFirst_47 rfl ?_
                  refine g_iload_n G 3 dX10_isFirst_48 rfl ?_
                  refine g_iload G 4 dX10_isFirst_49 rfl ?_
                  refine g_iconst G dX10_isFirst_51 ?_
                  refine g_callV G [0, 1] [] 2 [] [.int (iI i), .int (iI j), .int (iI 1)] [] (c_X10_of E q0 q1 q2 q3 q4 q5 q6 q7 q8 q9 q10 q11 c0 la ch us g i j 1 (by first | assumption | omega) (by first | assumption | omega) (by first | assumption | omega)) dX10_isFirst_52 gX10_isFirst_X10_of ⟨rfl, ⟨rfl, rfl⟩, e_X10_of, ⟨Nat.le_of_ble_eq_true rfl, Nat.le_of_ble_eq_true rfl⟩, Nat.le_of_ble_eq_true rfl, Nat.le_of_ble_eq_true rfl, Nat.le_of_ble_eq_true rfl⟩ rfl rfl rfl rfl rfl (by decide +kernel) rfl (by decide +kernel) rfl (fun v9 w9 h9 => ?_)
                  obtain ⟨o7, rfl, rfl, rfl⟩ := h9
                  have b8 := hg (20 + 72 * i + 6 * j + 1)
                  refine ⟨[(q0, .inr (10, [.ref q1, .ref q2, .ref q3, .int (iI c0), .ref q4, .ref q5, .int (iI la), .ref q6, .ref q7, .ref q8, .ref q9, .ref q10, .ref q11, .int (iI ch), .int (iI us)])), (q1, ia E 5400 g)], ⟨rfl, rfl, rfl, rfl⟩, g_to 0 0 _ _ [.int (iI (g (20 + 72 * i + 6 * j + 1)))] rfl rfl rfl rfl rfl ?_⟩
                  refine g_aload_n G 0 dX10_isFirst_55 rfl ?_
                  refine g_iload_n G 1 dX10_isFirst_56 rfl ?_
                  refine g_iload_n G 2 dX10_isFirst_57 rfl ?_
                  refine g_iconst G dX10_isFirst_58 ?_
                  refine g_callV G [0, 1] [] 2 [] [.int (iI x), .int (iI y), .int (iI 1)] [.int (iI (g (20 + 72 * i + 6 * j + 1)))] (c_X10_of E q0 q1 q2 q3 q4 q5 q6 q7 q8 q9 q10 q11 c0 la ch us g x y 1 (by first | assumption | omega) (by first | assumption | omega) (by first | assumption | omega)) dX10_isFirst_59 gX10_isFirst_X10_of ⟨rfl, ⟨rfl, rfl⟩, e_X10_of, ⟨Nat.le_of_ble_eq_true rfl, Nat.le_of_ble_eq_true rfl⟩, Nat.le_of_ble_eq_true rfl, Nat.le_of_ble_eq_true rfl, Nat.le_of_ble_eq_true rfl⟩ rfl rfl rfl rfl rfl (by decide +kernel) rfl (by decide +kernel) rfl (fun v9 w9 h9 => ?_)
                  obtain ⟨o9, rfl, rfl, rfl⟩ := h9
                  have b10 := hg (20 + 72 * x + 6 * y + 1)
                  refine ⟨[(q0, .inr (10, [.ref q1, .ref q2, .ref q3, .int (iI c0), .ref q4, .ref q5, .int (iI la), .ref q6, .ref q7, .ref q8, .ref q9, .ref q10, .ref q11, .int (iI ch), .int (iI us)])), (q1, ia E 5400 g)], ⟨rfl, rfl, rfl, rfl⟩, g_to 0 0 _ _ [.int (iI (g (20 + 72 * x + 6 * y + 1))), .int (iI (g (20 + 72 * i + 6 * j + 1)))] rfl rfl rfl rfl rfl ?_⟩
                  refine g_icmp_ne G 85 dX10_isFirst_62 (by decide) (by omega) (by omega) (fun c62 => ?_) (fun c62 => ?_)
                  · refine g_iinc G 4 [(0, .ref q0), (1, .int (iI x)), (2, .int (iI y)), (3, .int (iI i)), (4, .int (iI (j + 1)))] dX10_isFirst_85 rfl (by decide) rfl rfl ?_
                    refine g_goto G 10 dX10_isFirst_88 (by decide) ?_
                    exact ih10 (j + 1) (by (try dsimp only at hjl); omega) (by rw [nP_up _ _ hj.1, ho2]; exact if_neg (fun q => by omega)) (by omega)
                  · refine g_aload_n G 0 dX10_isFirst_65 rfl ?_
                    refine g_iload_n G 3 dX10_isFirst_66 rfl ?_
                    refine g_iload G 4 dX10_isFirst_67 rfl ?_
                    refine g_iconst G dX10_isFirst_69 ?_
                    refine g_callV G [0, 1] [] 2 [] [.int (iI i), .int (iI j), .int (iI 2)] [] (c_X10_of E q0 q1 q2 q3 q4 q5 q6 q7 q8 q9 q10 q11 c0 la ch us g i j 2 (by first | assumption | omega) (by first | assumption | omega) (by first | assumption | omega)) dX10_isFirst_70 gX10_isFirst_X10_of ⟨rfl, ⟨rfl, rfl⟩, e_X10_of, ⟨Nat.le_of_ble_eq_true rfl, Nat.le_of_ble_eq_true rfl⟩, Nat.le_of_ble_eq_true rfl, Nat.le_of_ble_eq_true rfl, Nat.le_of_ble_eq_true rfl⟩ rfl rfl rfl rfl rfl (by decide +kernel) rfl (by decide +kernel) rfl (fun v9 w9 h9 => ?_)
                    obtain ⟨o11, rfl, rfl, rfl⟩ := h9
                    have b12 := hg (20 + 72 * i + 6 * j + 2)
                    refine ⟨[(q0, .inr (10, [.ref q1, .ref q2, .ref q3, .int (iI c0), .ref q4, .ref q5, .int (iI la), .ref q6, .ref q7, .ref q8, .ref q9, .ref q10, .ref q11, .int (iI ch), .int (iI us)])), (q1, ia E 5400 g)], ⟨rfl, rfl, rfl, rfl⟩, g_to 0 0 _ _ [.int (iI (g (20 + 72 * i + 6 * j + 2)))] rfl rfl rfl rfl rfl ?_⟩
                    refine g_aload_n G 0 dX10_isFirst_73 rfl ?_
                    refine g_iload_n G 1 dX10_isFirst_74 rfl ?_
                    refine g_iload_n G 2 dX10_isFirst_75 rfl ?_
                    refine g_iconst G dX10_isFirst_76 ?_
                    refine g_callV G [0, 1] [] 2 [] [.int (iI x), .int (iI y), .int (iI 2)] [.int (iI (g (20 + 72 * i + 6 * j + 2)))] (c_X10_of E q0 q1 q2 q3 q4 q5 q6 q7 q8 q9 q10 q11 c0 la ch us g x y 2 (by first | assumption | omega) (by first | assumption | omega) (by first | assumption | omega)) dX10_isFirst_77 gX10_isFirst_X10_of ⟨rfl, ⟨rfl, rfl⟩, e_X10_of, ⟨Nat.le_of_ble_eq_true rfl, Nat.le_of_ble_eq_true rfl⟩, Nat.le_of_ble_eq_true rfl, Nat.le_of_ble_eq_true rfl, Nat.le_of_ble_eq_true rfl⟩ rfl rfl rfl rfl rfl (by decide +kernel) rfl (by decide +kernel) rfl (fun v9 w9 h9 => ?_)
                    obtain ⟨o13, rfl, rfl, rfl⟩ := h9
                    have b14 := hg (20 + 72 * x + 6 * y + 2)
                    refine ⟨[(q0, .inr (10, [.ref q1, .ref q2, .ref q3, .int (iI c0), .ref q4, .ref q5, .int (iI la), .ref q6, .ref q7, .ref q8, .ref q9, .ref q10, .ref q11, .int (iI ch), .int (iI us)])), (q1, ia E 5400 g)], ⟨rfl, rfl, rfl, rfl⟩, g_to 0 0 _ _ [.int (iI (g (20 + 72 * x + 6 * y + 2))), .int (iI (g (20 + 72 * i + 6 * j + 2)))] rfl rfl rfl rfl rfl ?_⟩
                    refine g_icmp_ne G 85 dX10_isFirst_80 (by decide) (by omega) (by omega) (fun c80 => ?_) (fun c80 => ?_)
                    · refine g_iinc G 4 [(0, .ref q0), (1, .int (iI x)), (2, .int (iI y)), (3, .int (iI i)), (4, .int (iI (j + 1)))] dX10_isFirst_85 rfl (by decide) rfl rfl ?_
                      refine g_goto G 10 dX10_isFirst_88 (by decide) ?_
                      exact ih10 (j + 1) (by (try dsimp only at hjl); omega) (by rw [nP_up _ _ hj.1, ho2]; exact if_neg (fun q => by omega)) (by omega)
                    · have e9 : fsI g x y = 0 := nR_exit (fsS g x y) (fun s => if s = x then y else g (10 + s)) (-1) hi.1 (show i < x + 1 by omega) (by omega) hj.1 hjl (by rw [nP_up _ _ hj.1, ho, ho2]; exact if_pos ⟨rfl, c44, c62, c80⟩) (fun r p => if_neg (fun q => by omega))
                      refine g_iconst G dX10_isFirst_83 ?_
                      exact g_ret G (some (.int (iI 0))) rfl dX10_isFirst_84 (Nat.le_refl _) (Nat.le_refl _) ⟨0, rfl, rfl, by rw [e9]; rfl⟩
            · refine g_iload_n G 2 dX10_isFirst_17 rfl ?_
              refine g_goto G 26 dX10_isFirst_18 (by decide) ?_
              refine g_icmp_ge G 91 dX10_isFirst_26 (by decide) (by first | omega | (split at hj <;> omega)) (by first | omega | (split at hj <;> omega)) (fun c26 => ?_) (fun c26 => ?_)
              · refine g_iinc G 3 [(0, .ref q0), (1, .int (iI x)), (2, .int (iI y)), (3, .int (iI (i + 1))), (4, .int (iI j))] dX10_isFirst_91 rfl (by decide) rfl rfl ?_
                refine g_goto G 2 dX10_isFirst_94 (by decide) ?_
                refine g_lv G [0, 1, 2, 3] (lv' := [(0, .ref q0), (1, .int (iI x)), (2, .int (iI y)), (3, .int (iI (i + 1)))]) rfl ?_
                exact ih2 (i + 1) (by first | assumption | omega) (by rw [nR_up _ _ _ hi.1, if_neg (by omega), ho]; have hll : (if i = x then y else g (10 + i)) = j := (by first | (rw [if_neg c14]; rw [if_neg c14] at hj; omega) | (rw [if_pos c14]; rw [if_pos c14] at hj; omega)); (try dsimp only); rw [hll]; exact ho2) (by omega)
              · have hjl : j < (fun s => if s = x then y else g (10 + s)) i := by first | ((try dsimp only); rw [if_neg c14]; exact c26) | ((try dsimp only); rw [if_pos c14]; exact c26)
                refine g_aload_n G 0 dX10_isFirst_29 rfl ?_
                refine g_iload_n G 3 dX10_isFirst_30 rfl ?_
                refine g_iload G 4 dX10_isFirst_31 rfl ?_
                refine g_iconst G dX10_isFirst_33 ?_
                refine g_callV G [0, 1] [] 2 [] [.int (iI i), .int (iI j), .int (iI 0)] [] (c_X10_of E q0 q1 q2 q3 q4 q5 q6 q7 q8 q9 q10 q11 c0 la ch us g i j 0 (by first | assumption | omega) (by first | assumption | omega) (by first | assumption | omega)) dX10_isFirst_34 gX10_isFirst_X10_of ⟨rfl, ⟨rfl, rfl⟩, e_X10_of, ⟨Nat.le_of_ble_eq_true rfl, Nat.le_of_ble_eq_true rfl⟩, Nat.le_of_ble_eq_true rfl, Nat.le_of_ble_eq_true rfl, Nat.le_of_ble_eq_true rfl⟩ rfl rfl rfl rfl rfl (by decide +kernel) rfl (by decide +kernel) rfl (fun v9 w9 h9 => ?_)
                obtain ⟨o15, rfl, rfl, rfl⟩ := h9
                have b16 := hg (20 + 72 * i + 6 * j + 0)
                refine ⟨[(q0, .inr (10, [.ref q1, .ref q2, .ref q3, .int (iI c0), .ref q4, .ref q5, .int (iI la), .ref q6, .ref q7, .ref q8, .ref q9, .ref q10, .ref q11, .int (iI ch), .int (iI us)])), (q1, ia E 5400 g)], ⟨rfl, rfl, rfl, rfl⟩, g_to 0 0 _ _ [.int (iI (g (20 + 72 * i + 6 * j + 0)))] rfl rfl rfl rfl rfl ?_⟩
                refine g_aload_n G 0 dX10_isFirst_37 rfl ?_
                refine g_iload_n G 1 dX10_isFirst_38 rfl ?_
                refine g_iload_n G 2 dX10_isFirst_39 rfl ?_
                refine g_iconst G dX10_isFirst_40 ?_
                refine g_callV G [0, 1] [] 2 [] [.int (iI x), .int (iI y), .int (iI 0)] [.int (iI (g (20 + 72 * i + 6 * j + 0)))] (c_X10_of E q0 q1 q2 q3 q4 q5 q6 q7 q8 q9 q10 q11 c0 la ch us g x y 0 (by first | assumption | omega) (by first | assumption | omega) (by first | assumption | omega)) dX10_isFirst_41 gX10_isFirst_X10_of ⟨rfl, ⟨rfl, rfl⟩, e_X10_of, ⟨Nat.le_of_ble_eq_true rfl, Nat.le_of_ble_eq_true rfl⟩, Nat.le_of_ble_eq_true rfl, Nat.le_of_ble_eq_true rfl, Nat.le_of_ble_eq_true rfl⟩ rfl rfl rfl rfl rfl (by decide +kernel) rfl (by decide +kernel) rfl (fun v9 w9 h9 => ?_)
                obtain ⟨o17, rfl, rfl, rfl⟩ := h9
                have b18 := hg (20 + 72 * x + 6 * y + 0)
                refine ⟨[(q0, .inr (10, [.ref q1, .ref q2, .ref q3, .int (iI c0), .ref q4, .ref q5, .int (iI la), .ref q6, .ref q7, .ref q8, .ref q9, .ref q10, .ref q11, .int (iI ch), .int (iI us)])), (q1, ia E 5400 g)], ⟨rfl, rfl, rfl, rfl⟩, g_to 0 0 _ _ [.int (iI (g (20 + 72 * x + 6 * y + 0))), .int (iI (g (20 + 72 * i + 6 * j + 0)))] rfl rfl rfl rfl rfl ?_⟩
                refine g_icmp_ne G 85 dX10_isFirst_44 (by decide) (by omega) (by omega) (fun c44 => ?_) (fun c44 => ?_)
                · refine g_iinc G 4 [(0, .ref q0), (1, .int (iI x)), (2, .int (iI y)), (3, .int (iI i)), (4, .int (iI (j + 1)))] dX10_isFirst_85 rfl (by decide) rfl rfl ?_
                  refine g_goto G 10 dX10_isFirst_88 (by decide) ?_
                  exact ih10 (j + 1) (by (try dsimp only at hjl); omega) (by rw [nP_up _ _ hj.1, ho2]; exact if_neg (fun q => by omega)) (by omega)
                · refine g_aload_n G 0 dX10_isFirst_47 rfl ?_
                  refine g_iload_n G 3 dX10_isFirst_48 rfl ?_
                  refine g_iload G 4 dX10_isFirst_49 rfl ?_
                  refine g_iconst G dX10_isFirst_51 ?_
                  refine g_callV G [0, 1] [] 2 [] [.int (iI i), .int (iI j), .int (iI 1)] [] (c_X10_of E q0 q1 q2 q3 q4 q5 q6 q7 q8 q9 q10 q11 c0 la ch us g i j 1 (by first | assumption | omega) (by first | assumption | omega) (by first | assumption | omega)) dX10_isFirst_52 gX10_isFirst_X10_of ⟨rfl, ⟨rfl, rfl⟩, e_X10_of, ⟨Nat.le_of_ble_eq_true rfl, Nat.le_of_ble_eq_true rfl⟩, Nat.le_of_ble_eq_true rfl, Nat.le_of_ble_eq_true rfl, Nat.le_of_ble_eq_true rfl⟩ rfl rfl rfl rfl rfl (by decide +kernel) rfl (by decide +kernel) rfl (fun v9 w9 h9 => ?_)
                  obtain ⟨o19, rfl, rfl, rfl⟩ := h9
                  have b20 := hg (20 + 72 * i + 6 * j + 1)
                  refine ⟨[(q0, .inr (10, [.ref q1, .ref q2, .ref q3, .int (iI c0), .ref q4, .ref q5, .int (iI la), .ref q6, .ref q7, .ref q8, .ref q9, .ref q10, .ref q11, .int (iI ch), .int (iI us)])), (q1, ia E 5400 g)], ⟨rfl, rfl, rfl, rfl⟩, g_to 0 0 _ _ [.int (iI (g (20 + 72 * i + 6 * j + 1)))] rfl rfl rfl rfl rfl ?_⟩
                  refine g_aload_n G 0 dX10_isFirst_55 rfl ?_
                  refine g_iload_n G 1 dX10_isFirst_56 rfl ?_
                  refine g_iload_n G 2 dX10_isFirst_57 rfl ?_
                  refine g_iconst G dX10_isFirst_58 ?_
                  refine g_callV G [0, 1] [] 2 [] [.int (iI x), .int (iI y), .int (iI 1)] [.int (iI (g (20 + 72 * i + 6 * j + 1)))] (c_X10_of E q0 q1 q2 q3 q4 q5 q6 q7 q8 q9 q10 q11 c0 la ch us g x y 1 (by first | assumption | omega) (by first | assumption | omega) (by first | assumption | omega)) dX10_isFirst_59 gX10_isFirst_X10_of ⟨rfl, ⟨rfl, rfl⟩, e_X10_of, ⟨Nat.le_of_ble_eq_true rfl, Nat.le_of_ble_eq_true rfl⟩, Nat.le_of_ble_eq_true rfl, Nat.le_of_ble_eq_true rfl, Nat.le_of_ble_eq_true rfl⟩ rfl rfl rfl rfl rfl (by decide +kernel) rfl (by decide +kernel) rfl (fun v9 w9 h9 => ?_)
                  obtain ⟨o21, rfl, rfl, rfl⟩ := h9
                  have b22 := hg (20 + 72 * x + 6 * y + 1)
                  refine ⟨[(q0, .inr (10, [.ref q1, .ref q2, .ref q3, .int (iI c0), .ref q4, .ref q5, .int (iI la), .ref q6, .ref q7, .ref q8, .ref q9, .ref q10, .ref q11, .int (iI ch), .int (iI us)])), (q1, ia E 5400 g)], ⟨rfl, rfl, rfl, rfl⟩, g_to 0 0 _ _ [.int (iI (g (20 + 72 * x + 6 * y + 1))), .int (iI (g (20 + 72 * i + 6 * j + 1)))] rfl rfl rfl rfl rfl ?_⟩
                  refine g_icmp_ne G 85 dX10_isFirst_62 (by decide) (by omega) (by omega) (fun c62 => ?_) (fun c62 => ?_)
                  · refine g_iinc G 4 [(0, .ref q0), (1, .int (iI x)), (2, .int (iI y)), (3, .int (iI i)), (4, .int (iI (j + 1)))] dX10_isFirst_85 rfl (by decide) rfl rfl ?_
                    refine g_goto G 10 dX10_isFirst_88 (by decide) ?_
                    exact ih10 (j + 1) (by (try dsimp only at hjl); omega) (by rw [nP_up _ _ hj.1, ho2]; exact if_neg (fun q => by omega)) (by omega)
                  · refine g_aload_n G 0 dX10_isFirst_65 rfl ?_
                    refine g_iload_n G 3 dX10_isFirst_66 rfl ?_
                    refine g_iload G 4 dX10_isFirst_67 rfl ?_
                    refine g_iconst G dX10_isFirst_69 ?_
                    refine g_callV G [0, 1] [] 2 [] [.int (iI i), .int (iI j), .int (iI 2)] [] (c_X10_of E q0 q1 q2 q3 q4 q5 q6 q7 q8 q9 q10 q11 c0 la ch us g i j 2 (by first | assumption | omega) (by first | assumption | omega) (by first | assumption | omega)) dX10_isFirst_70 gX10_isFirst_X10_of ⟨rfl, ⟨rfl, rfl⟩, e_X10_of, ⟨Nat.le_of_ble_eq_true rfl, Nat.le_of_ble_eq_true rfl⟩, Nat.le_of_ble_eq_true rfl, Nat.le_of_ble_eq_true rfl, Nat.le_of_ble_eq_true rfl⟩ rfl rfl rfl rfl rfl (by decide +kernel) rfl (by decide +kernel) rfl (fun v9 w9 h9 => ?_)
                    obtain ⟨o23, rfl, rfl, rfl⟩ := h9
                    have b24 := hg (20 + 72 * i + 6 * j + 2)
                    refine ⟨[(q0, .inr (10, [.ref q1, .ref q2, .ref q3, .int (iI c0), .ref q4, .ref q5, .int (iI la), .ref q6, .ref q7, .ref q8, .ref q9, .ref q10, .ref q11, .int (iI ch), .int (iI us)])), (q1, ia E 5400 g)], ⟨rfl, rfl, rfl, rfl⟩, g_to 0 0 _ _ [.int (iI (g (20 + 72 * i + 6 * j + 2)))] rfl rfl rfl rfl rfl ?_⟩
                    refine g_aload_n G 0 dX10_isFirst_73 rfl ?_
                    refine g_iload_n G 1 dX10_isFirst_74 rfl ?_
                    refine g_iload_n G 2 dX10_isFirst_75 rfl ?_
                    refine g_iconst G dX10_isFirst_76 ?_
                    refine g_callV G [0, 1] [] 2 [] [.int (iI x), .int (iI y), .int (iI 2)] [.int (iI (g (20 + 72 * i + 6 * j + 2)))] (c_X10_of E q0 q1 q2 q3 q4 q5 q6 q7 q8 q9 q10 q11 c0 la ch us g x y 2 (by first | assumption | omega) (by first | assumption | omega) (by first | assumption | omega)) dX10_isFirst_77 gX10_isFirst_X10_of ⟨rfl, ⟨rfl, rfl⟩, e_X10_of, ⟨Nat.le_of_ble_eq_true rfl, Nat.le_of_ble_eq_true rfl⟩, Nat.le_of_ble_eq_true rfl, Nat.le_of_ble_eq_true rfl, Nat.le_of_ble_eq_true rfl⟩ rfl rfl rfl rfl rfl (by decide +kernel) rfl (by decide +kernel) rfl (fun v9 w9 h9 => ?_)
                    obtain ⟨o25, rfl, rfl, rfl⟩ := h9
                    have b26 := hg (20 + 72 * x + 6 * y + 2)
                    refine ⟨[(q0, .inr (10, [.ref q1, .ref q2, .ref q3, .int (iI c0), .ref q4, .ref q5, .int (iI la), .ref q6, .ref q7, .ref q8, .ref q9, .ref q10, .ref q11, .int (iI ch), .int (iI us)])), (q1, ia E 5400 g)], ⟨rfl, rfl, rfl, rfl⟩, g_to 0 0 _ _ [.int (iI (g (20 + 72 * x + 6 * y + 2))), .int (iI (g (20 + 72 * i + 6 * j + 2)))] rfl rfl rfl rfl rfl ?_⟩
                    refine g_icmp_ne G 85 dX10_isFirst_80 (by decide) (by omega) (by omega) (fun c80 => ?_) (fun c80 => ?_)
                    · refine g_iinc G 4 [(0, .ref q0), (1, .int (iI x)), (2, .int (iI y)), (3, .int (iI i)), (4, .int (iI (j + 1)))] dX10_isFirst_85 rfl (by decide) rfl rfl ?_
                      refine g_goto G 10 dX10_isFirst_88 (by decide) ?_
                      exact ih10 (j + 1) (by (try dsimp only at hjl); omega) (by rw [nP_up _ _ hj.1, ho2]; exact if_neg (fun q => by omega)) (by omega)
                    · have e9 : fsI g x y = 0 := nR_exit (fsS g x y) (fun s => if s = x then y else g (10 + s)) (-1) hi.1 (show i < x + 1 by omega) (by omega) hj.1 hjl (by rw [nP_up _ _ hj.1, ho, ho2]; exact if_pos ⟨rfl, c44, c62, c80⟩) (fun r p => if_neg (fun q => by omega))
                      refine g_iconst G dX10_isFirst_83 ?_
                      exact g_ret G (some (.int (iI 0))) rfl dX10_isFirst_84 (Nat.le_refl _) (Nat.le_refl _) ⟨0, rfl, rfl, by rw [e9]; rfl⟩
        exact L10 (((if i = x then y else g (10 + i)) - 0 : Int).toNat + 1) 0 (by split <;> omega) (by rfl) (by omega)
  exact L2 ((x + 1 - 0 : Int).toNat + 1) 0 (by first | assumption | omega) (by rfl) (by omega)
