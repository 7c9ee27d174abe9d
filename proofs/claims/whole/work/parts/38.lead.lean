theorem MacR.rng {g lr lp t c : Int → Int} {b r la : Int} (h : MacR g b r lr lp la t c) : -1 ≤ r ∧ r ≤ 4 := by
  rcases h with h | h | h
  · omega
  · omega
  · omega
theorem MacR.bd {g lr lp t c : Int → Int} {b r la : Int} (h : MacR g b r lr lp la t c) (hr : 1 ≤ r) (m : Int) : -1 ≤ t m ∧ t m < 4 := by
  rcases h with h | h | h
  · omega
  · obtain ⟨h1, h2, h3, h4⟩ := h
    rcases h3.2.1 m with q | ⟨k, hk, q⟩
    · omega
    · have := h3.1 k hk
      rw [q] at this
      omega
  · omega
theorem e_X10_machine : yX10_machine.cls ≠ "java/lang/invoke/MethodHandle" ∧ yX10_machine.cls ≠ "java/lang/invoke/VarHandle" ∧ (parseMethodDescriptor yX10_machine.desc).map (fun d => d.parameters.length) = some 1 := by decide +kernel
set_option maxRecDepth 100000 in
set_option maxHeartbeats 4000000 in
theorem c_X10_states (E : qE) (q0 : Nat) (q1 : Nat) (q2 : Nat) (q3 : Nat) (q4 : Nat) (q5 : Nat) (q6 : Nat) (q7 : Nat) (q8 : Nat) (q9 : Nat) (q10 : Nat) (q11 : Nat) (c0 : Int) (la : Int) (ch : Int) (us : Int) (g : Int → Int) (lr : Int → Int) (lp : Int → Int) (t : Int → Int) (c : Int → Int) (ac : Int → Int) (co : Int → Int) (cs : Int → Int) (ut : Int → Int) (hG : AllOk g) (hV : VbOk g) (hc0 : ∀ i, -100000 ≤ c i ∧ c i ≤ 100000) : Cn E yX10_states wsX10_states { frames := 3, cells := 0, slots := 0, locals := 71 } [.ref q0] [(q0, .inr (10, [.ref q1, .ref q2, .ref q3, .int (iI c0), .ref q4, .ref q5, .int (iI la), .ref q6, .ref q7, .ref q8, .ref q9, .ref q10, .ref q11, .int (iI ch), .int (iI us)])), (q1, ia E 5400 g), (q4, ia E 96 lr), (q5, ia E 96 lp), (q6, ia E 12 t), (q7, ia E 12 c), (q8, ia E 12 ac), (q9, ia E 12 co), (q10, ia E 12 cs), (q11, ia E 12 ut)] (fun v9 w9 => ∃ (r : Int) (lr1 : Int → Int) (lp1 : Int → Int) (la1 : Int) (t1 : Int → Int) (c1 : Int → Int) (ac1 : Int → Int) (co1 : Int → Int) (cs1 : Int → Int) (ut1 : Int → Int) (h1 : Int) (u1 : Int), v9 = some (.int (iI r)) ∧ w9 = [(q0, .inr (10, [.ref q1, .ref q2, .ref q3, .int (iI c0), .ref q4, .ref q5, .int (iI la1), .ref q6, .ref q7, .ref q8, .ref q9, .ref q10, .ref q11, .int (iI h1), .int (iI u1)])), (q1, ia E 5400 g), (q4, ia E 96 lr1), (q5, ia E 96 lp1), (q6, ia E 12 t1), (q7, ia E 12 c1), (q8, ia E 12 ac1), (q9, ia E 12 co1), (q10, ia E 12 cs1), (q11, ia E 12 ut1)] ∧ (MacR g (-1) r lr1 lp1 la1 t1 c1) ∧ (lyI g (-1) lr lp = (lr1, lp1, la1)) ∧ (∀ i, -100000 ≤ c1 i ∧ c1 i ≤ 100000)) 0 0 := by
  refine Cn.ofP (own := RX10) (cc := cX10_states) (maxL := 1) (ret := (some .int)) false [(0, .ref q0)] (by decide +kernel) rfl rfl (Nat.le_of_ble_eq_true rfl) rfl (fun h => nomatch h) (fun v w h => by obtain ⟨r, lr1, lp1, la1, t1, c1, ac1, co1, cs1, ut1, h1, u1, rfl, h9⟩ := h; exact ⟨_, rfl, rfl⟩) ?_
  intro P G
  refine g_aload_n G 0 dX10_states_0 rfl ?_
  refine g_iconst G dX10_states_1 ?_
  refine g_callV G [0, 1, 2, 3, 4, 5, 6, 7, 8, 9] [] 10 [] [.int (iI (-1))] [] (c_X10_machine E q0 q1 q2 q3 q4 q5 q6 q7 q8 q9 q10 q11 c0 la ch us g lr lp t c ac co cs ut (-1) (by exact hG) (by exact hV) (by omega) (by exact hc0)) dX10_states_2 gX10_states_X10_machine ⟨rfl, ⟨rfl, rfl⟩, e_X10_machine, ⟨Nat.le_of_ble_eq_true rfl, Nat.le_of_ble_eq_true rfl⟩, Nat.le_of_ble_eq_true rfl, Nat.le_of_ble_eq_true rfl, Nat.le_of_ble_eq_true rfl⟩ rfl rfl rfl rfl rfl (by decide +kernel) rfl (by decide +kernel) rfl (fun v9 w9 h9 => ?_)
  obtain ⟨r_1, lr1_2, lp1_3, la1_4, t1_5, c1_6, ac1_7, co1_8, cs1_9, ut1_10, h1_11, u1_12, rfl, rfl, hm2, hl2, hc2⟩ := h9
  refine ⟨[(q0, .inr (10, [.ref q1, .ref q2, .ref q3, .int (iI c0), .ref q4, .ref q5, .int (iI la1_4), .ref q6, .ref q7, .ref q8, .ref q9, .ref q10, .ref q11, .int (iI h1_11), .int (iI u1_12)])), (q1, ia E 5400 g), (q4, ia E 96 lr1_2), (q5, ia E 96 lp1_3), (q6, ia E 12 t1_5), (q7, ia E 12 c1_6), (q8, ia E 12 ac1_7), (q9, ia E 12 co1_8), (q10, ia E 12 cs1_9), (q11, ia E 12 ut1_10)], ⟨rfl, rfl, rfl, rfl⟩, g_to 0 0 _ _ [.int (iI r_1)] rfl rfl rfl rfl rfl ?_⟩
  exact g_ret G (some (.int (iI r_1))) rfl dX10_states_5 (Nat.le_refl _) (Nat.le_refl _) ⟨r_1, lr1_2, lp1_3, la1_4, t1_5, c1_6, ac1_7, co1_8, cs1_9, ut1_10, h1_11, u1_12, rfl, rfl, by exact hm2, by exact hl2, by exact hc2⟩
theorem f_X10_leads_26 : Cond.fieldLink RX10 26 (TX10 7).1 (TX10 7).2.1 (TX10 7).2.2.1 ∈ wsX10_leads := by decide +kernel
theorem i_X10_leads_X10 : ∀ w ∈ wsX100, w ∈ wsX10_leads := by decide +kernel
theorem f_X10_leads_29 : Cond.fieldLink RX10 29 (TX10 8).1 (TX10 8).2.1 (TX10 8).2.2.1 ∈ wsX10_leads := by decide +kernel
set_option maxRecDepth 100000 in
set_option maxHeartbeats 4000000 in
theorem c_X10_leads (E : qE) (q0 : Nat) (q1 : Nat) (q2 : Nat) (q3 : Nat) (q4 : Nat) (q5 : Nat) (q6 : Nat) (q7 : Nat) (q8 : Nat) (q9 : Nat) (q10 : Nat) (q11 : Nat) (c0 : Int) (la : Int) (ch : Int) (us : Int) (g : Int → Int) (lr : Int → Int) (lp : Int → Int) (t : Int → Int) (c : Int → Int) (ac : Int → Int) (co : Int → Int) (cs : Int → Int) (ut : Int → Int) (x : Int) (y : Int) (v : Int) (hG : AllOk g) (hV : VbOk g) (hc0 : ∀ i, -100000 ≤ c i ∧ c i ≤ 100000) (hx : -2147483648 ≤ x ∧ x < 2147483648) (hy : -2147483648 ≤ y ∧ y < 2147483648) (hv : -2147483648 ≤ v ∧ v < 2147483648) : Cn E yX10_leads wsX10_leads { frames := 3, cells := 0, slots := 0, locals := 71 } [.ref q0, .int (iI x), .int (iI y), .int (iI v)] [(q0, .inr (10, [.ref q1, .ref q2, .ref q3, .int (iI c0), .ref q4, .ref q5, .int (iI la), .ref q6, .ref q7, .ref q8, .ref q9, .ref q10, .ref q11, .int (iI ch), .int (iI us)])), (q1, ia E 5400 g), (q4, ia E 96 lr), (q5, ia E 96 lp), (q6, ia E 12 t), (q7, ia E 12 c), (q8, ia E 12 ac), (q9, ia E 12 co), (q10, ia E 12 cs), (q11, ia E 12 ut)] (fun v9 w9 => ∃ (r : Int) (lr1 : Int → Int) (lp1 : Int → Int) (la1 : Int) (t1 : Int → Int) (c1 : Int → Int) (ac1 : Int → Int) (co1 : Int → Int) (cs1 : Int → Int) (ut1 : Int → Int) (h1 : Int) (u1 : Int), v9 = some (.int (iI r)) ∧ w9 = [(q0, .inr (10, [.ref q1, .ref q2, .ref q3, .int (iI c0), .ref q4, .ref q5, .int (iI la1), .ref q6, .ref q7, .ref q8, .ref q9, .ref q10, .ref q11, .int (iI h1), .int (iI u1)])), (q1, ia E 5400 g), (q4, ia E 96 lr1), (q5, ia E 96 lp1), (q6, ia E 12 t1), (q7, ia E 12 c1), (q8, ia E 12 ac1), (q9, ia E 12 co1), (q10, ia E 12 cs1), (q11, ia E 12 ut1)] ∧ ((¬ (0 ≤ x ∧ x ≤ 3 ∧ 0 ≤ y ∧ y ≤ 2 ∧ 0 ≤ v ∧ v ≤ 1) ∧ r = -1) ∨ ((0 ≤ x ∧ x ≤ 3 ∧ 0 ≤ y ∧ y ≤ 2 ∧ 0 ≤ v ∧ v ≤ 1) ∧ ∃ mr, MacR g (-1) mr lr1 lp1 la1 t1 c1 ∧ lyI g (-1) lr lp = (lr1, lp1, la1) ∧ r = if mr < 1 then -1 else if t1 (3 * x + y) < 0 then -1 else if v = 0 then t1 (3 * x + y) else c1 (3 * x + y))) ∧ (∀ i, -100000 ≤ c1 i ∧ c1 i ≤ 100000)) 0 0 := by
  refine Cn.ofP (own := RX10) (cc := cX10_leads) (maxL := 5) (ret := (some .int)) false [(0, .ref q0), (1, .int (iI x)), (2, .int (iI y)), (3, .int (iI v))] (by decide +kernel) rfl rfl (Nat.le_of_ble_eq_true rfl) rfl (fun h => nomatch h) (fun v w h => by obtain ⟨r, lr1, lp1, la1, t1, c1, ac1, co1, cs1, ut1, h1, u1, rfl, h9⟩ := h; exact ⟨_, rfl, rfl⟩) ?_
  intro P G
  refine g_iload_n G 1 dX10_leads_0 rfl ?_
  refine g_iconst G dX10_leads_1 ?_
  refine g_iconst G dX10_leads_2 ?_
  refine g_callS G [] [0, 1, 2, 3, 4, 5, 6, 7, 8, 9] 10 [(q0, .inr (10, [.ref q1, .ref q2, .ref q3, .int (iI c0), .ref q4, .ref q5, .int (iI la), .ref q6, .ref q7, .ref q8, .ref q9, .ref q10, .ref q11, .int (iI ch), .int (iI us)])), (q1, ia E 5400 g), (q4, ia E 96 lr), (q5, ia E 96 lp), (q6, ia E 12 t), (q7, ia E 12 c), (q8, ia E 12 ac), (q9, ia E 12 co), (q10, ia E 12 cs), (q11, ia E 12 ut)] [.int (iI x), .int (iI 0), .int (iI 3)] [] (c_X10_isIn E x 0 3 (by first | assumption | omega) (by first | assumption | omega) (by first | assumption | omega)) dX10_leads_3 gX10_leads_X10_isIn ⟨rfl, ⟨rfl, rfl⟩, e_X10_isIn, ⟨Nat.le_of_ble_eq_true rfl, Nat.le_of_ble_eq_true rfl⟩, Nat.le_of_ble_eq_true rfl, Nat.le_of_ble_eq_true rfl, Nat.le_of_ble_eq_true rfl⟩ rfl (by decide +kernel) rfl (by decide +kernel) rfl (fun v9 w9 h9 => ?_)
  obtain ⟨o1, rfl, rfl, rfl⟩ := h9
  refine ⟨[(q0, .inr (10, [.ref q1, .ref q2, .ref q3, .int (iI c0), .ref q4, .ref q5, .int (iI la), .ref q6, .ref q7, .ref q8, .ref q9, .ref q10, .ref q11, .int (iI ch), .int (iI us)])), (q1, ia E 5400 g), (q4, ia E 96 lr), (q5, ia E 96 lp), (q6, ia E 12 t), (q7, ia E 12 c), (q8, ia E 12 ac), (q9, ia E 12 co), (q10, ia E 12 cs), (q11, ia E 12 ut)], ⟨rfl, rfl, rfl, rfl⟩, g_to 0 0 _ _ [.int (iI (if 0 ≤ x ∧ x ≤ 3 then 1 else 0))] rfl rfl rfl rfl rfl ?_⟩
  refine g_ifb_eq G 36 dX10_leads_6 (by decide) (fun c6 => ?_) (fun c6 => ?_)
  · refine g_iconst G dX10_leads_36 ?_
    exact g_ret G (some (.int (iI (-1)))) rfl dX10_leads_37 (Nat.le_refl _) (Nat.le_refl _) ⟨(-1), lr, lp, la, t, c, ac, co, cs, ut, ch, us, rfl, rfl, by first | exact Or.inl ⟨by omega, rfl⟩ | (refine Or.inr ⟨by omega, mr, hm2, hl2, ?_⟩; first | (rw [if_pos (by omega)]; done) | (rw [if_neg (by omega), if_pos (by omega)]; done) | (rw [if_neg (by omega), if_neg (by omega), if_pos (by omega)]; done) | (rw [if_neg (by omega), if_neg (by omega), if_neg (by omega)])), by first | exact hc2 | exact hc0⟩
  · refine g_iload_n G 2 dX10_leads_9 rfl ?_
    refine g_iconst G dX10_leads_10 ?_
    refine g_iconst G dX10_leads_11 ?_
    refine g_callS G [] [0, 1, 2, 3, 4, 5, 6, 7, 8, 9] 10 [(q0, .inr (10, [.ref q1, .ref q2, .ref q3, .int (iI c0), .ref q4, .ref q5, .int (iI la), .ref q6, .ref q7, .ref q8, .ref q9, .ref q10, .ref q11, .int (iI ch), .int (iI us)])), (q1, ia E 5400 g), (q4, ia E 96 lr), (q5, ia E 96 lp), (q6, ia E 12 t), (q7, ia E 12 c), (q8, ia E 12 ac), (q9, ia E 12 co), (q10, ia E 12 cs), (q11, ia E 12 ut)] [.int (iI y), .int (iI 0), .int (iI 2)] [] (c_X10_isIn E y 0 2 (by first | assumption | omega) (by first | assumption | omega) (by first | assumption | omega)) dX10_leads_12 gX10_leads_X10_isIn ⟨rfl, ⟨rfl, rfl⟩, e_X10_isIn, ⟨Nat.le_of_ble_eq_true rfl, Nat.le_of_ble_eq_true rfl⟩, Nat.le_of_ble_eq_true rfl, Nat.le_of_ble_eq_true rfl, Nat.le_of_ble_eq_true rfl⟩ rfl (by decide +kernel) rfl (by decide +kernel) rfl (fun v9 w9 h9 => ?_)
    obtain ⟨o2, rfl, rfl, rfl⟩ := h9
    refine ⟨[(q0, .inr (10, [.ref q1, .ref q2, .ref q3, .int (iI c0), .ref q4, .ref q5, .int (iI la), .ref q6, .ref q7, .ref q8, .ref q9, .ref q10, .ref q11, .int (iI ch), .int (iI us)])), (q1, ia E 5400 g), (q4, ia E 96 lr), (q5, ia E 96 lp), (q6, ia E 12 t), (q7, ia E 12 c), (q8, ia E 12 ac), (q9, ia E 12 co), (q10, ia E 12 cs), (q11, ia E 12 ut)], ⟨rfl, rfl, rfl, rfl⟩, g_to 0 0 _ _ [.int (iI (if 0 ≤ y ∧ y ≤ 2 then 1 else 0))] rfl rfl rfl rfl rfl ?_⟩
    refine g_ifb_eq G 36 dX10_leads_15 (by decide) (fun c15 => ?_) (fun c15 => ?_)
    · refine g_iconst G dX10_leads_36 ?_
      exact g_ret G (some (.int (iI (-1)))) rfl dX10_leads_37 (Nat.le_refl _) (Nat.le_refl _) ⟨(-1), lr, lp, la, t, c, ac, co, cs, ut, ch, us, rfl, rfl, by first | exact Or.inl ⟨by omega, rfl⟩ | (refine Or.inr ⟨by omega, mr, hm2, hl2, ?_⟩; first | (rw [if_pos (by omega)]; done) | (rw [if_neg (by omega), if_pos (by omega)]; done) | (rw [if_neg (by omega), if_neg (by omega), if_pos (by omega)]; done) | (rw [if_neg (by omega), if_neg (by omega), if_neg (by omega)])), by first | exact hc2 | exact hc0⟩
    · refine g_iload_n G 3 dX10_leads_18 rfl ?_
      refine g_iconst G dX10_leads_19 ?_
      refine g_iconst G dX10_leads_20 ?_
      refine g_callS G [] [0, 1, 2, 3, 4, 5, 6, 7, 8, 9] 10 [(q0, .inr (10, [.ref q1, .ref q2, .ref q3, .int (iI c0), .ref q4, .ref q5, .int (iI la), .ref q6, .ref q7, .ref q8, .ref q9, .ref q10, .ref q11, .int (iI ch), .int (iI us)])), (q1, ia E 5400 g), (q4, ia E 96 lr), (q5, ia E 96 lp), (q6, ia E 12 t), (q7, ia E 12 c), (q8, ia E 12 ac), (q9, ia E 12 co), (q10, ia E 12 cs), (q11, ia E 12 ut)] [.int (iI v), .int (iI 0), .int (iI 1)] [] (c_X10_isIn E v 0 1 (by first | assumption | omega) (by first | assumption | omega) (by first | assumption | omega)) dX10_leads_21 gX10_leads_X10_isIn ⟨rfl, ⟨rfl, rfl⟩, e_X10_isIn, ⟨Nat.le_of_ble_eq_true rfl, Nat.le_of_ble_eq_true rfl⟩, Nat.le_of_ble_eq_true rfl, Nat.le_of_ble_eq_true rfl, Nat.le_of_ble_eq_true rfl⟩ rfl (by decide +kernel) rfl (by decide +kernel) rfl (fun v9 w9 h9 => ?_)
      obtain ⟨o3, rfl, rfl, rfl⟩ := h9
      refine ⟨[(q0, .inr (10, [.ref q1, .ref q2, .ref q3, .int (iI c0), .ref q4, .ref q5, .int (iI la), .ref q6, .ref q7, .ref q8, .ref q9, .ref q10, .ref q11, .int (iI ch), .int (iI us)])), (q1, ia E 5400 g), (q4, ia E 96 lr), (q5, ia E 96 lp), (q6, ia E 12 t), (q7, ia E 12 c), (q8, ia E 12 ac), (q9, ia E 12 co), (q10, ia E 12 cs), (q11, ia E 12 ut)], ⟨rfl, rfl, rfl, rfl⟩, g_to 0 0 _ _ [.int (iI (if 0 ≤ v ∧ v ≤ 1 then 1 else 0))] rfl rfl rfl rfl rfl ?_⟩
      refine g_ifb_eq G 36 dX10_leads_24 (by decide) (fun c24 => ?_) (fun c24 => ?_)
      · refine g_iconst G dX10_leads_36 ?_
        exact g_ret G (some (.int (iI (-1)))) rfl dX10_leads_37 (Nat.le_refl _) (Nat.le_refl _) ⟨(-1), lr, lp, la, t, c, ac, co, cs, ut, ch, us, rfl, rfl, by first | exact Or.inl ⟨by omega, rfl⟩ | (refine Or.inr ⟨by omega, mr, hm2, hl2, ?_⟩; first | (rw [if_pos (by omega)]; done) | (rw [if_neg (by omega), if_pos (by omega)]; done) | (rw [if_neg (by omega), if_neg (by omega), if_pos (by omega)]; done) | (rw [if_neg (by omega), if_neg (by omega), if_neg (by omega)])), by first | exact hc2 | exact hc0⟩
      · refine g_aload_n G 0 dX10_leads_27 rfl ?_
        refine g_iconst G dX10_leads_28 ?_
        refine g_callV G [0, 1, 2, 3, 4, 5, 6, 7, 8, 9] [] 10 [] [.int (iI (-1))] [] (c_X10_machine E q0 q1 q2 q3 q4 q5 q6 q7 q8 q9 q10 q11 c0 la ch us g lr lp t c ac co cs ut (-1) (by exact hG) (by exact hV) (by omega) (by exact hc0)) dX10_leads_29 gX10_leads_X10_machine ⟨rfl, ⟨rfl, rfl⟩, e_X10_machine, ⟨Nat.le_of_ble_eq_true rfl, Nat.le_of_ble_eq_true rfl⟩, Nat.le_of_ble_eq_true rfl, Nat.le_of_ble_eq_true rfl, Nat.le_of_ble_eq_true rfl⟩ rfl rfl rfl rfl rfl (by decide +kernel) rfl (by decide +kernel) rfl (fun v9 w9 h9 => ?_)
        obtain ⟨mr, lr1_4, lp1_5, la1_6, t1_7, c1_8, ac1_9, co1_10, cs1_11, ut1_12, h1_13, u1_14, rfl, rfl, hm2, hl2, hc2⟩ := h9
        refine ⟨[(q0, .inr (10, [.ref q1, .ref q2, .ref q3, .int (iI c0), .ref q4, .ref q5, .int (iI la1_6), .ref q6, .ref q7, .ref q8, .ref q9, .ref q10, .ref q11, .int (iI h1_13), .int (iI u1_14)])), (q1, ia E 5400 g), (q4, ia E 96 lr1_4), (q5, ia E 96 lp1_5), (q6, ia E 12 t1_7), (q7, ia E 12 c1_8), (q8, ia E 12 ac1_9), (q9, ia E 12 co1_10), (q10, ia E 12 cs1_11), (q11, ia E 12 ut1_12)], ⟨rfl, rfl, rfl, rfl⟩, g_to 0 0 _ _ [.int (iI mr)] rfl rfl rfl rfl rfl ?_⟩
        have hmr := MacR.rng hm2
        refine g_iconst G dX10_leads_32 ?_
        refine g_icmp_ge G 38 dX10_leads_33 (by decide) (by omega) (by omega) (fun c33 => ?_) (fun c33 => ?_)
        · refine g_iconst G dX10_leads_38 ?_
          refine g_iload_n G 1 dX10_leads_39 rfl ?_
          refine g_imul G dX10_leads_40 ?_
          refine g_iload_n G 2 dX10_leads_41 rfl ?_
          refine g_iadd G dX10_leads_42 ?_
          refine g_istore G [(0, .ref q0), (1, .int (iI x)), (2, .int (iI y)), (3, .int (iI v)), (4, .int (iI ((3 * x) + y)))] dX10_leads_43 (by decide) rfl rfl ?_
          refine g_aload_n G 0 dX10_leads_45 rfl ?_
          refine g_get G 0 7 dX10_leads_46 i_X10_leads_X10 f_X10_leads_26 rfl rfl (by decide) rfl ?_
          have htb := MacR.bd hm2 c33 (3 * x + y)
          refine g_iload G 4 dX10_leads_49 rfl ?_
          refine g_iald G 4 dX10_leads_51 rfl (by omega) (by omega) (by decide) ?_
          refine g_if_ge G 59 dX10_leads_52 (by decide) (by omega) (fun c52 => ?_) (fun c52 => ?_)
          · refine g_iload_n G 3 dX10_leads_59 rfl ?_
            refine g_if_ne G 73 dX10_leads_60 (by decide) (by omega) (fun c60 => ?_) (fun c60 => ?_)
            · refine g_aload_n G 0 dX10_leads_73 rfl ?_
              refine g_get G 0 8 dX10_leads_74 i_X10_leads_X10 f_X10_leads_29 rfl rfl (by decide) rfl ?_
              refine g_iload G 4 dX10_leads_77 rfl ?_
              refine g_iald G 5 dX10_leads_79 rfl (by omega) (by omega) (by decide) ?_
              exact g_ret G (some (.int (iI (c1_8 ((3 * x) + y))))) rfl dX10_leads_80 (Nat.le_refl _) (Nat.le_refl _) ⟨(c1_8 ((3 * x) + y)), lr1_4, lp1_5, la1_6, t1_7, c1_8, ac1_9, co1_10, cs1_11, ut1_12, h1_13, u1_14, rfl, rfl, by first | exact Or.inl ⟨by omega, rfl⟩ | (refine Or.inr ⟨by omega, mr, hm2, hl2, ?_⟩; first | (rw [if_pos (by omega)]; done) | (rw [if_neg (by omega), if_pos (by omega)]; done) | (rw [if_neg (by omega), if_neg (by omega), if_pos (by omega)]; done) | (rw [if_neg (by omega), if_neg (by omega), if_neg (by omega)])), by first | exact hc2 | exact hc0⟩
            · refine g_aload_n G 0 dX10_leads_63 rfl ?_
              refine g_get G 0 7 dX10_leads_64 i_X10_leads_X10 f_X10_leads_26 rfl rfl (by decide) rfl ?_
              refine g_iload G 4 dX10_leads_67 rfl ?_
              refine g_iald G 4 dX10_leads_69 rfl (by omega) (by omega) (by decide) ?_
              refine g_goto G 80 dX10_leads_70 (by decide) ?_
              exact g_ret G (some (.int (iI (t1_7 ((3 * x) + y))))) rfl dX10_leads_80 (Nat.le_refl _) (Nat.le_refl _) ⟨(t1_7 ((3 * x) + y)), lr1_4, lp1_5, la1_6, t1_7, c1_8, ac1_9, co1_10, cs1_11, ut1_12, h1_13, u1_14, rfl, rfl, by first | exact Or.inl ⟨by omega, rfl⟩ | (refine Or.inr ⟨by omega, mr, hm2, hl2, ?_⟩; first | (rw [if_pos (by omega)]; done) | (rw [if_neg (by omega), if_pos (by omega)]; done) | (rw [if_neg (by omega), if_neg (by omega), if_pos (by omega)]; done) | (rw [if_neg (by omega), if_neg (by omega), if_neg (by omega)])), by first | exact hc2 | exact hc0⟩
          · refine g_iconst G dX10_leads_55 ?_
            refine g_goto G 80 dX10_leads_56 (by decide) ?_
            exact g_ret G (some (.int (iI (-1)))) rfl dX10_leads_80 (Nat.le_refl _) (Nat.le_refl _) ⟨(-1), lr1_4, lp1_5, la1_6, t1_7, c1_8, ac1_9, co1_10, cs1_11, ut1_12, h1_13, u1_14, rfl, rfl, by first | exact Or.inl ⟨by omega, rfl⟩ | (refine Or.inr ⟨by omega, mr, hm2, hl2, ?_⟩; first | (rw [if_pos (by omega)]; done) | (rw [if_neg (by omega), if_pos (by omega)]; done) | (rw [if_neg (by omega), if_neg (by omega), if_pos (by omega)]; done) | (rw [if_neg (by omega), if_neg (by omega), if_neg (by omega)])), by first | exact hc2 | exact hc0⟩
        · refine g_iconst G dX10_leads_36 ?_
          exact g_ret G (some (.int (iI (-1)))) rfl dX10_leads_37 (Nat.le_refl _) (Nat.le_refl _) ⟨(-1), lr1_4, lp1_5, la1_6, t1_7, c1_8, ac1_9, co1_10, cs1_11, ut1_12, h1_13, u1_14, rfl, rfl, by first | exact Or.inl ⟨by omega, rfl⟩ | (refine Or.inr ⟨by omega, mr, hm2, hl2, ?_⟩; first | (rw [if_pos (by omega)]; done) | (rw [if_neg (by omega), if_pos (by omega)]; done) | (rw [if_neg (by omega), if_neg (by omega), if_pos (by omega)]; done) | (rw [if_neg (by omega), if_neg (by omega), if_neg (by omega)])), by first | exact hc2 | exact hc0⟩
