theorem AllOk.up {g : Int → Int} (h : AllOk g) (i x : Int) (hi : i ≠ 0 ∧ (i < 10 ∨ 18 ≤ i)) (hx : -100000 ≤ x ∧ x ≤ 100000) : AllOk (upI g i x) := by
  refine ⟨fun j => ?_, ?_, fun r h0 h8 => ?_⟩
  · have := h.1 j
    unfold upI; split <;> omega
  · rw [upI_ne _ _ (by omega)]; exact h.2.1
  · rw [upI_ne _ _ (by omega)]; exact h.2.2 r h0 h8
theorem VbOk.up {g : Int → Int} (h : VbOk g) (i x : Int) (hi : i < 20 ∨ 596 ≤ i) : VbOk (upI g i x) := by
  intro r p h1 h2 h3 h4
  rw [upI_ne _ _ (by omega)]
  exact h r p h1 h2 h3 h4
theorem OldOk.up {g : Int → Int} (h : OldOk g) (i x : Int) (hi : (i < 600 ∨ 608 ≤ i) ∧ (i < 610 ∨ 1186 ≤ i)) : OldOk (upI g i x) := by
  refine ⟨fun r h0 h8 => ?_, fun j h0 h8 => ?_⟩
  · rw [upI_ne _ _ (by omega)]; exact h.1 r h0 h8
  · rw [upI_ne _ _ (by omega)]; exact h.2 j h0 h8
/-- what a run begins with: the rows, the machine and the rules as they are now -/
def bgK (g t c u : Int → Int) (k1 k2 k3 k4 k5 : Int) : Int → Int := fun j =>
  if 600 ≤ j ∧ j < 600 + k1 then (if j - 600 < g 0 then g (10 + (j - 600)) else 0)
  else if 610 ≤ j ∧ j < 610 + k2 then g (20 + (j - 610))
  else if 1190 ≤ j ∧ j < 1190 + k3 then t (j - 1190)
  else if 1202 ≤ j ∧ j < 1202 + k3 then c (j - 1202)
  else if 1220 ≤ j ∧ j < 1220 + k3 then u (j - 1220)
  else if 1240 ≤ j ∧ j < 1240 + k4 then 0
  else if 1340 ≤ j ∧ j < 1340 + k5 then 0
  else g j
theorem bgK_lo (g t c u : Int → Int) (k1 k2 k3 k4 k5 : Int) {j : Int} (h : j < 600) : bgK g t c u k1 k2 k3 k4 k5 j = g j := by
  unfold bgK
  rw [if_neg (by omega), if_neg (by omega), if_neg (by omega), if_neg (by omega), if_neg (by omega), if_neg (by omega), if_neg (by omega)]
theorem bgK_0 (g t c u : Int → Int) : bgK g t c u 0 0 0 0 0 = g := by
  funext j
  unfold bgK
  rw [if_neg (by omega), if_neg (by omega), if_neg (by omega), if_neg (by omega), if_neg (by omega), if_neg (by omega), if_neg (by omega)]
theorem bgK_e1 {g t c u W : Int → Int} {i x : Int} (hW : W = bgK g t c u i 0 0 0 0) (hi : 0 ≤ i ∧ i ≤ 8) (h2 : i < 8) (hx : (i < W 0 ∧ x = W (10 + i)) ∨ (¬ i < W 0 ∧ x = 0)) : upI W (600 + i) x = bgK g t c u (i + 1) 0 0 0 0 := by
  have e0 : W 0 = g 0 := by rw [hW]; exact bgK_lo _ _ _ _ _ _ _ _ _ (by omega)
  have e1 : W (10 + i) = g (10 + i) := by rw [hW]; exact bgK_lo _ _ _ _ _ _ _ _ _ (by omega)
  rw [e0, e1] at hx
  funext j
  by_cases h : j = 600 + i
  · subst h
    rw [upI_same]
    unfold bgK
    rw [if_pos (by omega), (show 600 + i - 600 = i by omega)]
    rcases hx with ⟨a, b⟩ | ⟨a, b⟩
    · rw [if_pos a, b]
    · rw [if_neg a, b]
  · rw [upI_ne _ _ h, hW]
    unfold bgK
    have e3 : (600 ≤ j ∧ j < 600 + i) = (600 ≤ j ∧ j < 600 + (i + 1)) := propext (by omega)
    simp only [e3]
theorem bgK_e2 {g t c u W : Int → Int} {i : Int} (hW : W = bgK g t c u 8 i 0 0 0) (hi : 0 ≤ i ∧ i ≤ 576) (h2 : i < 576) : upI W (610 + i) (W (20 + i)) = bgK g t c u 8 (i + 1) 0 0 0 := by
  have e1 : W (20 + i) = g (20 + i) := by rw [hW]; exact bgK_lo _ _ _ _ _ _ _ _ _ (by omega)
  rw [e1]
  funext j
  by_cases h : j = 610 + i
  · subst h
    rw [upI_same]
    unfold bgK
    rw [if_neg (by omega), if_pos (by omega), (show 610 + i - 610 = i by omega)]
  · rw [upI_ne _ _ h, hW]
    unfold bgK
    have e3 : (610 ≤ j ∧ j < 610 + i) = (610 ≤ j ∧ j < 610 + (i + 1)) := propext (by omega)
    simp only [e3]
theorem bgK_e3 {g t c u W : Int → Int} {i : Int} (hW : W = bgK g t c u 8 576 i 0 0) (hi : 0 ≤ i ∧ i ≤ 12) (h2 : i < 12) : upI (upI (upI W (1190 + i) (t i)) (1202 + i) (c i)) (1220 + i) (u i) = bgK g t c u 8 576 (i + 1) 0 0 := by
  funext j
  by_cases h3 : j = 1220 + i
  · subst h3
    rw [upI_same]
    unfold bgK
    rw [if_neg (by omega), if_neg (by omega), if_neg (by omega), if_neg (by omega), if_pos (by omega), (show 1220 + i - 1220 = i by omega)]
  rw [upI_ne _ _ h3]
  by_cases h4 : j = 1202 + i
  · subst h4
    rw [upI_same]
    unfold bgK
    rw [if_neg (by omega), if_neg (by omega), if_neg (by omega), if_pos (by omega), (show 1202 + i - 1202 = i by omega)]
  rw [upI_ne _ _ h4]
  by_cases h5 : j = 1190 + i
  · subst h5
    rw [upI_same]
    unfold bgK
    rw [if_neg (by omega), if_neg (by omega), if_pos (by omega), (show 1190 + i - 1190 = i by omega)]
  rw [upI_ne _ _ h5, hW]
  unfold bgK
  have e3 : (1190 ≤ j ∧ j < 1190 + i) = (1190 ≤ j ∧ j < 1190 + (i + 1)) := propext (by omega)
  have e4 : (1202 ≤ j ∧ j < 1202 + i) = (1202 ≤ j ∧ j < 1202 + (i + 1)) := propext (by omega)
  have e5 : (1220 ≤ j ∧ j < 1220 + i) = (1220 ≤ j ∧ j < 1220 + (i + 1)) := propext (by omega)
  simp only [e3, e4, e5]
theorem bgK_e4 {g t c u W : Int → Int} {i : Int} (hW : W = bgK g t c u 8 576 12 i 0) (hi : 0 ≤ i ∧ i ≤ 100) (h2 : i < 100) : upI W (1240 + i) 0 = bgK g t c u 8 576 12 (i + 1) 0 := by
  funext j
  by_cases h3 : j = 1240 + i
  · subst h3
    rw [upI_same]
    unfold bgK
    rw [if_neg (by omega), if_neg (by omega), if_neg (by omega), if_neg (by omega), if_neg (by omega), if_pos (by omega)]
  rw [upI_ne _ _ h3, hW]
  unfold bgK
  have e3 : (1240 ≤ j ∧ j < 1240 + i) = (1240 ≤ j ∧ j < 1240 + (i + 1)) := propext (by omega)
  simp only [e3]
theorem bgK_e5 {g t c u W : Int → Int} {i : Int} (hW : W = bgK g t c u 8 576 12 100 i) (hi : 0 ≤ i ∧ i ≤ 3) (h2 : i < 3) : upI W (1340 + i) 0 = bgK g t c u 8 576 12 100 (i + 1) := by
  funext j
  by_cases h3 : j = 1340 + i
  · subst h3
    rw [upI_same]
    unfold bgK
    rw [if_neg (by omega), if_neg (by omega), if_neg (by omega), if_neg (by omega), if_neg (by omega), if_neg (by omega), if_pos (by omega)]
  rw [upI_ne _ _ h3, hW]
  unfold bgK
  have e3 : (1340 ≤ j ∧ j < 1340 + i) = (1340 ≤ j ∧ j < 1340 + (i + 1)) := propext (by omega)
  simp only [e3]
theorem f_X10_begin_7 : Cond.fieldLink RX10 7 (TX10 0).1 (TX10 0).2.1 (TX10 0).2.2.1 ∈ wsX10_begin := by decide +kernel
theorem i_X10_begin_X10 : ∀ w ∈ wsX100, w ∈ wsX10_begin := by decide +kernel
theorem e_X10_rulesBut : yX10_rulesBut.cls ≠ "java/lang/invoke/MethodHandle" ∧ yX10_rulesBut.cls ≠ "java/lang/invoke/VarHandle" ∧ (parseMethodDescriptor yX10_rulesBut.desc).map (fun d => d.parameters.length) = some 1 := by decide +kernel
theorem f_X10_begin_26 : Cond.fieldLink RX10 26 (TX10 7).1 (TX10 7).2.1 (TX10 7).2.2.1 ∈ wsX10_begin := by decide +kernel
theorem f_X10_begin_29 : Cond.fieldLink RX10 29 (TX10 8).1 (TX10 8).2.1 (TX10 8).2.2.1 ∈ wsX10_begin := by decide +kernel
theorem f_X10_begin_17 : Cond.fieldLink RX10 17 (TX10 2).1 (TX10 2).2.1 (TX10 2).2.2.1 ∈ wsX10_begin := by decide +kernel
set_option maxRecDepth 100000 in
set_option maxHeartbeats 4000000 in
theorem c_X10_begin (E : qE) (q0 : Nat) (q1 : Nat) (q2 : Nat) (q3 : Nat) (q4 : Nat) (q5 : Nat) (q6 : Nat) (q7 : Nat) (q8 : Nat) (q9 : Nat) (q10 : Nat) (q11 : Nat) (c0 : Int) (la : Int) (ch : Int) (us : Int) (g : Int → Int) (lr : Int → Int) (lp : Int → Int) (t : Int → Int) (c : Int → Int) (ac : Int → Int) (co : Int → Int) (cs : Int → Int) (ut : Int → Int) (u : Int → Int) (hG : AllOk g) (hV : VbOk g) (hc0 : ∀ i, -100000 ≤ c i ∧ c i ≤ 100000) (hX : ∀ i, 20 ≤ i → i < 596 → 0 ≤ g i ∧ g i < 100) : Cn E yX10_begin wsX10_begin { frames := 6, cells := 0, slots := 0, locals := 146 } [.ref q0] [(q0, .inr (10, [.ref q1, .ref q2, .ref q3, .int (iI c0), .ref q4, .ref q5, .int (iI la), .ref q6, .ref q7, .ref q8, .ref q9, .ref q10, .ref q11, .int (iI ch), .int (iI us)])), (q1, ia E 5400 g), (q4, ia E 96 lr), (q5, ia E 96 lp), (q6, ia E 12 t), (q7, ia E 12 c), (q8, ia E 12 ac), (q9, ia E 12 co), (q10, ia E 12 cs), (q11, ia E 12 ut), (q3, ia E 12 u)] (fun v9 w9 => ∃ (r : Int) (g1 : Int → Int) (cc : Int) (U : Int → Int) (lr1 : Int → Int) (lp1 : Int → Int) (la1 : Int) (t1 : Int → Int) (c1 : Int → Int) (ac1 : Int → Int) (co1 : Int → Int) (cs1 : Int → Int) (ut1 : Int → Int) (h1 : Int) (u1 : Int), v9 = some (.int (iI r)) ∧ w9 = [(q0, .inr (10, [.ref q1, .ref q2, .ref q3, .int (iI cc), .ref q4, .ref q5, .int (iI la1), .ref q6, .ref q7, .ref q8, .ref q9, .ref q10, .ref q11, .int (iI h1), .int (iI u1)])), (q1, ia E 5400 g1), (q4, ia E 96 lr1), (q5, ia E 96 lp1), (q6, ia E 12 t1), (q7, ia E 12 c1), (q8, ia E 12 ac1), (q9, ia E 12 co1), (q10, ia E 12 cs1), (q11, ia E 12 ut1), (q3, ia E 12 U)] ∧ (∃ mr, MacR (upI (upI (upI g 1 0) 5 (-1000)) 6 (-1000)) (-1) mr lr1 lp1 la1 t1 c1 ∧ lyI (upI (upI (upI g 1 0) 5 (-1000)) 6 (-1000)) (-1) lr lp = (lr1, lp1, la1) ∧ ((mr < 1 ∧ r = 0 ∧ g1 = (upI (upI (upI g 1 0) 5 (-1000)) 6 (-1000))) ∨ (1 ≤ mr ∧ r = 1 ∧ g1 = bgK (upI (upI (upI (upI (upI (upI (upI g 1 0) 5 (-1000)) 6 (-1000)) 1 1) 2 0) 3 0) 4 0) t1 c1 U 8 576 12 100 3 ∧ ∀ v f, 0 ≤ v ∧ v < 3 → 0 ≤ f ∧ f < 2 → U (4 * v + 2 * f) = (rkI (upI (upI (upI g 1 0) 5 (-1000)) 6 (-1000)) v f (-1)).1 ∧ U (4 * v + 2 * f + 1) = (rkI (upI (upI (upI g 1 0) 5 (-1000)) 6 (-1000)) v f (-1)).2))) ∧ (∀ i, -100000 ≤ c1 i ∧ c1 i ≤ 100000)) 0 0 := by
  refine Cn.ofP (own := RX10) (cc := cX10_begin) (maxL := 2) (ret := (some .boolean)) false [(0, .ref q0)] (by decide +kernel) rfl rfl (Nat.le_of_ble_eq_true rfl) rfl (fun h => nomatch h) (fun v w h => by obtain ⟨r, g1, cc, U, lr1, lp1, la1, t1, c1, ac1, co1, cs1, ut1, h1, u1, rfl, h9⟩ := h; exact ⟨_, rfl, by obtain ⟨h8, ⟨mr, h7, h6, h5⟩, -⟩ := h9; rcases h5 with h5 | h5; (refine iI_b01 ?_; exact Or.inl h5.2.1); (refine iI_b01 ?_; exact Or.inr h5.2.1)⟩) ?_
  intro P G
  obtain ⟨hg, hg0, hgs⟩ := id hG
  refine g_aload_n G 0 dX10_begin_0 rfl ?_
  refine g_get G 0 0 dX10_begin_1 i_X10_begin_X10 f_X10_begin_7 rfl rfl (by decide) rfl ?_
  refine g_iconst G dX10_begin_4 ?_
  refine g_iconst G dX10_begin_5 ?_
  refine g_iast G 1 [(q0, .inr (10, [.ref q1, .ref q2, .ref q3, .int (iI c0), .ref q4, .ref q5, .int (iI la), .ref q6, .ref q7, .ref q8, .ref q9, .ref q10, .ref q11, .int (iI ch), .int (iI us)])), (q1, ia E 5400 (upI g 1 0)), (q4, ia E 96 lr), (q5, ia E 96 lp), (q6, ia E 12 t), (q7, ia E 12 c), (q8, ia E 12 ac), (q9, ia E 12 co), (q10, ia E 12 cs), (q11, ia E 12 ut), (q3, ia E 12 u)] dX10_begin_6 rfl (by omega) (by omega) (by decide) rfl ?_
  refine g_aload_n G 0 dX10_begin_7 rfl ?_
  refine g_callV G [0, 1] [2, 3, 4, 5, 6, 7, 8, 9, 10] 11 [(q4, ia E 96 lr), (q5, ia E 96 lp), (q6, ia E 12 t), (q7, ia E 12 c), (q8, ia E 12 ac), (q9, ia E 12 co), (q10, ia E 12 cs), (q11, ia E 12 ut), (q3, ia E 12 u)] [] [] (c_X10_clearsFields E q0 q1 q2 q3 q4 q5 q6 q7 q8 q9 q10 q11 c0 la ch us (upI g 1 0) ) dX10_begin_8 gX10_begin_X10_clearsFields ⟨rfl, ⟨rfl, rfl⟩, e_X10_clearsFields, ⟨Nat.le_of_ble_eq_true rfl, Nat.le_of_ble_eq_true rfl⟩, Nat.le_of_ble_eq_true rfl, Nat.le_of_ble_eq_true rfl, Nat.le_of_ble_eq_true rfl⟩ rfl rfl rfl rfl rfl (by decide +kernel) rfl (by decide +kernel) rfl (fun v9 w9 h9 => ?_)
  obtain ⟨rfl, rfl⟩ := h9
  refine ⟨[(q0, .inr (10, [.ref q1, .ref q2, .ref q3, .int (iI c0), .ref q4, .ref q5, .int (iI la), .ref q6, .ref q7, .ref q8, .ref q9, .ref q10, .ref q11, .int (iI ch), .int (iI us)])), (q1, ia E 5400 (upI (upI (upI g 1 0) 5 (-1000)) 6 (-1000))), (q4, ia E 96 lr), (q5, ia E 96 lp), (q6, ia E 12 t), (q7, ia E 12 c), (q8, ia E 12 ac), (q9, ia E 12 co), (q10, ia E 12 cs), (q11, ia E 12 ut), (q3, ia E 12 u)], ⟨rfl, rfl, rfl, rfl⟩, g_to 0 0 _ _ [] rfl rfl rfl rfl rfl ?_⟩
  have hG2 : AllOk (upI (upI (upI g 1 0) 5 (-1000)) 6 (-1000)) := ((hG.up 1 0 (by omega) (by omega)).up 5 (-1000) (by omega) (by omega)).up 6 (-1000) (by omega) (by omega)
  have hV2 : VbOk (upI (upI (upI g 1 0) 5 (-1000)) 6 (-1000)) := ((hV.up 1 0 (by omega)).up 5 (-1000) (by omega)).up 6 (-1000) (by omega)
  have hX2 : ∀ i, 20 ≤ i → i < 596 → 0 ≤ (upI (upI (upI g 1 0) 5 (-1000)) 6 (-1000)) i ∧ (upI (upI (upI g 1 0) 5 (-1000)) 6 (-1000)) i < 100 := fun i h1 h2 => by rw [upI_ne _ _ (by omega), upI_ne _ _ (by omega), upI_ne _ _ (by omega)]; exact hX i h1 h2
  refine g_aload_n G 0 dX10_begin_11 rfl ?_
  refine g_iconst G dX10_begin_12 ?_
  refine g_callV G [0, 1, 2, 3, 4, 5, 6, 7, 8, 9] [10] 11 [(q3, ia E 12 u)] [.int (iI (-1))] [] (c_X10_machine E q0 q1 q2 q3 q4 q5 q6 q7 q8 q9 q10 q11 c0 la ch us (upI (upI (upI g 1 0) 5 (-1000)) 6 (-1000)) lr lp t c ac co cs ut (-1) (by exact hG2) (by exact hV2) (by omega) (by exact hc0)) dX10_begin_13 gX10_begin_X10_machine ⟨rfl, ⟨rfl, rfl⟩, e_X10_machine, ⟨Nat.le_of_ble_eq_true rfl, Nat.le_of_ble_eq_true rfl⟩, Nat.le_of_ble_eq_true rfl, Nat.le_of_ble_eq_true rfl, Nat.le_of_ble_eq_true rfl⟩ rfl rfl rfl rfl rfl (by decide +kernel) rfl (by decide +kernel) rfl (fun v9 w9 h9 => ?_)
  obtain ⟨mr, lr1, lp1, la1, t1, c1, ac1_1, co1_2, cs1_3, ut1_4, h1_5, u1_6, rfl, rfl, hm2, hl2, hc2⟩ := h9
  refine ⟨[(q0, .inr (10, [.ref q1, .ref q2, .ref q3, .int (iI c0), .ref q4, .ref q5, .int (iI la1), .ref q6, .ref q7, .ref q8, .ref q9, .ref q10, .ref q11, .int (iI h1_5), .int (iI u1_6)])), (q1, ia E 5400 (upI (upI (upI g 1 0) 5 (-1000)) 6 (-1000))), (q4, ia E 96 lr1), (q5, ia E 96 lp1), (q6, ia E 12 t1), (q7, ia E 12 c1), (q8, ia E 12 ac1_1), (q9, ia E 12 co1_2), (q10, ia E 12 cs1_3), (q11, ia E 12 ut1_4), (q3, ia E 12 u)], ⟨rfl, rfl, rfl, rfl⟩, g_to 0 0 _ _ [.int (iI mr)] rfl rfl rfl rfl rfl ?_⟩
  have hmr := MacR.rng hm2
  refine g_iconst G dX10_begin_16 ?_
  refine g_icmp_ge G 22 dX10_begin_17 (by decide) (by omega) (by omega) (fun c17 => ?_) (fun c17 => ?_)
  · refine g_aload_n G 0 dX10_begin_22 rfl ?_
    refine g_iconst G dX10_begin_23 ?_
    refine g_callV G [0, 1, 10] [2, 3, 4, 5, 6, 7, 8, 9] 11 [(q4, ia E 96 lr1), (q5, ia E 96 lp1), (q6, ia E 12 t1), (q7, ia E 12 c1), (q8, ia E 12 ac1_1), (q9, ia E 12 co1_2), (q10, ia E 12 cs1_3), (q11, ia E 12 ut1_4)] [.int (iI (-1))] [] (c_X10_rulesBut E q0 q1 q2 q3 q4 q5 q6 q7 q8 q9 q10 q11 c0 la1 h1_5 u1_6 (upI (upI (upI g 1 0) 5 (-1000)) 6 (-1000)) u (-1) (by exact hG2) (by exact hX2) (by omega)) dX10_begin_24 gX10_begin_X10_rulesBut ⟨rfl, ⟨rfl, rfl⟩, e_X10_rulesBut, ⟨Nat.le_of_ble_eq_true rfl, Nat.le_of_ble_eq_true rfl⟩, Nat.le_of_ble_eq_true rfl, Nat.le_of_ble_eq_true rfl, Nat.le_of_ble_eq_true rfl⟩ rfl rfl rfl rfl rfl (by decide +kernel) rfl (by decide +kernel) rfl (fun v9 w9 h9 => ?_)
    obtain ⟨U, cc, rfl, rfl, hu2⟩ := h9
    refine ⟨[(q0, .inr (10, [.ref q1, .ref q2, .ref q3, .int (iI cc), .ref q4, .ref q5, .int (iI la1), .ref q6, .ref q7, .ref q8, .ref q9, .ref q10, .ref q11, .int (iI h1_5), .int (iI u1_6)])), (q1, ia E 5400 (upI (upI (upI g 1 0) 5 (-1000)) 6 (-1000))), (q4, ia E 96 lr1), (q5, ia E 96 lp1), (q6, ia E 12 t1), (q7, ia E 12 c1), (q8, ia E 12 ac1_1), (q9, ia E 12 co1_2), (q10, ia E 12 cs1_3), (q11, ia E 12 ut1_4), (q3, ia E 12 U)], ⟨rfl, rfl, rfl, rfl⟩, g_to 0 0 _ _ [] rfl rfl rfl rfl rfl ?_⟩
    refine g_aload_n G 0 dX10_begin_27 rfl ?_
    refine g_get G 0 0 dX10_begin_28 i_X10_begin_X10 f_X10_begin_7 rfl rfl (by decide) rfl ?_
    refine g_iconst G dX10_begin_31 ?_
    refine g_iconst G dX10_begin_32 ?_
    refine g_iast G 1 [(q0, .inr (10, [.ref q1, .ref q2, .ref q3, .int (iI cc), .ref q4, .ref q5, .int (iI la1), .ref q6, .ref q7, .ref q8, .ref q9, .ref q10, .ref q11, .int (iI h1_5), .int (iI u1_6)])), (q1, ia E 5400 (upI (upI (upI (upI g 1 0) 5 (-1000)) 6 (-1000)) 1 1)), (q4, ia E 96 lr1), (q5, ia E 96 lp1), (q6, ia E 12 t1), (q7, ia E 12 c1), (q8, ia E 12 ac1_1), (q9, ia E 12 co1_2), (q10, ia E 12 cs1_3), (q11, ia E 12 ut1_4), (q3, ia E 12 U)] dX10_begin_33 rfl (by omega) (by omega) (by decide) rfl ?_
    refine g_aload_n G 0 dX10_begin_34 rfl ?_
    refine g_get G 0 0 dX10_begin_35 i_X10_begin_X10 f_X10_begin_7 rfl rfl (by decide) rfl ?_
    refine g_iconst G dX10_begin_38 ?_
    refine g_iconst G dX10_begin_39 ?_
    refine g_iast G 1 [(q0, .inr (10, [.ref q1, .ref q2, .ref q3, .int (iI cc), .ref q4, .ref q5, .int (iI la1), .ref q6, .ref q7, .ref q8, .ref q9, .ref q10, .ref q11, .int (iI h1_5), .int (iI u1_6)])), (q1, ia E 5400 (upI (upI (upI (upI (upI g 1 0) 5 (-1000)) 6 (-1000)) 1 1) 2 0)), (q4, ia E 96 lr1), (q5, ia E 96 lp1), (q6, ia E 12 t1), (q7, ia E 12 c1), (q8, ia E 12 ac1_1), (q9, ia E 12 co1_2), (q10, ia E 12 cs1_3), (q11, ia E 12 ut1_4), (q3, ia E 12 U)] dX10_begin_40 rfl (by omega) (by omega) (by decide) rfl ?_
    refine g_aload_n G 0 dX10_begin_41 rfl ?_
    refine g_get G 0 0 dX10_begin_42 i_X10_begin_X10 f_X10_begin_7 rfl rfl (by decide) rfl ?_
    refine g_iconst G dX10_begin_45 ?_
    refine g_iconst G dX10_begin_46 ?_
    refine g_iast G 1 [(q0, .inr (10, [.ref q1, .ref q2, .ref q3, .int (iI cc), .ref q4, .ref q5, .int (iI la1), .ref q6, .ref q7, .ref q8, .ref q9, .ref q10, .ref q11, .int (iI h1_5), .int (iI u1_6)])), (q1, ia E 5400 (upI (upI (upI (upI (upI (upI g 1 0) 5 (-1000)) 6 (-1000)) 1 1) 2 0) 3 0)), (q4, ia E 96 lr1), (q5, ia E 96 lp1), (q6, ia E 12 t1), (q7, ia E 12 c1), (q8, ia E 12 ac1_1), (q9, ia E 12 co1_2), (q10, ia E 12 cs1_3), (q11, ia E 12 ut1_4), (q3, ia E 12 U)] dX10_begin_47 rfl (by omega) (by omega) (by decide) rfl ?_
    refine g_aload_n G 0 dX10_begin_48 rfl ?_
    refine g_get G 0 0 dX10_begin_49 i_X10_begin_X10 f_X10_begin_7 rfl rfl (by decide) rfl ?_
    refine g_iconst G dX10_begin_52 ?_
    refine g_iconst G dX10_begin_53 ?_
    refine g_iast G 1 [(q0, .inr (10, [.ref q1, .ref q2, .ref q3, .int (iI cc), .ref q4, .ref q5, .int (iI la1), .ref q6, .ref q7, .ref q8, .ref q9, .ref q10, .ref q11, .int (iI h1_5), .int (iI u1_6)])), (q1, ia E 5400 (upI (upI (upI (upI (upI (upI (upI g 1 0) 5 (-1000)) 6 (-1000)) 1 1) 2 0) 3 0) 4 0)), (q4, ia E 96 lr1), (q5, ia E 96 lp1), (q6, ia E 12 t1), (q7, ia E 12 c1), (q8, ia E 12 ac1_1), (q9, ia E 12 co1_2), (q10, ia E 12 cs1_3), (q11, ia E 12 ut1_4), (q3, ia E 12 U)] dX10_begin_54 rfl (by omega) (by omega) (by decide) rfl ?_
    refine g_iconst G dX10_begin_55 ?_
    refine g_istore_n G [(0, .ref q0), (1, .int (iI 0))] dX10_begin_56 (by decide) rfl rfl ?_
    have L57 : ∀ (fuel : Nat), ∀ (i : Int) (W : Int → Int), (0 ≤ i ∧ i ≤ 8) → (W = bgK (upI (upI (upI (upI (upI (upI (upI g 1 0) 5 (-1000)) 6 (-1000)) 1 1) 2 0) 3 0) 4 0) t1 c1 U i 0 0 0 0) → (8 - i : Int).toNat < fuel → P 0 0 [(q0, .inr (10, [.ref q1, .ref q2, .ref q3, .int (iI cc), .ref q4, .ref q5, .int (iI la1), .ref q6, .ref q7, .ref q8, .ref q9, .ref q10, .ref q11, .int (iI h1_5), .int (iI u1_6)])), (q1, ia E 5400 W), (q4, ia E 96 lr1), (q5, ia E 96 lp1), (q6, ia E 12 t1), (q7, ia E 12 c1), (q8, ia E 12 ac1_1), (q9, ia E 12 co1_2), (q10, ia E 12 cs1_3), (q11, ia E 12 ut1_4), (q3, ia E 12 U)] 57 [(0, .ref q0), (1, .int (iI i))] [] := by
      intro fuel
      induction fuel with
      | zero => intro i W hi hW hm; exact absurd hm (Nat.not_lt_zero _)
      | succ fuel ih57 =>
        intro i W hi hW hm
        refine g_iload_n G 1 dX10_begin_57 rfl ?_
        refine g_bipush G dX10_begin_58 (by decide +kernel) ?_
        refine g_icmp_ge G 102 dX10_begin_60 (by decide) (by omega) (by omega) (fun c60 => ?_) (fun c60 => ?_)
        · refine g_iconst G dX10_begin_102 ?_
          refine g_istore_n G [(0, .ref q0), (1, .int (iI 0))] dX10_begin_103 (by decide) rfl rfl ?_
          have L104 : ∀ (fuel : Nat), ∀ (i : Int) (W : Int → Int), (0 ≤ i ∧ i ≤ 576) → (W = bgK (upI (upI (upI (upI (upI (upI (upI g 1 0) 5 (-1000)) 6 (-1000)) 1 1) 2 0) 3 0) 4 0) t1 c1 U 8 i 0 0 0) → (576 - i : Int).toNat < fuel → P 0 0 [(q0, .inr (10, [.ref q1, .ref q2, .ref q3, .int (iI cc), .ref q4, .ref q5, .int (iI la1), .ref q6, .ref q7, .ref q8, .ref q9, .ref q10, .ref q11, .int (iI h1_5), .int (iI u1_6)])), (q1, ia E 5400 W), (q4, ia E 96 lr1), (q5, ia E 96 lp1), (q6, ia E 12 t1), (q7, ia E 12 c1), (q8, ia E 12 ac1_1), (q9, ia E 12 co1_2), (q10, ia E 12 cs1_3), (q11, ia E 12 ut1_4), (q3, ia E 12 U)] 104 [(0, .ref q0), (1, .int (iI i))] [] := by
            intro fuel
            induction fuel with
            | zero => intro i W hi hW hm; exact absurd hm (Nat.not_lt_zero _)
            | succ fuel ih104 =>
              intro i W hi hW hm
              refine g_iload_n G 1 dX10_begin_104 rfl ?_
              refine g_sipush G dX10_begin_105 (by decide +kernel) ?_
              refine g_icmp_ge G 136 dX10_begin_108 (by decide) (by omega) (by omega) (fun c108 => ?_) (fun c108 => ?_)
              · refine g_iconst G dX10_begin_136 ?_
                refine g_istore_n G [(0, .ref q0), (1, .int (iI 0))] dX10_begin_137 (by decide) rfl rfl ?_
                have L138 : ∀ (fuel : Nat), ∀ (i : Int) (W : Int → Int), (0 ≤ i ∧ i ≤ 12) → (W = bgK (upI (upI (upI (upI (upI (upI (upI g 1 0) 5 (-1000)) 6 (-1000)) 1 1) 2 0) 3 0) 4 0) t1 c1 U 8 576 i 0 0) → (12 - i : Int).toNat < fuel → P 0 0 [(q0, .inr (10, [.ref q1, .ref q2, .ref q3, .int (iI cc), .ref q4, .ref q5, .int (iI la1), .ref q6, .ref q7, .ref q8, .ref q9, .ref q10, .ref q11, .int (iI h1_5), .int (iI u1_6)])), (q1, ia E 5400 W), (q4, ia E 96 lr1), (q5, ia E 96 lp1), (q6, ia E 12 t1), (q7, ia E 12 c1), (q8, ia E 12 ac1_1), (q9, ia E 12 co1_2), (q10, ia E 12 cs1_3), (q11, ia E 12 ut1_4), (q3, ia E 12 U)] 138 [(0, .ref q0), (1, .int (iI i))] [] := by
                  intro fuel
                  induction fuel with
                  | zero => intro i W hi hW hm; exact absurd hm (Nat.not_lt_zero _)
                  | succ fuel ih138 =>
                    intro i W hi hW hm
                    refine g_iload_n G 1 dX10_begin_138 rfl ?_
                    refine g_bipush G dX10_begin_139 (by decide +kernel) ?_
                    refine g_icmp_ge G 198 dX10_begin_141 (by decide) (by omega) (by omega) (fun c141 => ?_) (fun c141 => ?_)
                    · refine g_iconst G dX10_begin_198 ?_
                      refine g_istore_n G [(0, .ref q0), (1, .int (iI 0))] dX10_begin_199 (by decide) rfl rfl ?_
                      have L200 : ∀ (fuel : Nat), ∀ (i : Int) (W : Int → Int), (0 ≤ i ∧ i ≤ 100) → (W = bgK (upI (upI (upI (upI (upI (upI (upI g 1 0) 5 (-1000)) 6 (-1000)) 1 1) 2 0) 3 0) 4 0) t1 c1 U 8 576 12 i 0) → (100 - i : Int).toNat < fuel → P 0 0 [(q0, .inr (10, [.ref q1, .ref q2, .ref q3, .int (iI cc), .ref q4, .ref q5, .int (iI la1), .ref q6, .ref q7, .ref q8, .ref q9, .ref q10, .ref q11, .int (iI h1_5), .int (iI u1_6)])), (q1, ia E 5400 W), (q4, ia E 96 lr1), (q5, ia E 96 lp1), (q6, ia E 12 t1), (q7, ia E 12 c1), (q8, ia E 12 ac1_1), (q9, ia E 12 co1_2), (q10, ia E 12 cs1_3), (q11, ia E 12 ut1_4), (q3, ia E 12 U)] 200 [(0, .ref q0), (1, .int (iI i))] [] := by
                        intro fuel
                        induction fuel with
                        | zero => intro i W hi hW hm; exact absurd hm (Nat.not_lt_zero _)
                        | succ fuel ih200 =>
                          intro i W hi hW hm
                          refine g_iload_n G 1 dX10_begin_200 rfl ?_
                          refine g_bipush G dX10_begin_201 (by decide +kernel) ?_
                          refine g_icmp_ge G 223 dX10_begin_203 (by decide) (by omega) (by omega) (fun c203 => ?_) (fun c203 => ?_)
                          · refine g_iconst G dX10_begin_223 ?_
                            refine g_istore_n G [(0, .ref q0), (1, .int (iI 0))] dX10_begin_224 (by decide) rfl rfl ?_
                            have L225 : ∀ (fuel : Nat), ∀ (i : Int) (W : Int → Int), (0 ≤ i ∧ i ≤ 3) → (W = bgK (upI (upI (upI (upI (upI (upI (upI g 1 0) 5 (-1000)) 6 (-1000)) 1 1) 2 0) 3 0) 4 0) t1 c1 U 8 576 12 100 i) → (3 - i : Int).toNat < fuel → P 0 0 [(q0, .inr (10, [.ref q1, .ref q2, .ref q3, .int (iI cc), .ref q4, .ref q5, .int (iI la1), .ref q6, .ref q7, .ref q8, .ref q9, .ref q10, .ref q11, .int (iI h1_5), .int (iI u1_6)])), (q1, ia E 5400 W), (q4, ia E 96 lr1), (q5, ia E 96 lp1), (q6, ia E 12 t1), (q7, ia E 12 c1), (q8, ia E 12 ac1_1), (q9, ia E 12 co1_2), (q10, ia E 12 cs1_3), (q11, ia E 12 ut1_4), (q3, ia E 12 U)] 225 [(0, .ref q0), (1, .int (iI i))] [] := by
                              intro fuel
                              induction fuel with
                              | zero => intro i W hi hW hm; exact absurd hm (Nat.not_lt_zero _)
                              | succ fuel ih225 =>
                                intro i W hi hW hm
                                refine g_iload_n G 1 dX10_begin_225 rfl ?_
                                refine g_iconst G dX10_begin_226 ?_
                                refine g_icmp_ge G 247 dX10_begin_227 (by decide) (by omega) (by omega) (fun c227 => ?_) (fun c227 => ?_)
                                · refine g_iconst G dX10_begin_247 ?_
                                  exact g_ret G (some (.int (iI 1))) rfl dX10_begin_248 (Nat.le_refl _) (Nat.le_refl _) ⟨1, W, cc, U, lr1, lp1, la1, t1, c1, ac1_1, co1_2, cs1_3, ut1_4, h1_5, u1_6, rfl, rfl, by exact ⟨mr, hm2, hl2, Or.inr ⟨by omega, rfl, by rw [hW, (show i = 3 by omega)], hu2⟩⟩, by exact hc2⟩
                                · refine g_aload_n G 0 dX10_begin_230 rfl ?_
                                  refine g_get G 0 0 dX10_begin_231 i_X10_begin_X10 f_X10_begin_7 rfl rfl (by decide) rfl ?_
                                  refine g_sipush G dX10_begin_234 (by decide +kernel) ?_
                                  refine g_iload_n G 1 dX10_begin_237 rfl ?_
                                  refine g_iadd G dX10_begin_238 ?_
                                  refine g_iconst G dX10_begin_239 ?_
                                  refine g_iast G 1 [(q0, .inr (10, [.ref q1, .ref q2, .ref q3, .int (iI cc), .ref q4, .ref q5, .int (iI la1), .ref q6, .ref q7, .ref q8, .ref q9, .ref q10, .ref q11, .int (iI h1_5), .int (iI u1_6)])), (q1, ia E 5400 (upI W (1340 + i) 0)), (q4, ia E 96 lr1), (q5, ia E 96 lp1), (q6, ia E 12 t1), (q7, ia E 12 c1), (q8, ia E 12 ac1_1), (q9, ia E 12 co1_2), (q10, ia E 12 cs1_3), (q11, ia E 12 ut1_4), (q3, ia E 12 U)] dX10_begin_240 rfl (by omega) (by omega) (by decide) rfl ?_
                                  refine g_iinc G 1 [(0, .ref q0), (1, .int (iI (i + 1)))] dX10_begin_241 rfl (by decide) rfl rfl ?_
                                  refine g_goto G 225 dX10_begin_244 (by decide) ?_
                                  exact ih225 (i + 1) (upI W (1340 + i) 0) (by first | assumption | omega) (by exact bgK_e5 hW hi c227) (by omega)
                            exact L225 ((3 - 0 : Int).toNat + 1) 0 W (by first | assumption | omega) (by rw [hW, (show i = 100 by omega)]) (by omega)
                          · refine g_aload_n G 0 dX10_begin_206 rfl ?_
                            refine g_get G 0 0 dX10_begin_207 i_X10_begin_X10 f_X10_begin_7 rfl rfl (by decide) rfl ?_
                            refine g_sipush G dX10_begin_210 (by decide +kernel) ?_
                            refine g_iload_n G 1 dX10_begin_213 rfl ?_
                            refine g_iadd G dX10_begin_214 ?_
                            refine g_iconst G dX10_begin_215 ?_
                            refine g_iast G 1 [(q0, .inr (10, [.ref q1, .ref q2, .ref q3, .int (iI cc), .ref q4, .ref q5, .int (iI la1), .ref q6, .ref q7, .ref q8, .ref q9, .ref q10, .ref q11, .int (iI h1_5), .int (iI u1_6)])), (q1, ia E 5400 (upI W (1240 + i) 0)), (q4, ia E 96 lr1), (q5, ia E 96 lp1), (q6, ia E 12 t1), (q7, ia E 12 c1), (q8, ia E 12 ac1_1), (q9, ia E 12 co1_2), (q10, ia E 12 cs1_3), (q11, ia E 12 ut1_4), (q3, ia E 12 U)] dX10_begin_216 rfl (by omega) (by omega) (by decide) rfl ?_
                            refine g_iinc G 1 [(0, .ref q0), (1, .int (iI (i + 1)))] dX10_begin_217 rfl (by decide) rfl rfl ?_
                            refine g_goto G 200 dX10_begin_220 (by decide) ?_
                            exact ih200 (i + 1) (upI W (1240 + i) 0) (by first | assumption | omega) (by exact bgK_e4 hW hi c203) (by omega)
                      exact L200 ((100 - 0 : Int).toNat + 1) 0 W (by first | assumption | omega) (by rw [hW, (show i = 12 by omega)]) (by omega)
                    · refine g_aload_n G 0 dX10_begin_144 rfl ?_
                      refine g_get G 0 0 dX10_begin_145 i_X10_begin_X10 f_X10_begin_7 rfl rfl (by decide) rfl ?_
                      refine g_sipush G dX10_begin_148 (by decide +kernel) ?_
                      refine g_iload_n G 1 dX10_begin_151 rfl ?_
                      refine g_iadd G dX10_begin_152 ?_
                      refine g_aload_n G 0 dX10_begin_153 rfl ?_
                      refine g_get G 0 7 dX10_begin_154 i_X10_begin_X10 f_X10_begin_26 rfl rfl (by decide) rfl ?_
                      refine g_iload_n G 1 dX10_begin_157 rfl ?_
                      refine g_iald G 4 dX10_begin_158 rfl (by omega) (by omega) (by decide) ?_
                      refine g_iast G 1 [(q0, .inr (10, [.ref q1, .ref q2, .ref q3, .int (iI cc), .ref q4, .ref q5, .int (iI la1), .ref q6, .ref q7, .ref q8, .ref q9, .ref q10, .ref q11, .int (iI h1_5), .int (iI u1_6)])), (q1, ia E 5400 (upI W (1190 + i) (t1 i))), (q4, ia E 96 lr1), (q5, ia E 96 lp1), (q6, ia E 12 t1), (q7, ia E 12 c1), (q8, ia E 12 ac1_1), (q9, ia E 12 co1_2), (q10, ia E 12 cs1_3), (q11, ia E 12 ut1_4), (q3, ia E 12 U)] dX10_begin_159 rfl (by omega) (by omega) (by decide) rfl ?_
                      refine g_aload_n G 0 dX10_begin_160 rfl ?_
                      refine g_get G 0 0 dX10_begin_161 i_X10_begin_X10 f_X10_begin_7 rfl rfl (by decide) rfl ?_
                      refine g_sipush G dX10_begin_164 (by decide +kernel) ?_
                      refine g_iload_n G 1 dX10_begin_167 rfl ?_
                      refine g_iadd G dX10_begin_168 ?_
                      refine g_aload_n G 0 dX10_begin_169 rfl ?_
                      refine g_get G 0 8 dX10_begin_170 i_X10_begin_X10 f_X10_begin_29 rfl rfl (by decide) rfl ?_
                      refine g_iload_n G 1 dX10_begin_173 rfl ?_
                      refine g_iald G 5 dX10_begin_174 rfl (by omega) (by omega) (by decide) ?_
                      refine g_iast G 1 [(q0, .inr (10, [.ref q1, .ref q2, .ref q3, .int (iI cc), .ref q4, .ref q5, .int (iI la1), .ref q6, .ref q7, .ref q8, .ref q9, .ref q10, .ref q11, .int (iI h1_5), .int (iI u1_6)])), (q1, ia E 5400 (upI (upI W (1190 + i) (t1 i)) (1202 + i) (c1 i))), (q4, ia E 96 lr1), (q5, ia E 96 lp1), (q6, ia E 12 t1), (q7, ia E 12 c1), (q8, ia E 12 ac1_1), (q9, ia E 12 co1_2), (q10, ia E 12 cs1_3), (q11, ia E 12 ut1_4), (q3, ia E 12 U)] dX10_begin_175 rfl (by omega) (by omega) (by decide) rfl ?_
                      refine g_aload_n G 0 dX10_begin_176 rfl ?_
                      refine g_get G 0 0 dX10_begin_177 i_X10_begin_X10 f_X10_begin_7 rfl rfl (by decide) rfl ?_
                      refine g_sipush G dX10_begin_180 (by decide +kernel) ?_
                      refine g_iload_n G 1 dX10_begin_183 rfl ?_
                      refine g_iadd G dX10_begin_184 ?_
                      refine g_aload_n G 0 dX10_begin_185 rfl ?_
                      refine g_get G 0 2 dX10_begin_186 i_X10_begin_X10 f_X10_begin_17 rfl rfl (by decide) rfl ?_
                      refine g_iload_n G 1 dX10_begin_189 rfl ?_
                      refine g_iald G 10 dX10_begin_190 rfl (by omega) (by omega) (by decide) ?_
                      refine g_iast G 1 [(q0, .inr (10, [.ref q1, .ref q2, .ref q3, .int (iI cc), .ref q4, .ref q5, .int (iI la1), .ref q6, .ref q7, .ref q8, .ref q9, .ref q10, .ref q11, .int (iI h1_5), .int (iI u1_6)])), (q1, ia E 5400 (upI (upI (upI W (1190 + i) (t1 i)) (1202 + i) (c1 i)) (1220 + i) (U i))), (q4, ia E 96 lr1), (q5, ia E 96 lp1), (q6, ia E 12 t1), (q7, ia E 12 c1), (q8, ia E 12 ac1_1), (q9, ia E 12 co1_2), (q10, ia E 12 cs1_3), (q11, ia E 12 ut1_4), (q3, ia E 12 U)] dX10_begin_191 rfl (by omega) (by omega) (by decide) rfl ?_
                      refine g_iinc G 1 [(0, .ref q0), (1, .int (iI (i + 1)))] dX10_begin_192 rfl (by decide) rfl rfl ?_
                      refine g_goto G 138 dX10_begin_195 (by decide) ?_
                      exact ih138 (i + 1) (upI (upI (upI W (1190 + i) (t1 i)) (1202 + i) (c1 i)) (1220 + i) (U i)) (by first | assumption | omega) (by exact bgK_e3 hW hi c141) (by omega)
                exact L138 ((12 - 0 : Int).toNat + 1) 0 W (by first | assumption | omega) (by rw [hW, (show i = 576 by omega)]) (by omega)
              · refine g_aload_n G 0 dX10_begin_111 rfl ?_
                refine g_get G 0 0 dX10_begin_112 i_X10_begin_X10 f_X10_begin_7 rfl rfl (by decide) rfl ?_
                refine g_sipush G dX10_begin_115 (by decide +kernel) ?_
                refine g_iload_n G 1 dX10_begin_118 rfl ?_
                refine g_iadd G dX10_begin_119 ?_
                refine g_aload_n G 0 dX10_begin_120 rfl ?_
                refine g_get G 0 0 dX10_begin_121 i_X10_begin_X10 f_X10_begin_7 rfl rfl (by decide) rfl ?_
                refine g_bipush G dX10_begin_124 (by decide +kernel) ?_
                refine g_iload_n G 1 dX10_begin_126 rfl ?_
                refine g_iadd G dX10_begin_127 ?_
                refine g_iald G 1 dX10_begin_128 rfl (by omega) (by omega) (by decide) ?_
                refine g_iast G 1 [(q0, .inr (10, [.ref q1, .ref q2, .ref q3, .int (iI cc), .ref q4, .ref q5, .int (iI la1), .ref q6, .ref q7, .ref q8, .ref q9, .ref q10, .ref q11, .int (iI h1_5), .int (iI u1_6)])), (q1, ia E 5400 (upI W (610 + i) (W (20 + i)))), (q4, ia E 96 lr1), (q5, ia E 96 lp1), (q6, ia E 12 t1), (q7, ia E 12 c1), (q8, ia E 12 ac1_1), (q9, ia E 12 co1_2), (q10, ia E 12 cs1_3), (q11, ia E 12 ut1_4), (q3, ia E 12 U)] dX10_begin_129 rfl (by omega) (by omega) (by decide) rfl ?_
                refine g_iinc G 1 [(0, .ref q0), (1, .int (iI (i + 1)))] dX10_begin_130 rfl (by decide) rfl rfl ?_
                refine g_goto G 104 dX10_begin_133 (by decide) ?_
                exact ih104 (i + 1) (upI W (610 + i) (W (20 + i))) (by first | assumption | omega) (by exact bgK_e2 hW hi c108) (by omega)
          exact L104 ((576 - 0 : Int).toNat + 1) 0 W (by first | assumption | omega) (by rw [hW, (show i = 8 by omega)]) (by omega)
        · refine g_aload_n G 0 dX10_begin_63 rfl ?_
          refine g_get G 0 0 dX10_begin_64 i_X10_begin_X10 f_X10_begin_7 rfl rfl (by decide) rfl ?_
          refine g_sipush G dX10_begin_67 (by decide +kernel) ?_
          refine g_iload_n G 1 dX10_begin_70 rfl ?_
          refine g_iadd G dX10_begin_71 ?_
          refine g_iload_n G 1 dX10_begin_72 rfl ?_
          refine g_aload_n G 0 dX10_begin_73 rfl ?_
          refine g_get G 0 0 dX10_begin_74 i_X10_begin_X10 f_X10_begin_7 rfl rfl (by decide) rfl ?_
          have e0 : W 0 = g 0 := by rw [hW, bgK_lo _ _ _ _ _ _ _ _ _ (by omega)]; simp only [upI_ap]; rfl
          refine g_iconst G dX10_begin_77 ?_
          refine g_iald G 1 dX10_begin_78 rfl (by omega) (by omega) (by decide) ?_
          refine g_icmp_ge G 94 dX10_begin_79 (by decide) (by omega) (by omega) (fun c79 => ?_) (fun c79 => ?_)
          · refine g_iconst G dX10_begin_94 ?_
            refine g_iast G 1 [(q0, .inr (10, [.ref q1, .ref q2, .ref q3, .int (iI cc), .ref q4, .ref q5, .int (iI la1), .ref q6, .ref q7, .ref q8, .ref q9, .ref q10, .ref q11, .int (iI h1_5), .int (iI u1_6)])), (q1, ia E 5400 (upI W (600 + i) 0)), (q4, ia E 96 lr1), (q5, ia E 96 lp1), (q6, ia E 12 t1), (q7, ia E 12 c1), (q8, ia E 12 ac1_1), (q9, ia E 12 co1_2), (q10, ia E 12 cs1_3), (q11, ia E 12 ut1_4), (q3, ia E 12 U)] dX10_begin_95 rfl (by omega) (by omega) (by decide) rfl ?_
            refine g_iinc G 1 [(0, .ref q0), (1, .int (iI (i + 1)))] dX10_begin_96 rfl (by decide) rfl rfl ?_
            refine g_goto G 57 dX10_begin_99 (by decide) ?_
            exact ih57 (i + 1) (upI W (600 + i) 0) (by first | assumption | omega) (by first | exact bgK_e1 hW hi c60 (Or.inl ⟨c79, rfl⟩) | exact bgK_e1 hW hi c60 (Or.inr ⟨by omega, rfl⟩)) (by omega)
          · refine g_aload_n G 0 dX10_begin_82 rfl ?_
            refine g_get G 0 0 dX10_begin_83 i_X10_begin_X10 f_X10_begin_7 rfl rfl (by decide) rfl ?_
            refine g_bipush G dX10_begin_86 (by decide +kernel) ?_
            refine g_iload_n G 1 dX10_begin_88 rfl ?_
            refine g_iadd G dX10_begin_89 ?_
            refine g_iald G 1 dX10_begin_90 rfl (by omega) (by omega) (by decide) ?_
            refine g_goto G 95 dX10_begin_91 (by decide) ?_
            refine g_iast G 1 [(q0, .inr (10, [.ref q1, .ref q2, .ref q3, .int (iI cc), .ref q4, .ref q5, .int (iI la1), .ref q6, .ref q7, .ref q8, .ref q9, .ref q10, .ref q11, .int (iI h1_5), .int (iI u1_6)])), (q1, ia E 5400 (upI W (600 + i) (W (10 + i)))), (q4, ia E 96 lr1), (q5, ia E 96 lp1), (q6, ia E 12 t1), (q7, ia E 12 c1), (q8, ia E 12 ac1_1), (q9, ia E 12 co1_2), (q10, ia E 12 cs1_3), (q11, ia E 12 ut1_4), (q3, ia E 12 U)] dX10_begin_95 rfl (by omega) (by omega) (by decide) rfl ?_
            refine g_iinc G 1 [(0, .ref q0), (1, .int (iI (i + 1)))] dX10_begin_96 rfl (by decide) rfl rfl ?_
            refine g_goto G 57 dX10_begin_99 (by decide) ?_
            exact ih57 (i + 1) (upI W (600 + i) (W (10 + i))) (by first | assumption | omega) (by first | exact bgK_e1 hW hi c60 (Or.inl ⟨c79, rfl⟩) | exact bgK_e1 hW hi c60 (Or.inr ⟨by omega, rfl⟩)) (by omega)
    exact L57 ((8 - 0 : Int).toNat + 1) 0 (upI (upI (upI (upI (upI (upI (upI g 1 0) 5 (-1000)) 6 (-1000)) 1 1) 2 0) 3 0) 4 0) (by first | assumption | omega) (by rw [bgK_0]) (by omega)
  · refine g_iconst G dX10_begin_20 ?_
    exact g_ret G (some (.int (iI 0))) rfl dX10_begin_21 (Nat.le_refl _) (Nat.le_refl _) ⟨0, (upI (upI (upI g 1 0) 5 (-1000)) 6 (-1000)), c0, u, lr1, lp1, la1, t1, c1, ac1_1, co1_2, cs1_3, ut1_4, h1_5, u1_6, rfl, rfl, by exact ⟨mr, hm2, hl2, Or.inl ⟨c17, rfl, rfl⟩⟩, by exact hc2⟩
theorem nP_cong {S : Type} {f f' : Int → Int → S → S} {r : Int} : ∀ (n : Nat) (s : S), (∀ p s, 0 ≤ p → p < (n : Int) → f r p s = f' r p s) → nP f r n s = nP f' r n s
  | 0, _, _ => rfl
  | n + 1, s, h => by
    show f r n (nP f r n s) = f' r n (nP f' r n s)
    rw [nP_cong n s (fun p s h0 h1 => h p s h0 (by omega)), h n _ (by omega) (by omega)]
theorem nR_cong {S : Type} {f f' : Int → Int → S → S} {L L' : Int → Int} {b : Int} : ∀ (n : Nat) (s : S), (∀ r, 0 ≤ r → r < (n : Int) → L r = L' r) → (∀ r p s, 0 ≤ r → r < (n : Int) → 0 ≤ p → p < L r → f r p s = f' r p s) → nR f L b n s = nR f' L' b n s
  | 0, _, _, _ => rfl
  | n + 1, s, hL, h => by
    show (if (n : Int) = b then nR f L b n s else nP f n (L n).toNat (nR f L b n s)) = (if (n : Int) = b then nR f' L' b n s else nP f' n (L' n).toNat (nR f' L' b n s))
    rw [nR_cong n s (fun r h0 h1 => hL r h0 (by omega)) (fun r p s h0 h1 h2 h3 => h r p s h0 (by omega) h2 h3), ← hL n (by omega) (by omega)]
    split
    · rfl
    · exact nP_cong _ _ (fun p s h0 h1 => h n p s (by omega) (by omega) h0 (by omega))
def RnOk (g : Int → Int) : Prop := (0 ≤ g 2 ∧ g 2 < 4) ∧ (∀ i, 1190 ≤ i → i < 1202 → -1 ≤ g i ∧ g i < 4) ∧ (∀ i, 1220 ≤ i → i < 1232 → -1000 ≤ g i ∧ g i ≤ 1000) ∧ (∀ i, 1240 ≤ i → i < 1340 → 0 ≤ g i ∧ g i ≤ 100) ∧ ∀ i, 1340 ≤ i → i < 1343 → 0 ≤ g i ∧ g i ≤ 50000
theorem ofI_bd {g : Int → Int} (h : OldOk g) (v x y f : Int) (hf : 0 ≤ f ∧ f < 2) : -1 ≤ ofI g v x y f ∧ ofI g v x y f < 100 := by
  refine nR_inv (Q := fun s : Int => -1 ≤ s ∧ s < 100) _ _ (by omega) (fun r p s hr _ hp q => ?_)
  have a := h.1 r (by omega) (by omega)
  have hp2 : 0 ≤ p ∧ p < g (600 + r) := hp
  have b := h.2 (610 + 72 * r + 6 * p + 4 + f) (by omega) (by omega)
  unfold ofS
  split <;> omega
theorem ofI_cong {g g' : Int → Int} (h : OldOk g) (hs : ∀ i, 600 ≤ i → i < 608 → g' i = g i) (hx : ∀ i, 610 ≤ i → i < 1186 → g' i = g i) (v x y f : Int) (hf : 0 ≤ f ∧ f < 2) : ofI g' v x y f = ofI g v x y f := by
  unfold ofI
  refine (nR_cong _ _ (fun r h0 h1 => (hs _ (by omega) (by omega)).symm) (fun r p s h0 h1 h2 h3 => ?_)).symm
  have a := h.1 r (by omega) (by omega)
  have hp2 : p < g (600 + r) := h3
  unfold ofS
  rw [hx _ (by omega) (by omega), hx _ (by omega) (by omega), hx _ (by omega) (by omega), hx _ (by omega) (by omega)]
def syK (g : Int → Int) (v s : Int) : Prop := 0 ≤ g (1190 + (3 * g 2 + v)) ∧ (g (1220 + 4 * v + 2 * 0) = 5 → 0 ≤ ofI g v (s / 100) (s % 100) 0) ∧ (g (1220 + 4 * v + 2 * 1) = 5 → 0 ≤ ofI g v (s / 100) (s % 100) 1)
def syM (g : Int → Int) (v s f : Int) : Int := mdI (g (1220 + 4 * v + 2 * f)) (g (1220 + 4 * v + 2 * f + 1)) (s / 100) (s % 100) (g (1340 + v)) (g (1240 + s / 100) - 1) (ofI g v (s / 100) (s % 100) f)
/-- a run's answer -/
def syI (g : Int → Int) (v s : Int) : Int → Int := upI (upI (upI (upI (upI (upI g (5 + 0) (syM g v s 0)) (5 + 1) (syM g v s 1)) (1240 + s / 100) (s % 100 + 1)) (1340 + v) (g (1340 + v) + 1)) 3 (g 3 + 1)) 2 (g (1190 + (3 * g 2 + v)))
theorem mdI_bd {x y a b d l t z : Int} (hz : 1000 ≤ z) (hy : -z ≤ y ∧ y ≤ z) (ha : -z ≤ a ∧ a ≤ z) (hb : -z ≤ b ∧ b ≤ z) (hd : -z ≤ d ∧ d ≤ z) (hl : -z ≤ l ∧ l ≤ z) (ht : -z ≤ t ∧ t ≤ z) : -(2 * z) ≤ mdI x y a b d l t ∧ mdI x y a b d l t ≤ 2 * z := by
  unfold mdI
  (repeat' split) <;> omega
theorem syM_bd {g : Int → Int} {v s : Int} (hN : RnOk g) (hO : OldOk g) (hv : 0 ≤ v ∧ v ≤ 2) (hs : 0 ≤ s ∧ s ≤ 9999) (f : Int) (hf : 0 ≤ f ∧ f < 2) : -100000 ≤ syM g v s f ∧ syM g v s f ≤ 100000 := by
  have a := hN.2.2.1 (1220 + 4 * v + 2 * f + 1) (by omega) (by omega)
  have b := hN.2.2.2.1 (1240 + s / 100) (by omega) (by omega)
  have c := hN.2.2.2.2 (1340 + v) (by omega) (by omega)
  have d := ofI_bd hO v (s / 100) (s % 100) f hf
  exact mdI_bd (z := 50000) (by omega) (by omega) (by omega) (by omega) (by omega) (by omega) (by omega)
theorem syW {g : Int → Int} {v : Int} (s : Int) (hO : OldOk g) (hv : 0 ≤ v ∧ v ≤ 2) (hs : 0 ≤ s ∧ s ≤ 9999) : upI (upI g (5 + 0) (syM g v s 0)) (5 + 1) (syM (upI g (5 + 0) (syM g v s 0)) v s 1) = upI (upI g (5 + 0) (syM g v s 0)) (5 + 1) (syM g v s 1) := by
  have e : ∀ j, 7 ≤ j → upI g (5 + 0) (syM g v s 0) j = g j := fun j hj => upI_ne _ _ (by omega)
  have e2 : ofI (upI g (5 + 0) (syM g v s 0)) v (s / 100) (s % 100) 1 = ofI g v (s / 100) (s % 100) 1 := ofI_cong hO (fun i h0 _ => e i (by omega)) (fun i h0 _ => e i (by omega)) _ _ _ _ (by omega)
  have e3 : syM (upI g (5 + 0) (syM g v s 0)) v s 1 = syM g v s 1 := by
    show mdI (upI g (5 + 0) (syM g v s 0) (1220 + 4 * v + 2 * 1)) (upI g (5 + 0) (syM g v s 0) (1220 + 4 * v + 2 * 1 + 1)) (s / 100) (s % 100) (upI g (5 + 0) (syM g v s 0) (1340 + v)) (upI g (5 + 0) (syM g v s 0) (1240 + s / 100) - 1) (ofI (upI g (5 + 0) (syM g v s 0)) v (s / 100) (s % 100) 1) = _
    rw [e _ (by omega), e _ (by omega), e _ (by omega), e _ (by omega), e2]
    rfl
  rw [e3]
theorem syE2 (g : Int → Int) {v s : Int} (hv : 0 ≤ v ∧ v ≤ 2) (hs : 0 ≤ s ∧ s ≤ 9999) (hst : 0 ≤ g 2 ∧ g 2 < 4) : upI (upI (upI (upI (upI (upI g (5 + 0) (syM g v s 0)) (5 + 1) (syM g v s 1)) (1240 + s / 100) (s % 100 + 1)) (1340 + v) ((upI (upI (upI g (5 + 0) (syM g v s 0)) (5 + 1) (syM g v s 1)) (1240 + s / 100) (s % 100 + 1)) (1340 + v) + 1)) 3 ((upI (upI (upI (upI g (5 + 0) (syM g v s 0)) (5 + 1) (syM g v s 1)) (1240 + s / 100) (s % 100 + 1)) (1340 + v) ((upI (upI (upI g (5 + 0) (syM g v s 0)) (5 + 1) (syM g v s 1)) (1240 + s / 100) (s % 100 + 1)) (1340 + v) + 1)) 3 + 1)) 2 ((upI (upI (upI (upI (upI g (5 + 0) (syM g v s 0)) (5 + 1) (syM g v s 1)) (1240 + s / 100) (s % 100 + 1)) (1340 + v) ((upI (upI (upI g (5 + 0) (syM g v s 0)) (5 + 1) (syM g v s 1)) (1240 + s / 100) (s % 100 + 1)) (1340 + v) + 1)) 3 ((upI (upI (upI (upI g (5 + 0) (syM g v s 0)) (5 + 1) (syM g v s 1)) (1240 + s / 100) (s % 100 + 1)) (1340 + v) ((upI (upI (upI g (5 + 0) (syM g v s 0)) (5 + 1) (syM g v s 1)) (1240 + s / 100) (s % 100 + 1)) (1340 + v) + 1)) 3 + 1)) (1190 + (3 * g 2 + v))) = syI g v s := by
  have e1 : (upI (upI (upI g (5 + 0) (syM g v s 0)) (5 + 1) (syM g v s 1)) (1240 + s / 100) (s % 100 + 1)) (1340 + v) = g (1340 + v) := by rw [upI_ne _ _ (by omega), upI_ne _ _ (by omega), upI_ne _ _ (by omega)]
  rw [e1]
  have e2 : (upI (upI (upI (upI g (5 + 0) (syM g v s 0)) (5 + 1) (syM g v s 1)) (1240 + s / 100) (s % 100 + 1)) (1340 + v) (g (1340 + v) + 1)) 3 = g 3 := by rw [upI_ne _ _ (by omega), upI_ne _ _ (by omega), upI_ne _ _ (by omega), upI_ne _ _ (by omega)]
  rw [e2]
  have e3 : (upI (upI (upI (upI (upI g (5 + 0) (syM g v s 0)) (5 + 1) (syM g v s 1)) (1240 + s / 100) (s % 100 + 1)) (1340 + v) (g (1340 + v) + 1)) 3 (g 3 + 1)) (1190 + (3 * g 2 + v)) = g (1190 + (3 * g 2 + v)) := by rw [upI_ne _ _ (by omega), upI_ne _ _ (by omega), upI_ne _ _ (by omega), upI_ne _ _ (by omega), upI_ne _ _ (by omega)]
  rw [e3]
  rfl
theorem syE1 (g : Int → Int) {v s : Int} (hv : 0 ≤ v ∧ v ≤ 2) (hs : 0 ≤ s ∧ s ≤ 9999) (hst : 0 ≤ g 2 ∧ g 2 < 4) : (upI (upI (upI (upI (upI (upI g (5 + 0) (syM g v s 0)) (5 + 1) (syM g v s 1)) (1240 + s / 100) (s % 100 + 1)) (1340 + v) ((upI (upI (upI g (5 + 0) (syM g v s 0)) (5 + 1) (syM g v s 1)) (1240 + s / 100) (s % 100 + 1)) (1340 + v) + 1)) 3 ((upI (upI (upI (upI g (5 + 0) (syM g v s 0)) (5 + 1) (syM g v s 1)) (1240 + s / 100) (s % 100 + 1)) (1340 + v) ((upI (upI (upI g (5 + 0) (syM g v s 0)) (5 + 1) (syM g v s 1)) (1240 + s / 100) (s % 100 + 1)) (1340 + v) + 1)) 3 + 1)) 2 ((upI (upI (upI (upI (upI g (5 + 0) (syM g v s 0)) (5 + 1) (syM g v s 1)) (1240 + s / 100) (s % 100 + 1)) (1340 + v) ((upI (upI (upI g (5 + 0) (syM g v s 0)) (5 + 1) (syM g v s 1)) (1240 + s / 100) (s % 100 + 1)) (1340 + v) + 1)) 3 ((upI (upI (upI (upI g (5 + 0) (syM g v s 0)) (5 + 1) (syM g v s 1)) (1240 + s / 100) (s % 100 + 1)) (1340 + v) ((upI (upI (upI g (5 + 0) (syM g v s 0)) (5 + 1) (syM g v s 1)) (1240 + s / 100) (s % 100 + 1)) (1340 + v) + 1)) 3 + 1)) (1190 + (3 * g 2 + v)))) (1202 + (3 * g 2 + v)) = g (1202 + (3 * g 2 + v)) := by
  rw [upI_ne _ _ (by omega), upI_ne _ _ (by omega), upI_ne _ _ (by omega), upI_ne _ _ (by omega), upI_ne _ _ (by omega), upI_ne _ _ (by omega)]
theorem f_X10_say_7 : Cond.fieldLink RX10 7 (TX10 0).1 (TX10 0).2.1 (TX10 0).2.2.1 ∈ wsX10_say := by decide +kernel
theorem i_X10_say_X10 : ∀ w ∈ wsX100, w ∈ wsX10_say := by decide +kernel
theorem e_X10_oldField : yX10_oldField.cls ≠ "java/lang/invoke/MethodHandle" ∧ yX10_oldField.cls ≠ "java/lang/invoke/VarHandle" ∧ (parseMethodDescriptor yX10_oldField.desc).map (fun d => d.parameters.length) = some 4 := by decide +kernel
theorem e_X10_made : yX10_made.cls ≠ "java/lang/invoke/MethodHandle" ∧ yX10_made.cls ≠ "java/lang/invoke/VarHandle" ∧ (parseMethodDescriptor yX10_made.desc).map (fun d => d.parameters.length) = some 7 := by decide +kernel
set_option maxRecDepth 100000 in
set_option maxHeartbeats 4000000 in
theorem c_X10_say (E : qE) (q0 : Nat) (q1 : Nat) (q2 : Nat) (q3 : Nat) (q4 : Nat) (q5 : Nat) (q6 : Nat) (q7 : Nat) (q8 : Nat) (q9 : Nat) (q10 : Nat) (q11 : Nat) (c0 : Int) (la : Int) (ch : Int) (us : Int) (g : Int → Int) (v : Int) (s : Int) (hG : AllOk g) (hO : OldOk g) (hN : RnOk g) (hv : -2147483648 ≤ v ∧ v < 2147483648) (hs : -2147483648 ≤ s ∧ s < 2147483648) : Cn E yX10_say wsX10_say { frames := 1, cells := 0, slots := 0, locals := 27 } [.ref q0, .int (iI v), .int (iI s)] [(q0, .inr (10, [.ref q1, .ref q2, .ref q3, .int (iI c0), .ref q4, .ref q5, .int (iI la), .ref q6, .ref q7, .ref q8, .ref q9, .ref q10, .ref q11, .int (iI ch), .int (iI us)])), (q1, ia E 5400 g)] (fun v9 w9 => ∃ (r : Int) (g1 : Int → Int), v9 = some (.int (iI r)) ∧ w9 = [(q0, .inr (10, [.ref q1, .ref q2, .ref q3, .int (iI c0), .ref q4, .ref q5, .int (iI la), .ref q6, .ref q7, .ref q8, .ref q9, .ref q10, .ref q11, .int (iI ch), .int (iI us)])), (q1, ia E 5400 g1)] ∧ (((g 1 ≠ 0 ∧ (0 ≤ v ∧ v ≤ 2) ∧ (0 ≤ s ∧ s ≤ 9999)) ∧ syK g v s ∧ r = g (1202 + (3 * g 2 + v)) ∧ g1 = syI g v s) ∨ ((g 1 ≠ 0 ∧ (0 ≤ v ∧ v ≤ 2) ∧ (0 ≤ s ∧ s ≤ 9999)) ∧ ¬ syK g v s ∧ r = -2 ∧ g1 = upI g 4 (g 4 + 1)) ∨ (¬ (g 1 ≠ 0 ∧ (0 ≤ v ∧ v ≤ 2) ∧ (0 ≤ s ∧ s ≤ 9999)) ∧ r = -1 ∧ g1 = g))) 0 0 := by
  refine Cn.ofP (own := RX10) (cc := cX10_say) (maxL := 9) (ret := (some .int)) false [(0, .ref q0), (1, .int (iI v)), (2, .int (iI s))] (by decide +kernel) rfl rfl (Nat.le_of_ble_eq_true rfl) rfl (fun h => nomatch h) (fun v w h => by obtain ⟨r, g1, rfl, h9⟩ := h; exact ⟨_, rfl, rfl⟩) ?_
  intro P G
  obtain ⟨hg, hg0, hgs⟩ := id hG
  have hst := hN.1
  refine g_aload_n G 0 dX10_say_0 rfl ?_
  refine g_get G 0 0 dX10_say_1 i_X10_say_X10 f_X10_say_7 rfl rfl (by decide) rfl ?_
  refine g_iconst G dX10_say_4 ?_
  refine g_iald G 1 dX10_say_5 rfl (by omega) (by omega) (by decide) ?_
  have b1 := hg 1
  refine g_if_eq G 29 dX10_say_6 (by decide) (by omega) (fun c6 => ?_) (fun c6 => ?_)
  · refine g_iconst G dX10_say_29 ?_
    exact g_ret G (some (.int (iI (-1)))) rfl dX10_say_30 (Nat.le_refl _) (Nat.le_refl _) ⟨(-1), g, rfl, rfl, by first | exact Or.inr (Or.inr ⟨by omega, rfl, rfl⟩) | (refine Or.inr (Or.inl ⟨hok, by rcases hk with q | q; (have := q.1; omega); exact q.2, rfl, rfl⟩); done) | (have hk2 : syK g v s := (by rcases hk with q | q; exact q.2; (have := q.1; omega)); refine Or.inl ⟨hok, hk2, ?_, ?_⟩; exact syE1 g hok.2.1 hok.2.2 hst; exact syE2 g hok.2.1 hok.2.2 hst)⟩
  · refine g_iload_n G 1 dX10_say_9 rfl ?_
    refine g_iconst G dX10_say_10 ?_
    refine g_iconst G dX10_say_11 ?_
    refine g_callS G [] [0, 1] 2 [(q0, .inr (10, [.ref q1, .ref q2, .ref q3, .int (iI c0), .ref q4, .ref q5, .int (iI la), .ref q6, .ref q7, .ref q8, .ref q9, .ref q10, .ref q11, .int (iI ch), .int (iI us)])), (q1, ia E 5400 g)] [.int (iI v), .int (iI 0), .int (iI 2)] [] (c_X10_isIn E v 0 2 (by first | assumption | omega) (by first | assumption | omega) (by first | assumption | omega)) dX10_say_12 gX10_say_X10_isIn ⟨rfl, ⟨rfl, rfl⟩, e_X10_isIn, ⟨Nat.le_of_ble_eq_true rfl, Nat.le_of_ble_eq_true rfl⟩, Nat.le_of_ble_eq_true rfl, Nat.le_of_ble_eq_true rfl, Nat.le_of_ble_eq_true rfl⟩ rfl (by decide +kernel) rfl (by decide +kernel) rfl (fun v9 w9 h9 => ?_)
    obtain ⟨o2, rfl, rfl, rfl⟩ := h9
    refine ⟨[(q0, .inr (10, [.ref q1, .ref q2, .ref q3, .int (iI c0), .ref q4, .ref q5, .int (iI la), .ref q6, .ref q7, .ref q8, .ref q9, .ref q10, .ref q11, .int (iI ch), .int (iI us)])), (q1, ia E 5400 g)], ⟨rfl, rfl, rfl, rfl⟩, g_to 0 0 _ _ [.int (iI (if 0 ≤ v ∧ v ≤ 2 then 1 else 0))] rfl rfl rfl rfl rfl ?_⟩
    refine g_ifb_eq G 29 dX10_say_15 (by decide) (fun c15 => ?_) (fun c15 => ?_)
    · refine g_iconst G dX10_say_29 ?_
      exact g_ret G (some (.int (iI (-1)))) rfl dX10_say_30 (Nat.le_refl _) (Nat.le_refl _) ⟨(-1), g, rfl, rfl, by first | exact Or.inr (Or.inr ⟨by omega, rfl, rfl⟩) | (refine Or.inr (Or.inl ⟨hok, by rcases hk with q | q; (have := q.1; omega); exact q.2, rfl, rfl⟩); done) | (have hk2 : syK g v s := (by rcases hk with q | q; exact q.2; (have := q.1; omega)); refine Or.inl ⟨hok, hk2, ?_, ?_⟩; exact syE1 g hok.2.1 hok.2.2 hst; exact syE2 g hok.2.1 hok.2.2 hst)⟩
    · refine g_iload_n G 2 dX10_say_18 rfl ?_
      refine g_iconst G dX10_say_19 ?_
      refine g_sipush G dX10_say_20 (by decide +kernel) ?_
      refine g_callS G [] [0, 1] 2 [(q0, .inr (10, [.ref q1, .ref q2, .ref q3, .int (iI c0), .ref q4, .ref q5, .int (iI la), .ref q6, .ref q7, .ref q8, .ref q9, .ref q10, .ref q11, .int (iI ch), .int (iI us)])), (q1, ia E 5400 g)] [.int (iI s), .int (iI 0), .int (iI 9999)] [] (c_X10_isIn E s 0 9999 (by first | assumption | omega) (by first | assumption | omega) (by first | assumption | omega)) dX10_say_23 gX10_say_X10_isIn ⟨rfl, ⟨rfl, rfl⟩, e_X10_isIn, ⟨Nat.le_of_ble_eq_true rfl, Nat.le_of_ble_eq_true rfl⟩, Nat.le_of_ble_eq_true rfl, Nat.le_of_ble_eq_true rfl, Nat.le_of_ble_eq_true rfl⟩ rfl (by decide +kernel) rfl (by decide +kernel) rfl (fun v9 w9 h9 => ?_)
      obtain ⟨o3, rfl, rfl, rfl⟩ := h9
      refine ⟨[(q0, .inr (10, [.ref q1, .ref q2, .ref q3, .int (iI c0), .ref q4, .ref q5, .int (iI la), .ref q6, .ref q7, .ref q8, .ref q9, .ref q10, .ref q11, .int (iI ch), .int (iI us)])), (q1, ia E 5400 g)], ⟨rfl, rfl, rfl, rfl⟩, g_to 0 0 _ _ [.int (iI (if 0 ≤ s ∧ s ≤ 9999 then 1 else 0))] rfl rfl rfl rfl rfl ?_⟩
      refine g_ifb_ne G 31 dX10_say_26 (by decide) (fun c26 => ?_) (fun c26 => ?_)
      · have hok : (g 1 ≠ 0 ∧ (0 ≤ v ∧ v ≤ 2) ∧ (0 ≤ s ∧ s ≤ 9999)) := ⟨by omega, by omega, by omega⟩
        refine g_iload_n G 2 dX10_say_31 rfl ?_
        refine g_bipush G dX10_say_32 (by decide +kernel) ?_
        refine g_idiv G dX10_say_34 (by omega) (by omega) (by omega) (by omega) ?_
        refine g_istore_n G [(0, .ref q0), (1, .int (iI v)), (2, .int (iI s)), (3, .int (iI (s / 100)))] dX10_say_35 (by decide) rfl rfl ?_
        refine g_iload_n G 2 dX10_say_36 rfl ?_
        refine g_bipush G dX10_say_37 (by decide +kernel) ?_
        refine g_irem G dX10_say_39 (by omega) (by omega) (by omega) (by omega) ?_
        refine g_istore G [(0, .ref q0), (1, .int (iI v)), (2, .int (iI s)), (3, .int (iI (s / 100))), (4, .int (iI (s % 100)))] dX10_say_40 (by decide) rfl rfl ?_
        refine g_iconst G dX10_say_42 ?_
        refine g_aload_n G 0 dX10_say_43 rfl ?_
        refine g_get G 0 0 dX10_say_44 i_X10_say_X10 f_X10_say_7 rfl rfl (by decide) rfl ?_
        refine g_iconst G dX10_say_47 ?_
        refine g_iald G 1 dX10_say_48 rfl (by omega) (by omega) (by decide) ?_
        have b4 := hg 2
        refine g_imul G dX10_say_49 ?_
        refine g_iload_n G 1 dX10_say_50 rfl ?_
        refine g_iadd G dX10_say_51 ?_
        refine g_istore G [(0, .ref q0), (1, .int (iI v)), (2, .int (iI s)), (3, .int (iI (s / 100))), (4, .int (iI (s % 100))), (5, .int (iI ((3 * (g 2)) + v)))] dX10_say_52 (by decide) rfl rfl ?_
        refine g_sipush G dX10_say_54 (by decide +kernel) ?_
        refine g_iconst G dX10_say_57 ?_
        refine g_iload_n G 1 dX10_say_58 rfl ?_
        refine g_imul G dX10_say_59 ?_
        refine g_iadd G dX10_say_60 ?_
        refine g_istore G [(0, .ref q0), (1, .int (iI v)), (2, .int (iI s)), (3, .int (iI (s / 100))), (4, .int (iI (s % 100))), (5, .int (iI ((3 * (g 2)) + v))), (6, .int (iI (1220 + (4 * v))))] dX10_say_61 (by decide) rfl rfl ?_
        refine g_aload_n G 0 dX10_say_63 rfl ?_
        refine g_get G 0 0 dX10_say_64 i_X10_say_X10 f_X10_say_7 rfl rfl (by decide) rfl ?_
        refine g_sipush G dX10_say_67 (by decide +kernel) ?_
        refine g_iload G 5 dX10_say_70 rfl ?_
        refine g_iadd G dX10_say_72 ?_
        refine g_iald G 1 dX10_say_73 rfl (by omega) (by omega) (by decide) ?_
        have b5 := hg (1190 + ((3 * (g 2)) + v))
        refine g_if_lt G 81 dX10_say_74 (by decide) (by omega) (fun c74 => ?_) (fun c74 => ?_)
        · refine g_iconst G dX10_say_81 ?_
          refine g_istore G [(0, .ref q0), (1, .int (iI v)), (2, .int (iI s)), (3, .int (iI (s / 100))), (4, .int (iI (s % 100))), (5, .int (iI ((3 * (g 2)) + v))), (6, .int (iI (1220 + (4 * v)))), (7, .int (iI 0))] dX10_say_82 (by decide) rfl rfl ?_
          have L140 : ∀ (kn : Int), ((kn = 1 ∧ syK g v s) ∨ (kn = 0 ∧ ¬ syK g v s)) → P 0 0 [(q0, .inr (10, [.ref q1, .ref q2, .ref q3, .int (iI c0), .ref q4, .ref q5, .int (iI la), .ref q6, .ref q7, .ref q8, .ref q9, .ref q10, .ref q11, .int (iI ch), .int (iI us)])), (q1, ia E 5400 g)] 140 [(0, .ref q0), (1, .int (iI v)), (2, .int (iI s)), (3, .int (iI (s / 100))), (4, .int (iI (s % 100))), (5, .int (iI ((3 * (g 2)) + v))), (6, .int (iI (1220 + (4 * v)))), (7, .int (iI kn)), (8, .int (iI 2))] [] := by
            intro kn hk
            refine g_iload G 7 dX10_say_140 rfl ?_
            refine g_if_ne G 158 dX10_say_142 (by decide) (by omega) (fun c142 => ?_) (fun c142 => ?_)
            · refine g_iconst G dX10_say_158 ?_
              refine g_istore G [(0, .ref q0), (1, .int (iI v)), (2, .int (iI s)), (3, .int (iI (s / 100))), (4, .int (iI (s % 100))), (5, .int (iI ((3 * (g 2)) + v))), (6, .int (iI (1220 + (4 * v)))), (7, .int (iI kn)), (8, .int (iI 0))] dX10_say_159 (by decide) rfl rfl ?_
              refine g_iload G 8 dX10_say_161 rfl ?_
              refine g_iconst G dX10_say_163 ?_
              refine g_icmp_ge G 246 dX10_say_164 (by decide) (by omega) (by omega) (fun c164 => ?_) (fun c164 => ?_)
              · exfalso; omega
              · have hO2 := hO.up (5 + 0) (syM g v s 0) (by omega)
                have hG2 := hG.up (5 + 0) (syM g v s 0) (by omega) (syM_bd hN hO hok.2.1 hok.2.2 0 (by omega))
                refine g_aload_n G 0 dX10_say_167 rfl ?_
                refine g_get G 0 0 dX10_say_168 i_X10_say_X10 f_X10_say_7 rfl rfl (by decide) rfl ?_
                refine g_iconst G dX10_say_171 ?_
                refine g_iload G 8 dX10_say_172 rfl ?_
                refine g_iadd G dX10_say_174 ?_
                refine g_aload_n G 0 dX10_say_175 rfl ?_
                refine g_get G 0 0 dX10_say_176 i_X10_say_X10 f_X10_say_7 rfl rfl (by decide) rfl ?_
                refine g_iload G 6 dX10_say_179 rfl ?_
                refine g_iconst G dX10_say_181 ?_
                refine g_iload G 8 dX10_say_182 rfl ?_
                refine g_imul G dX10_say_184 ?_
                refine g_iadd G dX10_say_185 ?_
                refine g_iald G 1 dX10_say_186 rfl (by omega) (by omega) (by decide) ?_
                have b6 := hg ((1220 + (4 * v)) + (2 * 0))
                refine g_aload_n G 0 dX10_say_187 rfl ?_
                refine g_get G 0 0 dX10_say_188 i_X10_say_X10 f_X10_say_7 rfl rfl (by decide) rfl ?_
                refine g_iload G 6 dX10_say_191 rfl ?_
                refine g_iconst G dX10_say_193 ?_
                refine g_iload G 8 dX10_say_194 rfl ?_
                refine g_imul G dX10_say_196 ?_
                refine g_iadd G dX10_say_197 ?_
                refine g_iconst G dX10_say_198 ?_
                refine g_iadd G dX10_say_199 ?_
                refine g_iald G 1 dX10_say_200 rfl (by omega) (by omega) (by decide) ?_
                have b7 := hg (((1220 + (4 * v)) + (2 * 0)) + 1)
                refine g_iload_n G 3 dX10_say_201 rfl ?_
                refine g_iload G 4 dX10_say_202 rfl ?_
                refine g_aload_n G 0 dX10_say_204 rfl ?_
                refine g_get G 0 0 dX10_say_205 i_X10_say_X10 f_X10_say_7 rfl rfl (by decide) rfl ?_
                refine g_sipush G dX10_say_208 (by decide +kernel) ?_
                refine g_iload_n G 1 dX10_say_211 rfl ?_
                refine g_iadd G dX10_say_212 ?_
                refine g_iald G 1 dX10_say_213 rfl (by omega) (by omega) (by decide) ?_
                have b8 := hg (1340 + v)
                refine g_aload_n G 0 dX10_say_214 rfl ?_
                refine g_get G 0 0 dX10_say_215 i_X10_say_X10 f_X10_say_7 rfl rfl (by decide) rfl ?_
                refine g_sipush G dX10_say_218 (by decide +kernel) ?_
                refine g_iload_n G 3 dX10_say_221 rfl ?_
                refine g_iadd G dX10_say_222 ?_
                refine g_iald G 1 dX10_say_223 rfl (by omega) (by omega) (by decide) ?_
                have b9 := hg (1240 + (s / 100))
                refine g_iconst G dX10_say_224 ?_
                refine g_isub G dX10_say_225 ?_
                refine g_aload_n G 0 dX10_say_226 rfl ?_
                refine g_iload_n G 1 dX10_say_227 rfl ?_
                refine g_iload_n G 3 dX10_say_228 rfl ?_
                refine g_iload G 4 dX10_say_229 rfl ?_
                refine g_iload G 8 dX10_say_231 rfl ?_
                refine g_callV G [0, 1] [] 2 [] [.int (iI v), .int (iI (s / 100)), .int (iI (s % 100)), .int (iI 0)] [.int (iI ((g (1240 + (s / 100))) - 1)), .int (iI (g (1340 + v))), .int (iI (s % 100)), .int (iI (s / 100)), .int (iI (g (((1220 + (4 * v)) + (2 * 0)) + 1))), .int (iI (g ((1220 + (4 * v)) + (2 * 0)))), .int (iI (5 + 0)), .ref q1] (c_X10_oldField E q0 q1 q2 q3 q4 q5 q6 q7 q8 q9 q10 q11 c0 la ch us g v (s / 100) (s % 100) 0 (by first | exact hG | exact hG2) (by omega) (by omega) (by omega) (by first | assumption | omega) (by first | exact hO | exact hO2)) dX10_say_233 gX10_say_X10_oldField ⟨rfl, ⟨rfl, rfl⟩, e_X10_oldField, ⟨Nat.le_of_ble_eq_true rfl, Nat.le_of_ble_eq_true rfl⟩, Nat.le_of_ble_eq_true rfl, Nat.le_of_ble_eq_true rfl, Nat.le_of_ble_eq_true rfl⟩ rfl rfl rfl rfl rfl (by decide +kernel) rfl (by decide +kernel) rfl (fun v9 w9 h9 => ?_)
                obtain ⟨o10, rfl, rfl, rfl⟩ := h9
                refine ⟨[(q0, .inr (10, [.ref q1, .ref q2, .ref q3, .int (iI c0), .ref q4, .ref q5, .int (iI la), .ref q6, .ref q7, .ref q8, .ref q9, .ref q10, .ref q11, .int (iI ch), .int (iI us)])), (q1, ia E 5400 g)], ⟨rfl, rfl, rfl, rfl⟩, g_to 0 0 _ _ [.int (iI (ofI g v (s / 100) (s % 100) 0)), .int (iI ((g (1240 + (s / 100))) - 1)), .int (iI (g (1340 + v))), .int (iI (s % 100)), .int (iI (s / 100)), .int (iI (g (((1220 + (4 * v)) + (2 * 0)) + 1))), .int (iI (g ((1220 + (4 * v)) + (2 * 0)))), .int (iI (5 + 0)), .ref q1] rfl rfl rfl rfl rfl ?_⟩
                refine g_callS G [] [0, 1] 2 [(q0, .inr (10, [.ref q1, .ref q2, .ref q3, .int (iI c0), .ref q4, .ref q5, .int (iI la), .ref q6, .ref q7, .ref q8, .ref q9, .ref q10, .ref q11, .int (iI ch), .int (iI us)])), (q1, ia E 5400 g)] [.int (iI (g ((1220 + (4 * v)) + (2 * 0)))), .int (iI (g (((1220 + (4 * v)) + (2 * 0)) + 1))), .int (iI (s / 100)), .int (iI (s % 100)), .int (iI (g (1340 + v))), .int (iI ((g (1240 + (s / 100))) - 1)), .int (iI (ofI g v (s / 100) (s % 100) 0))] [.int (iI (5 + 0)), .ref q1] (c_X10_made E (g ((1220 + (4 * v)) + (2 * 0))) (g (((1220 + (4 * v)) + (2 * 0)) + 1)) (s / 100) (s % 100) (g (1340 + v)) ((g (1240 + (s / 100))) - 1) (ofI g v (s / 100) (s % 100) 0) (by first | (have q := hG.1 (1220 + 4 * v + 2 * 0); omega) | (have q := hG2.1 (1220 + 4 * v + 2 * 1); unfold syM at q; omega)) (by first | (have q := hG.1 (1240 + s / 100); omega) | (have q := hG2.1 (1240 + s / 100); unfold syM at q; omega))) dX10_say_236 gX10_say_X10_made ⟨rfl, ⟨rfl, rfl⟩, e_X10_made, ⟨Nat.le_of_ble_eq_true rfl, Nat.le_of_ble_eq_true rfl⟩, Nat.le_of_ble_eq_true rfl, Nat.le_of_ble_eq_true rfl, Nat.le_of_ble_eq_true rfl⟩ rfl (by decide +kernel) rfl (by decide +kernel) rfl (fun v9 w9 h9 => ?_)
                obtain ⟨o11, rfl, rfl, rfl⟩ := h9
                refine ⟨[(q0, .inr (10, [.ref q1, .ref q2, .ref q3, .int (iI c0), .ref q4, .ref q5, .int (iI la), .ref q6, .ref q7, .ref q8, .ref q9, .ref q10, .ref q11, .int (iI ch), .int (iI us)])), (q1, ia E 5400 g)], ⟨rfl, rfl, rfl, rfl⟩, g_to 0 0 _ _ [.int (iI (mdI (g ((1220 + (4 * v)) + (2 * 0))) (g (((1220 + (4 * v)) + (2 * 0)) + 1)) (s / 100) (s % 100) (g (1340 + v)) ((g (1240 + (s / 100))) - 1) (ofI g v (s / 100) (s % 100) 0))), .int (iI (5 + 0)), .ref q1] rfl rfl rfl rfl rfl ?_⟩
                refine g_iast G 1 [(q0, .inr (10, [.ref q1, .ref q2, .ref q3, .int (iI c0), .ref q4, .ref q5, .int (iI la), .ref q6, .ref q7, .ref q8, .ref q9, .ref q10, .ref q11, .int (iI ch), .int (iI us)])), (q1, ia E 5400 (upI g (5 + 0) (mdI (g ((1220 + (4 * v)) + (2 * 0))) (g (((1220 + (4 * v)) + (2 * 0)) + 1)) (s / 100) (s % 100) (g (1340 + v)) ((g (1240 + (s / 100))) - 1) (ofI g v (s / 100) (s % 100) 0))))] dX10_say_239 rfl (by omega) (by omega) (by decide) rfl ?_
                refine g_iinc G 8 [(0, .ref q0), (1, .int (iI v)), (2, .int (iI s)), (3, .int (iI (s / 100))), (4, .int (iI (s % 100))), (5, .int (iI ((3 * (g 2)) + v))), (6, .int (iI (1220 + (4 * v)))), (7, .int (iI kn)), (8, .int (iI 1))] dX10_say_240 rfl (by decide) rfl rfl ?_
                refine g_goto G 161 dX10_say_243 (by decide) ?_
                refine g_iload G 8 dX10_say_161 rfl ?_
                refine g_iconst G dX10_say_163 ?_
                refine g_icmp_ge G 246 dX10_say_164 (by decide) (by omega) (by omega) (fun c164_2 => ?_) (fun c164_2 => ?_)
                · exfalso; omega
                · have hO2 := hO.up (5 + 0) (syM g v s 0) (by omega)
                  have hG2 := hG.up (5 + 0) (syM g v s 0) (by omega) (syM_bd hN hO hok.2.1 hok.2.2 0 (by omega))
                  refine g_aload_n G 0 dX10_say_167 rfl ?_
                  refine g_get G 0 0 dX10_say_168 i_X10_say_X10 f_X10_say_7 rfl rfl (by decide) rfl ?_
                  refine g_iconst G dX10_say_171 ?_
                  refine g_iload G 8 dX10_say_172 rfl ?_
                  refine g_iadd G dX10_say_174 ?_
                  refine g_aload_n G 0 dX10_say_175 rfl ?_
                  refine g_get G 0 0 dX10_say_176 i_X10_say_X10 f_X10_say_7 rfl rfl (by decide) rfl ?_
                  refine g_iload G 6 dX10_say_179 rfl ?_
                  refine g_iconst G dX10_say_181 ?_
                  refine g_iload G 8 dX10_say_182 rfl ?_
                  refine g_imul G dX10_say_184 ?_
                  refine g_iadd G dX10_say_185 ?_
                  refine g_iald G 1 dX10_say_186 rfl (by omega) (by omega) (by decide) ?_
                  refine g_aload_n G 0 dX10_say_187 rfl ?_
                  refine g_get G 0 0 dX10_say_188 i_X10_say_X10 f_X10_say_7 rfl rfl (by decide) rfl ?_
                  refine g_iload G 6 dX10_say_191 rfl ?_
                  refine g_iconst G dX10_say_193 ?_
                  refine g_iload G 8 dX10_say_194 rfl ?_
                  refine g_imul G dX10_say_196 ?_
                  refine g_iadd G dX10_say_197 ?_
                  refine g_iconst G dX10_say_198 ?_
                  refine g_iadd G dX10_say_199 ?_
                  refine g_iald G 1 dX10_say_200 rfl (by omega) (by omega) (by decide) ?_
                  refine g_iload_n G 3 dX10_say_201 rfl ?_
                  refine g_iload G 4 dX10_say_202 rfl ?_
                  refine g_aload_n G 0 dX10_say_204 rfl ?_
                  refine g_get G 0 0 dX10_say_205 i_X10_say_X10 f_X10_say_7 rfl rfl (by decide) rfl ?_
                  refine g_sipush G dX10_say_208 (by decide +kernel) ?_
                  refine g_iload_n G 1 dX10_say_211 rfl ?_
                  refine g_iadd G dX10_say_212 ?_
                  refine g_iald G 1 dX10_say_213 rfl (by omega) (by omega) (by decide) ?_
                  refine g_aload_n G 0 dX10_say_214 rfl ?_
                  refine g_get G 0 0 dX10_say_215 i_X10_say_X10 f_X10_say_7 rfl rfl (by decide) rfl ?_
                  refine g_sipush G dX10_say_218 (by decide +kernel) ?_
                  refine g_iload_n G 3 dX10_say_221 rfl ?_
                  refine g_iadd G dX10_say_222 ?_
                  refine g_iald G 1 dX10_say_223 rfl (by omega) (by omega) (by decide) ?_
                  refine g_iconst G dX10_say_224 ?_
                  refine g_isub G dX10_say_225 ?_
                  refine g_aload_n G 0 dX10_say_226 rfl ?_
                  refine g_iload_n G 1 dX10_say_227 rfl ?_
                  refine g_iload_n G 3 dX10_say_228 rfl ?_
                  refine g_iload G 4 dX10_say_229 rfl ?_
                  refine g_iload G 8 dX10_say_231 rfl ?_
                  refine g_callV G [0, 1] [] 2 [] [.int (iI v), .int (iI (s / 100)), .int (iI (s % 100)), .int (iI 1)] [.int (iI (((upI g (5 + 0) (mdI (g ((1220 + (4 * v)) + (2 * 0))) (g (((1220 + (4 * v)) + (2 * 0)) + 1)) (s / 100) (s % 100) (g (1340 + v)) ((g (1240 + (s / 100))) - 1) (ofI g v (s / 100) (s % 100) 0))) (1240 + (s / 100))) - 1)), .int (iI ((upI g (5 + 0) (mdI (g ((1220 + (4 * v)) + (2 * 0))) (g (((1220 + (4 * v)) + (2 * 0)) + 1)) (s / 100) (s % 100) (g (1340 + v)) ((g (1240 + (s / 100))) - 1) (ofI g v (s / 100) (s % 100) 0))) (1340 + v))), .int (iI (s % 100)), .int (iI (s / 100)), .int (iI ((upI g (5 + 0) (mdI (g ((1220 + (4 * v)) + (2 * 0))) (g (((1220 + (4 * v)) + (2 * 0)) + 1)) (s / 100) (s % 100) (g (1340 + v)) ((g (1240 + (s / 100))) - 1) (ofI g v (s / 100) (s % 100) 0))) (((1220 + (4 * v)) + (2 * 1)) + 1))), .int (iI ((upI g (5 + 0) (mdI (g ((1220 + (4 * v)) + (2 * 0))) (g (((1220 + (4 * v)) + (2 * 0)) + 1)) (s / 100) (s % 100) (g (1340 + v)) ((g (1240 + (s / 100))) - 1) (ofI g v (s / 100) (s % 100) 0))) ((1220 + (4 * v)) + (2 * 1)))), .int (iI (5 + 1)), .ref q1] (c_X10_oldField E q0 q1 q2 q3 q4 q5 q6 q7 q8 q9 q10 q11 c0 la ch us (upI g (5 + 0) (mdI (g ((1220 + (4 * v)) + (2 * 0))) (g (((1220 + (4 * v)) + (2 * 0)) + 1)) (s / 100) (s % 100) (g (1340 + v)) ((g (1240 + (s / 100))) - 1) (ofI g v (s / 100) (s % 100) 0))) v (s / 100) (s % 100) 1 (by first | exact hG | exact hG2) (by omega) (by omega) (by omega) (by first | assumption | omega) (by first | exact hO | exact hO2)) dX10_say_233 gX10_say_X10_oldField ⟨rfl, ⟨rfl, rfl⟩, e_X10_oldField, ⟨Nat.le_of_ble_eq_true rfl, Nat.le_of_ble_eq_true rfl⟩, Nat.le_of_ble_eq_true rfl, Nat.le_of_ble_eq_true rfl, Nat.le_of_ble_eq_true rfl⟩ rfl rfl rfl rfl rfl (by decide +kernel) rfl (by decide +kernel) rfl (fun v9 w9 h9 => ?_)
                  obtain ⟨o12, rfl, rfl, rfl⟩ := h9
                  refine ⟨[(q0, .inr (10, [.ref q1, .ref q2, .ref q3, .int (iI c0), .ref q4, .ref q5, .int (iI la), .ref q6, .ref q7, .ref q8, .ref q9, .ref q10, .ref q11, .int (iI ch), .int (iI us)])), (q1, ia E 5400 (upI g (5 + 0) (mdI (g ((1220 + (4 * v)) + (2 * 0))) (g (((1220 + (4 * v)) + (2 * 0)) + 1)) (s / 100) (s % 100) (g (1340 + v)) ((g (1240 + (s / 100))) - 1) (ofI g v (s / 100) (s % 100) 0))))], ⟨rfl, rfl, rfl, rfl⟩, g_to 0 0 _ _ [.int (iI (ofI (upI g (5 + 0) (mdI (g ((1220 + (4 * v)) + (2 * 0))) (g (((1220 + (4 * v)) + (2 * 0)) + 1)) (s / 100) (s % 100) (g (1340 + v)) ((g (1240 + (s / 100))) - 1) (ofI g v (s / 100) (s % 100) 0))) v (s / 100) (s % 100) 1)), .int (iI (((upI g (5 + 0) (mdI (g ((1220 + (4 * v)) + (2 * 0))) (g (((1220 + (4 * v)) + (2 * 0)) + 1)) (s / 100) (s % 100) (g (1340 + v)) ((g (1240 + (s / 100))) - 1) (ofI g v (s / 100) (s % 100) 0))) (1240 + (s / 100))) - 1)), .int (iI ((upI g (5 + 0) (mdI (g ((1220 + (4 * v)) + (2 * 0))) (g (((1220 + (4 * v)) + (2 * 0)) + 1)) (s / 100) (s % 100) (g (1340 + v)) ((g (1240 + (s / 100))) - 1) (ofI g v (s / 100) (s % 100) 0))) (1340 + v))), .int (iI (s % 100)), .int (iI (s / 100)), .int (iI ((upI g (5 + 0) (mdI (g ((1220 + (4 * v)) + (2 * 0))) (g (((1220 + (4 * v)) + (2 * 0)) + 1)) (s / 100) (s % 100) (g (1340 + v)) ((g (1240 + (s / 100))) - 1) (ofI g v (s / 100) (s % 100) 0))) (((1220 + (4 * v)) + (2 * 1)) + 1))), .int (iI ((upI g (5 + 0) (mdI (g ((1220 + (4 * v)) + (2 * 0))) (g (((1220 + (4 * v)) + (2 * 0)) + 1)) (s / 100) (s % 100) (g (1340 + v)) ((g (1240 + (s / 100))) - 1) (ofI g v (s / 100) (s % 100) 0))) ((1220 + (4 * v)) + (2 * 1)))), .int (iI (5 + 1)), .ref q1] rfl rfl rfl rfl rfl ?_⟩
                  refine g_callS G [] [0, 1] 2 [(q0, .inr (10, [.ref q1, .ref q2, .ref q3, .int (iI c0), .ref q4, .ref q5, .int (iI la), .ref q6, .ref q7, .ref q8, .ref q9, .ref q10, .ref q11, .int (iI ch), .int (iI us)])), (q1, ia E 5400 (upI g (5 + 0) (mdI (g ((1220 + (4 * v)) + (2 * 0))) (g (((1220 + (4 * v)) + (2 * 0)) + 1)) (s / 100) (s % 100) (g (1340 + v)) ((g (1240 + (s / 100))) - 1) (ofI g v (s / 100) (s % 100) 0))))] [.int (iI ((upI g (5 + 0) (mdI (g ((1220 + (4 * v)) + (2 * 0))) (g (((1220 + (4 * v)) + (2 * 0)) + 1)) (s / 100) (s % 100) (g (1340 + v)) ((g (1240 + (s / 100))) - 1) (ofI g v (s / 100) (s % 100) 0))) ((1220 + (4 * v)) + (2 * 1)))), .int (iI ((upI g (5 + 0) (mdI (g ((1220 + (4 * v)) + (2 * 0))) (g (((1220 + (4 * v)) + (2 * 0)) + 1)) (s / 100) (s % 100) (g (1340 + v)) ((g (1240 + (s / 100))) - 1) (ofI g v (s / 100) (s % 100) 0))) (((1220 + (4 * v)) + (2 * 1)) + 1))), .int (iI (s / 100)), .int (iI (s % 100)), .int (iI ((upI g (5 + 0) (mdI (g ((1220 + (4 * v)) + (2 * 0))) (g (((1220 + (4 * v)) + (2 * 0)) + 1)) (s / 100) (s % 100) (g (1340 + v)) ((g (1240 + (s / 100))) - 1) (ofI g v (s / 100) (s % 100) 0))) (1340 + v))), .int (iI (((upI g (5 + 0) (mdI (g ((1220 + (4 * v)) + (2 * 0))) (g (((1220 + (4 * v)) + (2 * 0)) + 1)) (s / 100) (s % 100) (g (1340 + v)) ((g (1240 + (s / 100))) - 1) (ofI g v (s / 100) (s % 100) 0))) (1240 + (s / 100))) - 1)), .int (iI (ofI (upI g (5 + 0) (mdI (g ((1220 + (4 * v)) + (2 * 0))) (g (((1220 + (4 * v)) + (2 * 0)) + 1)) (s / 100) (s % 100) (g (1340 + v)) ((g (1240 + (s / 100))) - 1) (ofI g v (s / 100) (s % 100) 0))) v (s / 100) (s % 100) 1))] [.int (iI (5 + 1)), .ref q1] (c_X10_made E ((upI g (5 + 0) (mdI (g ((1220 + (4 * v)) + (2 * 0))) (g (((1220 + (4 * v)) + (2 * 0)) + 1)) (s / 100) (s % 100) (g (1340 + v)) ((g (1240 + (s / 100))) - 1) (ofI g v (s / 100) (s % 100) 0))) ((1220 + (4 * v)) + (2 * 1))) ((upI g (5 + 0) (mdI (g ((1220 + (4 * v)) + (2 * 0))) (g (((1220 + (4 * v)) + (2 * 0)) + 1)) (s / 100) (s % 100) (g (1340 + v)) ((g (1240 + (s / 100))) - 1) (ofI g v (s / 100) (s % 100) 0))) (((1220 + (4 * v)) + (2 * 1)) + 1)) (s / 100) (s % 100) ((upI g (5 + 0) (mdI (g ((1220 + (4 * v)) + (2 * 0))) (g (((1220 + (4 * v)) + (2 * 0)) + 1)) (s / 100) (s % 100) (g (1340 + v)) ((g (1240 + (s / 100))) - 1) (ofI g v (s / 100) (s % 100) 0))) (1340 + v)) (((upI g (5 + 0) (mdI (g ((1220 + (4 * v)) + (2 * 0))) (g (((1220 + (4 * v)) + (2 * 0)) + 1)) (s / 100) (s % 100) (g (1340 + v)) ((g (1240 + (s / 100))) - 1) (ofI g v (s / 100) (s % 100) 0))) (1240 + (s / 100))) - 1) (ofI (upI g (5 + 0) (mdI (g ((1220 + (4 * v)) + (2 * 0))) (g (((1220 + (4 * v)) + (2 * 0)) + 1)) (s / 100) (s % 100) (g (1340 + v)) ((g (1240 + (s / 100))) - 1) (ofI g v (s / 100) (s % 100) 0))) v (s / 100) (s % 100) 1) (by first | (have q := hG.1 (1220 + 4 * v + 2 * 0); omega) | (have q := hG2.1 (1220 + 4 * v + 2 * 1); unfold syM at q; omega)) (by first | (have q := hG.1 (1240 + s / 100); omega) | (have q := hG2.1 (1240 + s / 100); unfold syM at q; omega))) dX10_say_236 gX10_say_X10_made ⟨rfl, ⟨rfl, rfl⟩, e_X10_made, ⟨Nat.le_of_ble_eq_true rfl, Nat.le_of_ble_eq_true rfl⟩, Nat.le_of_ble_eq_true rfl, Nat.le_of_ble_eq_true rfl, Nat.le_of_ble_eq_true rfl⟩ rfl (by decide +kernel) rfl (by decide +kernel) rfl (fun v9 w9 h9 => ?_)
                  obtain ⟨o13, rfl, rfl, rfl⟩ := h9
                  refine ⟨[(q0, .inr (10, [.ref q1, .ref q2, .ref q3, .int (iI c0), .ref q4, .ref q5, .int (iI la), .ref q6, .ref q7, .ref q8, .ref q9, .ref q10, .ref q11, .int (iI ch), .int (iI us)])), (q1, ia E 5400 (upI g (5 + 0) (mdI (g ((1220 + (4 * v)) + (2 * 0))) (g (((1220 + (4 * v)) + (2 * 0)) + 1)) (s / 100) (s % 100) (g (1340 + v)) ((g (1240 + (s / 100))) - 1) (ofI g v (s / 100) (s % 100) 0))))], ⟨rfl, rfl, rfl, rfl⟩, g_to 0 0 _ _ [.int (iI (mdI ((upI g (5 + 0) (mdI (g ((1220 + (4 * v)) + (2 * 0))) (g (((1220 + (4 * v)) + (2 * 0)) + 1)) (s / 100) (s % 100) (g (1340 + v)) ((g (1240 + (s / 100))) - 1) (ofI g v (s / 100) (s % 100) 0))) ((1220 + (4 * v)) + (2 * 1))) ((upI g (5 + 0) (mdI (g ((1220 + (4 * v)) + (2 * 0))) (g (((1220 + (4 * v)) + (2 * 0)) + 1)) (s / 100) (s % 100) (g (1340 + v)) ((g (1240 + (s / 100))) - 1) (ofI g v (s / 100) (s % 100) 0))) (((1220 + (4 * v)) + (2 * 1)) + 1)) (s / 100) (s % 100) ((upI g (5 + 0) (mdI (g ((1220 + (4 * v)) + (2 * 0))) (g (((1220 + (4 * v)) + (2 * 0)) + 1)) (s / 100) (s % 100) (g (1340 + v)) ((g (1240 + (s / 100))) - 1) (ofI g v (s / 100) (s % 100) 0))) (1340 + v)) (((upI g (5 + 0) (mdI (g ((1220 + (4 * v)) + (2 * 0))) (g (((1220 + (4 * v)) + (2 * 0)) + 1)) (s / 100) (s % 100) (g (1340 + v)) ((g (1240 + (s / 100))) - 1) (ofI g v (s / 100) (s % 100) 0))) (1240 + (s / 100))) - 1) (ofI (upI g (5 + 0) (mdI (g ((1220 + (4 * v)) + (2 * 0))) (g (((1220 + (4 * v)) + (2 * 0)) + 1)) (s / 100) (s % 100) (g (1340 + v)) ((g (1240 + (s / 100))) - 1) (ofI g v (s / 100) (s % 100) 0))) v (s / 100) (s % 100) 1))), .int (iI (5 + 1)), .ref q1] rfl rfl rfl rfl rfl ?_⟩
                  refine g_iast G 1 [(q0, .inr (10, [.ref q1, .ref q2, .ref q3, .int (iI c0), .ref q4, .ref q5, .int (iI la), .ref q6, .ref q7, .ref q8, .ref q9, .ref q10, .ref q11, .int (iI ch), .int (iI us)])), (q1, ia E 5400 (upI (upI g (5 + 0) (mdI (g ((1220 + (4 * v)) + (2 * 0))) (g (((1220 + (4 * v)) + (2 * 0)) + 1)) (s / 100) (s % 100) (g (1340 + v)) ((g (1240 + (s / 100))) - 1) (ofI g v (s / 100) (s % 100) 0))) (5 + 1) (mdI ((upI g (5 + 0) (mdI (g ((1220 + (4 * v)) + (2 * 0))) (g (((1220 + (4 * v)) + (2 * 0)) + 1)) (s / 100) (s % 100) (g (1340 + v)) ((g (1240 + (s / 100))) - 1) (ofI g v (s / 100) (s % 100) 0))) ((1220 + (4 * v)) + (2 * 1))) ((upI g (5 + 0) (mdI (g ((1220 + (4 * v)) + (2 * 0))) (g (((1220 + (4 * v)) + (2 * 0)) + 1)) (s / 100) (s % 100) (g (1340 + v)) ((g (1240 + (s / 100))) - 1) (ofI g v (s / 100) (s % 100) 0))) (((1220 + (4 * v)) + (2 * 1)) + 1)) (s / 100) (s % 100) ((upI g (5 + 0) (mdI (g ((1220 + (4 * v)) + (2 * 0))) (g (((1220 + (4 * v)) + (2 * 0)) + 1)) (s / 100) (s % 100) (g (1340 + v)) ((g (1240 + (s / 100))) - 1) (ofI g v (s / 100) (s % 100) 0))) (1340 + v)) (((upI g (5 + 0) (mdI (g ((1220 + (4 * v)) + (2 * 0))) (g (((1220 + (4 * v)) + (2 * 0)) + 1)) (s / 100) (s % 100) (g (1340 + v)) ((g (1240 + (s / 100))) - 1) (ofI g v (s / 100) (s % 100) 0))) (1240 + (s / 100))) - 1) (ofI (upI g (5 + 0) (mdI (g ((1220 + (4 * v)) + (2 * 0))) (g (((1220 + (4 * v)) + (2 * 0)) + 1)) (s / 100) (s % 100) (g (1340 + v)) ((g (1240 + (s / 100))) - 1) (ofI g v (s / 100) (s % 100) 0))) v (s / 100) (s % 100) 1))))] dX10_say_239 rfl (by omega) (by omega) (by decide) rfl ?_
                  refine g_iinc G 8 [(0, .ref q0), (1, .int (iI v)), (2, .int (iI s)), (3, .int (iI (s / 100))), (4, .int (iI (s % 100))), (5, .int (iI ((3 * (g 2)) + v))), (6, .int (iI (1220 + (4 * v)))), (7, .int (iI kn)), (8, .int (iI 2))] dX10_say_240 rfl (by decide) rfl rfl ?_
                  refine g_goto G 161 dX10_say_243 (by decide) ?_
                  refine g_iload G 8 dX10_say_161 rfl ?_
                  refine g_iconst G dX10_say_163 ?_
                  refine g_icmp_ge G 246 dX10_say_164 (by decide) (by omega) (by omega) (fun c164_3 => ?_) (fun c164_3 => ?_)
                  · refine g_norm G 1 (upI (upI g (5 + 0) (syM g v s 0)) (5 + 1) (syM g v s 1)) [(q0, .inr (10, [.ref q1, .ref q2, .ref q3, .int (iI c0), .ref q4, .ref q5, .int (iI la), .ref q6, .ref q7, .ref q8, .ref q9, .ref q10, .ref q11, .int (iI ch), .int (iI us)])), (q1, ia E 5400 (upI (upI g (5 + 0) (syM g v s 0)) (5 + 1) (syM g v s 1)))] rfl (by intro j h0 h1; exact congrFun (syW s hO hok.2.1 hok.2.2) j) rfl ?_
                    refine g_aload_n G 0 dX10_say_246 rfl ?_
                    refine g_get G 0 0 dX10_say_247 i_X10_say_X10 f_X10_say_7 rfl rfl (by decide) rfl ?_
                    refine g_sipush G dX10_say_250 (by decide +kernel) ?_
                    refine g_iload_n G 3 dX10_say_253 rfl ?_
                    refine g_iadd G dX10_say_254 ?_
                    refine g_iload G 4 dX10_say_255 rfl ?_
                    refine g_iconst G dX10_say_257 ?_
                    refine g_iadd G dX10_say_258 ?_
                    refine g_iast G 1 [(q0, .inr (10, [.ref q1, .ref q2, .ref q3, .int (iI c0), .ref q4, .ref q5, .int (iI la), .ref q6, .ref q7, .ref q8, .ref q9, .ref q10, .ref q11, .int (iI ch), .int (iI us)])), (q1, ia E 5400 (upI (upI (upI g (5 + 0) (syM g v s 0)) (5 + 1) (syM g v s 1)) (1240 + (s / 100)) ((s % 100) + 1)))] dX10_say_259 rfl (by omega) (by omega) (by decide) rfl ?_
                    refine g_aload_n G 0 dX10_say_260 rfl ?_
                    refine g_get G 0 0 dX10_say_261 i_X10_say_X10 f_X10_say_7 rfl rfl (by decide) rfl ?_
                    refine g_sipush G dX10_say_264 (by decide +kernel) ?_
                    refine g_iload_n G 1 dX10_say_267 rfl ?_
                    refine g_iadd G dX10_say_268 ?_
                    refine g_dup2 G dX10_say_269 rfl rfl ?_
                    refine g_iald G 1 dX10_say_270 rfl (by omega) (by omega) (by decide) ?_
                    refine g_iconst G dX10_say_271 ?_
                    refine g_iadd G dX10_say_272 ?_
                    refine g_iast G 1 [(q0, .inr (10, [.ref q1, .ref q2, .ref q3, .int (iI c0), .ref q4, .ref q5, .int (iI la), .ref q6, .ref q7, .ref q8, .ref q9, .ref q10, .ref q11, .int (iI ch), .int (iI us)])), (q1, ia E 5400 (upI (upI (upI (upI g (5 + 0) (syM g v s 0)) (5 + 1) (syM g v s 1)) (1240 + (s / 100)) ((s % 100) + 1)) (1340 + v) (((upI (upI (upI g (5 + 0) (syM g v s 0)) (5 + 1) (syM g v s 1)) (1240 + (s / 100)) ((s % 100) + 1)) (1340 + v)) + 1)))] dX10_say_273 rfl (by omega) (by omega) (by decide) rfl ?_
                    refine g_aload_n G 0 dX10_say_274 rfl ?_
                    refine g_get G 0 0 dX10_say_275 i_X10_say_X10 f_X10_say_7 rfl rfl (by decide) rfl ?_
                    refine g_iconst G dX10_say_278 ?_
                    refine g_dup2 G dX10_say_279 rfl rfl ?_
                    refine g_iald G 1 dX10_say_280 rfl (by omega) (by omega) (by decide) ?_
                    refine g_iconst G dX10_say_281 ?_
                    refine g_iadd G dX10_say_282 ?_
                    refine g_iast G 1 [(q0, .inr (10, [.ref q1, .ref q2, .ref q3, .int (iI c0), .ref q4, .ref q5, .int (iI la), .ref q6, .ref q7, .ref q8, .ref q9, .ref q10, .ref q11, .int (iI ch), .int (iI us)])), (q1, ia E 5400 (upI (upI (upI (upI (upI g (5 + 0) (syM g v s 0)) (5 + 1) (syM g v s 1)) (1240 + (s / 100)) ((s % 100) + 1)) (1340 + v) (((upI (upI (upI g (5 + 0) (syM g v s 0)) (5 + 1) (syM g v s 1)) (1240 + (s / 100)) ((s % 100) + 1)) (1340 + v)) + 1)) 3 (((upI (upI (upI (upI g (5 + 0) (syM g v s 0)) (5 + 1) (syM g v s 1)) (1240 + (s / 100)) ((s % 100) + 1)) (1340 + v) (((upI (upI (upI g (5 + 0) (syM g v s 0)) (5 + 1) (syM g v s 1)) (1240 + (s / 100)) ((s % 100) + 1)) (1340 + v)) + 1)) 3) + 1)))] dX10_say_283 rfl (by omega) (by omega) (by decide) rfl ?_
                    refine g_aload_n G 0 dX10_say_284 rfl ?_
                    refine g_get G 0 0 dX10_say_285 i_X10_say_X10 f_X10_say_7 rfl rfl (by decide) rfl ?_
                    refine g_iconst G dX10_say_288 ?_
                    refine g_aload_n G 0 dX10_say_289 rfl ?_
                    refine g_get G 0 0 dX10_say_290 i_X10_say_X10 f_X10_say_7 rfl rfl (by decide) rfl ?_
                    refine g_sipush G dX10_say_293 (by decide +kernel) ?_
                    refine g_iload G 5 dX10_say_296 rfl ?_
                    refine g_iadd G dX10_say_298 ?_
                    refine g_iald G 1 dX10_say_299 rfl (by omega) (by omega) (by decide) ?_
                    refine g_iast G 1 [(q0, .inr (10, [.ref q1, .ref q2, .ref q3, .int (iI c0), .ref q4, .ref q5, .int (iI la), .ref q6, .ref q7, .ref q8, .ref q9, .ref q10, .ref q11, .int (iI ch), .int (iI us)])), (q1, ia E 5400 (upI (upI (upI (upI (upI (upI g (5 + 0) (syM g v s 0)) (5 + 1) (syM g v s 1)) (1240 + (s / 100)) ((s % 100) + 1)) (1340 + v) (((upI (upI (upI g (5 + 0) (syM g v s 0)) (5 + 1) (syM g v s 1)) (1240 + (s / 100)) ((s % 100) + 1)) (1340 + v)) + 1)) 3 (((upI (upI (upI (upI g (5 + 0) (syM g v s 0)) (5 + 1) (syM g v s 1)) (1240 + (s / 100)) ((s % 100) + 1)) (1340 + v) (((upI (upI (upI g (5 + 0) (syM g v s 0)) (5 + 1) (syM g v s 1)) (1240 + (s / 100)) ((s % 100) + 1)) (1340 + v)) + 1)) 3) + 1)) 2 ((upI (upI (upI (upI (upI g (5 + 0) (syM g v s 0)) (5 + 1) (syM g v s 1)) (1240 + (s / 100)) ((s % 100) + 1)) (1340 + v) (((upI (upI (upI g (5 + 0) (syM g v s 0)) (5 + 1) (syM g v s 1)) (1240 + (s / 100)) ((s % 100) + 1)) (1340 + v)) + 1)) 3 (((upI (upI (upI (upI g (5 + 0) (syM g v s 0)) (5 + 1) (syM g v s 1)) (1240 + (s / 100)) ((s % 100) + 1)) (1340 + v) (((upI (upI (upI g (5 + 0) (syM g v s 0)) (5 + 1) (syM g v s 1)) (1240 + (s / 100)) ((s % 100) + 1)) (1340 + v)) + 1)) 3) + 1)) (1190 + ((3 * (g 2)) + v)))))] dX10_say_300 rfl (by omega) (by omega) (by decide) rfl ?_
                    refine g_aload_n G 0 dX10_say_301 rfl ?_
                    refine g_get G 0 0 dX10_say_302 i_X10_say_X10 f_X10_say_7 rfl rfl (by decide) rfl ?_
                    refine g_sipush G dX10_say_305 (by decide +kernel) ?_
                    refine g_iload G 5 dX10_say_308 rfl ?_
                    refine g_iadd G dX10_say_310 ?_
                    refine g_iald G 1 dX10_say_311 rfl (by omega) (by omega) (by decide) ?_
                    exact g_ret G (some (.int (iI ((upI (upI (upI (upI (upI (upI g (5 + 0) (syM g v s 0)) (5 + 1) (syM g v s 1)) (1240 + (s / 100)) ((s % 100) + 1)) (1340 + v) (((upI (upI (upI g (5 + 0) (syM g v s 0)) (5 + 1) (syM g v s 1)) (1240 + (s / 100)) ((s % 100) + 1)) (1340 + v)) + 1)) 3 (((upI (upI (upI (upI g (5 + 0) (syM g v s 0)) (5 + 1) (syM g v s 1)) (1240 + (s / 100)) ((s % 100) + 1)) (1340 + v) (((upI (upI (upI g (5 + 0) (syM g v s 0)) (5 + 1) (syM g v s 1)) (1240 + (s / 100)) ((s % 100) + 1)) (1340 + v)) + 1)) 3) + 1)) 2 ((upI (upI (upI (upI (upI g (5 + 0) (syM g v s 0)) (5 + 1) (syM g v s 1)) (1240 + (s / 100)) ((s % 100) + 1)) (1340 + v) (((upI (upI (upI g (5 + 0) (syM g v s 0)) (5 + 1) (syM g v s 1)) (1240 + (s / 100)) ((s % 100) + 1)) (1340 + v)) + 1)) 3 (((upI (upI (upI (upI g (5 + 0) (syM g v s 0)) (5 + 1) (syM g v s 1)) (1240 + (s / 100)) ((s % 100) + 1)) (1340 + v) (((upI (upI (upI g (5 + 0) (syM g v s 0)) (5 + 1) (syM g v s 1)) (1240 + (s / 100)) ((s % 100) + 1)) (1340 + v)) + 1)) 3) + 1)) (1190 + ((3 * (g 2)) + v)))) (1202 + ((3 * (g 2)) + v)))))) rfl dX10_say_312 (Nat.le_refl _) (Nat.le_refl _) ⟨((upI (upI (upI (upI (upI (upI g (5 + 0) (syM g v s 0)) (5 + 1) (syM g v s 1)) (1240 + (s / 100)) ((s % 100) + 1)) (1340 + v) (((upI (upI (upI g (5 + 0) (syM g v s 0)) (5 + 1) (syM g v s 1)) (1240 + (s / 100)) ((s % 100) + 1)) (1340 + v)) + 1)) 3 (((upI (upI (upI (upI g (5 + 0) (syM g v s 0)) (5 + 1) (syM g v s 1)) (1240 + (s / 100)) ((s % 100) + 1)) (1340 + v) (((upI (upI (upI g (5 + 0) (syM g v s 0)) (5 + 1) (syM g v s 1)) (1240 + (s / 100)) ((s % 100) + 1)) (1340 + v)) + 1)) 3) + 1)) 2 ((upI (upI (upI (upI (upI g (5 + 0) (syM g v s 0)) (5 + 1) (syM g v s 1)) (1240 + (s / 100)) ((s % 100) + 1)) (1340 + v) (((upI (upI (upI g (5 + 0) (syM g v s 0)) (5 + 1) (syM g v s 1)) (1240 + (s / 100)) ((s % 100) + 1)) (1340 + v)) + 1)) 3 (((upI (upI (upI (upI g (5 + 0) (syM g v s 0)) (5 + 1) (syM g v s 1)) (1240 + (s / 100)) ((s % 100) + 1)) (1340 + v) (((upI (upI (upI g (5 + 0) (syM g v s 0)) (5 + 1) (syM g v s 1)) (1240 + (s / 100)) ((s % 100) + 1)) (1340 + v)) + 1)) 3) + 1)) (1190 + ((3 * (g 2)) + v)))) (1202 + ((3 * (g 2)) + v))), (upI (upI (upI (upI (upI (upI g (5 + 0) (syM g v s 0)) (5 + 1) (syM g v s 1)) (1240 + (s / 100)) ((s % 100) + 1)) (1340 + v) (((upI (upI (upI g (5 + 0) (syM g v s 0)) (5 + 1) (syM g v s 1)) (1240 + (s / 100)) ((s % 100) + 1)) (1340 + v)) + 1)) 3 (((upI (upI (upI (upI g (5 + 0) (syM g v s 0)) (5 + 1) (syM g v s 1)) (1240 + (s / 100)) ((s % 100) + 1)) (1340 + v) (((upI (upI (upI g (5 + 0) (syM g v s 0)) (5 + 1) (syM g v s 1)) (1240 + (s / 100)) ((s % 100) + 1)) (1340 + v)) + 1)) 3) + 1)) 2 ((upI (upI (upI (upI (upI g (5 + 0) (syM g v s 0)) (5 + 1) (syM g v s 1)) (1240 + (s / 100)) ((s % 100) + 1)) (1340 + v) (((upI (upI (upI g (5 + 0) (syM g v s 0)) (5 + 1) (syM g v s 1)) (1240 + (s / 100)) ((s % 100) + 1)) (1340 + v)) + 1)) 3 (((upI (upI (upI (upI g (5 + 0) (syM g v s 0)) (5 + 1) (syM g v s 1)) (1240 + (s / 100)) ((s % 100) + 1)) (1340 + v) (((upI (upI (upI g (5 + 0) (syM g v s 0)) (5 + 1) (syM g v s 1)) (1240 + (s / 100)) ((s % 100) + 1)) (1340 + v)) + 1)) 3) + 1)) (1190 + ((3 * (g 2)) + v)))), rfl, rfl, by first | exact Or.inr (Or.inr ⟨by omega, rfl, rfl⟩) | (refine Or.inr (Or.inl ⟨hok, by rcases hk with q | q; (have := q.1; omega); exact q.2, rfl, rfl⟩); done) | (have hk2 : syK g v s := (by rcases hk with q | q; exact q.2; (have := q.1; omega)); refine Or.inl ⟨hok, hk2, ?_, ?_⟩; exact syE1 g hok.2.1 hok.2.2 hst; exact syE2 g hok.2.1 hok.2.2 hst)⟩
                  · exfalso; omega
            · refine g_aload_n G 0 dX10_say_145 rfl ?_
              refine g_get G 0 0 dX10_say_146 i_X10_say_X10 f_X10_say_7 rfl rfl (by decide) rfl ?_
              refine g_iconst G dX10_say_149 ?_
              refine g_dup2 G dX10_say_150 rfl rfl ?_
              refine g_iald G 1 dX10_say_151 rfl (by omega) (by omega) (by decide) ?_
              have b14 := hg 4
              refine g_iconst G dX10_say_152 ?_
              refine g_iadd G dX10_say_153 ?_
              refine g_iast G 1 [(q0, .inr (10, [.ref q1, .ref q2, .ref q3, .int (iI c0), .ref q4, .ref q5, .int (iI la), .ref q6, .ref q7, .ref q8, .ref q9, .ref q10, .ref q11, .int (iI ch), .int (iI us)])), (q1, ia E 5400 (upI g 4 ((g 4) + 1)))] dX10_say_154 rfl (by omega) (by omega) (by decide) rfl ?_
              refine g_bipush G dX10_say_155 (by decide +kernel) ?_
              exact g_ret G (some (.int (iI (-2)))) rfl dX10_say_157 (Nat.le_refl _) (Nat.le_refl _) ⟨(-2), (upI g 4 ((g 4) + 1)), rfl, rfl, by first | exact Or.inr (Or.inr ⟨by omega, rfl, rfl⟩) | (refine Or.inr (Or.inl ⟨hok, by rcases hk with q | q; (have := q.1; omega); exact q.2, rfl, rfl⟩); done) | (have hk2 : syK g v s := (by rcases hk with q | q; exact q.2; (have := q.1; omega)); refine Or.inl ⟨hok, hk2, ?_, ?_⟩; exact syE1 g hok.2.1 hok.2.2 hst; exact syE2 g hok.2.1 hok.2.2 hst)⟩
          refine g_iconst G dX10_say_84 ?_
          refine g_istore G [(0, .ref q0), (1, .int (iI v)), (2, .int (iI s)), (3, .int (iI (s / 100))), (4, .int (iI (s % 100))), (5, .int (iI ((3 * (g 2)) + v))), (6, .int (iI (1220 + (4 * v)))), (7, .int (iI 0)), (8, .int (iI 0))] dX10_say_85 (by decide) rfl rfl ?_
          refine g_iload G 8 dX10_say_87 rfl ?_
          refine g_iconst G dX10_say_89 ?_
          refine g_icmp_ge G 140 dX10_say_90 (by decide) (by omega) (by omega) (fun c90 => ?_) (fun c90 => ?_)
          · exfalso; omega
          · refine g_iload G 7 dX10_say_93 rfl ?_
            refine g_if_eq G 131 dX10_say_95 (by decide) (by omega) (fun c95 => ?_) (fun c95 => ?_)
            · refine g_iconst G dX10_say_131 ?_
              refine g_istore G [(0, .ref q0), (1, .int (iI v)), (2, .int (iI s)), (3, .int (iI (s / 100))), (4, .int (iI (s % 100))), (5, .int (iI ((3 * (g 2)) + v))), (6, .int (iI (1220 + (4 * v)))), (7, .int (iI 0)), (8, .int (iI 0))] dX10_say_132 (by decide) rfl rfl ?_
              refine g_iinc G 8 [(0, .ref q0), (1, .int (iI v)), (2, .int (iI s)), (3, .int (iI (s / 100))), (4, .int (iI (s % 100))), (5, .int (iI ((3 * (g 2)) + v))), (6, .int (iI (1220 + (4 * v)))), (7, .int (iI 0)), (8, .int (iI 1))] dX10_say_134 rfl (by decide) rfl rfl ?_
              refine g_goto G 87 dX10_say_137 (by decide) ?_
              refine g_iload G 8 dX10_say_87 rfl ?_
              refine g_iconst G dX10_say_89 ?_
              refine g_icmp_ge G 140 dX10_say_90 (by decide) (by omega) (by omega) (fun c90_2 => ?_) (fun c90_2 => ?_)
              · exfalso; omega
              · refine g_iload G 7 dX10_say_93 rfl ?_
                refine g_if_eq G 131 dX10_say_95 (by decide) (by omega) (fun c95_2 => ?_) (fun c95_2 => ?_)
                · refine g_iconst G dX10_say_131 ?_
                  refine g_istore G [(0, .ref q0), (1, .int (iI v)), (2, .int (iI s)), (3, .int (iI (s / 100))), (4, .int (iI (s % 100))), (5, .int (iI ((3 * (g 2)) + v))), (6, .int (iI (1220 + (4 * v)))), (7, .int (iI 0)), (8, .int (iI 1))] dX10_say_132 (by decide) rfl rfl ?_
                  refine g_iinc G 8 [(0, .ref q0), (1, .int (iI v)), (2, .int (iI s)), (3, .int (iI (s / 100))), (4, .int (iI (s % 100))), (5, .int (iI ((3 * (g 2)) + v))), (6, .int (iI (1220 + (4 * v)))), (7, .int (iI 0)), (8, .int (iI 2))] dX10_say_134 rfl (by decide) rfl rfl ?_
                  refine g_goto G 87 dX10_say_137 (by decide) ?_
                  refine g_iload G 8 dX10_say_87 rfl ?_
                  refine g_iconst G dX10_say_89 ?_
                  refine g_icmp_ge G 140 dX10_say_90 (by decide) (by omega) (by omega) (fun c90_3 => ?_) (fun c90_3 => ?_)
                  · exact L140 0 (by first | exact Or.inl ⟨rfl, by unfold syK; omega⟩ | exact Or.inr ⟨rfl, by unfold syK; omega⟩)
                  · exfalso; omega
                · exfalso; omega
            · exfalso; omega
        · refine g_iconst G dX10_say_77 ?_
          refine g_goto G 82 dX10_say_78 (by decide) ?_
          refine g_istore G [(0, .ref q0), (1, .int (iI v)), (2, .int (iI s)), (3, .int (iI (s / 100))), (4, .int (iI (s % 100))), (5, .int (iI ((3 * (g 2)) + v))), (6, .int (iI (1220 + (4 * v)))), (7, .int (iI 1))] dX10_say_82 (by decide) rfl rfl ?_
          have L140 : ∀ (kn : Int), ((kn = 1 ∧ syK g v s) ∨ (kn = 0 ∧ ¬ syK g v s)) → P 0 0 [(q0, .inr (10, [.ref q1, .ref q2, .ref q3, .int (iI c0), .ref q4, .ref q5, .int (iI la), .ref q6, .ref q7, .ref q8, .ref q9, .ref q10, .ref q11, .int (iI ch), .int (iI us)])), (q1, ia E 5400 g)] 140 [(0, .ref q0), (1, .int (iI v)), (2, .int (iI s)), (3, .int (iI (s / 100))), (4, .int (iI (s % 100))), (5, .int (iI ((3 * (g 2)) + v))), (6, .int (iI (1220 + (4 * v)))), (7, .int (iI kn)), (8, .int (iI 2))] [] := by
            intro kn hk
            refine g_iload G 7 dX10_say_140 rfl ?_
            refine g_if_ne G 158 dX10_say_142 (by decide) (by omega) (fun c142 => ?_) (fun c142 => ?_)
            · refine g_iconst G dX10_say_158 ?_
              refine g_istore G [(0, .ref q0), (1, .int (iI v)), (2, .int (iI s)), (3, .int (iI (s / 100))), (4, .int (iI (s % 100))), (5, .int (iI ((3 * (g 2)) + v))), (6, .int (iI (1220 + (4 * v)))), (7, .int (iI kn)), (8, .int (iI 0))] dX10_say_159 (by decide) rfl rfl ?_
              refine g_iload G 8 dX10_say_161 rfl ?_
              refine g_iconst G dX10_say_163 ?_
              refine g_icmp_ge G 246 dX10_say_164 (by decide) (by omega) (by omega) (fun c164 => ?_) (fun c164 => ?_)
              · exfalso; omega
              · have hO2 := hO.up (5 + 0) (syM g v s 0) (by omega)
                have hG2 := hG.up (5 + 0) (syM g v s 0) (by omega) (syM_bd hN hO hok.2.1 hok.2.2 0 (by omega))
                refine g_aload_n G 0 dX10_say_167 rfl ?_
                refine g_get G 0 0 dX10_say_168 i_X10_say_X10 f_X10_say_7 rfl rfl (by decide) rfl ?_
                refine g_iconst G dX10_say_171 ?_
                refine g_iload G 8 dX10_say_172 rfl ?_
                refine g_iadd G dX10_say_174 ?_
                refine g_aload_n G 0 dX10_say_175 rfl ?_
                refine g_get G 0 0 dX10_say_176 i_X10_say_X10 f_X10_say_7 rfl rfl (by decide) rfl ?_
                refine g_iload G 6 dX10_say_179 rfl ?_
                refine g_iconst G dX10_say_181 ?_
                refine g_iload G 8 dX10_say_182 rfl ?_
                refine g_imul G dX10_say_184 ?_
                refine g_iadd G dX10_say_185 ?_
                refine g_iald G 1 dX10_say_186 rfl (by omega) (by omega) (by decide) ?_
                have b15 := hg ((1220 + (4 * v)) + (2 * 0))
                refine g_aload_n G 0 dX10_say_187 rfl ?_
                refine g_get G 0 0 dX10_say_188 i_X10_say_X10 f_X10_say_7 rfl rfl (by decide) rfl ?_
                refine g_iload G 6 dX10_say_191 rfl ?_
                refine g_iconst G dX10_say_193 ?_
                refine g_iload G 8 dX10_say_194 rfl ?_
                refine g_imul G dX10_say_196 ?_
                refine g_iadd G dX10_say_197 ?_
                refine g_iconst G dX10_say_198 ?_
                refine g_iadd G dX10_say_199 ?_
                refine g_iald G 1 dX10_say_200 rfl (by omega) (by omega) (by decide) ?_
                have b16 := hg (((1220 + (4 * v)) + (2 * 0)) + 1)
                refine g_iload_n G 3 dX10_say_201 rfl ?_
                refine g_iload G 4 dX10_say_202 rfl ?_
                refine g_aload_n G 0 dX10_say_204 rfl ?_
                refine g_get G 0 0 dX10_say_205 i_X10_say_X10 f_X10_say_7 rfl rfl (by decide) rfl ?_
                refine g_sipush G dX10_say_208 (by decide +kernel) ?_
                refine g_iload_n G 1 dX10_say_211 rfl ?_
                refine g_iadd G dX10_say_212 ?_
                refine g_iald G 1 dX10_say_213 rfl (by omega) (by omega) (by decide) ?_
                have b17 := hg (1340 + v)
                refine g_aload_n G 0 dX10_say_214 rfl ?_
                refine g_get G 0 0 dX10_say_215 i_X10_say_X10 f_X10_say_7 rfl rfl (by decide) rfl ?_
                refine g_sipush G dX10_say_218 (by decide +kernel) ?_
                refine g_iload_n G 3 dX10_say_221 rfl ?_
                refine g_iadd G dX10_say_222 ?_
                refine g_iald G 1 dX10_say_223 rfl (by omega) (by omega) (by decide) ?_
                have b18 := hg (1240 + (s / 100))
                refine g_iconst G dX10_say_224 ?_
                refine g_isub G dX10_say_225 ?_
                refine g_aload_n G 0 dX10_say_226 rfl ?_
                refine g_iload_n G 1 dX10_say_227 rfl ?_
                refine g_iload_n G 3 dX10_say_228 rfl ?_
                refine g_iload G 4 dX10_say_229 rfl ?_
                refine g_iload G 8 dX10_say_231 rfl ?_
                refine g_callV G [0, 1] [] 2 [] [.int (iI v), .int (iI (s / 100)), .int (iI (s % 100)), .int (iI 0)] [.int (iI ((g (1240 + (s / 100))) - 1)), .int (iI (g (1340 + v))), .int (iI (s % 100)), .int (iI (s / 100)), .int (iI (g (((1220 + (4 * v)) + (2 * 0)) + 1))), .int (iI (g ((1220 + (4 * v)) + (2 * 0)))), .int (iI (5 + 0)), .ref q1] (c_X10_oldField E q0 q1 q2 q3 q4 q5 q6 q7 q8 q9 q10 q11 c0 la ch us g v (s / 100) (s % 100) 0 (by first | exact hG | exact hG2) (by omega) (by omega) (by omega) (by first | assumption | omega) (by first | exact hO | exact hO2)) dX10_say_233 gX10_say_X10_oldField ⟨rfl, ⟨rfl, rfl⟩, e_X10_oldField, ⟨Nat.le_of_ble_eq_true rfl, Nat.le_of_ble_eq_true rfl⟩, Nat.le_of_ble_eq_true rfl, Nat.le_of_ble_eq_true rfl, Nat.le_of_ble_eq_true rfl⟩ rfl rfl rfl rfl rfl (by decide +kernel) rfl (by decide +kernel) rfl (fun v9 w9 h9 => ?_)
                obtain ⟨o19, rfl, rfl, rfl⟩ := h9
                refine ⟨[(q0, .inr (10, [.ref q1, .ref q2, .ref q3, .int (iI c0), .ref q4, .ref q5, .int (iI la), .ref q6, .ref q7, .ref q8, .ref q9, .ref q10, .ref q11, .int (iI ch), .int (iI us)])), (q1, ia E 5400 g)], ⟨rfl, rfl, rfl, rfl⟩, g_to 0 0 _ _ [.int (iI (ofI g v (s / 100) (s % 100) 0)), .int (iI ((g (1240 + (s / 100))) - 1)), .int (iI (g (1340 + v))), .int (iI (s % 100)), .int (iI (s / 100)), .int (iI (g (((1220 + (4 * v)) + (2 * 0)) + 1))), .int (iI (g ((1220 + (4 * v)) + (2 * 0)))), .int (iI (5 + 0)), .ref q1] rfl rfl rfl rfl rfl ?_⟩
                refine g_callS G [] [0, 1] 2 [(q0, .inr (10, [.ref q1, .ref q2, .ref q3, .int (iI c0), .ref q4, .ref q5, .int (iI la), .ref q6, .ref q7, .ref q8, .ref q9, .ref q10, .ref q11, .int (iI ch), .int (iI us)])), (q1, ia E 5400 g)] [.int (iI (g ((1220 + (4 * v)) + (2 * 0)))), .int (iI (g (((1220 + (4 * v)) + (2 * 0)) + 1))), .int (iI (s / 100)), .int (iI (s % 100)), .int (iI (g (1340 + v))), .int (iI ((g (1240 + (s / 100))) - 1)), .int (iI (ofI g v (s / 100) (s % 100) 0))] [.int (iI (5 + 0)), .ref q1] (c_X10_made E (g ((1220 + (4 * v)) + (2 * 0))) (g (((1220 + (4 * v)) + (2 * 0)) + 1)) (s / 100) (s % 100) (g (1340 + v)) ((g (1240 + (s / 100))) - 1) (ofI g v (s / 100) (s % 100) 0) (by first | (have q := hG.1 (1220 + 4 * v + 2 * 0); omega) | (have q := hG2.1 (1220 + 4 * v + 2 * 1); unfold syM at q; omega)) (by first | (have q := hG.1 (1240 + s / 100); omega) | (have q := hG2.1 (1240 + s / 100); unfold syM at q; omega))) dX10_say_236 gX10_say_X10_made ⟨rfl, ⟨rfl, rfl⟩, e_X10_made, ⟨Nat.le_of_ble_eq_true rfl, Nat.le_of_ble_eq_true rfl⟩, Nat.le_of_ble_eq_true rfl, Nat.le_of_ble_eq_true rfl, Nat.le_of_ble_eq_true rfl⟩ rfl (by decide +kernel) rfl (by decide +kernel) rfl (fun v9 w9 h9 => ?_)
                obtain ⟨o20, rfl, rfl, rfl⟩ := h9
                refine ⟨[(q0, .inr (10, [.ref q1, .ref q2, .ref q3, .int (iI c0), .ref q4, .ref q5, .int (iI la), .ref q6, .ref q7, .ref q8, .ref q9, .ref q10, .ref q11, .int (iI ch), .int (iI us)])), (q1, ia E 5400 g)], ⟨rfl, rfl, rfl, rfl⟩, g_to 0 0 _ _ [.int (iI (mdI (g ((1220 + (4 * v)) + (2 * 0))) (g (((1220 + (4 * v)) + (2 * 0)) + 1)) (s / 100) (s % 100) (g (1340 + v)) ((g (1240 + (s / 100))) - 1) (ofI g v (s / 100) (s % 100) 0))), .int (iI (5 + 0)), .ref q1] rfl rfl rfl rfl rfl ?_⟩
                refine g_iast G 1 [(q0, .inr (10, [.ref q1, .ref q2, .ref q3, .int (iI c0), .ref q4, .ref q5, .int (iI la), .ref q6, .ref q7, .ref q8, .ref q9, .ref q10, .ref q11, .int (iI ch), .int (iI us)])), (q1, ia E 5400 (upI g (5 + 0) (mdI (g ((1220 + (4 * v)) + (2 * 0))) (g (((1220 + (4 * v)) + (2 * 0)) + 1)) (s / 100) (s % 100) (g (1340 + v)) ((g (1240 + (s / 100))) - 1) (ofI g v (s / 100) (s % 100) 0))))] dX10_say_239 rfl (by omega) (by omega) (by decide) rfl ?_
                refine g_iinc G 8 [(0, .ref q0), (1, .int (iI v)), (2, .int (iI s)), (3, .int (iI (s / 100))), (4, .int (iI (s % 100))), (5, .int (iI ((3 * (g 2)) + v))), (6, .int (iI (1220 + (4 * v)))), (7, .int (iI kn)), (8, .int (iI 1))] dX10_say_240 rfl (by decide) rfl rfl ?_
                refine g_goto G 161 dX10_say_243 (by decide) ?_
                refine g_iload G 8 dX10_say_161 rfl ?_
                refine g_iconst G dX10_say_163 ?_
                refine g_icmp_ge G 246 dX10_say_164 (by decide) (by omega) (by omega) (fun c164_2 => ?_) (fun c164_2 => ?_)
                · exfalso; omega
                · have hO2 := hO.up (5 + 0) (syM g v s 0) (by omega)
                  have hG2 := hG.up (5 + 0) (syM g v s 0) (by omega) (syM_bd hN hO hok.2.1 hok.2.2 0 (by omega))
                  refine g_aload_n G 0 dX10_say_167 rfl ?_
                  refine g_get G 0 0 dX10_say_168 i_X10_say_X10 f_X10_say_7 rfl rfl (by decide) rfl ?_
                  refine g_iconst G dX10_say_171 ?_
                  refine g_iload G 8 dX10_say_172 rfl ?_
                  refine g_iadd G dX10_say_174 ?_
                  refine g_aload_n G 0 dX10_say_175 rfl ?_
                  refine g_get G 0 0 dX10_say_176 i_X10_say_X10 f_X10_say_7 rfl rfl (by decide) rfl ?_
                  refine g_iload G 6 dX10_say_179 rfl ?_
                  refine g_iconst G dX10_say_181 ?_
                  refine g_iload G 8 dX10_say_182 rfl ?_
                  refine g_imul G dX10_say_184 ?_
                  refine g_iadd G dX10_say_185 ?_
                  refine g_iald G 1 dX10_say_186 rfl (by omega) (by omega) (by decide) ?_
                  refine g_aload_n G 0 dX10_say_187 rfl ?_
                  refine g_get G 0 0 dX10_say_188 i_X10_say_X10 f_X10_say_7 rfl rfl (by decide) rfl ?_
                  refine g_iload G 6 dX10_say_191 rfl ?_
                  refine g_iconst G dX10_say_193 ?_
                  refine g_iload G 8 dX10_say_194 rfl ?_
                  refine g_imul G dX10_say_196 ?_
                  refine g_iadd G dX10_say_197 ?_
                  refine g_iconst G dX10_say_198 ?_
                  refine g_iadd G dX10_say_199 ?_
                  refine g_iald G 1 dX10_say_200 rfl (by omega) (by omega) (by decide) ?_
                  refine g_iload_n G 3 dX10_say_201 rfl ?_
                  refine g_iload G 4 dX10_say_202 rfl ?_
                  refine g_aload_n G 0 dX10_say_204 rfl ?_
                  refine g_get G 0 0 dX10_say_205 i_X10_say_X10 f_X10_say_7 rfl rfl (by decide) rfl ?_
                  refine g_sipush G dX10_say_208 (by decide +kernel) ?_
                  refine g_iload_n G 1 dX10_say_211 rfl ?_
                  refine g_iadd G dX10_say_212 ?_
                  refine g_iald G 1 dX10_say_213 rfl (by omega) (by omega) (by decide) ?_
                  refine g_aload_n G 0 dX10_say_214 rfl ?_
                  refine g_get G 0 0 dX10_say_215 i_X10_say_X10 f_X10_say_7 rfl rfl (by decide) rfl ?_
                  refine g_sipush G dX10_say_218 (by decide +kernel) ?_
                  refine g_iload_n G 3 dX10_say_221 rfl ?_
                  refine g_iadd G dX10_say_222 ?_
                  refine g_iald G 1 dX10_say_223 rfl (by omega) (by omega) (by decide) ?_
                  refine g_iconst G dX10_say_224 ?_
                  refine g_isub G dX10_say_225 ?_
                  refine g_aload_n G 0 dX10_say_226 rfl ?_
                  refine g_iload_n G 1 dX10_say_227 rfl ?_
                  refine g_iload_n G 3 dX10_say_228 rfl ?_
                  refine g_iload G 4 dX10_say_229 rfl ?_
                  refine g_iload G 8 dX10_say_231 rfl ?_
                  refine g_callV G [0, 1] [] 2 [] [.int (iI v), .int (iI (s / 100)), .int (iI (s % 100)), .int (iI 1)] [.int (iI (((upI g (5 + 0) (mdI (g ((1220 + (4 * v)) + (2 * 0))) (g (((1220 + (4 * v)) + (2 * 0)) + 1)) (s / 100) (s % 100) (g (1340 + v)) ((g (1240 + (s / 100))) - 1) (ofI g v (s / 100) (s % 100) 0))) (1240 + (s / 100))) - 1)), .int (iI ((upI g (5 + 0) (mdI (g ((1220 + (4 * v)) + (2 * 0))) (g (((1220 + (4 * v)) + (2 * 0)) + 1)) (s / 100) (s % 100) (g (1340 + v)) ((g (1240 + (s / 100))) - 1) (ofI g v (s / 100) (s % 100) 0))) (1340 + v))), .int (iI (s % 100)), .int (iI (s / 100)), .int (iI ((upI g (5 + 0) (mdI (g ((1220 + (4 * v)) + (2 * 0))) (g (((1220 + (4 * v)) + (2 * 0)) + 1)) (s / 100) (s % 100) (g (1340 + v)) ((g (1240 + (s / 100))) - 1) (ofI g v (s / 100) (s % 100) 0))) (((1220 + (4 * v)) + (2 * 1)) + 1))), .int (iI ((upI g (5 + 0) (mdI (g ((1220 + (4 * v)) + (2 * 0))) (g (((1220 + (4 * v)) + (2 * 0)) + 1)) (s / 100) (s % 100) (g (1340 + v)) ((g (1240 + (s / 100))) - 1) (ofI g v (s / 100) (s % 100) 0))) ((1220 + (4 * v)) + (2 * 1)))), .int (iI (5 + 1)), .ref q1] (c_X10_oldField E q0 q1 q2 q3 q4 q5 q6 q7 q8 q9 q10 q11 c0 la ch us (upI g (5 + 0) (mdI (g ((1220 + (4 * v)) + (2 * 0))) (g (((1220 + (4 * v)) + (2 * 0)) + 1)) (s / 100) (s % 100) (g (1340 + v)) ((g (1240 + (s / 100))) - 1) (ofI g v (s / 100) (s % 100) 0))) v (s / 100) (s % 100) 1 (by first | exact hG | exact hG2) (by omega) (by omega) (by omega) (by first | assumption | omega) (by first | exact hO | exact hO2)) dX10_say_233 gX10_say_X10_oldField ⟨rfl, ⟨rfl, rfl⟩, e_X10_oldField, ⟨Nat.le_of_ble_eq_true rfl, Nat.le_of_ble_eq_true rfl⟩, Nat.le_of_ble_eq_true rfl, Nat.le_of_ble_eq_true rfl, Nat.le_of_ble_eq_true rfl⟩ rfl rfl rfl rfl rfl (by decide +kernel) rfl (by decide +kernel) rfl (fun v9 w9 h9 => ?_)
                  obtain ⟨o21, rfl, rfl, rfl⟩ := h9
                  refine ⟨[(q0, .inr (10, [.ref q1, .ref q2, .ref q3, .int (iI c0), .ref q4, .ref q5, .int (iI la), .ref q6, .ref q7, .ref q8, .ref q9, .ref q10, .ref q11, .int (iI ch), .int (iI us)])), (q1, ia E 5400 (upI g (5 + 0) (mdI (g ((1220 + (4 * v)) + (2 * 0))) (g (((1220 + (4 * v)) + (2 * 0)) + 1)) (s / 100) (s % 100) (g (1340 + v)) ((g (1240 + (s / 100))) - 1) (ofI g v (s / 100) (s % 100) 0))))], ⟨rfl, rfl, rfl, rfl⟩, g_to 0 0 _ _ [.int (iI (ofI (upI g (5 + 0) (mdI (g ((1220 + (4 * v)) + (2 * 0))) (g (((1220 + (4 * v)) + (2 * 0)) + 1)) (s / 100) (s % 100) (g (1340 + v)) ((g (1240 + (s / 100))) - 1) (ofI g v (s / 100) (s % 100) 0))) v (s / 100) (s % 100) 1)), .int (iI (((upI g (5 + 0) (mdI (g ((1220 + (4 * v)) + (2 * 0))) (g (((1220 + (4 * v)) + (2 * 0)) + 1)) (s / 100) (s % 100) (g (1340 + v)) ((g (1240 + (s / 100))) - 1) (ofI g v (s / 100) (s % 100) 0))) (1240 + (s / 100))) - 1)), .int (iI ((upI g (5 + 0) (mdI (g ((1220 + (4 * v)) + (2 * 0))) (g (((1220 + (4 * v)) + (2 * 0)) + 1)) (s / 100) (s % 100) (g (1340 + v)) ((g (1240 + (s / 100))) - 1) (ofI g v (s / 100) (s % 100) 0))) (1340 + v))), .int (iI (s % 100)), .int (iI (s / 100)), .int (iI ((upI g (5 + 0) (mdI (g ((1220 + (4 * v)) + (2 * 0))) (g (((1220 + (4 * v)) + (2 * 0)) + 1)) (s / 100) (s % 100) (g (1340 + v)) ((g (1240 + (s / 100))) - 1) (ofI g v (s / 100) (s % 100) 0))) (((1220 + (4 * v)) + (2 * 1)) + 1))), .int (iI ((upI g (5 + 0) (mdI (g ((1220 + (4 * v)) + (2 * 0))) (g (((1220 + (4 * v)) + (2 * 0)) + 1)) (s / 100) (s % 100) (g (1340 + v)) ((g (1240 + (s / 100))) - 1) (ofI g v (s / 100) (s % 100) 0))) ((1220 + (4 * v)) + (2 * 1)))), .int (iI (5 + 1)), .ref q1] rfl rfl rfl rfl rfl ?_⟩
                  refine g_callS G [] [0, 1] 2 [(q0, .inr (10, [.ref q1, .ref q2, .ref q3, .int (iI c0), .ref q4, .ref q5, .int (iI la), .ref q6, .ref q7, .ref q8, .ref q9, .ref q10, .ref q11, .int (iI ch), .int (iI us)])), (q1, ia E 5400 (upI g (5 + 0) (mdI (g ((1220 + (4 * v)) + (2 * 0))) (g (((1220 + (4 * v)) + (2 * 0)) + 1)) (s / 100) (s % 100) (g (1340 + v)) ((g (1240 + (s / 100))) - 1) (ofI g v (s / 100) (s % 100) 0))))] [.int (iI ((upI g (5 + 0) (mdI (g ((1220 + (4 * v)) + (2 * 0))) (g (((1220 + (4 * v)) + (2 * 0)) + 1)) (s / 100) (s % 100) (g (1340 + v)) ((g (1240 + (s / 100))) - 1) (ofI g v (s / 100) (s % 100) 0))) ((1220 + (4 * v)) + (2 * 1)))), .int (iI ((upI g (5 + 0) (mdI (g ((1220 + (4 * v)) + (2 * 0))) (g (((1220 + (4 * v)) + (2 * 0)) + 1)) (s / 100) (s % 100) (g (1340 + v)) ((g (1240 + (s / 100))) - 1) (ofI g v (s / 100) (s % 100) 0))) (((1220 + (4 * v)) + (2 * 1)) + 1))), .int (iI (s / 100)), .int (iI (s % 100)), .int (iI ((upI g (5 + 0) (mdI (g ((1220 + (4 * v)) + (2 * 0))) (g (((1220 + (4 * v)) + (2 * 0)) + 1)) (s / 100) (s % 100) (g (1340 + v)) ((g (1240 + (s / 100))) - 1) (ofI g v (s / 100) (s % 100) 0))) (1340 + v))), .int (iI (((upI g (5 + 0) (mdI (g ((1220 + (4 * v)) + (2 * 0))) (g (((1220 + (4 * v)) + (2 * 0)) + 1)) (s / 100) (s % 100) (g (1340 + v)) ((g (1240 + (s / 100))) - 1) (ofI g v (s / 100) (s % 100) 0))) (1240 + (s / 100))) - 1)), .int (iI (ofI (upI g (5 + 0) (mdI (g ((1220 + (4 * v)) + (2 * 0))) (g (((1220 + (4 * v)) + (2 * 0)) + 1)) (s / 100) (s % 100) (g (1340 + v)) ((g (1240 + (s / 100))) - 1) (ofI g v (s / 100) (s % 100) 0))) v (s / 100) (s % 100) 1))] [.int (iI (5 + 1)), .ref q1] (c_X10_made E ((upI g (5 + 0) (mdI (g ((1220 + (4 * v)) + (2 * 0))) (g (((1220 + (4 * v)) + (2 * 0)) + 1)) (s / 100) (s % 100) (g (1340 + v)) ((g (1240 + (s / 100))) - 1) (ofI g v (s / 100) (s % 100) 0))) ((1220 + (4 * v)) + (2 * 1))) ((upI g (5 + 0) (mdI (g ((1220 + (4 * v)) + (2 * 0))) (g (((1220 + (4 * v)) + (2 * 0)) + 1)) (s / 100) (s % 100) (g (1340 + v)) ((g (1240 + (s / 100))) - 1) (ofI g v (s / 100) (s % 100) 0))) (((1220 + (4 * v)) + (2 * 1)) + 1)) (s / 100) (s % 100) ((upI g (5 + 0) (mdI (g ((1220 + (4 * v)) + (2 * 0))) (g (((1220 + (4 * v)) + (2 * 0)) + 1)) (s / 100) (s % 100) (g (1340 + v)) ((g (1240 + (s / 100))) - 1) (ofI g v (s / 100) (s % 100) 0))) (1340 + v)) (((upI g (5 + 0) (mdI (g ((1220 + (4 * v)) + (2 * 0))) (g (((1220 + (4 * v)) + (2 * 0)) + 1)) (s / 100) (s % 100) (g (1340 + v)) ((g (1240 + (s / 100))) - 1) (ofI g v (s / 100) (s % 100) 0))) (1240 + (s / 100))) - 1) (ofI (upI g (5 + 0) (mdI (g ((1220 + (4 * v)) + (2 * 0))) (g (((1220 + (4 * v)) + (2 * 0)) + 1)) (s / 100) (s % 100) (g (1340 + v)) ((g (1240 + (s / 100))) - 1) (ofI g v (s / 100) (s % 100) 0))) v (s / 100) (s % 100) 1) (by first | (have q := hG.1 (1220 + 4 * v + 2 * 0); omega) | (have q := hG2.1 (1220 + 4 * v + 2 * 1); unfold syM at q; omega)) (by first | (have q := hG.1 (1240 + s / 100); omega) | (have q := hG2.1 (1240 + s / 100); unfold syM at q; omega))) dX10_say_236 gX10_say_X10_made ⟨rfl, ⟨rfl, rfl⟩, e_X10_made, ⟨Nat.le_of_ble_eq_true rfl, Nat.le_of_ble_eq_true rfl⟩, Nat.le_of_ble_eq_true rfl, Nat.le_of_ble_eq_true rfl, Nat.le_of_ble_eq_true rfl⟩ rfl (by decide +kernel) rfl (by decide +kernel) rfl (fun v9 w9 h9 => ?_)
                  obtain ⟨o22, rfl, rfl, rfl⟩ := h9
                  refine ⟨[(q0, .inr (10, [.ref q1, .ref q2, .ref q3, .int (iI c0), .ref q4, .ref q5, .int (iI la), .ref q6, .ref q7, .ref q8, .ref q9, .ref q10, .ref q11, .int (iI ch), .int (iI us)])), (q1, ia E 5400 (upI g (5 + 0) (mdI (g ((1220 + (4 * v)) + (2 * 0))) (g (((1220 + (4 * v)) + (2 * 0)) + 1)) (s / 100) (s % 100) (g (1340 + v)) ((g (1240 + (s / 100))) - 1) (ofI g v (s / 100) (s % 100) 0))))], ⟨rfl, rfl, rfl, rfl⟩, g_to 0 0 _ _ [.int (iI (mdI ((upI g (5 + 0) (mdI (g ((1220 + (4 * v)) + (2 * 0))) (g (((1220 + (4 * v)) + (2 * 0)) + 1)) (s / 100) (s % 100) (g (1340 + v)) ((g (1240 + (s / 100))) - 1) (ofI g v (s / 100) (s % 100) 0))) ((1220 + (4 * v)) + (2 * 1))) ((upI g (5 + 0) (mdI (g ((1220 + (4 * v)) + (2 * 0))) (g (((1220 + (4 * v)) + (2 * 0)) + 1)) (s / 100) (s % 100) (g (1340 + v)) ((g (1240 + (s / 100))) - 1) (ofI g v (s / 100) (s % 100) 0))) (((1220 + (4 * v)) + (2 * 1)) + 1)) (s / 100) (s % 100) ((upI g (5 + 0) (mdI (g ((1220 + (4 * v)) + (2 * 0))) (g (((1220 + (4 * v)) + (2 * 0)) + 1)) (s / 100) (s % 100) (g (1340 + v)) ((g (1240 + (s / 100))) - 1) (ofI g v (s / 100) (s % 100) 0))) (1340 + v)) (((upI g (5 + 0) (mdI (g ((1220 + (4 * v)) + (2 * 0))) (g (((1220 + (4 * v)) + (2 * 0)) + 1)) (s / 100) (s % 100) (g (1340 + v)) ((g (1240 + (s / 100))) - 1) (ofI g v (s / 100) (s % 100) 0))) (1240 + (s / 100))) - 1) (ofI (upI g (5 + 0) (mdI (g ((1220 + (4 * v)) + (2 * 0))) (g (((1220 + (4 * v)) + (2 * 0)) + 1)) (s / 100) (s % 100) (g (1340 + v)) ((g (1240 + (s / 100))) - 1) (ofI g v (s / 100) (s % 100) 0))) v (s / 100) (s % 100) 1))), .int (iI (5 + 1)), .ref q1] rfl rfl rfl rfl rfl ?_⟩
                  refine g_iast G 1 [(q0, .inr (10, [.ref q1, .ref q2, .ref q3, .int (iI c0), .ref q4, .ref q5, .int (iI la), .ref q6, .ref q7, .ref q8, .ref q9, .ref q10, .ref q11, .int (iI ch), .int (iI us)])), (q1, ia E 5400 (upI (upI g (5 + 0) (mdI (g ((1220 + (4 * v)) + (2 * 0))) (g (((1220 + (4 * v)) + (2 * 0)) + 1)) (s / 100) (s % 100) (g (1340 + v)) ((g (1240 + (s / 100))) - 1) (ofI g v (s / 100) (s % 100) 0))) (5 + 1) (mdI ((upI g (5 + 0) (mdI (g ((1220 + (4 * v)) + (2 * 0))) (g (((1220 + (4 * v)) + (2 * 0)) + 1)) (s / 100) (s % 100) (g (1340 + v)) ((g (1240 + (s / 100))) - 1) (ofI g v (s / 100) (s % 100) 0))) ((1220 + (4 * v)) + (2 * 1))) ((upI g (5 + 0) (mdI (g ((1220 + (4 * v)) + (2 * 0))) (g (((1220 + (4 * v)) + (2 * 0)) + 1)) (s / 100) (s % 100) (g (1340 + v)) ((g (1240 + (s / 100))) - 1) (ofI g v (s / 100) (s % 100) 0))) (((1220 + (4 * v)) + (2 * 1)) + 1)) (s / 100) (s % 100) ((upI g (5 + 0) (mdI (g ((1220 + (4 * v)) + (2 * 0))) (g (((1220 + (4 * v)) + (2 * 0)) + 1)) (s / 100) (s % 100) (g (1340 + v)) ((g (1240 + (s / 100))) - 1) (ofI g v (s / 100) (s % 100) 0))) (1340 + v)) (((upI g (5 + 0) (mdI (g ((1220 + (4 * v)) + (2 * 0))) (g (((1220 + (4 * v)) + (2 * 0)) + 1)) (s / 100) (s % 100) (g (1340 + v)) ((g (1240 + (s / 100))) - 1) (ofI g v (s / 100) (s % 100) 0))) (1240 + (s / 100))) - 1) (ofI (upI g (5 + 0) (mdI (g ((1220 + (4 * v)) + (2 * 0))) (g (((1220 + (4 * v)) + (2 * 0)) + 1)) (s / 100) (s % 100) (g (1340 + v)) ((g (1240 + (s / 100))) - 1) (ofI g v (s / 100) (s % 100) 0))) v (s / 100) (s % 100) 1))))] dX10_say_239 rfl (by omega) (by omega) (by decide) rfl ?_
                  refine g_iinc G 8 [(0, .ref q0), (1, .int (iI v)), (2, .int (iI s)), (3, .int (iI (s / 100))), (4, .int (iI (s % 100))), (5, .int (iI ((3 * (g 2)) + v))), (6, .int (iI (1220 + (4 * v)))), (7, .int (iI kn)), (8, .int (iI 2))] dX10_say_240 rfl (by decide) rfl rfl ?_
                  refine g_goto G 161 dX10_say_243 (by decide) ?_
                  refine g_iload G 8 dX10_say_161 rfl ?_
                  refine g_iconst G dX10_say_163 ?_
                  refine g_icmp_ge G 246 dX10_say_164 (by decide) (by omega) (by omega) (fun c164_3 => ?_) (fun c164_3 => ?_)
                  · refine g_norm G 1 (upI (upI g (5 + 0) (syM g v s 0)) (5 + 1) (syM g v s 1)) [(q0, .inr (10, [.ref q1, .ref q2, .ref q3, .int (iI c0), .ref q4, .ref q5, .int (iI la), .ref q6, .ref q7, .ref q8, .ref q9, .ref q10, .ref q11, .int (iI ch), .int (iI us)])), (q1, ia E 5400 (upI (upI g (5 + 0) (syM g v s 0)) (5 + 1) (syM g v s 1)))] rfl (by intro j h0 h1; exact congrFun (syW s hO hok.2.1 hok.2.2) j) rfl ?_
                    refine g_aload_n G 0 dX10_say_246 rfl ?_
                    refine g_get G 0 0 dX10_say_247 i_X10_say_X10 f_X10_say_7 rfl rfl (by decide) rfl ?_
                    refine g_sipush G dX10_say_250 (by decide +kernel) ?_
                    refine g_iload_n G 3 dX10_say_253 rfl ?_
                    refine g_iadd G dX10_say_254 ?_
                    refine g_iload G 4 dX10_say_255 rfl ?_
                    refine g_iconst G dX10_say_257 ?_
                    refine g_iadd G dX10_say_258 ?_
                    refine g_iast G 1 [(q0, .inr (10, [.ref q1, .ref q2, .ref q3, .int (iI c0), .ref q4, .ref q5, .int (iI la), .ref q6, .ref q7, .ref q8, .ref q9, .ref q10, .ref q11, .int (iI ch), .int (iI us)])), (q1, ia E 5400 (upI (upI (upI g (5 + 0) (syM g v s 0)) (5 + 1) (syM g v s 1)) (1240 + (s / 100)) ((s % 100) + 1)))] dX10_say_259 rfl (by omega) (by omega) (by decide) rfl ?_
                    refine g_aload_n G 0 dX10_say_260 rfl ?_
                    refine g_get G 0 0 dX10_say_261 i_X10_say_X10 f_X10_say_7 rfl rfl (by decide) rfl ?_
                    refine g_sipush G dX10_say_264 (by decide +kernel) ?_
                    refine g_iload_n G 1 dX10_say_267 rfl ?_
                    refine g_iadd G dX10_say_268 ?_
                    refine g_dup2 G dX10_say_269 rfl rfl ?_
                    refine g_iald G 1 dX10_say_270 rfl (by omega) (by omega) (by decide) ?_
                    refine g_iconst G dX10_say_271 ?_
                    refine g_iadd G dX10_say_272 ?_
                    refine g_iast G 1 [(q0, .inr (10, [.ref q1, .ref q2, .ref q3, .int (iI c0), .ref q4, .ref q5, .int (iI la), .ref q6, .ref q7, .ref q8, .ref q9, .ref q10, .ref q11, .int (iI ch), .int (iI us)])), (q1, ia E 5400 (upI (upI (upI (upI g (5 + 0) (syM g v s 0)) (5 + 1) (syM g v s 1)) (1240 + (s / 100)) ((s % 100) + 1)) (1340 + v) (((upI (upI (upI g (5 + 0) (syM g v s 0)) (5 + 1) (syM g v s 1)) (1240 + (s / 100)) ((s % 100) + 1)) (1340 + v)) + 1)))] dX10_say_273 rfl (by omega) (by omega) (by decide) rfl ?_
                    refine g_aload_n G 0 dX10_say_274 rfl ?_
                    refine g_get G 0 0 dX10_say_275 i_X10_say_X10 f_X10_say_7 rfl rfl (by decide) rfl ?_
                    refine g_iconst G dX10_say_278 ?_
                    refine g_dup2 G dX10_say_279 rfl rfl ?_
                    refine g_iald G 1 dX10_say_280 rfl (by omega) (by omega) (by decide) ?_
                    refine g_iconst G dX10_say_281 ?_
                    refine g_iadd G dX10_say_282 ?_
                    refine g_iast G 1 [(q0, .inr (10, [.ref q1, .ref q2, .ref q3, .int (iI c0), .ref q4, .ref q5, .int (iI la), .ref q6, .ref q7, .ref q8, .ref q9, .ref q10, .ref q11, .int (iI ch), .int (iI us)])), (q1, ia E 5400 (upI (upI (upI (upI (upI g (5 + 0) (syM g v s 0)) (5 + 1) (syM g v s 1)) (1240 + (s / 100)) ((s % 100) + 1)) (1340 + v) (((upI (upI (upI g (5 + 0) (syM g v s 0)) (5 + 1) (syM g v s 1)) (1240 + (s / 100)) ((s % 100) + 1)) (1340 + v)) + 1)) 3 (((upI (upI (upI (upI g (5 + 0) (syM g v s 0)) (5 + 1) (syM g v s 1)) (1240 + (s / 100)) ((s % 100) + 1)) (1340 + v) (((upI (upI (upI g (5 + 0) (syM g v s 0)) (5 + 1) (syM g v s 1)) (1240 + (s / 100)) ((s % 100) + 1)) (1340 + v)) + 1)) 3) + 1)))] dX10_say_283 rfl (by omega) (by omega) (by decide) rfl ?_
                    refine g_aload_n G 0 dX10_say_284 rfl ?_
                    refine g_get G 0 0 dX10_say_285 i_X10_say_X10 f_X10_say_7 rfl rfl (by decide) rfl ?_
                    refine g_iconst G dX10_say_288 ?_
                    refine g_aload_n G 0 dX10_say_289 rfl ?_
                    refine g_get G 0 0 dX10_say_290 i_X10_say_X10 f_X10_say_7 rfl rfl (by decide) rfl ?_
                    refine g_sipush G dX10_say_293 (by decide +kernel) ?_
                    refine g_iload G 5 dX10_say_296 rfl ?_
                    refine g_iadd G dX10_say_298 ?_
                    refine g_iald G 1 dX10_say_299 rfl (by omega) (by omega) (by decide) ?_
                    refine g_iast G 1 [(q0, .inr (10, [.ref q1, .ref q2, .ref q3, .int (iI c0), .ref q4, .ref q5, .int (iI la), .ref q6, .ref q7, .ref q8, .ref q9, .ref q10, .ref q11, .int (iI ch), .int (iI us)])), (q1, ia E 5400 (upI (upI (upI (upI (upI (upI g (5 + 0) (syM g v s 0)) (5 + 1) (syM g v s 1)) (1240 + (s / 100)) ((s % 100) + 1)) (1340 + v) (((upI (upI (upI g (5 + 0) (syM g v s 0)) (5 + 1) (syM g v s 1)) (1240 + (s / 100)) ((s % 100) + 1)) (1340 + v)) + 1)) 3 (((upI (upI (upI (upI g (5 + 0) (syM g v s 0)) (5 + 1) (syM g v s 1)) (1240 + (s / 100)) ((s % 100) + 1)) (1340 + v) (((upI (upI (upI g (5 + 0) (syM g v s 0)) (5 + 1) (syM g v s 1)) (1240 + (s / 100)) ((s % 100) + 1)) (1340 + v)) + 1)) 3) + 1)) 2 ((upI (upI (upI (upI (upI g (5 + 0) (syM g v s 0)) (5 + 1) (syM g v s 1)) (1240 + (s / 100)) ((s % 100) + 1)) (1340 + v) (((upI (upI (upI g (5 + 0) (syM g v s 0)) (5 + 1) (syM g v s 1)) (1240 + (s / 100)) ((s % 100) + 1)) (1340 + v)) + 1)) 3 (((upI (upI (upI (upI g (5 + 0) (syM g v s 0)) (5 + 1) (syM g v s 1)) (1240 + (s / 100)) ((s % 100) + 1)) (1340 + v) (((upI (upI (upI g (5 + 0) (syM g v s 0)) (5 + 1) (syM g v s 1)) (1240 + (s / 100)) ((s % 100) + 1)) (1340 + v)) + 1)) 3) + 1)) (1190 + ((3 * (g 2)) + v)))))] dX10_say_300 rfl (by omega) (by omega) (by decide) rfl ?_
                    refine g_aload_n G 0 dX10_say_301 rfl ?_
                    refine g_get G 0 0 dX10_say_302 i_X10_say_X10 f_X10_say_7 rfl rfl (by decide) rfl ?_
                    refine g_sipush G dX10_say_305 (by decide +kernel) ?_
                    refine g_iload G 5 dX10_say_308 rfl ?_
                    refine g_iadd G dX10_say_310 ?_
                    refine g_iald G 1 dX10_say_311 rfl (by omega) (by omega) (by decide) ?_
                    exact g_ret G (some (.int (iI ((upI (upI (upI (upI (upI (upI g (5 + 0) (syM g v s 0)) (5 + 1) (syM g v s 1)) (1240 + (s / 100)) ((s % 100) + 1)) (1340 + v) (((upI (upI (upI g (5 + 0) (syM g v s 0)) (5 + 1) (syM g v s 1)) (1240 + (s / 100)) ((s % 100) + 1)) (1340 + v)) + 1)) 3 (((upI (upI (upI (upI g (5 + 0) (syM g v s 0)) (5 + 1) (syM g v s 1)) (1240 + (s / 100)) ((s % 100) + 1)) (1340 + v) (((upI (upI (upI g (5 + 0) (syM g v s 0)) (5 + 1) (syM g v s 1)) (1240 + (s / 100)) ((s % 100) + 1)) (1340 + v)) + 1)) 3) + 1)) 2 ((upI (upI (upI (upI (upI g (5 + 0) (syM g v s 0)) (5 + 1) (syM g v s 1)) (1240 + (s / 100)) ((s % 100) + 1)) (1340 + v) (((upI (upI (upI g (5 + 0) (syM g v s 0)) (5 + 1) (syM g v s 1)) (1240 + (s / 100)) ((s % 100) + 1)) (1340 + v)) + 1)) 3 (((upI (upI (upI (upI g (5 + 0) (syM g v s 0)) (5 + 1) (syM g v s 1)) (1240 + (s / 100)) ((s % 100) + 1)) (1340 + v) (((upI (upI (upI g (5 + 0) (syM g v s 0)) (5 + 1) (syM g v s 1)) (1240 + (s / 100)) ((s % 100) + 1)) (1340 + v)) + 1)) 3) + 1)) (1190 + ((3 * (g 2)) + v)))) (1202 + ((3 * (g 2)) + v)))))) rfl dX10_say_312 (Nat.le_refl _) (Nat.le_refl _) ⟨((upI (upI (upI (upI (upI (upI g (5 + 0) (syM g v s 0)) (5 + 1) (syM g v s 1)) (1240 + (s / 100)) ((s % 100) + 1)) (1340 + v) (((upI (upI (upI g (5 + 0) (syM g v s 0)) (5 + 1) (syM g v s 1)) (1240 + (s / 100)) ((s % 100) + 1)) (1340 + v)) + 1)) 3 (((upI (upI (upI (upI g (5 + 0) (syM g v s 0)) (5 + 1) (syM g v s 1)) (1240 + (s / 100)) ((s % 100) + 1)) (1340 + v) (((upI (upI (upI g (5 + 0) (syM g v s 0)) (5 + 1) (syM g v s 1)) (1240 + (s / 100)) ((s % 100) + 1)) (1340 + v)) + 1)) 3) + 1)) 2 ((upI (upI (upI (upI (upI g (5 + 0) (syM g v s 0)) (5 + 1) (syM g v s 1)) (1240 + (s / 100)) ((s % 100) + 1)) (1340 + v) (((upI (upI (upI g (5 + 0) (syM g v s 0)) (5 + 1) (syM g v s 1)) (1240 + (s / 100)) ((s % 100) + 1)) (1340 + v)) + 1)) 3 (((upI (upI (upI (upI g (5 + 0) (syM g v s 0)) (5 + 1) (syM g v s 1)) (1240 + (s / 100)) ((s % 100) + 1)) (1340 + v) (((upI (upI (upI g (5 + 0) (syM g v s 0)) (5 + 1) (syM g v s 1)) (1240 + (s / 100)) ((s % 100) + 1)) (1340 + v)) + 1)) 3) + 1)) (1190 + ((3 * (g 2)) + v)))) (1202 + ((3 * (g 2)) + v))), (upI (upI (upI (upI (upI (upI g (5 + 0) (syM g v s 0)) (5 + 1) (syM g v s 1)) (1240 + (s / 100)) ((s % 100) + 1)) (1340 + v) (((upI (upI (upI g (5 + 0) (syM g v s 0)) (5 + 1) (syM g v s 1)) (1240 + (s / 100)) ((s % 100) + 1)) (1340 + v)) + 1)) 3 (((upI (upI (upI (upI g (5 + 0) (syM g v s 0)) (5 + 1) (syM g v s 1)) (1240 + (s / 100)) ((s % 100) + 1)) (1340 + v) (((upI (upI (upI g (5 + 0) (syM g v s 0)) (5 + 1) (syM g v s 1)) (1240 + (s / 100)) ((s % 100) + 1)) (1340 + v)) + 1)) 3) + 1)) 2 ((upI (upI (upI (upI (upI g (5 + 0) (syM g v s 0)) (5 + 1) (syM g v s 1)) (1240 + (s / 100)) ((s % 100) + 1)) (1340 + v) (((upI (upI (upI g (5 + 0) (syM g v s 0)) (5 + 1) (syM g v s 1)) (1240 + (s / 100)) ((s % 100) + 1)) (1340 + v)) + 1)) 3 (((upI (upI (upI (upI g (5 + 0) (syM g v s 0)) (5 + 1) (syM g v s 1)) (1240 + (s / 100)) ((s % 100) + 1)) (1340 + v) (((upI (upI (upI g (5 + 0) (syM g v s 0)) (5 + 1) (syM g v s 1)) (1240 + (s / 100)) ((s % 100) + 1)) (1340 + v)) + 1)) 3) + 1)) (1190 + ((3 * (g 2)) + v)))), rfl, rfl, by first | exact Or.inr (Or.inr ⟨by omega, rfl, rfl⟩) | (refine Or.inr (Or.inl ⟨hok, by rcases hk with q | q; (have := q.1; omega); exact q.2, rfl, rfl⟩); done) | (have hk2 : syK g v s := (by rcases hk with q | q; exact q.2; (have := q.1; omega)); refine Or.inl ⟨hok, hk2, ?_, ?_⟩; exact syE1 g hok.2.1 hok.2.2 hst; exact syE2 g hok.2.1 hok.2.2 hst)⟩
                  · exfalso; omega
            · refine g_aload_n G 0 dX10_say_145 rfl ?_
              refine g_get G 0 0 dX10_say_146 i_X10_say_X10 f_X10_say_7 rfl rfl (by decide) rfl ?_
              refine g_iconst G dX10_say_149 ?_
              refine g_dup2 G dX10_say_150 rfl rfl ?_
              refine g_iald G 1 dX10_say_151 rfl (by omega) (by omega) (by decide) ?_
              have b23 := hg 4
              refine g_iconst G dX10_say_152 ?_
              refine g_iadd G dX10_say_153 ?_
              refine g_iast G 1 [(q0, .inr (10, [.ref q1, .ref q2, .ref q3, .int (iI c0), .ref q4, .ref q5, .int (iI la), .ref q6, .ref q7, .ref q8, .ref q9, .ref q10, .ref q11, .int (iI ch), .int (iI us)])), (q1, ia E 5400 (upI g 4 ((g 4) + 1)))] dX10_say_154 rfl (by omega) (by omega) (by decide) rfl ?_
              refine g_bipush G dX10_say_155 (by decide +kernel) ?_
              exact g_ret G (some (.int (iI (-2)))) rfl dX10_say_157 (Nat.le_refl _) (Nat.le_refl _) ⟨(-2), (upI g 4 ((g 4) + 1)), rfl, rfl, by first | exact Or.inr (Or.inr ⟨by omega, rfl, rfl⟩) | (refine Or.inr (Or.inl ⟨hok, by rcases hk with q | q; (have := q.1; omega); exact q.2, rfl, rfl⟩); done) | (have hk2 : syK g v s := (by rcases hk with q | q; exact q.2; (have := q.1; omega)); refine Or.inl ⟨hok, hk2, ?_, ?_⟩; exact syE1 g hok.2.1 hok.2.2 hst; exact syE2 g hok.2.1 hok.2.2 hst)⟩
          refine g_iconst G dX10_say_84 ?_
          refine g_istore G [(0, .ref q0), (1, .int (iI v)), (2, .int (iI s)), (3, .int (iI (s / 100))), (4, .int (iI (s % 100))), (5, .int (iI ((3 * (g 2)) + v))), (6, .int (iI (1220 + (4 * v)))), (7, .int (iI 1)), (8, .int (iI 0))] dX10_say_85 (by decide) rfl rfl ?_
          refine g_iload G 8 dX10_say_87 rfl ?_
          refine g_iconst G dX10_say_89 ?_
          refine g_icmp_ge G 140 dX10_say_90 (by decide) (by omega) (by omega) (fun c90 => ?_) (fun c90 => ?_)
          · exfalso; omega
          · refine g_iload G 7 dX10_say_93 rfl ?_
            refine g_if_eq G 131 dX10_say_95 (by decide) (by omega) (fun c95 => ?_) (fun c95 => ?_)
            · exfalso; omega
            · refine g_aload_n G 0 dX10_say_98 rfl ?_
              refine g_get G 0 0 dX10_say_99 i_X10_say_X10 f_X10_say_7 rfl rfl (by decide) rfl ?_
              refine g_iload G 6 dX10_say_102 rfl ?_
              refine g_iconst G dX10_say_104 ?_
              refine g_iload G 8 dX10_say_105 rfl ?_
              refine g_imul G dX10_say_107 ?_
              refine g_iadd G dX10_say_108 ?_
              refine g_iald G 1 dX10_say_109 rfl (by omega) (by omega) (by decide) ?_
              have b24 := hg ((1220 + (4 * v)) + (2 * 0))
              refine g_iconst G dX10_say_110 ?_
              refine g_icmp_ne G 127 dX10_say_111 (by decide) (by omega) (by omega) (fun c111 => ?_) (fun c111 => ?_)
              · refine g_iconst G dX10_say_127 ?_
                refine g_goto G 132 dX10_say_128 (by decide) ?_
                refine g_istore G [(0, .ref q0), (1, .int (iI v)), (2, .int (iI s)), (3, .int (iI (s / 100))), (4, .int (iI (s % 100))), (5, .int (iI ((3 * (g 2)) + v))), (6, .int (iI (1220 + (4 * v)))), (7, .int (iI 1)), (8, .int (iI 0))] dX10_say_132 (by decide) rfl rfl ?_
                refine g_iinc G 8 [(0, .ref q0), (1, .int (iI v)), (2, .int (iI s)), (3, .int (iI (s / 100))), (4, .int (iI (s % 100))), (5, .int (iI ((3 * (g 2)) + v))), (6, .int (iI (1220 + (4 * v)))), (7, .int (iI 1)), (8, .int (iI 1))] dX10_say_134 rfl (by decide) rfl rfl ?_
                refine g_goto G 87 dX10_say_137 (by decide) ?_
                refine g_iload G 8 dX10_say_87 rfl ?_
                refine g_iconst G dX10_say_89 ?_
                refine g_icmp_ge G 140 dX10_say_90 (by decide) (by omega) (by omega) (fun c90_2 => ?_) (fun c90_2 => ?_)
                · exfalso; omega
                · refine g_iload G 7 dX10_say_93 rfl ?_
                  refine g_if_eq G 131 dX10_say_95 (by decide) (by omega) (fun c95_2 => ?_) (fun c95_2 => ?_)
                  · exfalso; omega
                  · refine g_aload_n G 0 dX10_say_98 rfl ?_
                    refine g_get G 0 0 dX10_say_99 i_X10_say_X10 f_X10_say_7 rfl rfl (by decide) rfl ?_
                    refine g_iload G 6 dX10_say_102 rfl ?_
                    refine g_iconst G dX10_say_104 ?_
                    refine g_iload G 8 dX10_say_105 rfl ?_
                    refine g_imul G dX10_say_107 ?_
                    refine g_iadd G dX10_say_108 ?_
                    refine g_iald G 1 dX10_say_109 rfl (by omega) (by omega) (by decide) ?_
                    have b25 := hg ((1220 + (4 * v)) + (2 * 1))
                    refine g_iconst G dX10_say_110 ?_
                    refine g_icmp_ne G 127 dX10_say_111 (by decide) (by omega) (by omega) (fun c111_2 => ?_) (fun c111_2 => ?_)
                    · refine g_iconst G dX10_say_127 ?_
                      refine g_goto G 132 dX10_say_128 (by decide) ?_
                      refine g_istore G [(0, .ref q0), (1, .int (iI v)), (2, .int (iI s)), (3, .int (iI (s / 100))), (4, .int (iI (s % 100))), (5, .int (iI ((3 * (g 2)) + v))), (6, .int (iI (1220 + (4 * v)))), (7, .int (iI 1)), (8, .int (iI 1))] dX10_say_132 (by decide) rfl rfl ?_
                      refine g_iinc G 8 [(0, .ref q0), (1, .int (iI v)), (2, .int (iI s)), (3, .int (iI (s / 100))), (4, .int (iI (s % 100))), (5, .int (iI ((3 * (g 2)) + v))), (6, .int (iI (1220 + (4 * v)))), (7, .int (iI 1)), (8, .int (iI 2))] dX10_say_134 rfl (by decide) rfl rfl ?_
                      refine g_goto G 87 dX10_say_137 (by decide) ?_
                      refine g_iload G 8 dX10_say_87 rfl ?_
                      refine g_iconst G dX10_say_89 ?_
                      refine g_icmp_ge G 140 dX10_say_90 (by decide) (by omega) (by omega) (fun c90_3 => ?_) (fun c90_3 => ?_)
                      · exact L140 1 (by first | exact Or.inl ⟨rfl, by unfold syK; omega⟩ | exact Or.inr ⟨rfl, by unfold syK; omega⟩)
                      · exfalso; omega
                    · refine g_aload_n G 0 dX10_say_114 rfl ?_
                      refine g_iload_n G 1 dX10_say_115 rfl ?_
                      refine g_iload_n G 3 dX10_say_116 rfl ?_
                      refine g_iload G 4 dX10_say_117 rfl ?_
                      refine g_iload G 8 dX10_say_119 rfl ?_
                      refine g_callV G [0, 1] [] 2 [] [.int (iI v), .int (iI (s / 100)), .int (iI (s % 100)), .int (iI 1)] [] (c_X10_oldField E q0 q1 q2 q3 q4 q5 q6 q7 q8 q9 q10 q11 c0 la ch us g v (s / 100) (s % 100) 1 (by exact hG) (by omega) (by omega) (by omega) (by first | assumption | omega) (by exact hO)) dX10_say_121 gX10_say_X10_oldField ⟨rfl, ⟨rfl, rfl⟩, e_X10_oldField, ⟨Nat.le_of_ble_eq_true rfl, Nat.le_of_ble_eq_true rfl⟩, Nat.le_of_ble_eq_true rfl, Nat.le_of_ble_eq_true rfl, Nat.le_of_ble_eq_true rfl⟩ rfl rfl rfl rfl rfl (by decide +kernel) rfl (by decide +kernel) rfl (fun v9 w9 h9 => ?_)
                      obtain ⟨o26, rfl, rfl, rfl⟩ := h9
                      refine ⟨[(q0, .inr (10, [.ref q1, .ref q2, .ref q3, .int (iI c0), .ref q4, .ref q5, .int (iI la), .ref q6, .ref q7, .ref q8, .ref q9, .ref q10, .ref q11, .int (iI ch), .int (iI us)])), (q1, ia E 5400 g)], ⟨rfl, rfl, rfl, rfl⟩, g_to 0 0 _ _ [.int (iI (ofI g v (s / 100) (s % 100) 1))] rfl rfl rfl rfl rfl ?_⟩
                      have hob := ofI_bd hO v (s / 100) (s % 100) (1) (by omega)
                      refine g_if_lt G 131 dX10_say_124 (by decide) (by omega) (fun c124 => ?_) (fun c124 => ?_)
                      · refine g_iconst G dX10_say_131 ?_
                        refine g_istore G [(0, .ref q0), (1, .int (iI v)), (2, .int (iI s)), (3, .int (iI (s / 100))), (4, .int (iI (s % 100))), (5, .int (iI ((3 * (g 2)) + v))), (6, .int (iI (1220 + (4 * v)))), (7, .int (iI 0)), (8, .int (iI 1))] dX10_say_132 (by decide) rfl rfl ?_
                        refine g_iinc G 8 [(0, .ref q0), (1, .int (iI v)), (2, .int (iI s)), (3, .int (iI (s / 100))), (4, .int (iI (s % 100))), (5, .int (iI ((3 * (g 2)) + v))), (6, .int (iI (1220 + (4 * v)))), (7, .int (iI 0)), (8, .int (iI 2))] dX10_say_134 rfl (by decide) rfl rfl ?_
                        refine g_goto G 87 dX10_say_137 (by decide) ?_
                        refine g_iload G 8 dX10_say_87 rfl ?_
                        refine g_iconst G dX10_say_89 ?_
                        refine g_icmp_ge G 140 dX10_say_90 (by decide) (by omega) (by omega) (fun c90_3 => ?_) (fun c90_3 => ?_)
                        · exact L140 0 (by first | exact Or.inl ⟨rfl, by unfold syK; omega⟩ | exact Or.inr ⟨rfl, by unfold syK; omega⟩)
                        · exfalso; omega
                      · refine g_iconst G dX10_say_127 ?_
                        refine g_goto G 132 dX10_say_128 (by decide) ?_
                        refine g_istore G [(0, .ref q0), (1, .int (iI v)), (2, .int (iI s)), (3, .int (iI (s / 100))), (4, .int (iI (s % 100))), (5, .int (iI ((3 * (g 2)) + v))), (6, .int (iI (1220 + (4 * v)))), (7, .int (iI 1)), (8, .int (iI 1))] dX10_say_132 (by decide) rfl rfl ?_
                        refine g_iinc G 8 [(0, .ref q0), (1, .int (iI v)), (2, .int (iI s)), (3, .int (iI (s / 100))), (4, .int (iI (s % 100))), (5, .int (iI ((3 * (g 2)) + v))), (6, .int (iI (1220 + (4 * v)))), (7, .int (iI 1)), (8, .int (iI 2))] dX10_say_134 rfl (by decide) rfl rfl ?_
                        refine g_goto G 87 dX10_say_137 (by decide) ?_
                        refine g_iload G 8 dX10_say_87 rfl ?_
                        refine g_iconst G dX10_say_89 ?_
                        refine g_icmp_ge G 140 dX10_say_90 (by decide) (by omega) (by omega) (fun c90_3 => ?_) (fun c90_3 => ?_)
                        · exact L140 1 (by first | exact Or.inl ⟨rfl, by unfold syK; omega⟩ | exact Or.inr ⟨rfl, by unfold syK; omega⟩)
                        · exfalso; omega
              · refine g_aload_n G 0 dX10_say_114 rfl ?_
                refine g_iload_n G 1 dX10_say_115 rfl ?_
                refine g_iload_n G 3 dX10_say_116 rfl ?_
                refine g_iload G 4 dX10_say_117 rfl ?_
                refine g_iload G 8 dX10_say_119 rfl ?_
                refine g_callV G [0, 1] [] 2 [] [.int (iI v), .int (iI (s / 100)), .int (iI (s % 100)), .int (iI 0)] [] (c_X10_oldField E q0 q1 q2 q3 q4 q5 q6 q7 q8 q9 q10 q11 c0 la ch us g v (s / 100) (s % 100) 0 (by exact hG) (by omega) (by omega) (by omega) (by first | assumption | omega) (by exact hO)) dX10_say_121 gX10_say_X10_oldField ⟨rfl, ⟨rfl, rfl⟩, e_X10_oldField, ⟨Nat.le_of_ble_eq_true rfl, Nat.le_of_ble_eq_true rfl⟩, Nat.le_of_ble_eq_true rfl, Nat.le_of_ble_eq_true rfl, Nat.le_of_ble_eq_true rfl⟩ rfl rfl rfl rfl rfl (by decide +kernel) rfl (by decide +kernel) rfl (fun v9 w9 h9 => ?_)
                obtain ⟨o27, rfl, rfl, rfl⟩ := h9
                refine ⟨[(q0, .inr (10, [.ref q1, .ref q2, .ref q3, .int (iI c0), .ref q4, .ref q5, .int (iI la), .ref q6, .ref q7, .ref q8, .ref q9, .ref q10, .ref q11, .int (iI ch), .int (iI us)])), (q1, ia E 5400 g)], ⟨rfl, rfl, rfl, rfl⟩, g_to 0 0 _ _ [.int (iI (ofI g v (s / 100) (s % 100) 0))] rfl rfl rfl rfl rfl ?_⟩
                have hob := ofI_bd hO v (s / 100) (s % 100) (0) (by omega)
                refine g_if_lt G 131 dX10_say_124 (by decide) (by omega) (fun c124 => ?_) (fun c124 => ?_)
                · refine g_iconst G dX10_say_131 ?_
                  refine g_istore G [(0, .ref q0), (1, .int (iI v)), (2, .int (iI s)), (3, .int (iI (s / 100))), (4, .int (iI (s % 100))), (5, .int (iI ((3 * (g 2)) + v))), (6, .int (iI (1220 + (4 * v)))), (7, .int (iI 0)), (8, .int (iI 0))] dX10_say_132 (by decide) rfl rfl ?_
                  refine g_iinc G 8 [(0, .ref q0), (1, .int (iI v)), (2, .int (iI s)), (3, .int (iI (s / 100))), (4, .int (iI (s % 100))), (5, .int (iI ((3 * (g 2)) + v))), (6, .int (iI (1220 + (4 * v)))), (7, .int (iI 0)), (8, .int (iI 1))] dX10_say_134 rfl (by decide) rfl rfl ?_
                  refine g_goto G 87 dX10_say_137 (by decide) ?_
                  refine g_iload G 8 dX10_say_87 rfl ?_
                  refine g_iconst G dX10_say_89 ?_
                  refine g_icmp_ge G 140 dX10_say_90 (by decide) (by omega) (by omega) (fun c90_2 => ?_) (fun c90_2 => ?_)
                  · exfalso; omega
                  · refine g_iload G 7 dX10_say_93 rfl ?_
                    refine g_if_eq G 131 dX10_say_95 (by decide) (by omega) (fun c95_2 => ?_) (fun c95_2 => ?_)
                    · refine g_iconst G dX10_say_131 ?_
                      refine g_istore G [(0, .ref q0), (1, .int (iI v)), (2, .int (iI s)), (3, .int (iI (s / 100))), (4, .int (iI (s % 100))), (5, .int (iI ((3 * (g 2)) + v))), (6, .int (iI (1220 + (4 * v)))), (7, .int (iI 0)), (8, .int (iI 1))] dX10_say_132 (by decide) rfl rfl ?_
                      refine g_iinc G 8 [(0, .ref q0), (1, .int (iI v)), (2, .int (iI s)), (3, .int (iI (s / 100))), (4, .int (iI (s % 100))), (5, .int (iI ((3 * (g 2)) + v))), (6, .int (iI (1220 + (4 * v)))), (7, .int (iI 0)), (8, .int (iI 2))] dX10_say_134 rfl (by decide) rfl rfl ?_
                      refine g_goto G 87 dX10_say_137 (by decide) ?_
                      refine g_iload G 8 dX10_say_87 rfl ?_
                      refine g_iconst G dX10_say_89 ?_
                      refine g_icmp_ge G 140 dX10_say_90 (by decide) (by omega) (by omega) (fun c90_3 => ?_) (fun c90_3 => ?_)
                      · exact L140 0 (by first | exact Or.inl ⟨rfl, by unfold syK; omega⟩ | exact Or.inr ⟨rfl, by unfold syK; omega⟩)
                      · exfalso; omega
                    · exfalso; omega
                · refine g_iconst G dX10_say_127 ?_
                  refine g_goto G 132 dX10_say_128 (by decide) ?_
                  refine g_istore G [(0, .ref q0), (1, .int (iI v)), (2, .int (iI s)), (3, .int (iI (s / 100))), (4, .int (iI (s % 100))), (5, .int (iI ((3 * (g 2)) + v))), (6, .int (iI (1220 + (4 * v)))), (7, .int (iI 1)), (8, .int (iI 0))] dX10_say_132 (by decide) rfl rfl ?_
                  refine g_iinc G 8 [(0, .ref q0), (1, .int (iI v)), (2, .int (iI s)), (3, .int (iI (s / 100))), (4, .int (iI (s % 100))), (5, .int (iI ((3 * (g 2)) + v))), (6, .int (iI (1220 + (4 * v)))), (7, .int (iI 1)), (8, .int (iI 1))] dX10_say_134 rfl (by decide) rfl rfl ?_
                  refine g_goto G 87 dX10_say_137 (by decide) ?_
                  refine g_iload G 8 dX10_say_87 rfl ?_
                  refine g_iconst G dX10_say_89 ?_
                  refine g_icmp_ge G 140 dX10_say_90 (by decide) (by omega) (by omega) (fun c90_2 => ?_) (fun c90_2 => ?_)
                  · exfalso; omega
                  · refine g_iload G 7 dX10_say_93 rfl ?_
                    refine g_if_eq G 131 dX10_say_95 (by decide) (by omega) (fun c95_2 => ?_) (fun c95_2 => ?_)
                    · exfalso; omega
                    · refine g_aload_n G 0 dX10_say_98 rfl ?_
                      refine g_get G 0 0 dX10_say_99 i_X10_say_X10 f_X10_say_7 rfl rfl (by decide) rfl ?_
                      refine g_iload G 6 dX10_say_102 rfl ?_
                      refine g_iconst G dX10_say_104 ?_
                      refine g_iload G 8 dX10_say_105 rfl ?_
                      refine g_imul G dX10_say_107 ?_
                      refine g_iadd G dX10_say_108 ?_
                      refine g_iald G 1 dX10_say_109 rfl (by omega) (by omega) (by decide) ?_
                      have b28 := hg ((1220 + (4 * v)) + (2 * 1))
                      refine g_iconst G dX10_say_110 ?_
                      refine g_icmp_ne G 127 dX10_say_111 (by decide) (by omega) (by omega) (fun c111_2 => ?_) (fun c111_2 => ?_)
                      · refine g_iconst G dX10_say_127 ?_
                        refine g_goto G 132 dX10_say_128 (by decide) ?_
                        refine g_istore G [(0, .ref q0), (1, .int (iI v)), (2, .int (iI s)), (3, .int (iI (s / 100))), (4, .int (iI (s % 100))), (5, .int (iI ((3 * (g 2)) + v))), (6, .int (iI (1220 + (4 * v)))), (7, .int (iI 1)), (8, .int (iI 1))] dX10_say_132 (by decide) rfl rfl ?_
                        refine g_iinc G 8 [(0, .ref q0), (1, .int (iI v)), (2, .int (iI s)), (3, .int (iI (s / 100))), (4, .int (iI (s % 100))), (5, .int (iI ((3 * (g 2)) + v))), (6, .int (iI (1220 + (4 * v)))), (7, .int (iI 1)), (8, .int (iI 2))] dX10_say_134 rfl (by decide) rfl rfl ?_
                        refine g_goto G 87 dX10_say_137 (by decide) ?_
                        refine g_iload G 8 dX10_say_87 rfl ?_
                        refine g_iconst G dX10_say_89 ?_
                        refine g_icmp_ge G 140 dX10_say_90 (by decide) (by omega) (by omega) (fun c90_3 => ?_) (fun c90_3 => ?_)
                        · exact L140 1 (by first | exact Or.inl ⟨rfl, by unfold syK; omega⟩ | exact Or.inr ⟨rfl, by unfold syK; omega⟩)
                        · exfalso; omega
                      · refine g_aload_n G 0 dX10_say_114 rfl ?_
                        refine g_iload_n G 1 dX10_say_115 rfl ?_
                        refine g_iload_n G 3 dX10_say_116 rfl ?_
                        refine g_iload G 4 dX10_say_117 rfl ?_
                        refine g_iload G 8 dX10_say_119 rfl ?_
                        refine g_callV G [0, 1] [] 2 [] [.int (iI v), .int (iI (s / 100)), .int (iI (s % 100)), .int (iI 1)] [] (c_X10_oldField E q0 q1 q2 q3 q4 q5 q6 q7 q8 q9 q10 q11 c0 la ch us g v (s / 100) (s % 100) 1 (by exact hG) (by omega) (by omega) (by omega) (by first | assumption | omega) (by exact hO)) dX10_say_121 gX10_say_X10_oldField ⟨rfl, ⟨rfl, rfl⟩, e_X10_oldField, ⟨Nat.le_of_ble_eq_true rfl, Nat.le_of_ble_eq_true rfl⟩, Nat.le_of_ble_eq_true rfl, Nat.le_of_ble_eq_true rfl, Nat.le_of_ble_eq_true rfl⟩ rfl rfl rfl rfl rfl (by decide +kernel) rfl (by decide +kernel) rfl (fun v9 w9 h9 => ?_)
                        obtain ⟨o29, rfl, rfl, rfl⟩ := h9
                        refine ⟨[(q0, .inr (10, [.ref q1, .ref q2, .ref q3, .int (iI c0), .ref q4, .ref q5, .int (iI la), .ref q6, .ref q7, .ref q8, .ref q9, .ref q10, .ref q11, .int (iI ch), .int (iI us)])), (q1, ia E 5400 g)], ⟨rfl, rfl, rfl, rfl⟩, g_to 0 0 _ _ [.int (iI (ofI g v (s / 100) (s % 100) 1))] rfl rfl rfl rfl rfl ?_⟩
                        have hob := ofI_bd hO v (s / 100) (s % 100) (1) (by omega)
                        refine g_if_lt G 131 dX10_say_124 (by decide) (by omega) (fun c124_2 => ?_) (fun c124_2 => ?_)
                        · refine g_iconst G dX10_say_131 ?_
                          refine g_istore G [(0, .ref q0), (1, .int (iI v)), (2, .int (iI s)), (3, .int (iI (s / 100))), (4, .int (iI (s % 100))), (5, .int (iI ((3 * (g 2)) + v))), (6, .int (iI (1220 + (4 * v)))), (7, .int (iI 0)), (8, .int (iI 1))] dX10_say_132 (by decide) rfl rfl ?_
                          refine g_iinc G 8 [(0, .ref q0), (1, .int (iI v)), (2, .int (iI s)), (3, .int (iI (s / 100))), (4, .int (iI (s % 100))), (5, .int (iI ((3 * (g 2)) + v))), (6, .int (iI (1220 + (4 * v)))), (7, .int (iI 0)), (8, .int (iI 2))] dX10_say_134 rfl (by decide) rfl rfl ?_
                          refine g_goto G 87 dX10_say_137 (by decide) ?_
                          refine g_iload G 8 dX10_say_87 rfl ?_
                          refine g_iconst G dX10_say_89 ?_
                          refine g_icmp_ge G 140 dX10_say_90 (by decide) (by omega) (by omega) (fun c90_3 => ?_) (fun c90_3 => ?_)
                          · exact L140 0 (by first | exact Or.inl ⟨rfl, by unfold syK; omega⟩ | exact Or.inr ⟨rfl, by unfold syK; omega⟩)
                          · exfalso; omega
                        · refine g_iconst G dX10_say_127 ?_
                          refine g_goto G 132 dX10_say_128 (by decide) ?_
                          refine g_istore G [(0, .ref q0), (1, .int (iI v)), (2, .int (iI s)), (3, .int (iI (s / 100))), (4, .int (iI (s % 100))), (5, .int (iI ((3 * (g 2)) + v))), (6, .int (iI (1220 + (4 * v)))), (7, .int (iI 1)), (8, .int (iI 1))] dX10_say_132 (by decide) rfl rfl ?_
                          refine g_iinc G 8 [(0, .ref q0), (1, .int (iI v)), (2, .int (iI s)), (3, .int (iI (s / 100))), (4, .int (iI (s % 100))), (5, .int (iI ((3 * (g 2)) + v))), (6, .int (iI (1220 + (4 * v)))), (7, .int (iI 1)), (8, .int (iI 2))] dX10_say_134 rfl (by decide) rfl rfl ?_
                          refine g_goto G 87 dX10_say_137 (by decide) ?_
                          refine g_iload G 8 dX10_say_87 rfl ?_
                          refine g_iconst G dX10_say_89 ?_
                          refine g_icmp_ge G 140 dX10_say_90 (by decide) (by omega) (by omega) (fun c90_3 => ?_) (fun c90_3 => ?_)
                          · exact L140 1 (by first | exact Or.inl ⟨rfl, by unfold syK; omega⟩ | exact Or.inr ⟨rfl, by unfold syK; omega⟩)
                          · exfalso; omega
      · refine g_iconst G dX10_say_29 ?_
        exact g_ret G (some (.int (iI (-1)))) rfl dX10_say_30 (Nat.le_refl _) (Nat.le_refl _) ⟨(-1), g, rfl, rfl, by first | exact Or.inr (Or.inr ⟨by omega, rfl, rfl⟩) | (refine Or.inr (Or.inl ⟨hok, by rcases hk with q | q; (have := q.1; omega); exact q.2, rfl, rfl⟩); done) | (have hk2 : syK g v s := (by rcases hk with q | q; exact q.2; (have := q.1; omega)); refine Or.inl ⟨hok, hk2, ?_, ?_⟩; exact syE1 g hok.2.1 hok.2.2 hst; exact syE2 g hok.2.1 hok.2.2 hst)⟩
