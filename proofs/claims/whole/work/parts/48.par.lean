theorem hsT_bd {g : Int → Int} (hG : AllOk g) (hX : ∀ i, 20 ≤ i → i < 596 → 0 ≤ g i ∧ g i < 100) {x f : Int} (hx : 0 ≤ x ∧ x ≤ 4) (hf : 0 ≤ f ∧ f < 2) (v b : Int) : hsT g x v f b = 1000 ∨ hsT g x v f b = 1001 ∨ (-200 ≤ hsT g x v f b ∧ hsT g x v f b ≤ 200) := by
  refine nR_inv (Q := fun s : Int => s = 1000 ∨ s = 1001 ∨ (-200 ≤ s ∧ s ≤ 200)) _ _ (Or.inl rfl) (fun r p s hr _ hp q => ?_)
  have a0 := hG.2.1
  have a := hG.2.2 r (by omega) (by omega)
  have hp2 : 0 ≤ p ∧ p < g (10 + r) := hp
  have e := bs_cases hX hr.1 (show r < 8 by omega) hp2.1 (show p < 12 by omega) hx
  have e2 := hX (20 + 72 * r + 6 * p + (4 + f)) (by omega) (by omega)
  unfold hsS wgh
  (repeat' split) <;> omega
theorem fkI_bd {g : Int → Int} (hG : AllOk g) (hX : ∀ i, 20 ≤ i → i < 596 → 0 ≤ g i ∧ g i < 100) {f : Int} (hf : 0 ≤ f ∧ f < 2) (v b : Int) : ∀ n : Nat, n ≤ 5 → (-1 ≤ (fkI g v f b n).1 ∧ (fkI g v f b n).1 ≤ 6) ∧ -1000 ≤ (fkI g v f b n).2 ∧ (fkI g v f b n).2 ≤ 1000
  | 0, _ => by
    show (-1 ≤ (if tbI g v f b = 1 then (5 : Int) else 6) ∧ (if tbI g v f b = 1 then (5 : Int) else 6) ≤ 6) ∧ (-1000 : Int) ≤ -1000 ∧ (-1000 : Int) ≤ 1000
    split <;> omega
  | n + 1, hn => by
    have ih := fkI_bd hG hX hf v b n (by omega)
    have h := hsT_bd hG hX (x := 4 - n) (by omega) hf v b
    unfold fkI
    split
    · exact ih
    · (try dsimp only)
      omega
theorem rkI_bd {g : Int → Int} (hG : AllOk g) (hX : ∀ i, 20 ≤ i → i < 596 → 0 ≤ g i ∧ g i < 100) {f : Int} (hf : 0 ≤ f ∧ f < 2) (v b : Int) : (-1 ≤ (rkI g v f b).1 ∧ (rkI g v f b).1 ≤ 6) ∧ -1000 ≤ (rkI g v f b).2 ∧ (rkI g v f b).2 ≤ 1000 := by
  unfold rkI
  split
  · exact fkI_bd hG hX hf v b 5 (by omega)
  · (try dsimp only)
    omega
theorem rk_U {g U : Int → Int} {b : Int} (hG : AllOk g) (hX : ∀ i, 20 ≤ i → i < 596 → 0 ≤ g i ∧ g i < 100) (hu : ∀ v f, 0 ≤ v ∧ v < 3 → 0 ≤ f ∧ f < 2 → U (4 * v + 2 * f) = (rkI g v f b).1 ∧ U (4 * v + 2 * f + 1) = (rkI g v f b).2) : ∀ v f, 0 ≤ v ∧ v < 3 → 0 ≤ f ∧ f < 2 → (-1000 ≤ U (4 * v + 2 * f) ∧ U (4 * v + 2 * f) ≤ 1000) ∧ -1000 ≤ U (4 * v + 2 * f + 1) ∧ U (4 * v + 2 * f + 1) ≤ 1000 := by
  intro v f hv hf
  have a := hu v f hv hf
  have b1 := rkI_bd hG hX hf v b
  omega
/-- the reference's parts of a row, rows but b -/
def PtR (g : Int → Int) (b x r : Int) (lr lp lr1 lp1 : Int → Int) (la1 : Int) (t1 c1 U : Int → Int) : Prop :=
  ∃ mr, MacR g b mr lr1 lp1 la1 t1 c1 ∧ lyI g b lr lp = (lr1, lp1, la1) ∧ ((mr < 1 ∧ r = -1) ∨ (1 ≤ mr ∧ (∀ v f, 0 ≤ v ∧ v < 3 → 0 ≤ f ∧ f < 2 → U (4 * v + 2 * f) = (rkI g v f b).1 ∧ U (4 * v + 2 * f + 1) = (rkI g v f b).2) ∧ r = pwI g U t1 c1 x b (g (10 + x) - 0).toNat 0 0))
theorem e_X10_differs : yX10_differs.cls ≠ "java/lang/invoke/MethodHandle" ∧ yX10_differs.cls ≠ "java/lang/invoke/VarHandle" ∧ (parseMethodDescriptor yX10_differs.desc).map (fun d => d.parameters.length) = some 4 := by decide +kernel
theorem f_X10_parts_26 : Cond.fieldLink RX10 26 (TX10 7).1 (TX10 7).2.1 (TX10 7).2.2.1 ∈ wsX10_parts := by decide +kernel
theorem i_X10_parts_X10 : ∀ w ∈ wsX100, w ∈ wsX10_parts := by decide +kernel
set_option maxRecDepth 100000 in
set_option maxHeartbeats 4000000 in
theorem c_X10_parts (E : qE) (q0 : Nat) (q1 : Nat) (q2 : Nat) (q3 : Nat) (q4 : Nat) (q5 : Nat) (q6 : Nat) (q7 : Nat) (q8 : Nat) (q9 : Nat) (q10 : Nat) (q11 : Nat) (c0 : Int) (la : Int) (ch : Int) (us : Int) (g : Int → Int) (lr : Int → Int) (lp : Int → Int) (t : Int → Int) (c : Int → Int) (ac : Int → Int) (co : Int → Int) (cs : Int → Int) (ut : Int → Int) (u : Int → Int) (x : Int) (b : Int) (hG : AllOk g) (hV : VbOk g) (hc0 : ∀ i, -100000 ≤ c i ∧ c i ≤ 100000) (hX : ∀ i, 20 ≤ i → i < 596 → 0 ≤ g i ∧ g i < 100) (hx : -2147483648 ≤ x ∧ x < 2147483648) (hb : -2147483648 ≤ b ∧ b < 2147483648) : Cn E yX10_parts wsX10_parts { frames := 6, cells := 0, slots := 0, locals := 146 } [.ref q0, .int (iI x), .int (iI b)] [(q0, .inr (10, [.ref q1, .ref q2, .ref q3, .int (iI c0), .ref q4, .ref q5, .int (iI la), .ref q6, .ref q7, .ref q8, .ref q9, .ref q10, .ref q11, .int (iI ch), .int (iI us)])), (q1, ia E 5400 g), (q4, ia E 96 lr), (q5, ia E 96 lp), (q6, ia E 12 t), (q7, ia E 12 c), (q8, ia E 12 ac), (q9, ia E 12 co), (q10, ia E 12 cs), (q11, ia E 12 ut), (q3, ia E 12 u)] (fun v9 w9 => ∃ (r : Int) (cc : Int) (U : Int → Int) (lr1 : Int → Int) (lp1 : Int → Int) (la1 : Int) (t1 : Int → Int) (c1 : Int → Int) (ac1 : Int → Int) (co1 : Int → Int) (cs1 : Int → Int) (ut1 : Int → Int) (h1 : Int) (u1 : Int), v9 = some (.int (iI r)) ∧ w9 = [(q0, .inr (10, [.ref q1, .ref q2, .ref q3, .int (iI cc), .ref q4, .ref q5, .int (iI la1), .ref q6, .ref q7, .ref q8, .ref q9, .ref q10, .ref q11, .int (iI h1), .int (iI u1)])), (q1, ia E 5400 g), (q4, ia E 96 lr1), (q5, ia E 96 lp1), (q6, ia E 12 t1), (q7, ia E 12 c1), (q8, ia E 12 ac1), (q9, ia E 12 co1), (q10, ia E 12 cs1), (q11, ia E 12 ut1), (q3, ia E 12 U)] ∧ ((¬ (0 ≤ x ∧ x ≤ g 0 - 1) ∧ r = -1) ∨ ((0 ≤ x ∧ x ≤ g 0 - 1) ∧ PtR g b x r lr lp lr1 lp1 la1 t1 c1 U)) ∧ (∀ i, -100000 ≤ c1 i ∧ c1 i ≤ 100000) ∧ (-1 ≤ r ∧ r < 48)) 0 0 := by
  refine Cn.ofP (own := RX10) (cc := cX10_parts) (maxL := 6) (ret := (some .int)) false [(0, .ref q0), (1, .int (iI x)), (2, .int (iI b))] (by decide +kernel) rfl rfl (Nat.le_of_ble_eq_true rfl) rfl (fun h => nomatch h) (fun v w h => by obtain ⟨r, cc, U, lr1, lp1, la1, t1, c1, ac1, co1, cs1, ut1, h1, u1, rfl, h9⟩ := h; exact ⟨_, rfl, rfl⟩) ?_
  intro P G
  obtain ⟨hg, hg0, hgs⟩ := id hG
  refine g_aload_n G 0 dX10_parts_0 rfl ?_
  refine g_iload_n G 1 dX10_parts_1 rfl ?_
  refine g_callV G [0, 1] [2, 3, 4, 5, 6, 7, 8, 9, 10] 11 [(q4, ia E 96 lr), (q5, ia E 96 lp), (q6, ia E 12 t), (q7, ia E 12 c), (q8, ia E 12 ac), (q9, ia E 12 co), (q10, ia E 12 cs), (q11, ia E 12 ut), (q3, ia E 12 u)] [.int (iI x)] [] (c_X10_isRow E q0 q1 q2 q3 q4 q5 q6 q7 q8 q9 q10 q11 c0 la ch us g x (by exact hG) (by first | assumption | omega)) dX10_parts_2 gX10_parts_X10_isRow ⟨rfl, ⟨rfl, rfl⟩, e_X10_isRow, ⟨Nat.le_of_ble_eq_true rfl, Nat.le_of_ble_eq_true rfl⟩, Nat.le_of_ble_eq_true rfl, Nat.le_of_ble_eq_true rfl, Nat.le_of_ble_eq_true rfl⟩ rfl rfl rfl rfl rfl (by decide +kernel) rfl (by decide +kernel) rfl (fun v9 w9 h9 => ?_)
  obtain ⟨o1, rfl, rfl, rfl⟩ := h9
  refine ⟨[(q0, .inr (10, [.ref q1, .ref q2, .ref q3, .int (iI c0), .ref q4, .ref q5, .int (iI la), .ref q6, .ref q7, .ref q8, .ref q9, .ref q10, .ref q11, .int (iI ch), .int (iI us)])), (q1, ia E 5400 g), (q4, ia E 96 lr), (q5, ia E 96 lp), (q6, ia E 12 t), (q7, ia E 12 c), (q8, ia E 12 ac), (q9, ia E 12 co), (q10, ia E 12 cs), (q11, ia E 12 ut), (q3, ia E 12 u)], ⟨rfl, rfl, rfl, rfl⟩, g_to 0 0 _ _ [.int (iI (if 0 ≤ x ∧ x ≤ g 0 - 1 then 1 else 0))] rfl rfl rfl rfl rfl ?_⟩
  refine g_ifb_eq G 17 dX10_parts_5 (by decide) (fun c5 => ?_) (fun c5 => ?_)
  · refine g_iconst G dX10_parts_17 ?_
    exact g_ret G (some (.int (iI (-1)))) rfl dX10_parts_18 (Nat.le_refl _) (Nat.le_refl _) ⟨(-1), c0, u, lr, lp, la, t, c, ac, co, cs, ut, ch, us, rfl, rfl, by first | exact Or.inl ⟨by omega, rfl⟩ | exact Or.inr ⟨by omega, mr, hm2, hl2, Or.inl ⟨by omega, rfl⟩⟩, by first | exact hc2 | exact hc0, by omega⟩
  · have hxx := hgs x (by omega) (by omega)
    refine g_aload_n G 0 dX10_parts_8 rfl ?_
    refine g_iload_n G 2 dX10_parts_9 rfl ?_
    refine g_callV G [0, 1, 2, 3, 4, 5, 6, 7, 8, 9] [10] 11 [(q3, ia E 12 u)] [.int (iI b)] [] (c_X10_machine E q0 q1 q2 q3 q4 q5 q6 q7 q8 q9 q10 q11 c0 la ch us g lr lp t c ac co cs ut b (by exact hG) (by exact hV) (by exact hb) (by exact hc0)) dX10_parts_10 gX10_parts_X10_machine ⟨rfl, ⟨rfl, rfl⟩, e_X10_machine, ⟨Nat.le_of_ble_eq_true rfl, Nat.le_of_ble_eq_true rfl⟩, Nat.le_of_ble_eq_true rfl, Nat.le_of_ble_eq_true rfl, Nat.le_of_ble_eq_true rfl⟩ rfl rfl rfl rfl rfl (by decide +kernel) rfl (by decide +kernel) rfl (fun v9 w9 h9 => ?_)
    obtain ⟨mr, lr1, lp1, la1, t1, c1, ac1_2, co1_3, cs1_4, ut1_5, h1_6, u1_7, rfl, rfl, hm2, hl2, hc2⟩ := h9
    refine ⟨[(q0, .inr (10, [.ref q1, .ref q2, .ref q3, .int (iI c0), .ref q4, .ref q5, .int (iI la1), .ref q6, .ref q7, .ref q8, .ref q9, .ref q10, .ref q11, .int (iI h1_6), .int (iI u1_7)])), (q1, ia E 5400 g), (q4, ia E 96 lr1), (q5, ia E 96 lp1), (q6, ia E 12 t1), (q7, ia E 12 c1), (q8, ia E 12 ac1_2), (q9, ia E 12 co1_3), (q10, ia E 12 cs1_4), (q11, ia E 12 ut1_5), (q3, ia E 12 u)], ⟨rfl, rfl, rfl, rfl⟩, g_to 0 0 _ _ [.int (iI mr)] rfl rfl rfl rfl rfl ?_⟩
    have hmr := MacR.rng hm2
    refine g_iconst G dX10_parts_13 ?_
    refine g_icmp_ge G 19 dX10_parts_14 (by decide) (by omega) (by omega) (fun c14 => ?_) (fun c14 => ?_)
    · have htb := MacR.bd hm2 (by omega)
      refine g_aload_n G 0 dX10_parts_19 rfl ?_
      refine g_iload_n G 2 dX10_parts_20 rfl ?_
      refine g_callV G [0, 1, 10] [2, 3, 4, 5, 6, 7, 8, 9] 11 [(q4, ia E 96 lr1), (q5, ia E 96 lp1), (q6, ia E 12 t1), (q7, ia E 12 c1), (q8, ia E 12 ac1_2), (q9, ia E 12 co1_3), (q10, ia E 12 cs1_4), (q11, ia E 12 ut1_5)] [.int (iI b)] [] (c_X10_rulesBut E q0 q1 q2 q3 q4 q5 q6 q7 q8 q9 q10 q11 c0 la1 h1_6 u1_7 g u b (by exact hG) (by exact hX) (by exact hb)) dX10_parts_21 gX10_parts_X10_rulesBut ⟨rfl, ⟨rfl, rfl⟩, e_X10_rulesBut, ⟨Nat.le_of_ble_eq_true rfl, Nat.le_of_ble_eq_true rfl⟩, Nat.le_of_ble_eq_true rfl, Nat.le_of_ble_eq_true rfl, Nat.le_of_ble_eq_true rfl⟩ rfl rfl rfl rfl rfl (by decide +kernel) rfl (by decide +kernel) rfl (fun v9 w9 h9 => ?_)
      obtain ⟨U, cc, rfl, rfl, hu2⟩ := h9
      refine ⟨[(q0, .inr (10, [.ref q1, .ref q2, .ref q3, .int (iI cc), .ref q4, .ref q5, .int (iI la1), .ref q6, .ref q7, .ref q8, .ref q9, .ref q10, .ref q11, .int (iI h1_6), .int (iI u1_7)])), (q1, ia E 5400 g), (q4, ia E 96 lr1), (q5, ia E 96 lp1), (q6, ia E 12 t1), (q7, ia E 12 c1), (q8, ia E 12 ac1_2), (q9, ia E 12 co1_3), (q10, ia E 12 cs1_4), (q11, ia E 12 ut1_5), (q3, ia E 12 U)], ⟨rfl, rfl, rfl, rfl⟩, g_to 0 0 _ _ [] rfl rfl rfl rfl rfl ?_⟩
      have hU2 := rk_U hG hX hu2
      refine g_iconst G dX10_parts_24 ?_
      refine g_istore_n G [(0, .ref q0), (1, .int (iI x)), (2, .int (iI b)), (3, .int (iI 0))] dX10_parts_25 (by decide) rfl rfl ?_
      refine g_iconst G dX10_parts_26 ?_
      refine g_istore G [(0, .ref q0), (1, .int (iI x)), (2, .int (iI b)), (3, .int (iI 0)), (4, .int (iI 0))] dX10_parts_27 (by decide) rfl rfl ?_
      have L29 : ∀ (fuel : Nat), ∀ (p : Int) (z : Int), (0 ≤ p ∧ p ≤ g (10 + x)) → (0 ≤ z ∧ z < 4) → (pwI g U t1 c1 x b (g (10 + x) - 0).toNat 0 0 = pwI g U t1 c1 x b (g (10 + x) - p).toNat p z) → (g (10 + x) - p : Int).toNat < fuel → P 0 0 [(q0, .inr (10, [.ref q1, .ref q2, .ref q3, .int (iI cc), .ref q4, .ref q5, .int (iI la1), .ref q6, .ref q7, .ref q8, .ref q9, .ref q10, .ref q11, .int (iI h1_6), .int (iI u1_7)])), (q1, ia E 5400 g), (q4, ia E 96 lr1), (q5, ia E 96 lp1), (q6, ia E 12 t1), (q7, ia E 12 c1), (q8, ia E 12 ac1_2), (q9, ia E 12 co1_3), (q10, ia E 12 cs1_4), (q11, ia E 12 ut1_5), (q3, ia E 12 U)] 29 [(0, .ref q0), (1, .int (iI x)), (2, .int (iI b)), (3, .int (iI z)), (4, .int (iI p))] [] := by
        intro fuel
        induction fuel with
        | zero => intro p z hp hz hq hm; exact absurd hm (Nat.not_lt_zero _)
        | succ fuel ih29 =>
          intro p z hp hz hq hm
          refine g_iload G 4 dX10_parts_29 rfl ?_
          refine g_aload_n G 0 dX10_parts_31 rfl ?_
          refine g_iload_n G 1 dX10_parts_32 rfl ?_
          refine g_callV G [0, 1] [2, 3, 4, 5, 6, 7, 8, 9, 10] 11 [(q4, ia E 96 lr1), (q5, ia E 96 lp1), (q6, ia E 12 t1), (q7, ia E 12 c1), (q8, ia E 12 ac1_2), (q9, ia E 12 co1_3), (q10, ia E 12 cs1_4), (q11, ia E 12 ut1_5), (q3, ia E 12 U)] [.int (iI x)] [.int (iI p)] (c_X10_sizeOf E q0 q1 q2 q3 q4 q5 q6 q7 q8 q9 q10 q11 cc la1 h1_6 u1_7 g x (by first | assumption | omega)) dX10_parts_33 gX10_parts_X10_sizeOf ⟨rfl, ⟨rfl, rfl⟩, e_X10_sizeOf, ⟨Nat.le_of_ble_eq_true rfl, Nat.le_of_ble_eq_true rfl⟩, Nat.le_of_ble_eq_true rfl, Nat.le_of_ble_eq_true rfl, Nat.le_of_ble_eq_true rfl⟩ rfl rfl rfl rfl rfl (by decide +kernel) rfl (by decide +kernel) rfl (fun v9 w9 h9 => ?_)
          obtain ⟨o8, rfl, rfl, rfl⟩ := h9
          have b9 := hg (10 + x)
          refine ⟨[(q0, .inr (10, [.ref q1, .ref q2, .ref q3, .int (iI cc), .ref q4, .ref q5, .int (iI la1), .ref q6, .ref q7, .ref q8, .ref q9, .ref q10, .ref q11, .int (iI h1_6), .int (iI u1_7)])), (q1, ia E 5400 g), (q4, ia E 96 lr1), (q5, ia E 96 lp1), (q6, ia E 12 t1), (q7, ia E 12 c1), (q8, ia E 12 ac1_2), (q9, ia E 12 co1_3), (q10, ia E 12 cs1_4), (q11, ia E 12 ut1_5), (q3, ia E 12 U)], ⟨rfl, rfl, rfl, rfl⟩, g_to 0 0 _ _ [.int (iI (g (10 + x))), .int (iI p)] rfl rfl rfl rfl rfl ?_⟩
          refine g_icmp_ge G 87 dX10_parts_36 (by decide) (by omega) (by omega) (fun c36 => ?_) (fun c36 => ?_)
          · refine g_iconst G dX10_parts_87 ?_
            exact g_ret G (some (.int (iI (-1)))) rfl dX10_parts_88 (Nat.le_refl _) (Nat.le_refl _) ⟨(-1), cc, U, lr1, lp1, la1, t1, c1, ac1_2, co1_3, cs1_4, ut1_5, h1_6, u1_7, rfl, rfl, by exact Or.inr ⟨by omega, mr, hm2, hl2, Or.inr ⟨by omega, hu2, by rw [hq, (show (g (10 + x) - p).toNat = 0 by omega)]; rfl⟩⟩, by exact hc2, by omega⟩
          · refine g_aload_n G 0 dX10_parts_39 rfl ?_
            refine g_iload_n G 1 dX10_parts_40 rfl ?_
            refine g_iload G 4 dX10_parts_41 rfl ?_
            refine g_iload_n G 3 dX10_parts_43 rfl ?_
            refine g_iload_n G 2 dX10_parts_44 rfl ?_
            refine g_callV G [0, 1, 10, 4, 5] [2, 3, 6, 7, 8, 9] 11 [(q4, ia E 96 lr1), (q5, ia E 96 lp1), (q8, ia E 12 ac1_2), (q9, ia E 12 co1_3), (q10, ia E 12 cs1_4), (q11, ia E 12 ut1_5)] [.int (iI x), .int (iI p), .int (iI z), .int (iI b)] [] (c_X10_differs E q0 q1 q2 q3 q4 q5 q6 q7 q8 q9 q10 q11 cc la1 h1_6 u1_7 g U t1 c1 x p z b (by exact hG) (by exact hX) (by exact hV) (by exact hU2) (by omega) (by omega) (by exact hz) (by exact hb) (by exact htb) (by exact hc2)) dX10_parts_45 gX10_parts_X10_differs ⟨rfl, ⟨rfl, rfl⟩, e_X10_differs, ⟨Nat.le_of_ble_eq_true rfl, Nat.le_of_ble_eq_true rfl⟩, Nat.le_of_ble_eq_true rfl, Nat.le_of_ble_eq_true rfl, Nat.le_of_ble_eq_true rfl⟩ rfl rfl rfl rfl rfl (by decide +kernel) rfl (by decide +kernel) rfl (fun v9 w9 h9 => ?_)
            obtain ⟨o10, rfl, rfl, rfl⟩ := h9
            refine ⟨[(q0, .inr (10, [.ref q1, .ref q2, .ref q3, .int (iI cc), .ref q4, .ref q5, .int (iI la1), .ref q6, .ref q7, .ref q8, .ref q9, .ref q10, .ref q11, .int (iI h1_6), .int (iI u1_7)])), (q1, ia E 5400 g), (q4, ia E 96 lr1), (q5, ia E 96 lp1), (q6, ia E 12 t1), (q7, ia E 12 c1), (q8, ia E 12 ac1_2), (q9, ia E 12 co1_3), (q10, ia E 12 cs1_4), (q11, ia E 12 ut1_5), (q3, ia E 12 U)], ⟨rfl, rfl, rfl, rfl⟩, g_to 0 0 _ _ [.int (iI (diI g U t1 c1 x p z b))] rfl rfl rfl rfl rfl ?_⟩
            refine g_istore G [(0, .ref q0), (1, .int (iI x)), (2, .int (iI b)), (3, .int (iI z)), (4, .int (iI p)), (5, .int (iI (diI g U t1 c1 x p z b)))] dX10_parts_48 (by decide) rfl rfl ?_
            have hdb := diI_bd g U t1 c1 x p z b
            refine g_iload G 5 dX10_parts_50 rfl ?_
            refine g_if_lt G 63 dX10_parts_52 (by decide) (by omega) (fun c52 => ?_) (fun c52 => ?_)
            · have hto := diI_to c52
              have hvb := hV x p (by omega) (by omega) (by omega) (by omega)
              refine g_aload_n G 0 dX10_parts_63 rfl ?_
              refine g_get G 0 7 dX10_parts_64 i_X10_parts_X10 f_X10_parts_26 rfl rfl (by decide) rfl ?_
              refine g_iconst G dX10_parts_67 ?_
              refine g_iload_n G 3 dX10_parts_68 rfl ?_
              refine g_imul G dX10_parts_69 ?_
              refine g_aload_n G 0 dX10_parts_70 rfl ?_
              refine g_iload_n G 1 dX10_parts_71 rfl ?_
              refine g_iload G 4 dX10_parts_72 rfl ?_
              refine g_iconst G dX10_parts_74 ?_
              refine g_callV G [0, 1] [2, 3, 4, 5, 6, 7, 8, 9, 10] 11 [(q4, ia E 96 lr1), (q5, ia E 96 lp1), (q6, ia E 12 t1), (q7, ia E 12 c1), (q8, ia E 12 ac1_2), (q9, ia E 12 co1_3), (q10, ia E 12 cs1_4), (q11, ia E 12 ut1_5), (q3, ia E 12 U)] [.int (iI x), .int (iI p), .int (iI 0)] [.int (iI (3 * z)), .ref q6] (c_X10_of E q0 q1 q2 q3 q4 q5 q6 q7 q8 q9 q10 q11 cc la1 h1_6 u1_7 g x p 0 (by first | assumption | omega) (by first | assumption | omega) (by first | assumption | omega)) dX10_parts_75 gX10_parts_X10_of ⟨rfl, ⟨rfl, rfl⟩, e_X10_of, ⟨Nat.le_of_ble_eq_true rfl, Nat.le_of_ble_eq_true rfl⟩, Nat.le_of_ble_eq_true rfl, Nat.le_of_ble_eq_true rfl, Nat.le_of_ble_eq_true rfl⟩ rfl rfl rfl rfl rfl (by decide +kernel) rfl (by decide +kernel) rfl (fun v9 w9 h9 => ?_)
              obtain ⟨o11, rfl, rfl, rfl⟩ := h9
              have b12 := hg (20 + 72 * x + 6 * p + 0)
              refine ⟨[(q0, .inr (10, [.ref q1, .ref q2, .ref q3, .int (iI cc), .ref q4, .ref q5, .int (iI la1), .ref q6, .ref q7, .ref q8, .ref q9, .ref q10, .ref q11, .int (iI h1_6), .int (iI u1_7)])), (q1, ia E 5400 g), (q4, ia E 96 lr1), (q5, ia E 96 lp1), (q6, ia E 12 t1), (q7, ia E 12 c1), (q8, ia E 12 ac1_2), (q9, ia E 12 co1_3), (q10, ia E 12 cs1_4), (q11, ia E 12 ut1_5), (q3, ia E 12 U)], ⟨rfl, rfl, rfl, rfl⟩, g_to 0 0 _ _ [.int (iI (g (20 + 72 * x + 6 * p + 0))), .int (iI (3 * z)), .ref q6] rfl rfl rfl rfl rfl ?_⟩
              refine g_iadd G dX10_parts_78 ?_
              refine g_iald G 4 dX10_parts_79 rfl (by omega) (by omega) (by decide) ?_
              have b13 := htb ((3 * z) + (g (20 + 72 * x + 6 * p + 0)))
              refine g_istore_n G [(0, .ref q0), (1, .int (iI x)), (2, .int (iI b)), (3, .int (iI (t1 ((3 * z) + (g (20 + 72 * x + 6 * p + 0)))))), (4, .int (iI p)), (5, .int (iI (diI g U t1 c1 x p z b)))] dX10_parts_80 (by decide) rfl rfl ?_
              refine g_iinc G 4 [(0, .ref q0), (1, .int (iI x)), (2, .int (iI b)), (3, .int (iI (t1 ((3 * z) + (g (20 + 72 * x + 6 * p + 0)))))), (4, .int (iI (p + 1))), (5, .int (iI (diI g U t1 c1 x p z b)))] dX10_parts_81 rfl (by decide) rfl rfl ?_
              refine g_goto G 29 dX10_parts_84 (by decide) ?_
              refine g_lv G [0, 1, 2, 3, 4] (lv' := [(0, .ref q0), (1, .int (iI x)), (2, .int (iI b)), (3, .int (iI (t1 ((3 * z) + (g (20 + 72 * x + 6 * p + 0)))))), (4, .int (iI (p + 1)))]) rfl ?_
              exact ih29 (p + 1) (t1 ((3 * z) + (g (20 + 72 * x + 6 * p + 0)))) (by first | assumption | omega) (by have := htb (3 * z + g (20 + 72 * x + 6 * p + 0)); omega) (by rw [hq, pwI_up g U t1 c1 x b (by omega), if_neg (by omega)]) (by omega)
            · refine g_iconst G dX10_parts_55 ?_
              refine g_iload G 4 dX10_parts_56 rfl ?_
              refine g_imul G dX10_parts_58 ?_
              refine g_iload G 5 dX10_parts_59 rfl ?_
              refine g_iadd G dX10_parts_61 ?_
              exact g_ret G (some (.int (iI ((4 * p) + (diI g U t1 c1 x p z b))))) rfl dX10_parts_62 (Nat.le_refl _) (Nat.le_refl _) ⟨((4 * p) + (diI g U t1 c1 x p z b)), cc, U, lr1, lp1, la1, t1, c1, ac1_2, co1_3, cs1_4, ut1_5, h1_6, u1_7, rfl, rfl, by exact Or.inr ⟨by omega, mr, hm2, hl2, Or.inr ⟨by omega, hu2, by rw [hq, pwI_up g U t1 c1 x b (by omega), if_pos (by omega)]⟩⟩, by exact hc2, by omega⟩
      exact L29 ((g (10 + x) - 0 : Int).toNat + 1) 0 0 (by first | assumption | omega) (by first | assumption | omega) (by rfl) (by omega)
    · refine g_iconst G dX10_parts_17 ?_
      exact g_ret G (some (.int (iI (-1)))) rfl dX10_parts_18 (Nat.le_refl _) (Nat.le_refl _) ⟨(-1), c0, u, lr1, lp1, la1, t1, c1, ac1_2, co1_3, cs1_4, ut1_5, h1_6, u1_7, rfl, rfl, by first | exact Or.inl ⟨by omega, rfl⟩ | exact Or.inr ⟨by omega, mr, hm2, hl2, Or.inl ⟨by omega, rfl⟩⟩, by first | exact hc2 | exact hc0, by omega⟩
theorem e_X10_parts : yX10_parts.cls ≠ "java/lang/invoke/MethodHandle" ∧ yX10_parts.cls ≠ "java/lang/invoke/VarHandle" ∧ (parseMethodDescriptor yX10_parts.desc).map (fun d => d.parameters.length) = some 2 := by decide +kernel
theorem e_X10_part : yX10_part.cls ≠ "java/lang/invoke/MethodHandle" ∧ yX10_part.cls ≠ "java/lang/invoke/VarHandle" ∧ (parseMethodDescriptor yX10_part.desc).map (fun d => d.parameters.length) = some 2 := by decide +kernel
set_option maxRecDepth 100000 in
set_option maxHeartbeats 4000000 in
theorem c_X10_held (E : qE) (q0 : Nat) (q1 : Nat) (q2 : Nat) (q3 : Nat) (q4 : Nat) (q5 : Nat) (q6 : Nat) (q7 : Nat) (q8 : Nat) (q9 : Nat) (q10 : Nat) (q11 : Nat) (c0 : Int) (la : Int) (ch : Int) (us : Int) (g : Int → Int) (lr : Int → Int) (lp : Int → Int) (t : Int → Int) (c : Int → Int) (ac : Int → Int) (co : Int → Int) (cs : Int → Int) (ut : Int → Int) (u : Int → Int) (x : Int) (y : Int) (hG : AllOk g) (hV : VbOk g) (hc0 : ∀ i, -100000 ≤ c i ∧ c i ≤ 100000) (hX : ∀ i, 20 ≤ i → i < 596 → 0 ≤ g i ∧ g i < 100) (hx : -2147483648 ≤ x ∧ x < 2147483648) (hy : -2147483648 ≤ y ∧ y < 2147483648) : Cn E yX10_held wsX10_held { frames := 7, cells := 0, slots := 0, locals := 171 } [.ref q0, .int (iI x), .int (iI y)] [(q0, .inr (10, [.ref q1, .ref q2, .ref q3, .int (iI c0), .ref q4, .ref q5, .int (iI la), .ref q6, .ref q7, .ref q8, .ref q9, .ref q10, .ref q11, .int (iI ch), .int (iI us)])), (q1, ia E 5400 g), (q4, ia E 96 lr), (q5, ia E 96 lp), (q6, ia E 12 t), (q7, ia E 12 c), (q8, ia E 12 ac), (q9, ia E 12 co), (q10, ia E 12 cs), (q11, ia E 12 ut), (q3, ia E 12 u)] (fun v9 w9 => ∃ (r : Int) (cc : Int) (U : Int → Int) (lr1 : Int → Int) (lp1 : Int → Int) (la1 : Int) (t1 : Int → Int) (c1 : Int → Int) (ac1 : Int → Int) (co1 : Int → Int) (cs1 : Int → Int) (ut1 : Int → Int) (h1 : Int) (u1 : Int), v9 = some (.int (iI r)) ∧ w9 = [(q0, .inr (10, [.ref q1, .ref q2, .ref q3, .int (iI cc), .ref q4, .ref q5, .int (iI la1), .ref q6, .ref q7, .ref q8, .ref q9, .ref q10, .ref q11, .int (iI h1), .int (iI u1)])), (q1, ia E 5400 g), (q4, ia E 96 lr1), (q5, ia E 96 lp1), (q6, ia E 12 t1), (q7, ia E 12 c1), (q8, ia E 12 ac1), (q9, ia E 12 co1), (q10, ia E 12 cs1), (q11, ia E 12 ut1), (q3, ia E 12 U)] ∧ (∃ m, ((¬ (0 ≤ x ∧ x ≤ g 0 - 1) ∧ m = -1) ∨ ((0 ≤ x ∧ x ≤ g 0 - 1) ∧ PtR g (-1) x m lr lp lr1 lp1 la1 t1 c1 U)) ∧ r = (if m < 0 then -1 else if y = 0 then m / 4 else if y = 1 then m % 4 else -1)) ∧ (∀ i, -100000 ≤ c1 i ∧ c1 i ≤ 100000)) 0 0 := by
  refine Cn.ofP (own := RX10) (cc := cX10_held) (maxL := 3) (ret := (some .int)) false [(0, .ref q0), (1, .int (iI x)), (2, .int (iI y))] (by decide +kernel) rfl rfl (Nat.le_of_ble_eq_true rfl) rfl (fun h => nomatch h) (fun v w h => by obtain ⟨r, cc, U, lr1, lp1, la1, t1, c1, ac1, co1, cs1, ut1, h1, u1, rfl, h9⟩ := h; exact ⟨_, rfl, rfl⟩) ?_
  intro P G
  refine g_aload_n G 0 dX10_held_0 rfl ?_
  refine g_iload_n G 1 dX10_held_1 rfl ?_
  refine g_iconst G dX10_held_2 ?_
  refine g_callV G [0, 1, 2, 3, 4, 5, 6, 7, 8, 9, 10] [] 11 [] [.int (iI x), .int (iI (-1))] [] (c_X10_parts E q0 q1 q2 q3 q4 q5 q6 q7 q8 q9 q10 q11 c0 la ch us g lr lp t c ac co cs ut u x (-1) (by exact hG) (by exact hV) (by exact hc0) (by exact hX) (by first | assumption | omega) (by omega)) dX10_held_3 gX10_held_X10_parts ⟨rfl, ⟨rfl, rfl⟩, e_X10_parts, ⟨Nat.le_of_ble_eq_true rfl, Nat.le_of_ble_eq_true rfl⟩, Nat.le_of_ble_eq_true rfl, Nat.le_of_ble_eq_true rfl, Nat.le_of_ble_eq_true rfl⟩ rfl rfl rfl rfl rfl (by decide +kernel) rfl (by decide +kernel) rfl (fun v9 w9 h9 => ?_)
  obtain ⟨mr, cc_1, U_2, lr1_3, lp1_4, la1_5, t1_6, c1_7, ac1_8, co1_9, cs1_10, ut1_11, h1_12, u1_13, rfl, rfl, hr2, hc2, hrb2⟩ := h9
  refine ⟨[(q0, .inr (10, [.ref q1, .ref q2, .ref q3, .int (iI cc_1), .ref q4, .ref q5, .int (iI la1_5), .ref q6, .ref q7, .ref q8, .ref q9, .ref q10, .ref q11, .int (iI h1_12), .int (iI u1_13)])), (q1, ia E 5400 g), (q4, ia E 96 lr1_3), (q5, ia E 96 lp1_4), (q6, ia E 12 t1_6), (q7, ia E 12 c1_7), (q8, ia E 12 ac1_8), (q9, ia E 12 co1_9), (q10, ia E 12 cs1_10), (q11, ia E 12 ut1_11), (q3, ia E 12 U_2)], ⟨rfl, rfl, rfl, rfl⟩, g_to 0 0 _ _ [.int (iI mr)] rfl rfl rfl rfl rfl ?_⟩
  refine g_iload_n G 2 dX10_held_6 rfl ?_
  refine g_callS G [] [0, 1, 2, 3, 4, 5, 6, 7, 8, 9, 10] 11 [(q0, .inr (10, [.ref q1, .ref q2, .ref q3, .int (iI cc_1), .ref q4, .ref q5, .int (iI la1_5), .ref q6, .ref q7, .ref q8, .ref q9, .ref q10, .ref q11, .int (iI h1_12), .int (iI u1_13)])), (q1, ia E 5400 g), (q4, ia E 96 lr1_3), (q5, ia E 96 lp1_4), (q6, ia E 12 t1_6), (q7, ia E 12 c1_7), (q8, ia E 12 ac1_8), (q9, ia E 12 co1_9), (q10, ia E 12 cs1_10), (q11, ia E 12 ut1_11), (q3, ia E 12 U_2)] [.int (iI mr), .int (iI y)] [] (c_X10_part E mr y (by first | assumption | omega) (by first | assumption | omega)) dX10_held_7 gX10_held_X10_part ⟨rfl, ⟨rfl, rfl⟩, e_X10_part, ⟨Nat.le_of_ble_eq_true rfl, Nat.le_of_ble_eq_true rfl⟩, Nat.le_of_ble_eq_true rfl, Nat.le_of_ble_eq_true rfl, Nat.le_of_ble_eq_true rfl⟩ rfl (by decide +kernel) rfl (by decide +kernel) rfl (fun v9 w9 h9 => ?_)
  obtain ⟨o14, rfl, rfl, rfl⟩ := h9
  refine ⟨[(q0, .inr (10, [.ref q1, .ref q2, .ref q3, .int (iI cc_1), .ref q4, .ref q5, .int (iI la1_5), .ref q6, .ref q7, .ref q8, .ref q9, .ref q10, .ref q11, .int (iI h1_12), .int (iI u1_13)])), (q1, ia E 5400 g), (q4, ia E 96 lr1_3), (q5, ia E 96 lp1_4), (q6, ia E 12 t1_6), (q7, ia E 12 c1_7), (q8, ia E 12 ac1_8), (q9, ia E 12 co1_9), (q10, ia E 12 cs1_10), (q11, ia E 12 ut1_11), (q3, ia E 12 U_2)], ⟨rfl, rfl, rfl, rfl⟩, g_to 0 0 _ _ [.int (iI (if mr < 0 then -1 else if y = 0 then mr / 4 else if y = 1 then mr % 4 else -1))] rfl rfl rfl rfl rfl ?_⟩
  exact g_ret G (some (.int (iI (if mr < 0 then -1 else if y = 0 then mr / 4 else if y = 1 then mr % 4 else -1)))) rfl dX10_held_10 (Nat.le_refl _) (Nat.le_refl _) ⟨(if mr < 0 then -1 else if y = 0 then mr / 4 else if y = 1 then mr % 4 else -1), cc_1, U_2, lr1_3, lp1_4, la1_5, t1_6, c1_7, ac1_8, co1_9, cs1_10, ut1_11, h1_12, u1_13, rfl, rfl, by exact ⟨mr, hr2, rfl⟩, by exact hc2⟩
set_option maxRecDepth 100000 in
set_option maxHeartbeats 4000000 in
theorem c_X10_fresh (E : qE) (q0 : Nat) (q1 : Nat) (q2 : Nat) (q3 : Nat) (q4 : Nat) (q5 : Nat) (q6 : Nat) (q7 : Nat) (q8 : Nat) (q9 : Nat) (q10 : Nat) (q11 : Nat) (c0 : Int) (la : Int) (ch : Int) (us : Int) (g : Int → Int) (lr : Int → Int) (lp : Int → Int) (t : Int → Int) (c : Int → Int) (ac : Int → Int) (co : Int → Int) (cs : Int → Int) (ut : Int → Int) (u : Int → Int) (x : Int) (y : Int) (hG : AllOk g) (hV : VbOk g) (hc0 : ∀ i, -100000 ≤ c i ∧ c i ≤ 100000) (hX : ∀ i, 20 ≤ i → i < 596 → 0 ≤ g i ∧ g i < 100) (hx : -2147483648 ≤ x ∧ x < 2147483648) (hy : -2147483648 ≤ y ∧ y < 2147483648) : Cn E yX10_fresh wsX10_fresh { frames := 7, cells := 0, slots := 0, locals := 171 } [.ref q0, .int (iI x), .int (iI y)] [(q0, .inr (10, [.ref q1, .ref q2, .ref q3, .int (iI c0), .ref q4, .ref q5, .int (iI la), .ref q6, .ref q7, .ref q8, .ref q9, .ref q10, .ref q11, .int (iI ch), .int (iI us)])), (q1, ia E 5400 g), (q4, ia E 96 lr), (q5, ia E 96 lp), (q6, ia E 12 t), (q7, ia E 12 c), (q8, ia E 12 ac), (q9, ia E 12 co), (q10, ia E 12 cs), (q11, ia E 12 ut), (q3, ia E 12 u)] (fun v9 w9 => ∃ (r : Int) (cc : Int) (U : Int → Int) (lr1 : Int → Int) (lp1 : Int → Int) (la1 : Int) (t1 : Int → Int) (c1 : Int → Int) (ac1 : Int → Int) (co1 : Int → Int) (cs1 : Int → Int) (ut1 : Int → Int) (h1 : Int) (u1 : Int), v9 = some (.int (iI r)) ∧ w9 = [(q0, .inr (10, [.ref q1, .ref q2, .ref q3, .int (iI cc), .ref q4, .ref q5, .int (iI la1), .ref q6, .ref q7, .ref q8, .ref q9, .ref q10, .ref q11, .int (iI h1), .int (iI u1)])), (q1, ia E 5400 g), (q4, ia E 96 lr1), (q5, ia E 96 lp1), (q6, ia E 12 t1), (q7, ia E 12 c1), (q8, ia E 12 ac1), (q9, ia E 12 co1), (q10, ia E 12 cs1), (q11, ia E 12 ut1), (q3, ia E 12 U)] ∧ (∃ m, ((¬ (0 ≤ x ∧ x ≤ g 0 - 1) ∧ m = -1) ∨ ((0 ≤ x ∧ x ≤ g 0 - 1) ∧ PtR g (x) x m lr lp lr1 lp1 la1 t1 c1 U)) ∧ r = (if m < 0 then -1 else if y = 0 then m / 4 else if y = 1 then m % 4 else -1)) ∧ (∀ i, -100000 ≤ c1 i ∧ c1 i ≤ 100000)) 0 0 := by
  refine Cn.ofP (own := RX10) (cc := cX10_fresh) (maxL := 3) (ret := (some .int)) false [(0, .ref q0), (1, .int (iI x)), (2, .int (iI y))] (by decide +kernel) rfl rfl (Nat.le_of_ble_eq_true rfl) rfl (fun h => nomatch h) (fun v w h => by obtain ⟨r, cc, U, lr1, lp1, la1, t1, c1, ac1, co1, cs1, ut1, h1, u1, rfl, h9⟩ := h; exact ⟨_, rfl, rfl⟩) ?_
  intro P G
  refine g_aload_n G 0 dX10_fresh_0 rfl ?_
  refine g_iload_n G 1 dX10_fresh_1 rfl ?_
  refine g_iload_n G 1 dX10_fresh_2 rfl ?_
  refine g_callV G [0, 1, 2, 3, 4, 5, 6, 7, 8, 9, 10] [] 11 [] [.int (iI x), .int (iI x)] [] (c_X10_parts E q0 q1 q2 q3 q4 q5 q6 q7 q8 q9 q10 q11 c0 la ch us g lr lp t c ac co cs ut u x x (by exact hG) (by exact hV) (by exact hc0) (by exact hX) (by first | assumption | omega) (by omega)) dX10_fresh_3 gX10_fresh_X10_parts ⟨rfl, ⟨rfl, rfl⟩, e_X10_parts, ⟨Nat.le_of_ble_eq_true rfl, Nat.le_of_ble_eq_true rfl⟩, Nat.le_of_ble_eq_true rfl, Nat.le_of_ble_eq_true rfl, Nat.le_of_ble_eq_true rfl⟩ rfl rfl rfl rfl rfl (by decide +kernel) rfl (by decide +kernel) rfl (fun v9 w9 h9 => ?_)
  obtain ⟨mr, cc_1, U_2, lr1_3, lp1_4, la1_5, t1_6, c1_7, ac1_8, co1_9, cs1_10, ut1_11, h1_12, u1_13, rfl, rfl, hr2, hc2, hrb2⟩ := h9
  refine ⟨[(q0, .inr (10, [.ref q1, .ref q2, .ref q3, .int (iI cc_1), .ref q4, .ref q5, .int (iI la1_5), .ref q6, .ref q7, .ref q8, .ref q9, .ref q10, .ref q11, .int (iI h1_12), .int (iI u1_13)])), (q1, ia E 5400 g), (q4, ia E 96 lr1_3), (q5, ia E 96 lp1_4), (q6, ia E 12 t1_6), (q7, ia E 12 c1_7), (q8, ia E 12 ac1_8), (q9, ia E 12 co1_9), (q10, ia E 12 cs1_10), (q11, ia E 12 ut1_11), (q3, ia E 12 U_2)], ⟨rfl, rfl, rfl, rfl⟩, g_to 0 0 _ _ [.int (iI mr)] rfl rfl rfl rfl rfl ?_⟩
  refine g_iload_n G 2 dX10_fresh_6 rfl ?_
  refine g_callS G [] [0, 1, 2, 3, 4, 5, 6, 7, 8, 9, 10] 11 [(q0, .inr (10, [.ref q1, .ref q2, .ref q3, .int (iI cc_1), .ref q4, .ref q5, .int (iI la1_5), .ref q6, .ref q7, .ref q8, .ref q9, .ref q10, .ref q11, .int (iI h1_12), .int (iI u1_13)])), (q1, ia E 5400 g), (q4, ia E 96 lr1_3), (q5, ia E 96 lp1_4), (q6, ia E 12 t1_6), (q7, ia E 12 c1_7), (q8, ia E 12 ac1_8), (q9, ia E 12 co1_9), (q10, ia E 12 cs1_10), (q11, ia E 12 ut1_11), (q3, ia E 12 U_2)] [.int (iI mr), .int (iI y)] [] (c_X10_part E mr y (by first | assumption | omega) (by first | assumption | omega)) dX10_fresh_7 gX10_fresh_X10_part ⟨rfl, ⟨rfl, rfl⟩, e_X10_part, ⟨Nat.le_of_ble_eq_true rfl, Nat.le_of_ble_eq_true rfl⟩, Nat.le_of_ble_eq_true rfl, Nat.le_of_ble_eq_true rfl, Nat.le_of_ble_eq_true rfl⟩ rfl (by decide +kernel) rfl (by decide +kernel) rfl (fun v9 w9 h9 => ?_)
  obtain ⟨o14, rfl, rfl, rfl⟩ := h9
  refine ⟨[(q0, .inr (10, [.ref q1, .ref q2, .ref q3, .int (iI cc_1), .ref q4, .ref q5, .int (iI la1_5), .ref q6, .ref q7, .ref q8, .ref q9, .ref q10, .ref q11, .int (iI h1_12), .int (iI u1_13)])), (q1, ia E 5400 g), (q4, ia E 96 lr1_3), (q5, ia E 96 lp1_4), (q6, ia E 12 t1_6), (q7, ia E 12 c1_7), (q8, ia E 12 ac1_8), (q9, ia E 12 co1_9), (q10, ia E 12 cs1_10), (q11, ia E 12 ut1_11), (q3, ia E 12 U_2)], ⟨rfl, rfl, rfl, rfl⟩, g_to 0 0 _ _ [.int (iI (if mr < 0 then -1 else if y = 0 then mr / 4 else if y = 1 then mr % 4 else -1))] rfl rfl rfl rfl rfl ?_⟩
  exact g_ret G (some (.int (iI (if mr < 0 then -1 else if y = 0 then mr / 4 else if y = 1 then mr % 4 else -1)))) rfl dX10_fresh_10 (Nat.le_refl _) (Nat.le_refl _) ⟨(if mr < 0 then -1 else if y = 0 then mr / 4 else if y = 1 then mr % 4 else -1), cc_1, U_2, lr1_3, lp1_4, la1_5, t1_6, c1_7, ac1_8, co1_9, cs1_10, ut1_11, h1_12, u1_13, rfl, rfl, by exact ⟨mr, hr2, rfl⟩, by exact hc2⟩
