theorem e_X2_heaviestOpenMove : yX2_heaviestOpenMove.cls ≠ "java/lang/invoke/MethodHandle" ∧ yX2_heaviestOpenMove.cls ≠ "java/lang/invoke/VarHandle" ∧ (parseMethodDescriptor yX2_heaviestOpenMove.desc).map (fun d => d.parameters.length) = some 0 := by decide +kernel
theorem f_X2_solve_124 : Cond.fieldLink RX2 124 (TX2 15).1 (TX2 15).2.1 (TX2 15).2.2.1 ∈ wsX2_solve := by decide +kernel
theorem i_X2_solve_X2 : ∀ w ∈ wsX20, w ∈ wsX2_solve := by decide +kernel
theorem f_X2_solve_83 : Cond.fieldLink RX2 83 (TX2 16).1 (TX2 16).2.1 (TX2 16).2.2.1 ∈ wsX2_solve := by decide +kernel
theorem e_X2_settle : yX2_settle.cls ≠ "java/lang/invoke/MethodHandle" ∧ yX2_settle.cls ≠ "java/lang/invoke/VarHandle" ∧ (parseMethodDescriptor yX2_settle.desc).map (fun d => d.parameters.length) = some 2 := by decide +kernel
theorem e_X2_unsettle : yX2_unsettle.cls ≠ "java/lang/invoke/MethodHandle" ∧ yX2_unsettle.cls ≠ "java/lang/invoke/VarHandle" ∧ (parseMethodDescriptor yX2_unsettle.desc).map (fun d => d.parameters.length) = some 2 := by decide +kernel
theorem e_X2_solve : yX2_solve.cls ≠ "java/lang/invoke/MethodHandle" ∧ yX2_solve.cls ≠ "java/lang/invoke/VarHandle" ∧ (parseMethodDescriptor yX2_solve.desc).map (fun d => d.parameters.length) = some 2 := by decide +kernel
set_option maxRecDepth 100000 in
set_option maxHeartbeats 4000000 in
theorem c_X2_solve_of (E : qE) (e : Nat) (q0 : Nat) (q1 : Nat) (q2 : Nat) (q3 : Nat) (q4 : Nat) (q5 : Nat) (q6 : Nat) (q7 : Nat) (q8 : Nat) (q9 : Nat) (q10 : Nat) (q11 : Nat) (q12 : Nat) (q13 : Nat) (q14 : Nat) (pa : Int → Int) (vb : Int → Int) (cd : Int → Int) (cn : Int → Int) (xc : Int → Int) (xw : Int → Int) (sa : Int → Int) (ph : Int → Int) (xm : Int → Int) (xa : Int → Int) (tg : Int → Int) (xt : Int → Int) (xn : Int → Int) (xv : Int → Int) (nd : Int) (xr : Int) (al : Int) (cm : Int) (dp : Int) (So : SoT) (ns : NsT) (Se : Int → Prop) (hT : TrS pa vb cd nd al So ns) (hk : TrC pa vb cn nd) (hwt : WtO xw) (hQ : TrQ pa vb cd nd al So xw) (hF : ArF So ns pa vb cd nd al xw tg sa ph xm xa xt xn xv xr cm Se) (hd : 12 ≤ cnT tg 12 + (e : Int)) (hdp : 0 ≤ dp ∧ dp ≤ cnT tg 12) (hW : ∀ e1 : Nat, e = e1 + 1 → ∀ (q0 : Nat) (q1 : Nat) (q2 : Nat) (q3 : Nat) (q4 : Nat) (q5 : Nat) (q6 : Nat) (q7 : Nat) (q8 : Nat) (q9 : Nat) (q10 : Nat) (q11 : Nat) (q12 : Nat) (q13 : Nat) (q14 : Nat) (pa : Int → Int) (vb : Int → Int) (cd : Int → Int) (cn : Int → Int) (xc : Int → Int) (xw : Int → Int) (sa : Int → Int) (ph : Int → Int) (xm : Int → Int) (xa : Int → Int) (tg : Int → Int) (xt : Int → Int) (xn : Int → Int) (xv : Int → Int) (nd : Int) (xr : Int) (al : Int) (cm : Int) (dp : Int) (So : SoT) (ns : NsT) (Se : Int → Prop), (TrS pa vb cd nd al So ns) → (TrC pa vb cn nd) → (WtO xw) → (TrQ pa vb cd nd al So xw) → (ArF So ns pa vb cd nd al xw tg sa ph xm xa xt xn xv xr cm Se) → (12 ≤ cnT tg 12 + (e1 : Int)) → (0 ≤ dp ∧ dp ≤ cnT tg 12) → Cn E yX2_solve wsX2_solve { frames := e1 + 3, cells := 0, slots := 0, locals := 28 * e1 + 100 } [.ref q0, .int (iI cm), .int (iI dp)] [(q0, .inr (2, [.ref q1, .ref q2, .ref q3, .ref q4, .ref q5, .ref q6, .ref q7, .ref q8, .ref q9, .ref q10, .ref q11, .ref q12, .ref q13, .ref q14, .int (iI nd), .int (iI xr), .int (iI al)])), (q1, ia E 97 pa), (q2, ia E 97 vb), (q3, ia E 97 cd), (q4, ia E 291 cn), (q5, ia E 12 xc), (q6, ia E 97 xw), (q7, ia E 97 sa), (q8, ia E 97 ph), (q9, ia E 97 xm), (q10, ia E 97 xa), (q11, ia E 12 tg), (q12, ia E 1164 xt), (q13, ia E 12 xn), (q14, ia E 12 xv)] (fun v9 w9 => ∃ (r : Int) (sa1 : Int → Int) (ph1 : Int → Int) (xm1 : Int → Int) (xa1 : Int → Int) (xt1 : Int → Int) (xn1 : Int → Int) (xv1 : Int → Int), v9 = some (.int (iI r)) ∧ w9 = [(q0, .inr (2, [.ref q1, .ref q2, .ref q3, .ref q4, .ref q5, .ref q6, .ref q7, .ref q8, .ref q9, .ref q10, .ref q11, .ref q12, .ref q13, .ref q14, .int (iI nd), .int (iI xr), .int (iI al)])), (q1, ia E 97 pa), (q2, ia E 97 vb), (q3, ia E 97 cd), (q4, ia E 291 cn), (q5, ia E 12 xc), (q6, ia E 97 xw), (q7, ia E 97 sa1), (q8, ia E 97 ph1), (q9, ia E 97 xm1), (q10, ia E 97 xa1), (q11, ia E 12 tg), (q12, ia E 1164 xt1), (q13, ia E 12 xn1), (q14, ia E 12 xv1)] ∧ (SvR So tg r) ∧ (-2147483648 ≤ r ∧ r < 2147483648) ∧ (ArF So ns pa vb cd nd al xw tg sa1 ph1 xm1 xa1 xt1 xn1 xv1 xr cm Se) ∧ (KeA xr Se sa ph xm xa sa1 ph1 xm1 xa1)) 0 0) : Cn E yX2_solve wsX2_solve { frames := e + 3, cells := 0, slots := 0, locals := 28 * e + 100 } [.ref q0, .int (iI cm), .int (iI dp)] [(q0, .inr (2, [.ref q1, .ref q2, .ref q3, .ref q4, .ref q5, .ref q6, .ref q7, .ref q8, .ref q9, .ref q10, .ref q11, .ref q12, .ref q13, .ref q14, .int (iI nd), .int (iI xr), .int (iI al)])), (q1, ia E 97 pa), (q2, ia E 97 vb), (q3, ia E 97 cd), (q4, ia E 291 cn), (q5, ia E 12 xc), (q6, ia E 97 xw), (q7, ia E 97 sa), (q8, ia E 97 ph), (q9, ia E 97 xm), (q10, ia E 97 xa), (q11, ia E 12 tg), (q12, ia E 1164 xt), (q13, ia E 12 xn), (q14, ia E 12 xv)] (fun v9 w9 => ∃ (r : Int) (sa1 : Int → Int) (ph1 : Int → Int) (xm1 : Int → Int) (xa1 : Int → Int) (xt1 : Int → Int) (xn1 : Int → Int) (xv1 : Int → Int), v9 = some (.int (iI r)) ∧ w9 = [(q0, .inr (2, [.ref q1, .ref q2, .ref q3, .ref q4, .ref q5, .ref q6, .ref q7, .ref q8, .ref q9, .ref q10, .ref q11, .ref q12, .ref q13, .ref q14, .int (iI nd), .int (iI xr), .int (iI al)])), (q1, ia E 97 pa), (q2, ia E 97 vb), (q3, ia E 97 cd), (q4, ia E 291 cn), (q5, ia E 12 xc), (q6, ia E 97 xw), (q7, ia E 97 sa1), (q8, ia E 97 ph1), (q9, ia E 97 xm1), (q10, ia E 97 xa1), (q11, ia E 12 tg), (q12, ia E 1164 xt1), (q13, ia E 12 xn1), (q14, ia E 12 xv1)] ∧ (SvR So tg r) ∧ (-2147483648 ≤ r ∧ r < 2147483648) ∧ (ArF So ns pa vb cd nd al xw tg sa1 ph1 xm1 xa1 xt1 xn1 xv1 xr cm Se) ∧ (KeA xr Se sa ph xm xa sa1 ph1 xm1 xa1)) 0 0 := by
  refine Cn.ofP (own := RX2) (cc := cX2_solve) (maxL := 9) (ret := (some .int)) false [(0, .ref q0), (1, .int (iI cm)), (2, .int (iI dp))] (by decide +kernel) rfl rfl (Nat.le_of_ble_eq_true rfl) rfl (fun h => nomatch h) (fun v w h => by obtain ⟨r, sa1, ph1, xm1, xa1, xt1, xn1, xv1, rfl, h9⟩ := h; exact ⟨_, rfl, rfl⟩) ?_
  intro P G
  have hal := hT.1.1
  have hnd := hT.1.2.1
  have hpa := hT.1.2.2.1
  have hvb := hT.1.2.2.2.1
  have hcd := hT.1.2.2.2.2
  have hcl := hF.2.2.2.1
  have hc1 := hF.2.1.1.1
  have hcb := cnT_bd tg 12
  have hx0 := hF.1.1
  have hl0 := ArS.len hF.1 hnd.1
  refine g_aload_n G 0 dX2_solve_0 rfl ?_
  refine g_callV G [0, 1, 2, 3, 4, 5, 6, 7, 8, 9, 10, 11, 12, 13, 14] [] 15 [] [] [] (c_X2_heaviestOpenMove E q0 q1 q2 q3 q4 q5 q6 q7 q8 q9 q10 q11 q12 q13 q14 pa vb cd cn xc xw sa ph xm xa tg xt xn xv nd xr al (by exact ArT.bd hF.2.1.1.2 (by omega)) (by exact fun i i0 i1 => ArS.mw hF.1 hnd hwt i0 i1)) dX2_solve_1 gX2_solve_X2_heaviestOpenMove ⟨rfl, ⟨rfl, rfl⟩, e_X2_heaviestOpenMove, ⟨by show 0 + 1 ≤ e + 3; omega, by show 8 + (4 + 11) + 0 ≤ 28 * e + 100; omega⟩, Nat.le_of_ble_eq_true rfl, Nat.le_of_ble_eq_true rfl, Nat.le_of_ble_eq_true rfl⟩ rfl rfl rfl rfl rfl (by decide +kernel) rfl (by decide +kernel) rfl (fun v9 w9 h9 => ?_)
  obtain ⟨mo, rfl, rfl, hmo⟩ := h9
  refine ⟨[(q0, .inr (2, [.ref q1, .ref q2, .ref q3, .ref q4, .ref q5, .ref q6, .ref q7, .ref q8, .ref q9, .ref q10, .ref q11, .ref q12, .ref q13, .ref q14, .int (iI nd), .int (iI xr), .int (iI al)])), (q1, ia E 97 pa), (q2, ia E 97 vb), (q3, ia E 97 cd), (q4, ia E 291 cn), (q5, ia E 12 xc), (q6, ia E 97 xw), (q7, ia E 97 sa), (q8, ia E 97 ph), (q9, ia E 97 xm), (q10, ia E 97 xa), (q11, ia E 12 tg), (q12, ia E 1164 xt), (q13, ia E 12 xn), (q14, ia E 12 xv)], ⟨rfl, rfl, rfl, rfl⟩, g_to 0 0 _ _ [.int (iI mo)] rfl rfl rfl rfl rfl ?_⟩
  have hmr : -1 ≤ mo ∧ mo < 12 := by rcases hmo with q | q; omega; omega
  refine g_istore_n G [(0, .ref q0), (1, .int (iI cm)), (2, .int (iI dp)), (3, .int (iI mo))] dX2_solve_4 (by decide) rfl rfl ?_
  refine g_iload_n G 3 dX2_solve_5 rfl ?_
  refine g_iconst G dX2_solve_6 ?_
  refine g_icmp_ne G 12 dX2_solve_7 (by decide) (by omega) (by omega) (fun c7 => ?_) (fun c7 => ?_)
  · have hmo2 : (0 ≤ mo ∧ mo < 12) ∧ tg mo = -1 ∧ 0 < xv mo := by rcases hmo with q | q; exact absurd q.1 c7; exact q
    have hcn := cnT_lt hmo2.2.1 hmo2.1.1 12 (by omega)
    have hmc := ArF.hvy hF hvb hmo2.1 hmo2.2.2
    obtain ⟨e1, he1⟩ : ∃ e1 : Nat, e = e1 + 1 := ⟨e - 1, by omega⟩
    refine g_iload_n G 2 dX2_solve_12 rfl ?_
    refine g_bipush G dX2_solve_13 (by decide +kernel) ?_
    refine g_icmp_lt G 20 dX2_solve_15 (by decide) (by omega) (by omega) (fun c15 => ?_) (fun c15 => ?_)
    · refine g_iconst G dX2_solve_20 ?_
      refine g_iload_n G 3 dX2_solve_21 rfl ?_
      refine g_ishl G dX2_solve_22 ?_
      refine g_istore G [(0, .ref q0), (1, .int (iI cm)), (2, .int (iI dp)), (3, .int (iI mo)), (4, .int (iI (shlI 1 mo)))] dX2_solve_23 (by decide) rfl rfl ?_
      refine g_aload_n G 0 dX2_solve_25 rfl ?_
      refine g_get G 0 15 dX2_solve_26 i_X2_solve_X2 f_X2_solve_124 rfl rfl (by decide) rfl ?_
      refine g_istore G [(0, .ref q0), (1, .int (iI cm)), (2, .int (iI dp)), (3, .int (iI mo)), (4, .int (iI (shlI 1 mo))), (5, .int (iI xr))] dX2_solve_29 (by decide) rfl rfl ?_
      refine g_iconst G dX2_solve_31 ?_
      refine g_istore G [(0, .ref q0), (1, .int (iI cm)), (2, .int (iI dp)), (3, .int (iI mo)), (4, .int (iI (shlI 1 mo))), (5, .int (iI xr)), (6, .int (iI 0))] dX2_solve_32 (by decide) rfl rfl ?_
      refine g_iconst G dX2_solve_34 ?_
      refine g_istore G [(0, .ref q0), (1, .int (iI cm)), (2, .int (iI dp)), (3, .int (iI mo)), (4, .int (iI (shlI 1 mo))), (5, .int (iI xr)), (6, .int (iI 0)), (7, .int (iI 0))] dX2_solve_35 (by decide) rfl rfl ?_
      have L37 : ∀ (fuel : Nat), ∀ (t : Int) (B : Int) (sa1 : Int → Int) (ph1 : Int → Int) (xm1 : Int → Int) (xa1 : Int → Int) (xt1 : Int → Int) (xn1 : Int → Int) (xv1 : Int → Int), (0 ≤ t ∧ t ≤ al ∧ t ≤ cm + 1) → (SvM So tg mo B t) → (ArF So ns pa vb cd nd al xw tg sa1 ph1 xm1 xa1 xt1 xn1 xv1 xr cm Se) → (KeA xr Se sa ph xm xa sa1 ph1 xm1 xa1) → (5 - t : Int).toNat < fuel → P 0 0 [(q0, .inr (2, [.ref q1, .ref q2, .ref q3, .ref q4, .ref q5, .ref q6, .ref q7, .ref q8, .ref q9, .ref q10, .ref q11, .ref q12, .ref q13, .ref q14, .int (iI nd), .int (iI xr), .int (iI al)])), (q1, ia E 97 pa), (q2, ia E 97 vb), (q3, ia E 97 cd), (q4, ia E 291 cn), (q5, ia E 12 xc), (q6, ia E 97 xw), (q7, ia E 97 sa1), (q8, ia E 97 ph1), (q9, ia E 97 xm1), (q10, ia E 97 xa1), (q11, ia E 12 tg), (q12, ia E 1164 xt1), (q13, ia E 12 xn1), (q14, ia E 12 xv1)] 37 [(0, .ref q0), (1, .int (iI cm)), (2, .int (iI dp)), (3, .int (iI mo)), (4, .int (iI (shlI 1 mo))), (5, .int (iI xr)), (6, .int (iI B)), (7, .int (iI t))] [] := by
        intro fuel
        induction fuel with
        | zero => intro t B sa1 ph1 xm1 xa1 xt1 xn1 xv1 ht hM hF1 hK1 hm; exact absurd hm (Nat.not_lt_zero _)
        | succ fuel ih37 =>
          intro t B sa1 ph1 xm1 xa1 xt1 xn1 xv1 ht hM hF1 hK1 hm
          refine g_iload G 7 dX2_solve_37 rfl ?_
          refine g_aload_n G 0 dX2_solve_39 rfl ?_
          refine g_get G 0 16 dX2_solve_40 i_X2_solve_X2 f_X2_solve_83 rfl rfl (by decide) rfl ?_
          refine g_icmp_ge G 121 dX2_solve_43 (by decide) (by omega) (by omega) (fun c43 => ?_) (fun c43 => ?_)
          · refine g_iload G 6 dX2_solve_121 rfl ?_
            refine g_iload G 4 dX2_solve_123 rfl ?_
            refine g_iconst G dX2_solve_125 ?_
            refine g_ixor G dX2_solve_126 ?_
            refine g_iand G dX2_solve_127 ?_
            exact g_ret G (some (.int (iI (andI B (xorI (shlI 1 mo) (-1)))))) rfl dX2_solve_128 (Nat.le_refl _) (Nat.le_refl _) ⟨(andI B (xorI (shlI 1 mo) (-1))), sa1, ph1, xm1, xa1, xt1, xn1, xv1, rfl, rfl, by exact Or.inr (SvM.none hT hF.2.1.1.2 hF.2.1.1.1 hmo2.1 hmc hM (by omega) (by omega) (by omega)), by exact andI_rg _ _, by exact hF1, by exact hK1⟩
          · refine g_iload G 7 dX2_solve_46 rfl ?_
            refine g_iload_n G 1 dX2_solve_48 rfl ?_
            refine g_icmp_gt G 121 dX2_solve_49 (by decide) (by omega) (by omega) (fun c49 => ?_) (fun c49 => ?_)
            · refine g_iload G 6 dX2_solve_121 rfl ?_
              refine g_iload G 4 dX2_solve_123 rfl ?_
              refine g_iconst G dX2_solve_125 ?_
              refine g_ixor G dX2_solve_126 ?_
              refine g_iand G dX2_solve_127 ?_
              exact g_ret G (some (.int (iI (andI B (xorI (shlI 1 mo) (-1)))))) rfl dX2_solve_128 (Nat.le_refl _) (Nat.le_refl _) ⟨(andI B (xorI (shlI 1 mo) (-1))), sa1, ph1, xm1, xa1, xt1, xn1, xv1, rfl, rfl, by exact Or.inr (SvM.none hT hF.2.1.1.2 hF.2.1.1.1 hmo2.1 hmc hM (by omega) (by omega) (by omega)), by exact andI_rg _ _, by exact hF1, by exact hK1⟩
            · refine g_aload_n G 0 dX2_solve_52 rfl ?_
              refine g_iload_n G 3 dX2_solve_53 rfl ?_
              refine g_iload G 7 dX2_solve_54 rfl ?_
              refine g_callV G [0, 1, 2, 3, 4, 5, 6, 7, 8, 9, 10, 11, 12, 13, 14] [] 15 [] [.int (iI mo), .int (iI t)] [] (c_X2_settle E q0 q1 q2 q3 q4 q5 q6 q7 q8 q9 q10 q11 q12 q13 q14 pa vb cd cn xc xw sa1 ph1 xm1 xa1 tg xt1 xn1 xv1 nd xr al mo t cm So ns Se (by exact hT) (by exact hk) (by exact hF1) (by exact hmo2.1) (by exact hmo2.2.1) (by exact hmc) (by omega)) dX2_solve_56 gX2_solve_X2_settle ⟨rfl, ⟨rfl, rfl⟩, e_X2_settle, ⟨by show 1 + 1 ≤ e + 3; omega, by show 8 + (9 + 11) + 27 ≤ 28 * e + 100; omega⟩, Nat.le_of_ble_eq_true rfl, Nat.le_of_ble_eq_true rfl, Nat.le_of_ble_eq_true rfl⟩ rfl rfl rfl rfl rfl (by decide +kernel) rfl (by decide +kernel) rfl (fun v9 w9 h9 => ?_)
              obtain ⟨r2, sa2, ph2, xm2, xa2, xt2, xn2, xv2, xr2, rfl, rfl, hs2, hg2⟩ := h9
              refine ⟨[(q0, .inr (2, [.ref q1, .ref q2, .ref q3, .ref q4, .ref q5, .ref q6, .ref q7, .ref q8, .ref q9, .ref q10, .ref q11, .ref q12, .ref q13, .ref q14, .int (iI nd), .int (iI xr2), .int (iI al)])), (q1, ia E 97 pa), (q2, ia E 97 vb), (q3, ia E 97 cd), (q4, ia E 291 cn), (q5, ia E 12 xc), (q6, ia E 97 xw), (q7, ia E 97 sa2), (q8, ia E 97 ph2), (q9, ia E 97 xm2), (q10, ia E 97 xa2), (q11, ia E 12 (upI tg mo t)), (q12, ia E 1164 xt2), (q13, ia E 12 xn2), (q14, ia E 12 xv2)], ⟨rfl, rfl, rfl, rfl⟩, g_to 0 0 _ _ [.int (iI r2)] rfl rfl rfl rfl rfl ?_⟩
              refine g_istore G [(0, .ref q0), (1, .int (iI cm)), (2, .int (iI dp)), (3, .int (iI mo)), (4, .int (iI (shlI 1 mo))), (5, .int (iI xr)), (6, .int (iI B)), (7, .int (iI t)), (8, .int (iI r2))] dX2_solve_59 (by decide) rfl rfl ?_
              refine g_iload G 8 dX2_solve_61 rfl ?_
              refine g_iconst G dX2_solve_63 ?_
              refine g_icmp_ne G 84 dX2_solve_64 (by decide) (by omega) (by omega) (fun c64 => ?_) (fun c64 => ?_)
              · have hn2 := hs2.1
                refine g_aload_n G 0 dX2_solve_84 rfl ?_
                refine g_iload_n G 3 dX2_solve_85 rfl ?_
                refine g_iload G 5 dX2_solve_86 rfl ?_
                refine g_callV G [0, 1, 2, 3, 4, 5, 6, 7, 8, 9, 10, 11, 12, 13, 14] [] 15 [] [.int (iI mo), .int (iI xr)] [] (c_X2_unsettle E q0 q1 q2 q3 q4 q5 q6 q7 q8 q9 q10 q11 q12 q13 q14 pa vb cd cn xc xw sa2 ph2 xm2 xa2 (upI tg mo t) xt2 xn2 xv2 nd xr2 al mo xr (by exact hmo2.1) (by omega) (by exact hnd) (by first | exact hF3.1 | exact hs2.2.1)) dX2_solve_88 gX2_solve_X2_unsettle ⟨rfl, ⟨rfl, rfl⟩, e_X2_unsettle, ⟨by show 0 + 1 ≤ e + 3; omega, by show 8 + (5 + 11) + 0 ≤ 28 * e + 100; omega⟩, Nat.le_of_ble_eq_true rfl, Nat.le_of_ble_eq_true rfl, Nat.le_of_ble_eq_true rfl⟩ rfl rfl rfl rfl rfl (by decide +kernel) rfl (by decide +kernel) rfl (fun v9 w9 h9 => ?_)
                obtain ⟨xn4, xv4, rfl, rfl, hS4⟩ := h9
                refine ⟨[(q0, .inr (2, [.ref q1, .ref q2, .ref q3, .ref q4, .ref q5, .ref q6, .ref q7, .ref q8, .ref q9, .ref q10, .ref q11, .ref q12, .ref q13, .ref q14, .int (iI nd), .int (iI xr), .int (iI al)])), (q1, ia E 97 pa), (q2, ia E 97 vb), (q3, ia E 97 cd), (q4, ia E 291 cn), (q5, ia E 12 xc), (q6, ia E 97 xw), (q7, ia E 97 sa2), (q8, ia E 97 ph2), (q9, ia E 97 xm2), (q10, ia E 97 xa2), (q11, ia E 12 (upI (upI tg mo t) mo (-1))), (q12, ia E 1164 xt2), (q13, ia E 12 xn4), (q14, ia E 12 xv4)], ⟨rfl, rfl, rfl, rfl⟩, g_to 0 0 _ _ [] rfl rfl rfl rfl rfl ?_⟩
                refine g_norm G 11 (tg) [(q0, .inr (2, [.ref q1, .ref q2, .ref q3, .ref q4, .ref q5, .ref q6, .ref q7, .ref q8, .ref q9, .ref q10, .ref q11, .ref q12, .ref q13, .ref q14, .int (iI nd), .int (iI xr), .int (iI al)])), (q1, ia E 97 pa), (q2, ia E 97 vb), (q3, ia E 97 cd), (q4, ia E 291 cn), (q5, ia E 12 xc), (q6, ia E 97 xw), (q7, ia E 97 sa2), (q8, ia E 97 ph2), (q9, ia E 97 xm2), (q10, ia E 97 xa2), (q11, ia E 12 tg), (q12, ia E 1164 xt2), (q13, ia E 12 xn4), (q14, ia E 12 xv4)] rfl (by intro j9 h0 h1; (by_cases q : j9 = mo; (rw [q, upI_same, hmo2.2.1]); (rw [upI_ne _ _ q, upI_ne _ _ q]))) rfl ?_
                have hK4 : KeA xr Se sa1 ph1 xm1 xa1 sa2 ph2 xm2 xa2 := by first | exact KeA.trans hs2.2.2.1 hK3 hs2.1 u1 | exact hs2.2.2.1
                have hF4 := ArF.back hF1 hK4 hS4
                have hK5 := KeA.trans hK1 hK4 (Int.le_refl _) (fun _ q9 => q9)
                have hb4 : r2 ≠ -1 → BadM So (upI tg mo t) r2 := by first | exact SvR.bad hv3 | exact SeR.bad hs2
                refine g_iload G 8 dX2_solve_91 rfl ?_
                refine g_iconst G dX2_solve_93 ?_
                refine g_icmp_eq G 105 dX2_solve_94 (by decide) (by omega) (by omega) (fun c94 => ?_) (fun c94 => ?_)
                · refine g_iload G 8 dX2_solve_105 rfl ?_
                  exact g_ret G (some (.int (iI r2))) rfl dX2_solve_107 (Nat.le_refl _) (Nat.le_refl _) ⟨r2, sa2, ph2, xm2, xa2, xt2, xn4, xv4, rfl, rfl, by first | exact absurd c94 c64 | exact Or.inl ⟨c94, LeftP.of (SvR.left hv3 c94) hmo2.2.1⟩ | exact Or.inr (BadM.out hmo2.1 (hb4 c94) c102), by first | exact hg3 | exact hg2, by exact hF4, by exact hK5⟩
                · refine g_iload G 8 dX2_solve_97 rfl ?_
                  refine g_iload G 4 dX2_solve_99 rfl ?_
                  refine g_iand G dX2_solve_101 ?_
                  refine g_if_ne G 108 dX2_solve_102 (by decide) (by exact andI_rg _ _) (fun c102 => ?_) (fun c102 => ?_)
                  · refine g_iload G 6 dX2_solve_108 rfl ?_
                    refine g_iload G 8 dX2_solve_110 rfl ?_
                    refine g_ior G dX2_solve_112 ?_
                    refine g_istore G [(0, .ref q0), (1, .int (iI cm)), (2, .int (iI dp)), (3, .int (iI mo)), (4, .int (iI (shlI 1 mo))), (5, .int (iI xr)), (6, .int (iI (orI B r2))), (7, .int (iI t)), (8, .int (iI r2))] dX2_solve_113 (by decide) rfl rfl ?_
                    refine g_iinc G 7 [(0, .ref q0), (1, .int (iI cm)), (2, .int (iI dp)), (3, .int (iI mo)), (4, .int (iI (shlI 1 mo))), (5, .int (iI xr)), (6, .int (iI (orI B r2))), (7, .int (iI (t + 1))), (8, .int (iI r2))] dX2_solve_115 rfl (by decide) rfl rfl ?_
                    refine g_goto G 37 dX2_solve_118 (by decide) ?_
                    refine g_lv G [0, 1, 2, 3, 4, 5, 6, 7] (lv' := [(0, .ref q0), (1, .int (iI cm)), (2, .int (iI dp)), (3, .int (iI mo)), (4, .int (iI (shlI 1 mo))), (5, .int (iI xr)), (6, .int (iI (orI B r2))), (7, .int (iI (t + 1)))]) rfl ?_
                    exact ih37 (t + 1) (orI B r2) sa2 ph2 xm2 xa2 xt2 xn4 xv4 (by first | assumption | omega) (by exact SvM.next hM (hb4 c94)) (by exact hF4) (by exact hK5) (by omega)
                  · refine g_iload G 8 dX2_solve_105 rfl ?_
                    exact g_ret G (some (.int (iI r2))) rfl dX2_solve_107 (Nat.le_refl _) (Nat.le_refl _) ⟨r2, sa2, ph2, xm2, xa2, xt2, xn4, xv4, rfl, rfl, by first | exact absurd c94 c64 | exact Or.inl ⟨c94, LeftP.of (SvR.left hv3 c94) hmo2.2.1⟩ | exact Or.inr (BadM.out hmo2.1 (hb4 c94) c102), by first | exact hg3 | exact hg2, by exact hF4, by exact hK5⟩
              · refine g_aload_n G 0 dX2_solve_67 rfl ?_
                refine g_iload_n G 1 dX2_solve_68 rfl ?_
                refine g_iload G 7 dX2_solve_69 rfl ?_
                refine g_iconst G dX2_solve_71 ?_
                refine g_iadd G dX2_solve_72 ?_
                obtain ⟨x, hx⟩ : ∃ r : Int, (cm < (t + 1) → r = t + 1) ∧ ((t + 1) ≤ cm → r = cm) := by by_cases h : cm < (t + 1); exact ⟨t + 1, by omega⟩; exact ⟨cm, by omega⟩
                refine g_max G x dX2_solve_73 (by decide +kernel) (by decide +kernel) (by decide +kernel) (by decide +kernel) (by show 1 ≤ e + 3; omega) (by show 1 + 13 ≤ 28 * e + 100; omega) (Nat.le_of_ble_eq_true rfl) (Nat.le_of_ble_eq_true rfl) (by omega) (by omega) hx ?_
                obtain ⟨Se1, u1, u2⟩ := SeR.ok hs2 c64 x hx
                have hup := cnT_up hmo2.2.1 (show t ≠ -1 by omega) hmo2.1.1 12 (by omega)
                refine g_iload_n G 2 dX2_solve_76 rfl ?_
                refine g_iconst G dX2_solve_77 ?_
                refine g_iadd G dX2_solve_78 ?_
                refine g_callV G [0, 1, 2, 3, 4, 5, 6, 7, 8, 9, 10, 11, 12, 13, 14] [] 15 [] [.int (iI x), .int (iI (dp + 1))] [] (hW e1 he1 q0 q1 q2 q3 q4 q5 q6 q7 q8 q9 q10 q11 q12 q13 q14 pa vb cd cn xc xw sa2 ph2 xm2 xa2 (upI tg mo t) xt2 xn2 xv2 nd xr2 al x (dp + 1) So ns Se1 (by exact hT) (by exact hk) (by exact hwt) (by exact hQ) (by exact u2) (by omega) (by omega)) dX2_solve_79 gX2_solve_X2_solve ⟨rfl, ⟨rfl, rfl⟩, e_X2_solve, ⟨by show (e1 + 3) + 1 ≤ e + 3; omega, by show 8 + (9 + 11) + (28 * e1 + 100) ≤ 28 * e + 100; omega⟩, Nat.le_of_ble_eq_true rfl, Nat.le_of_ble_eq_true rfl, Nat.le_of_ble_eq_true rfl⟩ rfl rfl rfl rfl rfl (by decide +kernel) rfl (by decide +kernel) rfl (fun v9 w9 h9 => ?_)
                obtain ⟨r3, sa3, ph3, xm3, xa3, xt3, xn3, xv3, rfl, rfl, hv3, hg3, hF3, hK3⟩ := h9
                refine ⟨[(q0, .inr (2, [.ref q1, .ref q2, .ref q3, .ref q4, .ref q5, .ref q6, .ref q7, .ref q8, .ref q9, .ref q10, .ref q11, .ref q12, .ref q13, .ref q14, .int (iI nd), .int (iI xr2), .int (iI al)])), (q1, ia E 97 pa), (q2, ia E 97 vb), (q3, ia E 97 cd), (q4, ia E 291 cn), (q5, ia E 12 xc), (q6, ia E 97 xw), (q7, ia E 97 sa3), (q8, ia E 97 ph3), (q9, ia E 97 xm3), (q10, ia E 97 xa3), (q11, ia E 12 (upI tg mo t)), (q12, ia E 1164 xt3), (q13, ia E 12 xn3), (q14, ia E 12 xv3)], ⟨rfl, rfl, rfl, rfl⟩, g_to 0 0 _ _ [.int (iI r3)] rfl rfl rfl rfl rfl ?_⟩
                refine g_istore G [(0, .ref q0), (1, .int (iI cm)), (2, .int (iI dp)), (3, .int (iI mo)), (4, .int (iI (shlI 1 mo))), (5, .int (iI xr)), (6, .int (iI B)), (7, .int (iI t)), (8, .int (iI r3))] dX2_solve_82 (by decide) rfl rfl ?_
                have hn2 := hs2.1
                refine g_aload_n G 0 dX2_solve_84 rfl ?_
                refine g_iload_n G 3 dX2_solve_85 rfl ?_
                refine g_iload G 5 dX2_solve_86 rfl ?_
                refine g_callV G [0, 1, 2, 3, 4, 5, 6, 7, 8, 9, 10, 11, 12, 13, 14] [] 15 [] [.int (iI mo), .int (iI xr)] [] (c_X2_unsettle E q0 q1 q2 q3 q4 q5 q6 q7 q8 q9 q10 q11 q12 q13 q14 pa vb cd cn xc xw sa3 ph3 xm3 xa3 (upI tg mo t) xt3 xn3 xv3 nd xr2 al mo xr (by exact hmo2.1) (by omega) (by exact hnd) (by first | exact hF3.1 | exact hs2.2.1)) dX2_solve_88 gX2_solve_X2_unsettle ⟨rfl, ⟨rfl, rfl⟩, e_X2_unsettle, ⟨by show 0 + 1 ≤ e + 3; omega, by show 8 + (5 + 11) + 0 ≤ 28 * e + 100; omega⟩, Nat.le_of_ble_eq_true rfl, Nat.le_of_ble_eq_true rfl, Nat.le_of_ble_eq_true rfl⟩ rfl rfl rfl rfl rfl (by decide +kernel) rfl (by decide +kernel) rfl (fun v9 w9 h9 => ?_)
                obtain ⟨xn4, xv4, rfl, rfl, hS4⟩ := h9
                refine ⟨[(q0, .inr (2, [.ref q1, .ref q2, .ref q3, .ref q4, .ref q5, .ref q6, .ref q7, .ref q8, .ref q9, .ref q10, .ref q11, .ref q12, .ref q13, .ref q14, .int (iI nd), .int (iI xr), .int (iI al)])), (q1, ia E 97 pa), (q2, ia E 97 vb), (q3, ia E 97 cd), (q4, ia E 291 cn), (q5, ia E 12 xc), (q6, ia E 97 xw), (q7, ia E 97 sa3), (q8, ia E 97 ph3), (q9, ia E 97 xm3), (q10, ia E 97 xa3), (q11, ia E 12 (upI (upI tg mo t) mo (-1))), (q12, ia E 1164 xt3), (q13, ia E 12 xn4), (q14, ia E 12 xv4)], ⟨rfl, rfl, rfl, rfl⟩, g_to 0 0 _ _ [] rfl rfl rfl rfl rfl ?_⟩
                refine g_norm G 11 (tg) [(q0, .inr (2, [.ref q1, .ref q2, .ref q3, .ref q4, .ref q5, .ref q6, .ref q7, .ref q8, .ref q9, .ref q10, .ref q11, .ref q12, .ref q13, .ref q14, .int (iI nd), .int (iI xr), .int (iI al)])), (q1, ia E 97 pa), (q2, ia E 97 vb), (q3, ia E 97 cd), (q4, ia E 291 cn), (q5, ia E 12 xc), (q6, ia E 97 xw), (q7, ia E 97 sa3), (q8, ia E 97 ph3), (q9, ia E 97 xm3), (q10, ia E 97 xa3), (q11, ia E 12 tg), (q12, ia E 1164 xt3), (q13, ia E 12 xn4), (q14, ia E 12 xv4)] rfl (by intro j9 h0 h1; (by_cases q : j9 = mo; (rw [q, upI_same, hmo2.2.1]); (rw [upI_ne _ _ q, upI_ne _ _ q]))) rfl ?_
                have hK4 : KeA xr Se sa1 ph1 xm1 xa1 sa3 ph3 xm3 xa3 := by first | exact KeA.trans hs2.2.2.1 hK3 hs2.1 u1 | exact hs2.2.2.1
                have hF4 := ArF.back hF1 hK4 hS4
                have hK5 := KeA.trans hK1 hK4 (Int.le_refl _) (fun _ q9 => q9)
                have hb4 : r3 ≠ -1 → BadM So (upI tg mo t) r3 := by first | exact SvR.bad hv3 | exact SeR.bad hs2
                refine g_iload G 8 dX2_solve_91 rfl ?_
                refine g_iconst G dX2_solve_93 ?_
                refine g_icmp_eq G 105 dX2_solve_94 (by decide) (by omega) (by omega) (fun c94 => ?_) (fun c94 => ?_)
                · refine g_iload G 8 dX2_solve_105 rfl ?_
                  exact g_ret G (some (.int (iI r3))) rfl dX2_solve_107 (Nat.le_refl _) (Nat.le_refl _) ⟨r3, sa3, ph3, xm3, xa3, xt3, xn4, xv4, rfl, rfl, by first | exact absurd c94 c64 | exact Or.inl ⟨c94, LeftP.of (SvR.left hv3 c94) hmo2.2.1⟩ | exact Or.inr (BadM.out hmo2.1 (hb4 c94) c102), by first | exact hg3 | exact hg2, by exact hF4, by exact hK5⟩
                · refine g_iload G 8 dX2_solve_97 rfl ?_
                  refine g_iload G 4 dX2_solve_99 rfl ?_
                  refine g_iand G dX2_solve_101 ?_
                  refine g_if_ne G 108 dX2_solve_102 (by decide) (by exact andI_rg _ _) (fun c102 => ?_) (fun c102 => ?_)
                  · refine g_iload G 6 dX2_solve_108 rfl ?_
                    refine g_iload G 8 dX2_solve_110 rfl ?_
                    refine g_ior G dX2_solve_112 ?_
                    refine g_istore G [(0, .ref q0), (1, .int (iI cm)), (2, .int (iI dp)), (3, .int (iI mo)), (4, .int (iI (shlI 1 mo))), (5, .int (iI xr)), (6, .int (iI (orI B r3))), (7, .int (iI t)), (8, .int (iI r3))] dX2_solve_113 (by decide) rfl rfl ?_
                    refine g_iinc G 7 [(0, .ref q0), (1, .int (iI cm)), (2, .int (iI dp)), (3, .int (iI mo)), (4, .int (iI (shlI 1 mo))), (5, .int (iI xr)), (6, .int (iI (orI B r3))), (7, .int (iI (t + 1))), (8, .int (iI r3))] dX2_solve_115 rfl (by decide) rfl rfl ?_
                    refine g_goto G 37 dX2_solve_118 (by decide) ?_
                    refine g_lv G [0, 1, 2, 3, 4, 5, 6, 7] (lv' := [(0, .ref q0), (1, .int (iI cm)), (2, .int (iI dp)), (3, .int (iI mo)), (4, .int (iI (shlI 1 mo))), (5, .int (iI xr)), (6, .int (iI (orI B r3))), (7, .int (iI (t + 1)))]) rfl ?_
                    exact ih37 (t + 1) (orI B r3) sa3 ph3 xm3 xa3 xt3 xn4 xv4 (by first | assumption | omega) (by exact SvM.next hM (hb4 c94)) (by exact hF4) (by exact hK5) (by omega)
                  · refine g_iload G 8 dX2_solve_105 rfl ?_
                    exact g_ret G (some (.int (iI r3))) rfl dX2_solve_107 (Nat.le_refl _) (Nat.le_refl _) ⟨r3, sa3, ph3, xm3, xa3, xt3, xn4, xv4, rfl, rfl, by first | exact absurd c94 c64 | exact Or.inl ⟨c94, LeftP.of (SvR.left hv3 c94) hmo2.2.1⟩ | exact Or.inr (BadM.out hmo2.1 (hb4 c94) c102), by first | exact hg3 | exact hg2, by exact hF4, by exact hK5⟩
      exact L37 ((5 - 0 : Int).toNat + 1) 0 0 sa ph xm xa xt xn xv (by omega) (by exact SvM.init) (by exact hF) (by exact KeA.refl _ _ _ _ _ _) (by omega)
    · exfalso; omega
  · refine g_iconst G dX2_solve_10 ?_
    exact g_ret G (some (.int (iI (-1)))) rfl dX2_solve_11 (Nat.le_refl _) (Nat.le_refl _) ⟨(-1), sa, ph, xm, xa, xt, xn, xv, rfl, rfl, by exact Or.inl ⟨rfl, ArF.quiet hQ hnd hvb hpa hwt hF (by rcases hmo with q | q; exact q.2; omega)⟩, by omega, by exact hF, by exact KeA.refl _ _ _ _ _ _⟩
theorem slv_all (E : qE) : ∀ e : Nat, ∀ (q0 : Nat) (q1 : Nat) (q2 : Nat) (q3 : Nat) (q4 : Nat) (q5 : Nat) (q6 : Nat) (q7 : Nat) (q8 : Nat) (q9 : Nat) (q10 : Nat) (q11 : Nat) (q12 : Nat) (q13 : Nat) (q14 : Nat) (pa : Int → Int) (vb : Int → Int) (cd : Int → Int) (cn : Int → Int) (xc : Int → Int) (xw : Int → Int) (sa : Int → Int) (ph : Int → Int) (xm : Int → Int) (xa : Int → Int) (tg : Int → Int) (xt : Int → Int) (xn : Int → Int) (xv : Int → Int) (nd : Int) (xr : Int) (al : Int) (cm : Int) (dp : Int) (So : SoT) (ns : NsT) (Se : Int → Prop), (TrS pa vb cd nd al So ns) → (TrC pa vb cn nd) → (WtO xw) → (TrQ pa vb cd nd al So xw) → (ArF So ns pa vb cd nd al xw tg sa ph xm xa xt xn xv xr cm Se) → (12 ≤ cnT tg 12 + (e : Int)) → (0 ≤ dp ∧ dp ≤ cnT tg 12) → Cn E yX2_solve wsX2_solve { frames := e + 3, cells := 0, slots := 0, locals := 28 * e + 100 } [.ref q0, .int (iI cm), .int (iI dp)] [(q0, .inr (2, [.ref q1, .ref q2, .ref q3, .ref q4, .ref q5, .ref q6, .ref q7, .ref q8, .ref q9, .ref q10, .ref q11, .ref q12, .ref q13, .ref q14, .int (iI nd), .int (iI xr), .int (iI al)])), (q1, ia E 97 pa), (q2, ia E 97 vb), (q3, ia E 97 cd), (q4, ia E 291 cn), (q5, ia E 12 xc), (q6, ia E 97 xw), (q7, ia E 97 sa), (q8, ia E 97 ph), (q9, ia E 97 xm), (q10, ia E 97 xa), (q11, ia E 12 tg), (q12, ia E 1164 xt), (q13, ia E 12 xn), (q14, ia E 12 xv)] (fun v9 w9 => ∃ (r : Int) (sa1 : Int → Int) (ph1 : Int → Int) (xm1 : Int → Int) (xa1 : Int → Int) (xt1 : Int → Int) (xn1 : Int → Int) (xv1 : Int → Int), v9 = some (.int (iI r)) ∧ w9 = [(q0, .inr (2, [.ref q1, .ref q2, .ref q3, .ref q4, .ref q5, .ref q6, .ref q7, .ref q8, .ref q9, .ref q10, .ref q11, .ref q12, .ref q13, .ref q14, .int (iI nd), .int (iI xr), .int (iI al)])), (q1, ia E 97 pa), (q2, ia E 97 vb), (q3, ia E 97 cd), (q4, ia E 291 cn), (q5, ia E 12 xc), (q6, ia E 97 xw), (q7, ia E 97 sa1), (q8, ia E 97 ph1), (q9, ia E 97 xm1), (q10, ia E 97 xa1), (q11, ia E 12 tg), (q12, ia E 1164 xt1), (q13, ia E 12 xn1), (q14, ia E 12 xv1)] ∧ (SvR So tg r) ∧ (-2147483648 ≤ r ∧ r < 2147483648) ∧ (ArF So ns pa vb cd nd al xw tg sa1 ph1 xm1 xa1 xt1 xn1 xv1 xr cm Se) ∧ (KeA xr Se sa ph xm xa sa1 ph1 xm1 xa1)) 0 0 := by
  intro e
  induction e with
  | zero => exact fun q0 q1 q2 q3 q4 q5 q6 q7 q8 q9 q10 q11 q12 q13 q14 pa vb cd cn xc xw sa ph xm xa tg xt xn xv nd xr al cm dp So ns Se hT hk hwt hQ hF hd hdp => c_X2_solve_of E 0 q0 q1 q2 q3 q4 q5 q6 q7 q8 q9 q10 q11 q12 q13 q14 pa vb cd cn xc xw sa ph xm xa tg xt xn xv nd xr al cm dp So ns Se hT hk hwt hQ hF hd hdp (fun e1 q => by omega)
  | succ e ih =>
    refine fun q0 q1 q2 q3 q4 q5 q6 q7 q8 q9 q10 q11 q12 q13 q14 pa vb cd cn xc xw sa ph xm xa tg xt xn xv nd xr al cm dp So ns Se hT hk hwt hQ hF hd hdp => c_X2_solve_of E (e + 1) q0 q1 q2 q3 q4 q5 q6 q7 q8 q9 q10 q11 q12 q13 q14 pa vb cd cn xc xw sa ph xm xa tg xt xn xv nd xr al cm dp So ns Se hT hk hwt hQ hF hd hdp (fun e1 q => ?_)
    have q2 : e = e1 := by omega
    subst q2
    exact ih
theorem c_X2_solve (E : qE) (e : Nat) (q0 : Nat) (q1 : Nat) (q2 : Nat) (q3 : Nat) (q4 : Nat) (q5 : Nat) (q6 : Nat) (q7 : Nat) (q8 : Nat) (q9 : Nat) (q10 : Nat) (q11 : Nat) (q12 : Nat) (q13 : Nat) (q14 : Nat) (pa : Int → Int) (vb : Int → Int) (cd : Int → Int) (cn : Int → Int) (xc : Int → Int) (xw : Int → Int) (sa : Int → Int) (ph : Int → Int) (xm : Int → Int) (xa : Int → Int) (tg : Int → Int) (xt : Int → Int) (xn : Int → Int) (xv : Int → Int) (nd : Int) (xr : Int) (al : Int) (cm : Int) (dp : Int) (So : SoT) (ns : NsT) (Se : Int → Prop) (hT : TrS pa vb cd nd al So ns) (hk : TrC pa vb cn nd) (hwt : WtO xw) (hQ : TrQ pa vb cd nd al So xw) (hF : ArF So ns pa vb cd nd al xw tg sa ph xm xa xt xn xv xr cm Se) (hd : 12 ≤ cnT tg 12 + (e : Int)) (hdp : 0 ≤ dp ∧ dp ≤ cnT tg 12) : Cn E yX2_solve wsX2_solve { frames := e + 3, cells := 0, slots := 0, locals := 28 * e + 100 } [.ref q0, .int (iI cm), .int (iI dp)] [(q0, .inr (2, [.ref q1, .ref q2, .ref q3, .ref q4, .ref q5, .ref q6, .ref q7, .ref q8, .ref q9, .ref q10, .ref q11, .ref q12, .ref q13, .ref q14, .int (iI nd), .int (iI xr), .int (iI al)])), (q1, ia E 97 pa), (q2, ia E 97 vb), (q3, ia E 97 cd), (q4, ia E 291 cn), (q5, ia E 12 xc), (q6, ia E 97 xw), (q7, ia E 97 sa), (q8, ia E 97 ph), (q9, ia E 97 xm), (q10, ia E 97 xa), (q11, ia E 12 tg), (q12, ia E 1164 xt), (q13, ia E 12 xn), (q14, ia E 12 xv)] (fun v9 w9 => ∃ (r : Int) (sa1 : Int → Int) (ph1 : Int → Int) (xm1 : Int → Int) (xa1 : Int → Int) (xt1 : Int → Int) (xn1 : Int → Int) (xv1 : Int → Int), v9 = some (.int (iI r)) ∧ w9 = [(q0, .inr (2, [.ref q1, .ref q2, .ref q3, .ref q4, .ref q5, .ref q6, .ref q7, .ref q8, .ref q9, .ref q10, .ref q11, .ref q12, .ref q13, .ref q14, .int (iI nd), .int (iI xr), .int (iI al)])), (q1, ia E 97 pa), (q2, ia E 97 vb), (q3, ia E 97 cd), (q4, ia E 291 cn), (q5, ia E 12 xc), (q6, ia E 97 xw), (q7, ia E 97 sa1), (q8, ia E 97 ph1), (q9, ia E 97 xm1), (q10, ia E 97 xa1), (q11, ia E 12 tg), (q12, ia E 1164 xt1), (q13, ia E 12 xn1), (q14, ia E 12 xv1)] ∧ (SvR So tg r) ∧ (-2147483648 ≤ r ∧ r < 2147483648) ∧ (ArF So ns pa vb cd nd al xw tg sa1 ph1 xm1 xa1 xt1 xn1 xv1 xr cm Se) ∧ (KeA xr Se sa ph xm xa sa1 ph1 xm1 xa1)) 0 0 := slv_all E e q0 q1 q2 q3 q4 q5 q6 q7 q8 q9 q10 q11 q12 q13 q14 pa vb cd cn xc xw sa ph xm xa tg xt xn xv nd xr al cm dp So ns Se hT hk hwt hQ hF hd hdp
