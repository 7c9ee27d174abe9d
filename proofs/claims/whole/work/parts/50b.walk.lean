theorem f_X2_settle_124 : Cond.fieldLink RX2 124 (TX2 15).1 (TX2 15).2.1 (TX2 15).2.2.1 ∈ wsX2_settle := by decide +kernel
theorem i_X2_settle_X2 : ∀ w ∈ wsX20, w ∈ wsX2_settle := by decide +kernel
theorem f_X2_settle_48 : Cond.fieldLink RX2 48 (TX2 12).1 (TX2 12).2.1 (TX2 12).2.2.1 ∈ wsX2_settle := by decide +kernel
theorem f_X2_settle_42 : Cond.fieldLink RX2 42 (TX2 10).1 (TX2 10).2.1 (TX2 10).2.2.1 ∈ wsX2_settle := by decide +kernel
theorem f_X2_settle_39 : Cond.fieldLink RX2 39 (TX2 9).1 (TX2 9).2.1 (TX2 9).2.2.1 ∈ wsX2_settle := by decide +kernel
theorem f_X2_settle_36 : Cond.fieldLink RX2 36 (TX2 8).1 (TX2 8).2.1 (TX2 8).2.2.1 ∈ wsX2_settle := by decide +kernel
theorem f_X2_settle_33 : Cond.fieldLink RX2 33 (TX2 7).1 (TX2 7).2.1 (TX2 7).2.2.1 ∈ wsX2_settle := by decide +kernel
theorem f_X2_settle_11 : Cond.fieldLink RX2 11 (TX2 0).1 (TX2 0).2.1 (TX2 0).2.2.1 ∈ wsX2_settle := by decide +kernel
theorem e_X2_enter : yX2_enter.cls ≠ "java/lang/invoke/MethodHandle" ∧ yX2_enter.cls ≠ "java/lang/invoke/VarHandle" ∧ (parseMethodDescriptor yX2_enter.desc).map (fun d => d.parameters.length) = some 3 := by decide +kernel
theorem f_X2_settle_45 : Cond.fieldLink RX2 45 (TX2 11).1 (TX2 11).2.1 (TX2 11).2.2.1 ∈ wsX2_settle := by decide +kernel
set_option maxRecDepth 100000 in
set_option maxHeartbeats 4000000 in
theorem c_X2_settle (E : qE) (q0 : Nat) (q1 : Nat) (q2 : Nat) (q3 : Nat) (q4 : Nat) (q5 : Nat) (q6 : Nat) (q7 : Nat) (q8 : Nat) (q9 : Nat) (q10 : Nat) (q11 : Nat) (q12 : Nat) (q13 : Nat) (q14 : Nat) (pa : Int → Int) (vb : Int → Int) (cd : Int → Int) (cn : Int → Int) (xc : Int → Int) (xw : Int → Int) (sa : Int → Int) (ph : Int → Int) (xm : Int → Int) (xa : Int → Int) (tg : Int → Int) (xt : Int → Int) (xn : Int → Int) (xv : Int → Int) (nd : Int) (xr : Int) (al : Int) (m : Int) (t : Int) (cm : Int) (So : SoT) (ns : NsT) (Se : Int → Prop) (hT : TrS pa vb cd nd al So ns) (hk : TrC pa vb cn nd) (hF : ArF So ns pa vb cd nd al xw tg sa ph xm xa xt xn xv xr cm Se) (hm12 : 0 ≤ m ∧ m < 12) (htm : tg m = -1) (hmc : m / 3 < cm) (ht : 0 ≤ t ∧ t ≤ cm ∧ t < al) : Cn E yX2_settle wsX2_settle { frames := 1, cells := 0, slots := 0, locals := 27 } [.ref q0, .int (iI m), .int (iI t)] [(q0, .inr (2, [.ref q1, .ref q2, .ref q3, .ref q4, .ref q5, .ref q6, .ref q7, .ref q8, .ref q9, .ref q10, .ref q11, .ref q12, .ref q13, .ref q14, .int (iI nd), .int (iI xr), .int (iI al)])), (q1, ia E 97 pa), (q2, ia E 97 vb), (q3, ia E 97 cd), (q4, ia E 291 cn), (q5, ia E 12 xc), (q6, ia E 97 xw), (q7, ia E 97 sa), (q8, ia E 97 ph), (q9, ia E 97 xm), (q10, ia E 97 xa), (q11, ia E 12 tg), (q12, ia E 1164 xt), (q13, ia E 12 xn), (q14, ia E 12 xv)] (fun v9 w9 => ∃ (r : Int) (sa1 : Int → Int) (ph1 : Int → Int) (xm1 : Int → Int) (xa1 : Int → Int) (xt1 : Int → Int) (xn1 : Int → Int) (xv1 : Int → Int) (xr1 : Int), v9 = some (.int (iI r)) ∧ w9 = [(q0, .inr (2, [.ref q1, .ref q2, .ref q3, .ref q4, .ref q5, .ref q6, .ref q7, .ref q8, .ref q9, .ref q10, .ref q11, .ref q12, .ref q13, .ref q14, .int (iI nd), .int (iI xr1), .int (iI al)])), (q1, ia E 97 pa), (q2, ia E 97 vb), (q3, ia E 97 cd), (q4, ia E 291 cn), (q5, ia E 12 xc), (q6, ia E 97 xw), (q7, ia E 97 sa1), (q8, ia E 97 ph1), (q9, ia E 97 xm1), (q10, ia E 97 xa1), (q11, ia E 12 (upI tg m t)), (q12, ia E 1164 xt1), (q13, ia E 12 xn1), (q14, ia E 12 xv1)] ∧ (SeR So ns pa vb cd nd al xw tg sa ph xm xa xr cm Se m t r sa1 ph1 xm1 xa1 xt1 xn1 xv1 xr1) ∧ (-2147483648 ≤ r ∧ r < 2147483648)) 0 0 := by
  refine Cn.ofP (own := RX2) (cc := cX2_settle) (maxL := 9) (ret := (some .int)) false [(0, .ref q0), (1, .int (iI m)), (2, .int (iI t))] (by decide +kernel) rfl rfl (Nat.le_of_ble_eq_true rfl) rfl (fun h => nomatch h) (fun v w h => by obtain ⟨r, sa1, ph1, xm1, xa1, xt1, xn1, xv1, xr1, rfl, h9⟩ := h; exact ⟨_, rfl, rfl⟩) ?_
  intro P G
  have hal := hT.1.1
  have hnd := hT.1.2.1
  have hpa := hT.1.2.2.1
  have hvb := hT.1.2.2.2.1
  have hcd := hT.1.2.2.2.2
  have hcl := hF.2.2.2.1
  have hc1 := hF.2.1.1.1
  obtain ⟨x, hx⟩ : ∃ x : Int, (cm < t + 1 → x = t + 1) ∧ (t + 1 ≤ cm → x = cm) := by by_cases h : cm < t + 1; exact ⟨t + 1, by omega⟩; exact ⟨cm, by omega⟩
  have hx4 : x ≤ 4 := by omega
  have han := ArS.an hF.1 hm12.1 hm12.2
  have hl0 := ArS.len hF.1 hnd.1
  have hx0 := hF.1.1
  refine g_aload_n G 0 dX2_settle_0 rfl ?_
  refine g_get G 0 15 dX2_settle_1 i_X2_settle_X2 f_X2_settle_124 rfl rfl (by decide) rfl ?_
  refine g_istore_n G [(0, .ref q0), (1, .int (iI m)), (2, .int (iI t)), (3, .int (iI xr))] dX2_settle_4 (by decide) rfl rfl ?_
  refine g_aload_n G 0 dX2_settle_5 rfl ?_
  refine g_get G 0 12 dX2_settle_6 i_X2_settle_X2 f_X2_settle_48 rfl rfl (by decide) rfl ?_
  refine g_iload_n G 1 dX2_settle_9 rfl ?_
  refine g_iald G 13 dX2_settle_10 rfl (by omega) (by omega) (by decide) ?_
  refine g_istore G [(0, .ref q0), (1, .int (iI m)), (2, .int (iI t)), (3, .int (iI xr)), (4, .int (iI (xn m)))] dX2_settle_11 (by decide) rfl rfl ?_
  refine g_iconst G dX2_settle_13 ?_
  refine g_istore G [(0, .ref q0), (1, .int (iI m)), (2, .int (iI t)), (3, .int (iI xr)), (4, .int (iI (xn m))), (5, .int (iI (-1)))] dX2_settle_14 (by decide) rfl rfl ?_
  refine g_aload_n G 0 dX2_settle_16 rfl ?_
  refine g_get G 0 10 dX2_settle_17 i_X2_settle_X2 f_X2_settle_42 rfl rfl (by decide) rfl ?_
  refine g_iload_n G 1 dX2_settle_20 rfl ?_
  refine g_iload_n G 2 dX2_settle_21 rfl ?_
  refine g_iast G 11 [(q0, .inr (2, [.ref q1, .ref q2, .ref q3, .ref q4, .ref q5, .ref q6, .ref q7, .ref q8, .ref q9, .ref q10, .ref q11, .ref q12, .ref q13, .ref q14, .int (iI nd), .int (iI xr), .int (iI al)])), (q1, ia E 97 pa), (q2, ia E 97 vb), (q3, ia E 97 cd), (q4, ia E 291 cn), (q5, ia E 12 xc), (q6, ia E 97 xw), (q7, ia E 97 sa), (q8, ia E 97 ph), (q9, ia E 97 xm), (q10, ia E 97 xa), (q11, ia E 12 (upI tg m t)), (q12, ia E 1164 xt), (q13, ia E 12 xn), (q14, ia E 12 xv)] dX2_settle_22 rfl (by omega) (by omega) (by decide) rfl ?_
  refine g_iconst G dX2_settle_23 ?_
  refine g_istore G [(0, .ref q0), (1, .int (iI m)), (2, .int (iI t)), (3, .int (iI xr)), (4, .int (iI (xn m))), (5, .int (iI (-1))), (6, .int (iI 0))] dX2_settle_24 (by decide) rfl rfl ?_
  have L26 : ∀ (fuel : Nat), ∀ (a : Int) (r : Int) (sa1 : Int → Int) (ph1 : Int → Int) (xm1 : Int → Int) (xa1 : Int → Int) (xt1 : Int → Int) (xn1 : Int → Int) (xv1 : Int → Int) (xr1 : Int), (0 ≤ a ∧ a ≤ xn m) → (-2147483648 ≤ r ∧ r < 2147483648) → (SeL So ns pa vb cd nd xw (upI tg m t) sa ph xm xa xr x Se (SeD1 xm xa xr Se m a) r sa1 ph1 xm1 xa1 xt1 xn1 xv1 xr1) → (xn m - a : Int).toNat < fuel → P 0 0 [(q0, .inr (2, [.ref q1, .ref q2, .ref q3, .ref q4, .ref q5, .ref q6, .ref q7, .ref q8, .ref q9, .ref q10, .ref q11, .ref q12, .ref q13, .ref q14, .int (iI nd), .int (iI xr1), .int (iI al)])), (q1, ia E 97 pa), (q2, ia E 97 vb), (q3, ia E 97 cd), (q4, ia E 291 cn), (q5, ia E 12 xc), (q6, ia E 97 xw), (q7, ia E 97 sa1), (q8, ia E 97 ph1), (q9, ia E 97 xm1), (q10, ia E 97 xa1), (q11, ia E 12 (upI tg m t)), (q12, ia E 1164 xt1), (q13, ia E 12 xn1), (q14, ia E 12 xv1)] 26 [(0, .ref q0), (1, .int (iI m)), (2, .int (iI t)), (3, .int (iI xr)), (4, .int (iI (xn m))), (5, .int (iI r)), (6, .int (iI a))] [] := by
    intro fuel
    induction fuel with
    | zero => intro a r sa1 ph1 xm1 xa1 xt1 xn1 xv1 xr1 ha hrg hI hm; exact absurd hm (Nat.not_lt_zero _)
    | succ fuel ih26 =>
      intro a r sa1 ph1 xm1 xa1 xt1 xn1 xv1 xr1 ha hrg hI hm
      refine g_iload G 6 dX2_settle_26 rfl ?_
      refine g_iload G 4 dX2_settle_28 rfl ?_
      refine g_icmp_ge G 84 dX2_settle_30 (by decide) (by omega) (by omega) (fun c30 => ?_) (fun c30 => ?_)
      · refine g_iload_n G 3 dX2_settle_84 rfl ?_
        refine g_istore G [(0, .ref q0), (1, .int (iI m)), (2, .int (iI t)), (3, .int (iI xr)), (4, .int (iI (xn m))), (5, .int (iI r)), (6, .int (iI xr))] dX2_settle_85 (by decide) rfl rfl ?_
        have L87 : ∀ (fuel : Nat), ∀ (a : Int) (r : Int) (sa1 : Int → Int) (ph1 : Int → Int) (xm1 : Int → Int) (xa1 : Int → Int) (xt1 : Int → Int) (xn1 : Int → Int) (xv1 : Int → Int) (xr1 : Int), (xr ≤ a ∧ a ≤ xr1) → (-2147483648 ≤ r ∧ r < 2147483648) → (SeL So ns pa vb cd nd xw (upI tg m t) sa ph xm xa xr x Se (SeD2 (upI tg m t) xm1 xa1 a) r sa1 ph1 xm1 xa1 xt1 xn1 xv1 xr1) → (97 - a : Int).toNat < fuel → P 0 0 [(q0, .inr (2, [.ref q1, .ref q2, .ref q3, .ref q4, .ref q5, .ref q6, .ref q7, .ref q8, .ref q9, .ref q10, .ref q11, .ref q12, .ref q13, .ref q14, .int (iI nd), .int (iI xr1), .int (iI al)])), (q1, ia E 97 pa), (q2, ia E 97 vb), (q3, ia E 97 cd), (q4, ia E 291 cn), (q5, ia E 12 xc), (q6, ia E 97 xw), (q7, ia E 97 sa1), (q8, ia E 97 ph1), (q9, ia E 97 xm1), (q10, ia E 97 xa1), (q11, ia E 12 (upI tg m t)), (q12, ia E 1164 xt1), (q13, ia E 12 xn1), (q14, ia E 12 xv1)] 87 [(0, .ref q0), (1, .int (iI m)), (2, .int (iI t)), (3, .int (iI xr)), (4, .int (iI (xn m))), (5, .int (iI r)), (6, .int (iI a))] [] := by
          intro fuel
          induction fuel with
          | zero => intro a r sa1 ph1 xm1 xa1 xt1 xn1 xv1 xr1 ha hrg hI2 hm; exact absurd hm (Nat.not_lt_zero _)
          | succ fuel ih87 =>
            intro a r sa1 ph1 xm1 xa1 xt1 xn1 xv1 xr1 ha hrg hI2 hm
            have hl8 := ArS.len hI2.2.1 hnd.1
            refine g_iload G 6 dX2_settle_87 rfl ?_
            refine g_aload_n G 0 dX2_settle_89 rfl ?_
            refine g_get G 0 15 dX2_settle_90 i_X2_settle_X2 f_X2_settle_124 rfl rfl (by decide) rfl ?_
            refine g_icmp_ge G 169 dX2_settle_93 (by decide) (by omega) (by omega) (fun c93 => ?_) (fun c93 => ?_)
            · refine g_iload G 5 dX2_settle_169 rfl ?_
              exact g_ret G (some (.int (iI r))) rfl dX2_settle_171 (Nat.le_refl _) (Nat.le_refl _) ⟨r, sa1, ph1, xm1, xa1, xt1, xn1, xv1, xr1, rfl, rfl, by exact SeL.done hF ht.2.2 hx hI2 (by omega), by exact hrg⟩
            · refine g_iload G 5 dX2_settle_96 rfl ?_
              refine g_iconst G dX2_settle_98 ?_
              refine g_icmp_ne G 169 dX2_settle_99 (by decide) (by omega) (by omega) (fun c99 => ?_) (fun c99 => ?_)
              · refine g_iload G 5 dX2_settle_169 rfl ?_
                exact g_ret G (some (.int (iI r))) rfl dX2_settle_171 (Nat.le_refl _) (Nat.le_refl _) ⟨r, sa1, ph1, xm1, xa1, xt1, xn1, xv1, xr1, rfl, rfl, by exact SeL.done hF ht.2.2 hx hI2 (by omega), by exact hrg⟩
              · obtain ⟨Se1, s1, s2, s3, s4⟩ := SeL.mid hI2 c99
                have hjn : 0 ≤ a ∧ a < xr1 := by omega
                have htb := ArT.bd s2.1.2 hx4
                have hlen := ArS.len hI2.2.1 hnd.1
                have hai := hI2.2.1.2.1 a (by omega) (by omega)
                have hpn := hpa (xa1 a) hai.1.1 hai.1.2
                have htb2 := htb (xm1 (xa1 a))
                refine g_aload_n G 0 dX2_settle_102 rfl ?_
                refine g_get G 0 9 dX2_settle_103 i_X2_settle_X2 f_X2_settle_39 rfl rfl (by decide) rfl ?_
                refine g_iload G 6 dX2_settle_106 rfl ?_
                refine g_iald G 10 dX2_settle_108 rfl (by omega) (by omega) (by decide) ?_
                refine g_istore G [(0, .ref q0), (1, .int (iI m)), (2, .int (iI t)), (3, .int (iI xr)), (4, .int (iI (xn m))), (5, .int (iI r)), (6, .int (iI a)), (7, .int (iI (xa1 a)))] dX2_settle_109 (by decide) rfl rfl ?_
                refine g_aload_n G 0 dX2_settle_111 rfl ?_
                refine g_get G 0 8 dX2_settle_112 i_X2_settle_X2 f_X2_settle_36 rfl rfl (by decide) rfl ?_
                refine g_iload G 7 dX2_settle_115 rfl ?_
                refine g_iald G 9 dX2_settle_117 rfl (by omega) (by omega) (by decide) ?_
                refine g_istore G [(0, .ref q0), (1, .int (iI m)), (2, .int (iI t)), (3, .int (iI xr)), (4, .int (iI (xn m))), (5, .int (iI r)), (6, .int (iI a)), (7, .int (iI (xa1 a))), (8, .int (iI (xm1 (xa1 a))))] dX2_settle_118 (by decide) rfl rfl ?_
                refine g_aload_n G 0 dX2_settle_120 rfl ?_
                refine g_get G 0 10 dX2_settle_121 i_X2_settle_X2 f_X2_settle_42 rfl rfl (by decide) rfl ?_
                refine g_iload G 8 dX2_settle_124 rfl ?_
                refine g_iald G 11 dX2_settle_126 rfl (by omega) (by omega) (by decide) ?_
                refine g_iconst G dX2_settle_127 ?_
                refine g_icmp_eq G 163 dX2_settle_128 (by decide) (by omega) (by omega) (fun c128 => ?_) (fun c128 => ?_)
                · refine g_iinc G 6 [(0, .ref q0), (1, .int (iI m)), (2, .int (iI t)), (3, .int (iI xr)), (4, .int (iI (xn m))), (5, .int (iI r)), (6, .int (iI (a + 1))), (7, .int (iI (xa1 a))), (8, .int (iI (xm1 (xa1 a))))] dX2_settle_163 rfl (by decide) rfl rfl ?_
                  refine g_goto G 87 dX2_settle_166 (by decide) ?_
                  refine g_lv G [0, 1, 2, 3, 4, 5, 6] (lv' := [(0, .ref q0), (1, .int (iI m)), (2, .int (iI t)), (3, .int (iI xr)), (4, .int (iI (xn m))), (5, .int (iI r)), (6, .int (iI (a + 1)))]) rfl ?_
                  exact ih87 (a + 1) r sa1 ph1 xm1 xa1 xt1 xn1 xv1 xr1 (by first | omega | (have := hE2.1.1; omega)) (by first | assumption | omega) (by first | exact SeL.stay hI2 (SeD2.stay c128) | exact SeL.ent2 hT hI2 hjn rfl rfl rfl s1 s2 s3 s4 ht2 hnD (SeD2.lt (by omega)) hE2 (SeD2.next hjn.2 ht2 hE2.1.2)) (by omega)
                · have ht2 : 0 ≤ upI tg m t (xm1 (xa1 a)) := by omega
                  have hnD : ¬ SeD2 (upI tg m t) xm1 xa1 a a := fun q9 => by have := q9.1; omega
                  have hpre := SeL.pre hvb hjn rfl rfl s2 s4 ht2 hnD
                  refine g_aload_n G 0 dX2_settle_131 rfl ?_
                  refine g_iload G 7 dX2_settle_132 rfl ?_
                  refine g_aload_n G 0 dX2_settle_134 rfl ?_
                  refine g_get G 0 10 dX2_settle_135 i_X2_settle_X2 f_X2_settle_42 rfl rfl (by decide) rfl ?_
                  refine g_iload G 8 dX2_settle_138 rfl ?_
                  refine g_iald G 11 dX2_settle_140 rfl (by omega) (by omega) (by decide) ?_
                  refine g_aload_n G 0 dX2_settle_141 rfl ?_
                  refine g_get G 0 7 dX2_settle_142 i_X2_settle_X2 f_X2_settle_33 rfl rfl (by decide) rfl ?_
                  refine g_aload_n G 0 dX2_settle_145 rfl ?_
                  refine g_get G 0 0 dX2_settle_146 i_X2_settle_X2 f_X2_settle_11 rfl rfl (by decide) rfl ?_
                  refine g_iload G 7 dX2_settle_149 rfl ?_
                  refine g_iald G 1 dX2_settle_151 rfl (by omega) (by omega) (by decide) ?_
                  refine g_iald G 8 dX2_settle_152 rfl (by omega) (by omega) (by decide) ?_
                  refine g_iconst G dX2_settle_153 ?_
                  refine g_iload G 8 dX2_settle_154 rfl ?_
                  refine g_ishl G dX2_settle_156 ?_
                  refine g_ior G dX2_settle_157 ?_
                  refine g_callV G [0, 1, 2, 3, 4, 5, 6, 7, 8, 9, 10, 11, 12, 13, 14] [] 15 [] [.int (iI (xa1 a)), .int (iI ((upI tg m t) (xm1 (xa1 a)))), .int (iI (orI (ph1 (pa (xa1 a))) (shlI 1 (xm1 (xa1 a)))))] [] (c_X2_enter E q0 q1 q2 q3 q4 q5 q6 q7 q8 q9 q10 q11 q12 q13 q14 pa vb cd cn xc xw sa1 ph1 xm1 xa1 (upI tg m t) xt1 xn1 xv1 nd xr1 al (xa1 a) ((upI tg m t) (xm1 (xa1 a))) (orI (ph1 (pa (xa1 a))) (shlI 1 (xm1 (xa1 a)))) x (aSe Se1 (xa1 a)) (by first | assumption | omega) (by first | assumption | omega) (by first | assumption | omega) (by first | assumption | omega) (by exact hk) (by exact hx4) (by omega) (by exact Or.inl rfl) (by exact hI2.2.1) (by exact hpre.1) (by exact hpre.2)) dX2_settle_158 gX2_settle_X2_enter ⟨rfl, ⟨rfl, rfl⟩, e_X2_enter, ⟨Nat.le_of_ble_eq_true rfl, Nat.le_of_ble_eq_true rfl⟩, Nat.le_of_ble_eq_true rfl, Nat.le_of_ble_eq_true rfl, Nat.le_of_ble_eq_true rfl⟩ rfl rfl rfl rfl rfl (by decide +kernel) rfl (by decide +kernel) rfl (fun v9 w9 h9 => ?_)
                  obtain ⟨r2, xm2, xa2, xt2, xn2, xv2, xr2, rfl, rfl, hE2, hg2⟩ := h9
                  refine ⟨[(q0, .inr (2, [.ref q1, .ref q2, .ref q3, .ref q4, .ref q5, .ref q6, .ref q7, .ref q8, .ref q9, .ref q10, .ref q11, .ref q12, .ref q13, .ref q14, .int (iI nd), .int (iI xr2), .int (iI al)])), (q1, ia E 97 pa), (q2, ia E 97 vb), (q3, ia E 97 cd), (q4, ia E 291 cn), (q5, ia E 12 xc), (q6, ia E 97 xw), (q7, ia E 97 (upI sa1 (xa1 a) ((upI tg m t) (xm1 (xa1 a))))), (q8, ia E 97 (upI ph1 (xa1 a) (orI (ph1 (pa (xa1 a))) (shlI 1 (xm1 (xa1 a)))))), (q9, ia E 97 xm2), (q10, ia E 97 xa2), (q11, ia E 12 (upI tg m t)), (q12, ia E 1164 xt2), (q13, ia E 12 xn2), (q14, ia E 12 xv2)], ⟨rfl, rfl, rfl, rfl⟩, g_to 0 0 _ _ [.int (iI r2)] rfl rfl rfl rfl rfl ?_⟩
                  refine g_istore G [(0, .ref q0), (1, .int (iI m)), (2, .int (iI t)), (3, .int (iI xr)), (4, .int (iI (xn m))), (5, .int (iI r2)), (6, .int (iI a)), (7, .int (iI (xa1 a))), (8, .int (iI (xm1 (xa1 a))))] dX2_settle_161 (by decide) rfl rfl ?_
                  refine g_iinc G 6 [(0, .ref q0), (1, .int (iI m)), (2, .int (iI t)), (3, .int (iI xr)), (4, .int (iI (xn m))), (5, .int (iI r2)), (6, .int (iI (a + 1))), (7, .int (iI (xa1 a))), (8, .int (iI (xm1 (xa1 a))))] dX2_settle_163 rfl (by decide) rfl rfl ?_
                  refine g_goto G 87 dX2_settle_166 (by decide) ?_
                  refine g_lv G [0, 1, 2, 3, 4, 5, 6] (lv' := [(0, .ref q0), (1, .int (iI m)), (2, .int (iI t)), (3, .int (iI xr)), (4, .int (iI (xn m))), (5, .int (iI r2)), (6, .int (iI (a + 1)))]) rfl ?_
                  exact ih87 (a + 1) r2 (upI sa1 (xa1 a) ((upI tg m t) (xm1 (xa1 a)))) (upI ph1 (xa1 a) (orI (ph1 (pa (xa1 a))) (shlI 1 (xm1 (xa1 a))))) xm2 xa2 xt2 xn2 xv2 xr2 (by first | omega | (have := hE2.1.1; omega)) (by first | assumption | omega) (by first | exact SeL.stay hI2 (SeD2.stay c128) | exact SeL.ent2 hT hI2 hjn rfl rfl rfl s1 s2 s3 s4 ht2 hnD (SeD2.lt (by omega)) hE2 (SeD2.next hjn.2 ht2 hE2.1.2)) (by omega)
        exact L87 ((97 - xr : Int).toNat + 1) xr r sa1 ph1 xm1 xa1 xt1 xn1 xv1 xr1 (by have := hI.1; omega) (by first | assumption | omega) (by exact SeL.half hF htm hm12 ht.1 hI (by omega)) (by omega)
      · refine g_iload G 5 dX2_settle_33 rfl ?_
        refine g_iconst G dX2_settle_35 ?_
        refine g_icmp_ne G 84 dX2_settle_36 (by decide) (by omega) (by omega) (fun c36 => ?_) (fun c36 => ?_)
        · refine g_iload_n G 3 dX2_settle_84 rfl ?_
          refine g_istore G [(0, .ref q0), (1, .int (iI m)), (2, .int (iI t)), (3, .int (iI xr)), (4, .int (iI (xn m))), (5, .int (iI r)), (6, .int (iI xr))] dX2_settle_85 (by decide) rfl rfl ?_
          have L87 : ∀ (fuel : Nat), ∀ (a : Int) (r : Int) (sa1 : Int → Int) (ph1 : Int → Int) (xm1 : Int → Int) (xa1 : Int → Int) (xt1 : Int → Int) (xn1 : Int → Int) (xv1 : Int → Int) (xr1 : Int), (xr ≤ a ∧ a ≤ xr1) → (-2147483648 ≤ r ∧ r < 2147483648) → (SeL So ns pa vb cd nd xw (upI tg m t) sa ph xm xa xr x Se (SeD2 (upI tg m t) xm1 xa1 a) r sa1 ph1 xm1 xa1 xt1 xn1 xv1 xr1) → (97 - a : Int).toNat < fuel → P 0 0 [(q0, .inr (2, [.ref q1, .ref q2, .ref q3, .ref q4, .ref q5, .ref q6, .ref q7, .ref q8, .ref q9, .ref q10, .ref q11, .ref q12, .ref q13, .ref q14, .int (iI nd), .int (iI xr1), .int (iI al)])), (q1, ia E 97 pa), (q2, ia E 97 vb), (q3, ia E 97 cd), (q4, ia E 291 cn), (q5, ia E 12 xc), (q6, ia E 97 xw), (q7, ia E 97 sa1), (q8, ia E 97 ph1), (q9, ia E 97 xm1), (q10, ia E 97 xa1), (q11, ia E 12 (upI tg m t)), (q12, ia E 1164 xt1), (q13, ia E 12 xn1), (q14, ia E 12 xv1)] 87 [(0, .ref q0), (1, .int (iI m)), (2, .int (iI t)), (3, .int (iI xr)), (4, .int (iI (xn m))), (5, .int (iI r)), (6, .int (iI a))] [] := by
            intro fuel
            induction fuel with
            | zero => intro a r sa1 ph1 xm1 xa1 xt1 xn1 xv1 xr1 ha hrg hI2 hm; exact absurd hm (Nat.not_lt_zero _)
            | succ fuel ih87 =>
              intro a r sa1 ph1 xm1 xa1 xt1 xn1 xv1 xr1 ha hrg hI2 hm
              have hl8 := ArS.len hI2.2.1 hnd.1
              refine g_iload G 6 dX2_settle_87 rfl ?_
              refine g_aload_n G 0 dX2_settle_89 rfl ?_
              refine g_get G 0 15 dX2_settle_90 i_X2_settle_X2 f_X2_settle_124 rfl rfl (by decide) rfl ?_
              refine g_icmp_ge G 169 dX2_settle_93 (by decide) (by omega) (by omega) (fun c93 => ?_) (fun c93 => ?_)
              · refine g_iload G 5 dX2_settle_169 rfl ?_
                exact g_ret G (some (.int (iI r))) rfl dX2_settle_171 (Nat.le_refl _) (Nat.le_refl _) ⟨r, sa1, ph1, xm1, xa1, xt1, xn1, xv1, xr1, rfl, rfl, by exact SeL.done hF ht.2.2 hx hI2 (by omega), by exact hrg⟩
              · refine g_iload G 5 dX2_settle_96 rfl ?_
                refine g_iconst G dX2_settle_98 ?_
                refine g_icmp_ne G 169 dX2_settle_99 (by decide) (by omega) (by omega) (fun c99 => ?_) (fun c99 => ?_)
                · refine g_iload G 5 dX2_settle_169 rfl ?_
                  exact g_ret G (some (.int (iI r))) rfl dX2_settle_171 (Nat.le_refl _) (Nat.le_refl _) ⟨r, sa1, ph1, xm1, xa1, xt1, xn1, xv1, xr1, rfl, rfl, by exact SeL.done hF ht.2.2 hx hI2 (by omega), by exact hrg⟩
                · obtain ⟨Se1, s1, s2, s3, s4⟩ := SeL.mid hI2 c99
                  have hjn : 0 ≤ a ∧ a < xr1 := by omega
                  have htb := ArT.bd s2.1.2 hx4
                  have hlen := ArS.len hI2.2.1 hnd.1
                  have hai := hI2.2.1.2.1 a (by omega) (by omega)
                  have hpn := hpa (xa1 a) hai.1.1 hai.1.2
                  have htb2 := htb (xm1 (xa1 a))
                  refine g_aload_n G 0 dX2_settle_102 rfl ?_
                  refine g_get G 0 9 dX2_settle_103 i_X2_settle_X2 f_X2_settle_39 rfl rfl (by decide) rfl ?_
                  refine g_iload G 6 dX2_settle_106 rfl ?_
                  refine g_iald G 10 dX2_settle_108 rfl (by omega) (by omega) (by decide) ?_
                  refine g_istore G [(0, .ref q0), (1, .int (iI m)), (2, .int (iI t)), (3, .int (iI xr)), (4, .int (iI (xn m))), (5, .int (iI r)), (6, .int (iI a)), (7, .int (iI (xa1 a)))] dX2_settle_109 (by decide) rfl rfl ?_
                  refine g_aload_n G 0 dX2_settle_111 rfl ?_
                  refine g_get G 0 8 dX2_settle_112 i_X2_settle_X2 f_X2_settle_36 rfl rfl (by decide) rfl ?_
                  refine g_iload G 7 dX2_settle_115 rfl ?_
                  refine g_iald G 9 dX2_settle_117 rfl (by omega) (by omega) (by decide) ?_
                  refine g_istore G [(0, .ref q0), (1, .int (iI m)), (2, .int (iI t)), (3, .int (iI xr)), (4, .int (iI (xn m))), (5, .int (iI r)), (6, .int (iI a)), (7, .int (iI (xa1 a))), (8, .int (iI (xm1 (xa1 a))))] dX2_settle_118 (by decide) rfl rfl ?_
                  refine g_aload_n G 0 dX2_settle_120 rfl ?_
                  refine g_get G 0 10 dX2_settle_121 i_X2_settle_X2 f_X2_settle_42 rfl rfl (by decide) rfl ?_
                  refine g_iload G 8 dX2_settle_124 rfl ?_
                  refine g_iald G 11 dX2_settle_126 rfl (by omega) (by omega) (by decide) ?_
                  refine g_iconst G dX2_settle_127 ?_
                  refine g_icmp_eq G 163 dX2_settle_128 (by decide) (by omega) (by omega) (fun c128 => ?_) (fun c128 => ?_)
                  · refine g_iinc G 6 [(0, .ref q0), (1, .int (iI m)), (2, .int (iI t)), (3, .int (iI xr)), (4, .int (iI (xn m))), (5, .int (iI r)), (6, .int (iI (a + 1))), (7, .int (iI (xa1 a))), (8, .int (iI (xm1 (xa1 a))))] dX2_settle_163 rfl (by decide) rfl rfl ?_
                    refine g_goto G 87 dX2_settle_166 (by decide) ?_
                    refine g_lv G [0, 1, 2, 3, 4, 5, 6] (lv' := [(0, .ref q0), (1, .int (iI m)), (2, .int (iI t)), (3, .int (iI xr)), (4, .int (iI (xn m))), (5, .int (iI r)), (6, .int (iI (a + 1)))]) rfl ?_
                    exact ih87 (a + 1) r sa1 ph1 xm1 xa1 xt1 xn1 xv1 xr1 (by first | omega | (have := hE2.1.1; omega)) (by first | assumption | omega) (by first | exact SeL.stay hI2 (SeD2.stay c128) | exact SeL.ent2 hT hI2 hjn rfl rfl rfl s1 s2 s3 s4 ht2 hnD (SeD2.lt (by omega)) hE2 (SeD2.next hjn.2 ht2 hE2.1.2)) (by omega)
                  · have ht2 : 0 ≤ upI tg m t (xm1 (xa1 a)) := by omega
                    have hnD : ¬ SeD2 (upI tg m t) xm1 xa1 a a := fun q9 => by have := q9.1; omega
                    have hpre := SeL.pre hvb hjn rfl rfl s2 s4 ht2 hnD
                    refine g_aload_n G 0 dX2_settle_131 rfl ?_
                    refine g_iload G 7 dX2_settle_132 rfl ?_
                    refine g_aload_n G 0 dX2_settle_134 rfl ?_
                    refine g_get G 0 10 dX2_settle_135 i_X2_settle_X2 f_X2_settle_42 rfl rfl (by decide) rfl ?_
                    refine g_iload G 8 dX2_settle_138 rfl ?_
                    refine g_iald G 11 dX2_settle_140 rfl (by omega) (by omega) (by decide) ?_
                    refine g_aload_n G 0 dX2_settle_141 rfl ?_
                    refine g_get G 0 7 dX2_settle_142 i_X2_settle_X2 f_X2_settle_33 rfl rfl (by decide) rfl ?_
                    refine g_aload_n G 0 dX2_settle_145 rfl ?_
                    refine g_get G 0 0 dX2_settle_146 i_X2_settle_X2 f_X2_settle_11 rfl rfl (by decide) rfl ?_
                    refine g_iload G 7 dX2_settle_149 rfl ?_
                    refine g_iald G 1 dX2_settle_151 rfl (by omega) (by omega) (by decide) ?_
                    refine g_iald G 8 dX2_settle_152 rfl (by omega) (by omega) (by decide) ?_
                    refine g_iconst G dX2_settle_153 ?_
                    refine g_iload G 8 dX2_settle_154 rfl ?_
                    refine g_ishl G dX2_settle_156 ?_
                    refine g_ior G dX2_settle_157 ?_
                    refine g_callV G [0, 1, 2, 3, 4, 5, 6, 7, 8, 9, 10, 11, 12, 13, 14] [] 15 [] [.int (iI (xa1 a)), .int (iI ((upI tg m t) (xm1 (xa1 a)))), .int (iI (orI (ph1 (pa (xa1 a))) (shlI 1 (xm1 (xa1 a)))))] [] (c_X2_enter E q0 q1 q2 q3 q4 q5 q6 q7 q8 q9 q10 q11 q12 q13 q14 pa vb cd cn xc xw sa1 ph1 xm1 xa1 (upI tg m t) xt1 xn1 xv1 nd xr1 al (xa1 a) ((upI tg m t) (xm1 (xa1 a))) (orI (ph1 (pa (xa1 a))) (shlI 1 (xm1 (xa1 a)))) x (aSe Se1 (xa1 a)) (by first | assumption | omega) (by first | assumption | omega) (by first | assumption | omega) (by first | assumption | omega) (by exact hk) (by exact hx4) (by omega) (by exact Or.inl rfl) (by exact hI2.2.1) (by exact hpre.1) (by exact hpre.2)) dX2_settle_158 gX2_settle_X2_enter ⟨rfl, ⟨rfl, rfl⟩, e_X2_enter, ⟨Nat.le_of_ble_eq_true rfl, Nat.le_of_ble_eq_true rfl⟩, Nat.le_of_ble_eq_true rfl, Nat.le_of_ble_eq_true rfl, Nat.le_of_ble_eq_true rfl⟩ rfl rfl rfl rfl rfl (by decide +kernel) rfl (by decide +kernel) rfl (fun v9 w9 h9 => ?_)
                    obtain ⟨r2, xm2, xa2, xt2, xn2, xv2, xr2, rfl, rfl, hE2, hg2⟩ := h9
                    refine ⟨[(q0, .inr (2, [.ref q1, .ref q2, .ref q3, .ref q4, .ref q5, .ref q6, .ref q7, .ref q8, .ref q9, .ref q10, .ref q11, .ref q12, .ref q13, .ref q14, .int (iI nd), .int (iI xr2), .int (iI al)])), (q1, ia E 97 pa), (q2, ia E 97 vb), (q3, ia E 97 cd), (q4, ia E 291 cn), (q5, ia E 12 xc), (q6, ia E 97 xw), (q7, ia E 97 (upI sa1 (xa1 a) ((upI tg m t) (xm1 (xa1 a))))), (q8, ia E 97 (upI ph1 (xa1 a) (orI (ph1 (pa (xa1 a))) (shlI 1 (xm1 (xa1 a)))))), (q9, ia E 97 xm2), (q10, ia E 97 xa2), (q11, ia E 12 (upI tg m t)), (q12, ia E 1164 xt2), (q13, ia E 12 xn2), (q14, ia E 12 xv2)], ⟨rfl, rfl, rfl, rfl⟩, g_to 0 0 _ _ [.int (iI r2)] rfl rfl rfl rfl rfl ?_⟩
                    refine g_istore G [(0, .ref q0), (1, .int (iI m)), (2, .int (iI t)), (3, .int (iI xr)), (4, .int (iI (xn m))), (5, .int (iI r2)), (6, .int (iI a)), (7, .int (iI (xa1 a))), (8, .int (iI (xm1 (xa1 a))))] dX2_settle_161 (by decide) rfl rfl ?_
                    refine g_iinc G 6 [(0, .ref q0), (1, .int (iI m)), (2, .int (iI t)), (3, .int (iI xr)), (4, .int (iI (xn m))), (5, .int (iI r2)), (6, .int (iI (a + 1))), (7, .int (iI (xa1 a))), (8, .int (iI (xm1 (xa1 a))))] dX2_settle_163 rfl (by decide) rfl rfl ?_
                    refine g_goto G 87 dX2_settle_166 (by decide) ?_
                    refine g_lv G [0, 1, 2, 3, 4, 5, 6] (lv' := [(0, .ref q0), (1, .int (iI m)), (2, .int (iI t)), (3, .int (iI xr)), (4, .int (iI (xn m))), (5, .int (iI r2)), (6, .int (iI (a + 1)))]) rfl ?_
                    exact ih87 (a + 1) r2 (upI sa1 (xa1 a) ((upI tg m t) (xm1 (xa1 a)))) (upI ph1 (xa1 a) (orI (ph1 (pa (xa1 a))) (shlI 1 (xm1 (xa1 a))))) xm2 xa2 xt2 xn2 xv2 xr2 (by first | omega | (have := hE2.1.1; omega)) (by first | assumption | omega) (by first | exact SeL.stay hI2 (SeD2.stay c128) | exact SeL.ent2 hT hI2 hjn rfl rfl rfl s1 s2 s3 s4 ht2 hnD (SeD2.lt (by omega)) hE2 (SeD2.next hjn.2 ht2 hE2.1.2)) (by omega)
          exact L87 ((97 - xr : Int).toNat + 1) xr r sa1 ph1 xm1 xa1 xt1 xn1 xv1 xr1 (by have := hI.1; omega) (by first | assumption | omega) (by exact SeL.half hF htm hm12 ht.1 hI (by omega)) (by omega)
        · obtain ⟨Se1, s1, s2, s3, s4⟩ := SeL.mid hI c36
          obtain ⟨j, j1, j2, j3, j4, j5, j6⟩ := SeL.nod hF hI hm12 (show 0 ≤ a ∧ a < xn m by omega)
          have hn1 := hI.1
          have hjn : 0 ≤ j ∧ j < xr1 := by omega
          have et : upI tg m t (xm1 (xa1 j)) = t := by rw [j5, upI_same]
          have hnD := SeD1.nD hF htm j1 j2 j3
          have hpre := SeL.pre hvb hjn j6 et s2 s4 ht.1 hnD
          have hnode := (hI.2.1.2.1 j hjn.1 hjn.2).1
          rw [← j6] at hnode
          have hpn := hpa (xt1 (m * 97 + a)) hnode.1 hnode.2
          have hlen := ArS.len hI.2.1 hnd.1
          refine g_aload_n G 0 dX2_settle_39 rfl ?_
          refine g_get G 0 11 dX2_settle_40 i_X2_settle_X2 f_X2_settle_45 rfl rfl (by decide) rfl ?_
          refine g_iload_n G 1 dX2_settle_43 rfl ?_
          refine g_bipush G dX2_settle_44 (by decide +kernel) ?_
          refine g_imul G dX2_settle_46 ?_
          refine g_iload G 6 dX2_settle_47 rfl ?_
          refine g_iadd G dX2_settle_49 ?_
          refine g_iald G 12 dX2_settle_50 rfl (by omega) (by omega) (by decide) ?_
          refine g_istore G [(0, .ref q0), (1, .int (iI m)), (2, .int (iI t)), (3, .int (iI xr)), (4, .int (iI (xn m))), (5, .int (iI r)), (6, .int (iI a)), (7, .int (iI (xt1 ((m * 97) + a))))] dX2_settle_51 (by decide) rfl rfl ?_
          refine g_aload_n G 0 dX2_settle_53 rfl ?_
          refine g_iload G 7 dX2_settle_54 rfl ?_
          refine g_iload_n G 2 dX2_settle_56 rfl ?_
          refine g_aload_n G 0 dX2_settle_57 rfl ?_
          refine g_get G 0 7 dX2_settle_58 i_X2_settle_X2 f_X2_settle_33 rfl rfl (by decide) rfl ?_
          refine g_aload_n G 0 dX2_settle_61 rfl ?_
          refine g_get G 0 0 dX2_settle_62 i_X2_settle_X2 f_X2_settle_11 rfl rfl (by decide) rfl ?_
          refine g_iload G 7 dX2_settle_65 rfl ?_
          refine g_iald G 1 dX2_settle_67 rfl (by omega) (by omega) (by decide) ?_
          refine g_iald G 8 dX2_settle_68 rfl (by omega) (by omega) (by decide) ?_
          refine g_iconst G dX2_settle_69 ?_
          refine g_iload_n G 1 dX2_settle_70 rfl ?_
          refine g_ishl G dX2_settle_71 ?_
          refine g_ior G dX2_settle_72 ?_
          refine g_callV G [0, 1, 2, 3, 4, 5, 6, 7, 8, 9, 10, 11, 12, 13, 14] [] 15 [] [.int (iI (xt1 ((m * 97) + a))), .int (iI t), .int (iI (orI (ph1 (pa (xt1 ((m * 97) + a)))) (shlI 1 m)))] [] (c_X2_enter E q0 q1 q2 q3 q4 q5 q6 q7 q8 q9 q10 q11 q12 q13 q14 pa vb cd cn xc xw sa1 ph1 xm1 xa1 (upI tg m t) xt1 xn1 xv1 nd xr1 al (xt1 ((m * 97) + a)) t (orI (ph1 (pa (xt1 ((m * 97) + a)))) (shlI 1 m)) x (aSe Se1 (xt1 (m * 97 + a))) (by first | assumption | omega) (by first | assumption | omega) (by first | assumption | omega) (by first | assumption | omega) (by exact hk) (by exact hx4) (by omega) (by exact Or.inl rfl) (by exact hI.2.1) (by exact hpre.1) (by exact hpre.2)) dX2_settle_73 gX2_settle_X2_enter ⟨rfl, ⟨rfl, rfl⟩, e_X2_enter, ⟨Nat.le_of_ble_eq_true rfl, Nat.le_of_ble_eq_true rfl⟩, Nat.le_of_ble_eq_true rfl, Nat.le_of_ble_eq_true rfl, Nat.le_of_ble_eq_true rfl⟩ rfl rfl rfl rfl rfl (by decide +kernel) rfl (by decide +kernel) rfl (fun v9 w9 h9 => ?_)
          obtain ⟨r2, xm2, xa2, xt2, xn2, xv2, xr2, rfl, rfl, hE2, hg2⟩ := h9
          refine ⟨[(q0, .inr (2, [.ref q1, .ref q2, .ref q3, .ref q4, .ref q5, .ref q6, .ref q7, .ref q8, .ref q9, .ref q10, .ref q11, .ref q12, .ref q13, .ref q14, .int (iI nd), .int (iI xr2), .int (iI al)])), (q1, ia E 97 pa), (q2, ia E 97 vb), (q3, ia E 97 cd), (q4, ia E 291 cn), (q5, ia E 12 xc), (q6, ia E 97 xw), (q7, ia E 97 (upI sa1 (xt1 ((m * 97) + a)) t)), (q8, ia E 97 (upI ph1 (xt1 ((m * 97) + a)) (orI (ph1 (pa (xt1 ((m * 97) + a)))) (shlI 1 m)))), (q9, ia E 97 xm2), (q10, ia E 97 xa2), (q11, ia E 12 (upI tg m t)), (q12, ia E 1164 xt2), (q13, ia E 12 xn2), (q14, ia E 12 xv2)], ⟨rfl, rfl, rfl, rfl⟩, g_to 0 0 _ _ [.int (iI r2)] rfl rfl rfl rfl rfl ?_⟩
          refine g_istore G [(0, .ref q0), (1, .int (iI m)), (2, .int (iI t)), (3, .int (iI xr)), (4, .int (iI (xn m))), (5, .int (iI r2)), (6, .int (iI a)), (7, .int (iI (xt1 ((m * 97) + a))))] dX2_settle_76 (by decide) rfl rfl ?_
          refine g_iinc G 6 [(0, .ref q0), (1, .int (iI m)), (2, .int (iI t)), (3, .int (iI xr)), (4, .int (iI (xn m))), (5, .int (iI r2)), (6, .int (iI (a + 1))), (7, .int (iI (xt1 ((m * 97) + a))))] dX2_settle_78 rfl (by decide) rfl rfl ?_
          refine g_goto G 26 dX2_settle_81 (by decide) ?_
          refine g_lv G [0, 1, 2, 3, 4, 5, 6] (lv' := [(0, .ref q0), (1, .int (iI m)), (2, .int (iI t)), (3, .int (iI xr)), (4, .int (iI (xn m))), (5, .int (iI r2)), (6, .int (iI (a + 1)))]) rfl ?_
          exact ih26 (a + 1) r2 (upI sa1 (xt1 ((m * 97) + a)) t) (upI ph1 (xt1 ((m * 97) + a)) (orI (ph1 (pa (xt1 ((m * 97) + a)))) (shlI 1 m))) xm2 xa2 xt2 xn2 xv2 xr2 (by first | assumption | omega) (by first | assumption | omega) (by exact SeL.ent2 hT hI hjn j6 et j5 s1 s2 s3 s4 ht.1 hnD (SeD1.lt hn1) hE2 (SeD1.next j1 (by have := hE2.1.1; omega) j2 j3)) (by omega)
  exact L26 ((xn m - 0 : Int).toNat + 1) 0 (-1) sa ph xm xa xt xn xv xr (by first | assumption | omega) (by first | assumption | omega) (by exact SeL.init hF htm hm12 hmc (by omega) hx) (by omega)
