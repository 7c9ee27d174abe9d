theorem f_X2_settleInOrder_67 : Cond.fieldLink RX2 67 (TX2 14).1 (TX2 14).2.1 (TX2 14).2.2.1 ∈ wsX2_settleInOrder := by decide +kernel
theorem i_X2_settleInOrder_X2 : ∀ w ∈ wsX20, w ∈ wsX2_settleInOrder := by decide +kernel
theorem f_X2_settleInOrder_30 : Cond.fieldLink RX2 30 (TX2 6).1 (TX2 6).2.1 (TX2 6).2.2.1 ∈ wsX2_settleInOrder := by decide +kernel
theorem f_X2_settleInOrder_11 : Cond.fieldLink RX2 11 (TX2 0).1 (TX2 0).2.1 (TX2 0).2.2.1 ∈ wsX2_settleInOrder := by decide +kernel
theorem f_X2_settleInOrder_15 : Cond.fieldLink RX2 15 (TX2 1).1 (TX2 1).2.1 (TX2 1).2.2.1 ∈ wsX2_settleInOrder := by decide +kernel
theorem f_X2_settleInOrder_42 : Cond.fieldLink RX2 42 (TX2 10).1 (TX2 10).2.1 (TX2 10).2.2.1 ∈ wsX2_settleInOrder := by decide +kernel
theorem f_X2_settleInOrder_83 : Cond.fieldLink RX2 83 (TX2 16).1 (TX2 16).2.1 (TX2 16).2.2.1 ∈ wsX2_settleInOrder := by decide +kernel
theorem f_X2_settleInOrder_124 : Cond.fieldLink RX2 124 (TX2 15).1 (TX2 15).2.1 (TX2 15).2.2.1 ∈ wsX2_settleInOrder := by decide +kernel
set_option maxRecDepth 100000 in
set_option maxHeartbeats 4000000 in
theorem c_X2_settleInOrder (E : qE) (q0 : Nat) (q1 : Nat) (q2 : Nat) (q3 : Nat) (q4 : Nat) (q5 : Nat) (q6 : Nat) (q7 : Nat) (q8 : Nat) (q9 : Nat) (q10 : Nat) (q11 : Nat) (q12 : Nat) (q13 : Nat) (q14 : Nat) (pa : Int → Int) (vb : Int → Int) (cd : Int → Int) (cn : Int → Int) (xc : Int → Int) (xw : Int → Int) (sa : Int → Int) (ph : Int → Int) (xm : Int → Int) (xa : Int → Int) (tg : Int → Int) (xt : Int → Int) (xn : Int → Int) (xv : Int → Int) (nd : Int) (xr : Int) (al : Int) (So : SoT) (ns : NsT) (Se : Int → Prop) (hT : TrS pa vb cd nd al So ns) (hk : TrC pa vb cn nd) (hwt : WtO xw) (hQ : TrQ pa vb cd nd al So xw) (hF : ArF So ns pa vb cd nd al xw tg sa ph xm xa xt xn xv xr 1 Se) (hl : LeftP So tg) (ht0 : ∀ m, tg m = -1) : Cn E yX2_settleInOrder wsX2_settleInOrder { frames := 16, cells := 0, slots := 0, locals := 464 } [.ref q0] [(q0, .inr (2, [.ref q1, .ref q2, .ref q3, .ref q4, .ref q5, .ref q6, .ref q7, .ref q8, .ref q9, .ref q10, .ref q11, .ref q12, .ref q13, .ref q14, .int (iI nd), .int (iI xr), .int (iI al)])), (q1, ia E 97 pa), (q2, ia E 97 vb), (q3, ia E 97 cd), (q4, ia E 291 cn), (q5, ia E 12 xc), (q6, ia E 97 xw), (q7, ia E 97 sa), (q8, ia E 97 ph), (q9, ia E 97 xm), (q10, ia E 97 xa), (q11, ia E 12 tg), (q12, ia E 1164 xt), (q13, ia E 12 xn), (q14, ia E 12 xv)] (fun v9 w9 => ∃ (sa1 : Int → Int) (ph1 : Int → Int) (xm1 : Int → Int) (xa1 : Int → Int) (xt1 : Int → Int) (xn1 : Int → Int) (xv1 : Int → Int) (tg1 : Int → Int) (xr1 : Int), v9 = none ∧ w9 = [(q0, .inr (2, [.ref q1, .ref q2, .ref q3, .ref q4, .ref q5, .ref q6, .ref q7, .ref q8, .ref q9, .ref q10, .ref q11, .ref q12, .ref q13, .ref q14, .int (iI nd), .int (iI xr1), .int (iI al)])), (q1, ia E 97 pa), (q2, ia E 97 vb), (q3, ia E 97 cd), (q4, ia E 291 cn), (q5, ia E 12 xc), (q6, ia E 97 xw), (q7, ia E 97 sa1), (q8, ia E 97 ph1), (q9, ia E 97 xm1), (q10, ia E 97 xa1), (q11, ia E 12 tg1), (q12, ia E 1164 xt1), (q13, ia E 12 xn1), (q14, ia E 12 xv1)] ∧ (∃ cm, OrI So ns pa vb cd nd al xw tg1 sa1 ph1 xm1 xa1 xt1 xn1 xv1 xr1 cm nd)) 0 0 := by
  refine Cn.ofP (own := RX2) (cc := cX2_settleInOrder) (maxL := 7) (ret := none) false [(0, .ref q0)] (by decide +kernel) rfl rfl (Nat.le_of_ble_eq_true rfl) rfl (fun h => nomatch h) (fun v w h => by obtain ⟨sa1, ph1, xm1, xa1, xt1, xn1, xv1, tg1, xr1, rfl, h9⟩ := h; exact (rfl : (none : Option FieldType) = none)) ?_
  intro P G
  have hal := hT.1.1
  have hnd := hT.1.2.1
  have hpa := hT.1.2.2.1
  have hvb := hT.1.2.2.2.1
  have hcd := hT.1.2.2.2.2
  refine g_iconst G dX2_settleInOrder_0 ?_
  refine g_istore_n G [(0, .ref q0), (1, .int (iI 1))] dX2_settleInOrder_1 (by decide) rfl rfl ?_
  refine g_iconst G dX2_settleInOrder_2 ?_
  refine g_istore_n G [(0, .ref q0), (1, .int (iI 1)), (2, .int (iI 1))] dX2_settleInOrder_3 (by decide) rfl rfl ?_
  have L4 : ∀ (fuel : Nat), ∀ (k : Int) (cm : Int) (sa1 : Int → Int) (ph1 : Int → Int) (xm1 : Int → Int) (xa1 : Int → Int) (xt1 : Int → Int) (xn1 : Int → Int) (xv1 : Int → Int) (tg1 : Int → Int) (xr1 : Int), (1 ≤ k ∧ k ≤ nd) → (OrI So ns pa vb cd nd al xw tg1 sa1 ph1 xm1 xa1 xt1 xn1 xv1 xr1 cm k) → (nd - k : Int).toNat < fuel → P 0 0 [(q0, .inr (2, [.ref q1, .ref q2, .ref q3, .ref q4, .ref q5, .ref q6, .ref q7, .ref q8, .ref q9, .ref q10, .ref q11, .ref q12, .ref q13, .ref q14, .int (iI nd), .int (iI xr1), .int (iI al)])), (q1, ia E 97 pa), (q2, ia E 97 vb), (q3, ia E 97 cd), (q4, ia E 291 cn), (q5, ia E 12 xc), (q6, ia E 97 xw), (q7, ia E 97 sa1), (q8, ia E 97 ph1), (q9, ia E 97 xm1), (q10, ia E 97 xa1), (q11, ia E 12 tg1), (q12, ia E 1164 xt1), (q13, ia E 12 xn1), (q14, ia E 12 xv1)] 4 [(0, .ref q0), (1, .int (iI cm)), (2, .int (iI k))] [] := by
    intro fuel
    induction fuel with
    | zero => intro k cm sa1 ph1 xm1 xa1 xt1 xn1 xv1 tg1 xr1 hk1 hO hm; exact absurd hm (Nat.not_lt_zero _)
    | succ fuel ih4 =>
      intro k cm sa1 ph1 xm1 xa1 xt1 xn1 xv1 tg1 xr1 hk1 hO hm
      refine g_iload_n G 2 dX2_settleInOrder_4 rfl ?_
      refine g_aload_n G 0 dX2_settleInOrder_5 rfl ?_
      refine g_get G 0 14 dX2_settleInOrder_6 i_X2_settleInOrder_X2 f_X2_settleInOrder_67 rfl rfl (by decide) rfl ?_
      refine g_icmp_ge G 151 dX2_settleInOrder_9 (by decide) (by omega) (by omega) (fun c9 => ?_) (fun c9 => ?_)
      · exact g_ret G none rfl dX2_settleInOrder_151 (Nat.le_refl _) (Nat.le_refl _) ⟨sa1, ph1, xm1, xa1, xt1, xn1, xv1, tg1, xr1, rfl, rfl, by have e9 : k = nd := (by omega); subst e9; exact ⟨cm, hO⟩⟩
      · obtain ⟨Se1, F, o1, o2, o3, o4, o5⟩ := id hO
        have hcl := o1.2.2.2.1
        have hc1 := o1.2.1.1.1
        have hmv := ArF.mv o1 hpa ⟨hk1.1, c9⟩ o5
        have hst := ArL.st o1.2.1 hmv.1
        have hpk := hpa k hk1.1 c9
        have hvk := hvb k
        have htb := ArT.bd o1.2.1.1.2 (show cm ≤ 4 by omega) (sa1 (pa k) * 3 + vb k)
        have hmm : 0 ≤ (sa1 (pa k) * 3 + vb k) ∧ (sa1 (pa k) * 3 + vb k) < 12 := by omega
        have hm3 : (sa1 (pa k) * 3 + vb k) / 3 < cm := by omega
        refine g_aload_n G 0 dX2_settleInOrder_12 rfl ?_
        refine g_get G 0 6 dX2_settleInOrder_13 i_X2_settleInOrder_X2 f_X2_settleInOrder_30 rfl rfl (by decide) rfl ?_
        refine g_aload_n G 0 dX2_settleInOrder_16 rfl ?_
        refine g_get G 0 0 dX2_settleInOrder_17 i_X2_settleInOrder_X2 f_X2_settleInOrder_11 rfl rfl (by decide) rfl ?_
        refine g_iload_n G 2 dX2_settleInOrder_20 rfl ?_
        refine g_iald G 1 dX2_settleInOrder_21 rfl (by omega) (by omega) (by decide) ?_
        refine g_iald G 7 dX2_settleInOrder_22 rfl (by omega) (by omega) (by decide) ?_
        refine g_iconst G dX2_settleInOrder_23 ?_
        refine g_imul G dX2_settleInOrder_24 ?_
        refine g_aload_n G 0 dX2_settleInOrder_25 rfl ?_
        refine g_get G 0 1 dX2_settleInOrder_26 i_X2_settleInOrder_X2 f_X2_settleInOrder_15 rfl rfl (by decide) rfl ?_
        refine g_iload_n G 2 dX2_settleInOrder_29 rfl ?_
        refine g_iald G 2 dX2_settleInOrder_30 rfl (by omega) (by omega) (by decide) ?_
        refine g_iadd G dX2_settleInOrder_31 ?_
        refine g_istore_n G [(0, .ref q0), (1, .int (iI cm)), (2, .int (iI k)), (3, .int (iI (((sa1 (pa k)) * 3) + (vb k))))] dX2_settleInOrder_32 (by decide) rfl rfl ?_
        refine g_aload_n G 0 dX2_settleInOrder_33 rfl ?_
        refine g_get G 0 10 dX2_settleInOrder_34 i_X2_settleInOrder_X2 f_X2_settleInOrder_42 rfl rfl (by decide) rfl ?_
        refine g_iload_n G 3 dX2_settleInOrder_37 rfl ?_
        refine g_iald G 11 dX2_settleInOrder_38 rfl (by omega) (by omega) (by decide) ?_
        refine g_iconst G dX2_settleInOrder_39 ?_
        refine g_icmp_eq G 47 dX2_settleInOrder_40 (by decide) (by omega) (by omega) (fun c40 => ?_) (fun c40 => ?_)
        · refine g_iconst G dX2_settleInOrder_47 ?_
          refine g_istore G [(0, .ref q0), (1, .int (iI cm)), (2, .int (iI k)), (3, .int (iI (((sa1 (pa k)) * 3) + (vb k)))), (4, .int (iI 0))] dX2_settleInOrder_48 (by decide) rfl rfl ?_
          refine g_iconst G dX2_settleInOrder_50 ?_
          refine g_istore G [(0, .ref q0), (1, .int (iI cm)), (2, .int (iI k)), (3, .int (iI (((sa1 (pa k)) * 3) + (vb k)))), (4, .int (iI 0)), (5, .int (iI 0))] dX2_settleInOrder_51 (by decide) rfl rfl ?_
          have L53 : ∀ (fuel : Nat), ∀ (t : Int) (sd : Int) (sa2 : Int → Int) (ph2 : Int → Int) (xm2 : Int → Int) (xa2 : Int → Int) (xt2 : Int → Int) (xn2 : Int → Int) (xv2 : Int → Int) (tg2 : Int → Int) (xr2 : Int), (0 ≤ t ∧ t ≤ al ∧ t ≤ cm + 1) → (sd = 0 ∨ sd = 1) → (OrX So ns pa vb cd nd al xw tg2 sa2 ph2 xm2 xa2 xt2 xn2 xv2 xr2 cm k (sa1 (pa k) * 3 + vb k) t sd) → (5 - t : Int).toNat < fuel → P 0 0 [(q0, .inr (2, [.ref q1, .ref q2, .ref q3, .ref q4, .ref q5, .ref q6, .ref q7, .ref q8, .ref q9, .ref q10, .ref q11, .ref q12, .ref q13, .ref q14, .int (iI nd), .int (iI xr2), .int (iI al)])), (q1, ia E 97 pa), (q2, ia E 97 vb), (q3, ia E 97 cd), (q4, ia E 291 cn), (q5, ia E 12 xc), (q6, ia E 97 xw), (q7, ia E 97 sa2), (q8, ia E 97 ph2), (q9, ia E 97 xm2), (q10, ia E 97 xa2), (q11, ia E 12 tg2), (q12, ia E 1164 xt2), (q13, ia E 12 xn2), (q14, ia E 12 xv2)] 53 [(0, .ref q0), (1, .int (iI cm)), (2, .int (iI k)), (3, .int (iI (((sa1 (pa k)) * 3) + (vb k)))), (4, .int (iI sd)), (5, .int (iI t))] [] := by
            intro fuel
            induction fuel with
            | zero => intro t sd sa2 ph2 xm2 xa2 xt2 xn2 xv2 tg2 xr2 ht hsd hJ hm; exact absurd hm (Nat.not_lt_zero _)
            | succ fuel ih53 =>
              intro t sd sa2 ph2 xm2 xa2 xt2 xn2 xv2 tg2 xr2 ht hsd hJ hm
              refine g_iload G 5 dX2_settleInOrder_53 rfl ?_
              refine g_aload_n G 0 dX2_settleInOrder_55 rfl ?_
              refine g_get G 0 16 dX2_settleInOrder_56 i_X2_settleInOrder_X2 f_X2_settleInOrder_83 rfl rfl (by decide) rfl ?_
              refine g_icmp_ge G 132 dX2_settleInOrder_59 (by decide) (by omega) (by omega) (fun c59 => ?_) (fun c59 => ?_)
              · have hfn := OrX.fin hT hJ hmm hm3 ht.1 (by omega) ht.2.2
                have hfb := hfn.1
                refine g_iload_n G 1 dX2_settleInOrder_132 rfl ?_
                refine g_aload_n G 0 dX2_settleInOrder_133 rfl ?_
                refine g_get G 0 10 dX2_settleInOrder_134 i_X2_settleInOrder_X2 f_X2_settleInOrder_42 rfl rfl (by decide) rfl ?_
                refine g_iload_n G 3 dX2_settleInOrder_137 rfl ?_
                refine g_iald G 11 dX2_settleInOrder_138 rfl (by omega) (by omega) (by decide) ?_
                refine g_iconst G dX2_settleInOrder_139 ?_
                refine g_iadd G dX2_settleInOrder_140 ?_
                obtain ⟨x2, hx2⟩ : ∃ r : Int, (cm < ((tg2 (((sa1 (pa k)) * 3) + (vb k))) + 1) → r = (tg2 (((sa1 (pa k)) * 3) + (vb k))) + 1) ∧ (((tg2 (((sa1 (pa k)) * 3) + (vb k))) + 1) ≤ cm → r = cm) := by by_cases h : cm < ((tg2 (((sa1 (pa k)) * 3) + (vb k))) + 1); exact ⟨(tg2 (((sa1 (pa k)) * 3) + (vb k))) + 1, by omega⟩; exact ⟨cm, by omega⟩
                refine g_max G x2 dX2_settleInOrder_141 (by decide +kernel) (by decide +kernel) (by decide +kernel) (by decide +kernel) (Nat.le_of_ble_eq_true rfl) (Nat.le_of_ble_eq_true rfl) (Nat.le_of_ble_eq_true rfl) (Nat.le_of_ble_eq_true rfl) (by omega) (by omega) hx2 ?_
                refine g_istore_n G [(0, .ref q0), (1, .int (iI x2)), (2, .int (iI k)), (3, .int (iI (((sa1 (pa k)) * 3) + (vb k)))), (4, .int (iI sd)), (5, .int (iI t))] dX2_settleInOrder_144 (by decide) rfl rfl ?_
                refine g_iinc G 2 [(0, .ref q0), (1, .int (iI x2)), (2, .int (iI (k + 1))), (3, .int (iI (((sa1 (pa k)) * 3) + (vb k)))), (4, .int (iI sd)), (5, .int (iI t))] dX2_settleInOrder_145 rfl (by decide) rfl rfl ?_
                refine g_goto G 4 dX2_settleInOrder_148 (by decide) ?_
                refine g_lv G [0, 1, 2] (lv' := [(0, .ref q0), (1, .int (iI x2)), (2, .int (iI (k + 1)))]) rfl ?_
                exact ih4 (k + 1) x2 sa2 ph2 xm2 xa2 xt2 xn2 xv2 tg2 xr2 (by first | assumption | omega) (by exact hfn.2 x2 hx2) (by omega)
              · refine g_iload G 5 dX2_settleInOrder_62 rfl ?_
                refine g_iload_n G 1 dX2_settleInOrder_64 rfl ?_
                refine g_icmp_gt G 132 dX2_settleInOrder_65 (by decide) (by omega) (by omega) (fun c65 => ?_) (fun c65 => ?_)
                · have hfn := OrX.fin hT hJ hmm hm3 ht.1 (by omega) ht.2.2
                  have hfb := hfn.1
                  refine g_iload_n G 1 dX2_settleInOrder_132 rfl ?_
                  refine g_aload_n G 0 dX2_settleInOrder_133 rfl ?_
                  refine g_get G 0 10 dX2_settleInOrder_134 i_X2_settleInOrder_X2 f_X2_settleInOrder_42 rfl rfl (by decide) rfl ?_
                  refine g_iload_n G 3 dX2_settleInOrder_137 rfl ?_
                  refine g_iald G 11 dX2_settleInOrder_138 rfl (by omega) (by omega) (by decide) ?_
                  refine g_iconst G dX2_settleInOrder_139 ?_
                  refine g_iadd G dX2_settleInOrder_140 ?_
                  obtain ⟨x2, hx2⟩ : ∃ r : Int, (cm < ((tg2 (((sa1 (pa k)) * 3) + (vb k))) + 1) → r = (tg2 (((sa1 (pa k)) * 3) + (vb k))) + 1) ∧ (((tg2 (((sa1 (pa k)) * 3) + (vb k))) + 1) ≤ cm → r = cm) := by by_cases h : cm < ((tg2 (((sa1 (pa k)) * 3) + (vb k))) + 1); exact ⟨(tg2 (((sa1 (pa k)) * 3) + (vb k))) + 1, by omega⟩; exact ⟨cm, by omega⟩
                  refine g_max G x2 dX2_settleInOrder_141 (by decide +kernel) (by decide +kernel) (by decide +kernel) (by decide +kernel) (Nat.le_of_ble_eq_true rfl) (Nat.le_of_ble_eq_true rfl) (Nat.le_of_ble_eq_true rfl) (Nat.le_of_ble_eq_true rfl) (by omega) (by omega) hx2 ?_
                  refine g_istore_n G [(0, .ref q0), (1, .int (iI x2)), (2, .int (iI k)), (3, .int (iI (((sa1 (pa k)) * 3) + (vb k)))), (4, .int (iI sd)), (5, .int (iI t))] dX2_settleInOrder_144 (by decide) rfl rfl ?_
                  refine g_iinc G 2 [(0, .ref q0), (1, .int (iI x2)), (2, .int (iI (k + 1))), (3, .int (iI (((sa1 (pa k)) * 3) + (vb k)))), (4, .int (iI sd)), (5, .int (iI t))] dX2_settleInOrder_145 rfl (by decide) rfl rfl ?_
                  refine g_goto G 4 dX2_settleInOrder_148 (by decide) ?_
                  refine g_lv G [0, 1, 2] (lv' := [(0, .ref q0), (1, .int (iI x2)), (2, .int (iI (k + 1)))]) rfl ?_
                  exact ih4 (k + 1) x2 sa2 ph2 xm2 xa2 xt2 xn2 xv2 tg2 xr2 (by first | assumption | omega) (by exact hfn.2 x2 hx2) (by omega)
                · refine g_iload G 4 dX2_settleInOrder_68 rfl ?_
                  refine g_if_ne G 132 dX2_settleInOrder_70 (by decide) (by omega) (fun c70 => ?_) (fun c70 => ?_)
                  · have hfn := OrX.fin hT hJ hmm hm3 ht.1 (by omega) ht.2.2
                    have hfb := hfn.1
                    refine g_iload_n G 1 dX2_settleInOrder_132 rfl ?_
                    refine g_aload_n G 0 dX2_settleInOrder_133 rfl ?_
                    refine g_get G 0 10 dX2_settleInOrder_134 i_X2_settleInOrder_X2 f_X2_settleInOrder_42 rfl rfl (by decide) rfl ?_
                    refine g_iload_n G 3 dX2_settleInOrder_137 rfl ?_
                    refine g_iald G 11 dX2_settleInOrder_138 rfl (by omega) (by omega) (by decide) ?_
                    refine g_iconst G dX2_settleInOrder_139 ?_
                    refine g_iadd G dX2_settleInOrder_140 ?_
                    obtain ⟨x2, hx2⟩ : ∃ r : Int, (cm < ((tg2 (((sa1 (pa k)) * 3) + (vb k))) + 1) → r = (tg2 (((sa1 (pa k)) * 3) + (vb k))) + 1) ∧ (((tg2 (((sa1 (pa k)) * 3) + (vb k))) + 1) ≤ cm → r = cm) := by by_cases h : cm < ((tg2 (((sa1 (pa k)) * 3) + (vb k))) + 1); exact ⟨(tg2 (((sa1 (pa k)) * 3) + (vb k))) + 1, by omega⟩; exact ⟨cm, by omega⟩
                    refine g_max G x2 dX2_settleInOrder_141 (by decide +kernel) (by decide +kernel) (by decide +kernel) (by decide +kernel) (Nat.le_of_ble_eq_true rfl) (Nat.le_of_ble_eq_true rfl) (Nat.le_of_ble_eq_true rfl) (Nat.le_of_ble_eq_true rfl) (by omega) (by omega) hx2 ?_
                    refine g_istore_n G [(0, .ref q0), (1, .int (iI x2)), (2, .int (iI k)), (3, .int (iI (((sa1 (pa k)) * 3) + (vb k)))), (4, .int (iI sd)), (5, .int (iI t))] dX2_settleInOrder_144 (by decide) rfl rfl ?_
                    refine g_iinc G 2 [(0, .ref q0), (1, .int (iI x2)), (2, .int (iI (k + 1))), (3, .int (iI (((sa1 (pa k)) * 3) + (vb k)))), (4, .int (iI sd)), (5, .int (iI t))] dX2_settleInOrder_145 rfl (by decide) rfl rfl ?_
                    refine g_goto G 4 dX2_settleInOrder_148 (by decide) ?_
                    refine g_lv G [0, 1, 2] (lv' := [(0, .ref q0), (1, .int (iI x2)), (2, .int (iI (k + 1)))]) rfl ?_
                    exact ih4 (k + 1) x2 sa2 ph2 xm2 xa2 xt2 xn2 xv2 tg2 xr2 (by first | assumption | omega) (by exact hfn.2 x2 hx2) (by omega)
                  · obtain ⟨j1, j2, j3, j4⟩ := OrX.open_ hJ c70
                    obtain ⟨Se2, F2, p1, p2, p3, p4, p5⟩ := j1
                    have hx0 := p1.1.1
                    refine g_aload_n G 0 dX2_settleInOrder_73 rfl ?_
                    refine g_get G 0 15 dX2_settleInOrder_74 i_X2_settleInOrder_X2 f_X2_settleInOrder_124 rfl rfl (by decide) rfl ?_
                    refine g_istore G [(0, .ref q0), (1, .int (iI cm)), (2, .int (iI k)), (3, .int (iI (((sa1 (pa k)) * 3) + (vb k)))), (4, .int (iI sd)), (5, .int (iI t)), (6, .int (iI xr2))] dX2_settleInOrder_77 (by decide) rfl rfl ?_
                    refine g_aload_n G 0 dX2_settleInOrder_79 rfl ?_
                    refine g_iload_n G 3 dX2_settleInOrder_80 rfl ?_
                    refine g_iload G 5 dX2_settleInOrder_81 rfl ?_
                    refine g_callV G [0, 1, 2, 3, 4, 5, 6, 7, 8, 9, 10, 11, 12, 13, 14] [] 15 [] [.int (iI (((sa1 (pa k)) * 3) + (vb k))), .int (iI t)] [] (c_X2_settle E q0 q1 q2 q3 q4 q5 q6 q7 q8 q9 q10 q11 q12 q13 q14 pa vb cd cn xc xw sa2 ph2 xm2 xa2 tg2 xt2 xn2 xv2 nd xr2 al (((sa1 (pa k)) * 3) + (vb k)) t cm So ns Se2 (by exact hT) (by exact hk) (by exact p1) (by exact hmm) (by exact j3) (by exact hm3) (by omega)) dX2_settleInOrder_83 gX2_settleInOrder_X2_settle ⟨rfl, ⟨rfl, rfl⟩, e_X2_settle, ⟨Nat.le_of_ble_eq_true rfl, Nat.le_of_ble_eq_true rfl⟩, Nat.le_of_ble_eq_true rfl, Nat.le_of_ble_eq_true rfl, Nat.le_of_ble_eq_true rfl⟩ rfl rfl rfl rfl rfl (by decide +kernel) rfl (by decide +kernel) rfl (fun v9 w9 h9 => ?_)
                    obtain ⟨r3, sa3, ph3, xm3, xa3, xt3, xn3, xv3, xr3, rfl, rfl, hs3, hg3⟩ := h9
                    refine ⟨[(q0, .inr (2, [.ref q1, .ref q2, .ref q3, .ref q4, .ref q5, .ref q6, .ref q7, .ref q8, .ref q9, .ref q10, .ref q11, .ref q12, .ref q13, .ref q14, .int (iI nd), .int (iI xr3), .int (iI al)])), (q1, ia E 97 pa), (q2, ia E 97 vb), (q3, ia E 97 cd), (q4, ia E 291 cn), (q5, ia E 12 xc), (q6, ia E 97 xw), (q7, ia E 97 sa3), (q8, ia E 97 ph3), (q9, ia E 97 xm3), (q10, ia E 97 xa3), (q11, ia E 12 (upI tg2 (((sa1 (pa k)) * 3) + (vb k)) t)), (q12, ia E 1164 xt3), (q13, ia E 12 xn3), (q14, ia E 12 xv3)], ⟨rfl, rfl, rfl, rfl⟩, g_to 0 0 _ _ [.int (iI r3)] rfl rfl rfl rfl rfl ?_⟩
                    refine g_iconst G dX2_settleInOrder_86 ?_
                    refine g_icmp_ne G 111 dX2_settleInOrder_87 (by decide) (by omega) (by omega) (fun c87 => ?_) (fun c87 => ?_)
                    · refine g_iconst G dX2_settleInOrder_111 ?_
                      refine g_istore G [(0, .ref q0), (1, .int (iI cm)), (2, .int (iI k)), (3, .int (iI (((sa1 (pa k)) * 3) + (vb k)))), (4, .int (iI 0)), (5, .int (iI t)), (6, .int (iI xr2))] dX2_settleInOrder_112 (by decide) rfl rfl ?_
                      refine g_iload G 4 dX2_settleInOrder_114 rfl ?_
                      refine g_if_ne G 126 dX2_settleInOrder_116 (by decide) (by omega) (fun c116 => ?_) (fun c116 => ?_)
                      · exfalso; omega
                      · have hn3 := hs3.1
                        refine g_aload_n G 0 dX2_settleInOrder_119 rfl ?_
                        refine g_iload_n G 3 dX2_settleInOrder_120 rfl ?_
                        refine g_iload G 6 dX2_settleInOrder_121 rfl ?_
                        refine g_callV G [0, 1, 2, 3, 4, 5, 6, 7, 8, 9, 10, 11, 12, 13, 14] [] 15 [] [.int (iI (((sa1 (pa k)) * 3) + (vb k))), .int (iI xr2)] [] (c_X2_unsettle E q0 q1 q2 q3 q4 q5 q6 q7 q8 q9 q10 q11 q12 q13 q14 pa vb cd cn xc xw sa3 ph3 xm3 xa3 (upI tg2 (((sa1 (pa k)) * 3) + (vb k)) t) xt3 xn3 xv3 nd xr3 al (((sa1 (pa k)) * 3) + (vb k)) xr2 (by exact hmm) (by omega) (by exact hnd) (by first | exact hF4.1 | exact hs3.2.1)) dX2_settleInOrder_123 gX2_settleInOrder_X2_unsettle ⟨rfl, ⟨rfl, rfl⟩, e_X2_unsettle, ⟨Nat.le_of_ble_eq_true rfl, Nat.le_of_ble_eq_true rfl⟩, Nat.le_of_ble_eq_true rfl, Nat.le_of_ble_eq_true rfl, Nat.le_of_ble_eq_true rfl⟩ rfl rfl rfl rfl rfl (by decide +kernel) rfl (by decide +kernel) rfl (fun v9 w9 h9 => ?_)
                        obtain ⟨xn5, xv5, rfl, rfl, hS5⟩ := h9
                        refine ⟨[(q0, .inr (2, [.ref q1, .ref q2, .ref q3, .ref q4, .ref q5, .ref q6, .ref q7, .ref q8, .ref q9, .ref q10, .ref q11, .ref q12, .ref q13, .ref q14, .int (iI nd), .int (iI xr2), .int (iI al)])), (q1, ia E 97 pa), (q2, ia E 97 vb), (q3, ia E 97 cd), (q4, ia E 291 cn), (q5, ia E 12 xc), (q6, ia E 97 xw), (q7, ia E 97 sa3), (q8, ia E 97 ph3), (q9, ia E 97 xm3), (q10, ia E 97 xa3), (q11, ia E 12 (upI (upI tg2 (((sa1 (pa k)) * 3) + (vb k)) t) (((sa1 (pa k)) * 3) + (vb k)) (-1))), (q12, ia E 1164 xt3), (q13, ia E 12 xn5), (q14, ia E 12 xv5)], ⟨rfl, rfl, rfl, rfl⟩, g_to 0 0 _ _ [] rfl rfl rfl rfl rfl ?_⟩
                        refine g_norm G 11 (tg2) [(q0, .inr (2, [.ref q1, .ref q2, .ref q3, .ref q4, .ref q5, .ref q6, .ref q7, .ref q8, .ref q9, .ref q10, .ref q11, .ref q12, .ref q13, .ref q14, .int (iI nd), .int (iI xr2), .int (iI al)])), (q1, ia E 97 pa), (q2, ia E 97 vb), (q3, ia E 97 cd), (q4, ia E 291 cn), (q5, ia E 12 xc), (q6, ia E 97 xw), (q7, ia E 97 sa3), (q8, ia E 97 ph3), (q9, ia E 97 xm3), (q10, ia E 97 xa3), (q11, ia E 12 tg2), (q12, ia E 1164 xt3), (q13, ia E 12 xn5), (q14, ia E 12 xv5)] rfl (by intro j9 h0 h1; (by_cases q : j9 = (sa1 (pa k) * 3 + vb k); (rw [q, upI_same, j3]); (rw [upI_ne _ _ q, upI_ne _ _ q]))) rfl ?_
                        refine g_iinc G 5 [(0, .ref q0), (1, .int (iI cm)), (2, .int (iI k)), (3, .int (iI (((sa1 (pa k)) * 3) + (vb k)))), (4, .int (iI 0)), (5, .int (iI (t + 1))), (6, .int (iI xr2))] dX2_settleInOrder_126 rfl (by decide) rfl rfl ?_
                        refine g_goto G 53 dX2_settleInOrder_129 (by decide) ?_
                        refine g_lv G [0, 1, 2, 3, 4, 5] (lv' := [(0, .ref q0), (1, .int (iI cm)), (2, .int (iI k)), (3, .int (iI (((sa1 (pa k)) * 3) + (vb k)))), (4, .int (iI 0)), (5, .int (iI (t + 1)))]) rfl ?_
                        exact ih53 (t + 1) 0 sa3 ph3 xm3 xa3 xt3 xn5 xv5 tg2 xr2 (by omega) (by first | assumption | omega) (by first | exact OrX.took hpa hvb p1 p3 p4 p5 ⟨hk1.1, c9⟩ j2 j3 j4 (by omega) (KeA.trans hs3.2.2.1 hK4 hs3.1 u1) hF4 hx (SvR.left hv4 c104) | exact OrX.again hpa ⟨hk1.1, c9⟩ p1 p2 p3 p4 p5 j2 j3 j4 (KeA.trans hs3.2.2.1 hK4 hs3.1 u1) hS5 (BadM.not (SvR.bad hv4 c104)) | exact OrX.again hpa ⟨hk1.1, c9⟩ p1 p2 p3 p4 p5 j2 j3 j4 hs3.2.2.1 hS5 (BadM.not (SeR.bad hs3 c87))) (by omega)
                    · refine g_aload_n G 0 dX2_settleInOrder_90 rfl ?_
                      refine g_iload_n G 1 dX2_settleInOrder_91 rfl ?_
                      refine g_iload G 5 dX2_settleInOrder_92 rfl ?_
                      refine g_iconst G dX2_settleInOrder_94 ?_
                      refine g_iadd G dX2_settleInOrder_95 ?_
                      obtain ⟨x, hx⟩ : ∃ r : Int, (cm < (t + 1) → r = t + 1) ∧ ((t + 1) ≤ cm → r = cm) := by by_cases h : cm < (t + 1); exact ⟨t + 1, by omega⟩; exact ⟨cm, by omega⟩
                      refine g_max G x dX2_settleInOrder_96 (by decide +kernel) (by decide +kernel) (by decide +kernel) (by decide +kernel) (Nat.le_of_ble_eq_true rfl) (Nat.le_of_ble_eq_true rfl) (Nat.le_of_ble_eq_true rfl) (Nat.le_of_ble_eq_true rfl) (by omega) (by omega) hx ?_
                      obtain ⟨Se3, u1, u2⟩ := SeR.ok hs3 c87 x hx
                      refine g_iconst G dX2_settleInOrder_99 ?_
                      refine g_callV G [0, 1, 2, 3, 4, 5, 6, 7, 8, 9, 10, 11, 12, 13, 14] [] 15 [] [.int (iI x), .int (iI 0)] [] (c_X2_solve E 12 q0 q1 q2 q3 q4 q5 q6 q7 q8 q9 q10 q11 q12 q13 q14 pa vb cd cn xc xw sa3 ph3 xm3 xa3 (upI tg2 (((sa1 (pa k)) * 3) + (vb k)) t) xt3 xn3 xv3 nd xr3 al x 0 So ns Se3 (by exact hT) (by exact hk) (by exact hwt) (by exact hQ) (by exact u2) (by have := cnT_bd (upI tg2 (sa1 (pa k) * 3 + vb k) t) 12; omega) (by have := cnT_bd (upI tg2 (sa1 (pa k) * 3 + vb k) t) 12; omega)) dX2_settleInOrder_100 gX2_settleInOrder_X2_solve ⟨rfl, ⟨rfl, rfl⟩, e_X2_solve, ⟨Nat.le_of_ble_eq_true rfl, Nat.le_of_ble_eq_true rfl⟩, Nat.le_of_ble_eq_true rfl, Nat.le_of_ble_eq_true rfl, Nat.le_of_ble_eq_true rfl⟩ rfl rfl rfl rfl rfl (by decide +kernel) rfl (by decide +kernel) rfl (fun v9 w9 h9 => ?_)
                      obtain ⟨r4, sa4, ph4, xm4, xa4, xt4, xn4, xv4, rfl, rfl, hv4, hg4, hF4, hK4⟩ := h9
                      refine ⟨[(q0, .inr (2, [.ref q1, .ref q2, .ref q3, .ref q4, .ref q5, .ref q6, .ref q7, .ref q8, .ref q9, .ref q10, .ref q11, .ref q12, .ref q13, .ref q14, .int (iI nd), .int (iI xr3), .int (iI al)])), (q1, ia E 97 pa), (q2, ia E 97 vb), (q3, ia E 97 cd), (q4, ia E 291 cn), (q5, ia E 12 xc), (q6, ia E 97 xw), (q7, ia E 97 sa4), (q8, ia E 97 ph4), (q9, ia E 97 xm4), (q10, ia E 97 xa4), (q11, ia E 12 (upI tg2 (((sa1 (pa k)) * 3) + (vb k)) t)), (q12, ia E 1164 xt4), (q13, ia E 12 xn4), (q14, ia E 12 xv4)], ⟨rfl, rfl, rfl, rfl⟩, g_to 0 0 _ _ [.int (iI r4)] rfl rfl rfl rfl rfl ?_⟩
                      refine g_iconst G dX2_settleInOrder_103 ?_
                      refine g_icmp_ne G 111 dX2_settleInOrder_104 (by decide) (by omega) (by omega) (fun c104 => ?_) (fun c104 => ?_)
                      · refine g_iconst G dX2_settleInOrder_111 ?_
                        refine g_istore G [(0, .ref q0), (1, .int (iI cm)), (2, .int (iI k)), (3, .int (iI (((sa1 (pa k)) * 3) + (vb k)))), (4, .int (iI 0)), (5, .int (iI t)), (6, .int (iI xr2))] dX2_settleInOrder_112 (by decide) rfl rfl ?_
                        refine g_iload G 4 dX2_settleInOrder_114 rfl ?_
                        refine g_if_ne G 126 dX2_settleInOrder_116 (by decide) (by omega) (fun c116 => ?_) (fun c116 => ?_)
                        · exfalso; omega
                        · have hn3 := hs3.1
                          refine g_aload_n G 0 dX2_settleInOrder_119 rfl ?_
                          refine g_iload_n G 3 dX2_settleInOrder_120 rfl ?_
                          refine g_iload G 6 dX2_settleInOrder_121 rfl ?_
                          refine g_callV G [0, 1, 2, 3, 4, 5, 6, 7, 8, 9, 10, 11, 12, 13, 14] [] 15 [] [.int (iI (((sa1 (pa k)) * 3) + (vb k))), .int (iI xr2)] [] (c_X2_unsettle E q0 q1 q2 q3 q4 q5 q6 q7 q8 q9 q10 q11 q12 q13 q14 pa vb cd cn xc xw sa4 ph4 xm4 xa4 (upI tg2 (((sa1 (pa k)) * 3) + (vb k)) t) xt4 xn4 xv4 nd xr3 al (((sa1 (pa k)) * 3) + (vb k)) xr2 (by exact hmm) (by omega) (by exact hnd) (by first | exact hF4.1 | exact hs3.2.1)) dX2_settleInOrder_123 gX2_settleInOrder_X2_unsettle ⟨rfl, ⟨rfl, rfl⟩, e_X2_unsettle, ⟨Nat.le_of_ble_eq_true rfl, Nat.le_of_ble_eq_true rfl⟩, Nat.le_of_ble_eq_true rfl, Nat.le_of_ble_eq_true rfl, Nat.le_of_ble_eq_true rfl⟩ rfl rfl rfl rfl rfl (by decide +kernel) rfl (by decide +kernel) rfl (fun v9 w9 h9 => ?_)
                          obtain ⟨xn5, xv5, rfl, rfl, hS5⟩ := h9
                          refine ⟨[(q0, .inr (2, [.ref q1, .ref q2, .ref q3, .ref q4, .ref q5, .ref q6, .ref q7, .ref q8, .ref q9, .ref q10, .ref q11, .ref q12, .ref q13, .ref q14, .int (iI nd), .int (iI xr2), .int (iI al)])), (q1, ia E 97 pa), (q2, ia E 97 vb), (q3, ia E 97 cd), (q4, ia E 291 cn), (q5, ia E 12 xc), (q6, ia E 97 xw), (q7, ia E 97 sa4), (q8, ia E 97 ph4), (q9, ia E 97 xm4), (q10, ia E 97 xa4), (q11, ia E 12 (upI (upI tg2 (((sa1 (pa k)) * 3) + (vb k)) t) (((sa1 (pa k)) * 3) + (vb k)) (-1))), (q12, ia E 1164 xt4), (q13, ia E 12 xn5), (q14, ia E 12 xv5)], ⟨rfl, rfl, rfl, rfl⟩, g_to 0 0 _ _ [] rfl rfl rfl rfl rfl ?_⟩
                          refine g_norm G 11 (tg2) [(q0, .inr (2, [.ref q1, .ref q2, .ref q3, .ref q4, .ref q5, .ref q6, .ref q7, .ref q8, .ref q9, .ref q10, .ref q11, .ref q12, .ref q13, .ref q14, .int (iI nd), .int (iI xr2), .int (iI al)])), (q1, ia E 97 pa), (q2, ia E 97 vb), (q3, ia E 97 cd), (q4, ia E 291 cn), (q5, ia E 12 xc), (q6, ia E 97 xw), (q7, ia E 97 sa4), (q8, ia E 97 ph4), (q9, ia E 97 xm4), (q10, ia E 97 xa4), (q11, ia E 12 tg2), (q12, ia E 1164 xt4), (q13, ia E 12 xn5), (q14, ia E 12 xv5)] rfl (by intro j9 h0 h1; (by_cases q : j9 = (sa1 (pa k) * 3 + vb k); (rw [q, upI_same, j3]); (rw [upI_ne _ _ q, upI_ne _ _ q]))) rfl ?_
                          refine g_iinc G 5 [(0, .ref q0), (1, .int (iI cm)), (2, .int (iI k)), (3, .int (iI (((sa1 (pa k)) * 3) + (vb k)))), (4, .int (iI 0)), (5, .int (iI (t + 1))), (6, .int (iI xr2))] dX2_settleInOrder_126 rfl (by decide) rfl rfl ?_
                          refine g_goto G 53 dX2_settleInOrder_129 (by decide) ?_
                          refine g_lv G [0, 1, 2, 3, 4, 5] (lv' := [(0, .ref q0), (1, .int (iI cm)), (2, .int (iI k)), (3, .int (iI (((sa1 (pa k)) * 3) + (vb k)))), (4, .int (iI 0)), (5, .int (iI (t + 1)))]) rfl ?_
                          exact ih53 (t + 1) 0 sa4 ph4 xm4 xa4 xt4 xn5 xv5 tg2 xr2 (by omega) (by first | assumption | omega) (by first | exact OrX.took hpa hvb p1 p3 p4 p5 ⟨hk1.1, c9⟩ j2 j3 j4 (by omega) (KeA.trans hs3.2.2.1 hK4 hs3.1 u1) hF4 hx (SvR.left hv4 c104) | exact OrX.again hpa ⟨hk1.1, c9⟩ p1 p2 p3 p4 p5 j2 j3 j4 (KeA.trans hs3.2.2.1 hK4 hs3.1 u1) hS5 (BadM.not (SvR.bad hv4 c104)) | exact OrX.again hpa ⟨hk1.1, c9⟩ p1 p2 p3 p4 p5 j2 j3 j4 hs3.2.2.1 hS5 (BadM.not (SeR.bad hs3 c87))) (by omega)
                      · refine g_iconst G dX2_settleInOrder_107 ?_
                        refine g_goto G 112 dX2_settleInOrder_108 (by decide) ?_
                        refine g_istore G [(0, .ref q0), (1, .int (iI cm)), (2, .int (iI k)), (3, .int (iI (((sa1 (pa k)) * 3) + (vb k)))), (4, .int (iI 1)), (5, .int (iI t)), (6, .int (iI xr2))] dX2_settleInOrder_112 (by decide) rfl rfl ?_
                        refine g_iload G 4 dX2_settleInOrder_114 rfl ?_
                        refine g_if_ne G 126 dX2_settleInOrder_116 (by decide) (by omega) (fun c116 => ?_) (fun c116 => ?_)
                        · refine g_iinc G 5 [(0, .ref q0), (1, .int (iI cm)), (2, .int (iI k)), (3, .int (iI (((sa1 (pa k)) * 3) + (vb k)))), (4, .int (iI 1)), (5, .int (iI (t + 1))), (6, .int (iI xr2))] dX2_settleInOrder_126 rfl (by decide) rfl rfl ?_
                          refine g_goto G 53 dX2_settleInOrder_129 (by decide) ?_
                          refine g_lv G [0, 1, 2, 3, 4, 5] (lv' := [(0, .ref q0), (1, .int (iI cm)), (2, .int (iI k)), (3, .int (iI (((sa1 (pa k)) * 3) + (vb k)))), (4, .int (iI 1)), (5, .int (iI (t + 1)))]) rfl ?_
                          exact ih53 (t + 1) 1 sa4 ph4 xm4 xa4 xt4 xn4 xv4 (upI tg2 (((sa1 (pa k)) * 3) + (vb k)) t) xr3 (by omega) (by first | assumption | omega) (by first | exact OrX.took hpa hvb p1 p3 p4 p5 ⟨hk1.1, c9⟩ j2 j3 j4 (by omega) (KeA.trans hs3.2.2.1 hK4 hs3.1 u1) hF4 hx (SvR.left hv4 c104) | exact OrX.again hpa ⟨hk1.1, c9⟩ p1 p2 p3 p4 p5 j2 j3 j4 (KeA.trans hs3.2.2.1 hK4 hs3.1 u1) hS5 (BadM.not (SvR.bad hv4 c104)) | exact OrX.again hpa ⟨hk1.1, c9⟩ p1 p2 p3 p4 p5 j2 j3 j4 hs3.2.2.1 hS5 (BadM.not (SeR.bad hs3 c87))) (by omega)
                        · exfalso; omega
          exact L53 ((5 - 0 : Int).toNat + 1) 0 0 sa1 ph1 xm1 xa1 xt1 xn1 xv1 tg1 xr1 (by omega) (by first | assumption | omega) (by first | exact Or.inl ⟨rfl, hO, by omega, c40, OrJ.init⟩ | exact OrX.yes hO hk1.1 (by omega) (by omega)) (by omega)
        · refine g_iconst G dX2_settleInOrder_43 ?_
          refine g_goto G 48 dX2_settleInOrder_44 (by decide) ?_
          refine g_istore G [(0, .ref q0), (1, .int (iI cm)), (2, .int (iI k)), (3, .int (iI (((sa1 (pa k)) * 3) + (vb k)))), (4, .int (iI 1))] dX2_settleInOrder_48 (by decide) rfl rfl ?_
          refine g_iconst G dX2_settleInOrder_50 ?_
          refine g_istore G [(0, .ref q0), (1, .int (iI cm)), (2, .int (iI k)), (3, .int (iI (((sa1 (pa k)) * 3) + (vb k)))), (4, .int (iI 1)), (5, .int (iI 0))] dX2_settleInOrder_51 (by decide) rfl rfl ?_
          have L53 : ∀ (fuel : Nat), ∀ (t : Int) (sd : Int) (sa2 : Int → Int) (ph2 : Int → Int) (xm2 : Int → Int) (xa2 : Int → Int) (xt2 : Int → Int) (xn2 : Int → Int) (xv2 : Int → Int) (tg2 : Int → Int) (xr2 : Int), (0 ≤ t ∧ t ≤ al ∧ t ≤ cm + 1) → (sd = 0 ∨ sd = 1) → (OrX So ns pa vb cd nd al xw tg2 sa2 ph2 xm2 xa2 xt2 xn2 xv2 xr2 cm k (sa1 (pa k) * 3 + vb k) t sd) → (5 - t : Int).toNat < fuel → P 0 0 [(q0, .inr (2, [.ref q1, .ref q2, .ref q3, .ref q4, .ref q5, .ref q6, .ref q7, .ref q8, .ref q9, .ref q10, .ref q11, .ref q12, .ref q13, .ref q14, .int (iI nd), .int (iI xr2), .int (iI al)])), (q1, ia E 97 pa), (q2, ia E 97 vb), (q3, ia E 97 cd), (q4, ia E 291 cn), (q5, ia E 12 xc), (q6, ia E 97 xw), (q7, ia E 97 sa2), (q8, ia E 97 ph2), (q9, ia E 97 xm2), (q10, ia E 97 xa2), (q11, ia E 12 tg2), (q12, ia E 1164 xt2), (q13, ia E 12 xn2), (q14, ia E 12 xv2)] 53 [(0, .ref q0), (1, .int (iI cm)), (2, .int (iI k)), (3, .int (iI (((sa1 (pa k)) * 3) + (vb k)))), (4, .int (iI sd)), (5, .int (iI t))] [] := by
            intro fuel
            induction fuel with
            | zero => intro t sd sa2 ph2 xm2 xa2 xt2 xn2 xv2 tg2 xr2 ht hsd hJ hm; exact absurd hm (Nat.not_lt_zero _)
            | succ fuel ih53 =>
              intro t sd sa2 ph2 xm2 xa2 xt2 xn2 xv2 tg2 xr2 ht hsd hJ hm
              refine g_iload G 5 dX2_settleInOrder_53 rfl ?_
              refine g_aload_n G 0 dX2_settleInOrder_55 rfl ?_
              refine g_get G 0 16 dX2_settleInOrder_56 i_X2_settleInOrder_X2 f_X2_settleInOrder_83 rfl rfl (by decide) rfl ?_
              refine g_icmp_ge G 132 dX2_settleInOrder_59 (by decide) (by omega) (by omega) (fun c59 => ?_) (fun c59 => ?_)
              · have hfn := OrX.fin hT hJ hmm hm3 ht.1 (by omega) ht.2.2
                have hfb := hfn.1
                refine g_iload_n G 1 dX2_settleInOrder_132 rfl ?_
                refine g_aload_n G 0 dX2_settleInOrder_133 rfl ?_
                refine g_get G 0 10 dX2_settleInOrder_134 i_X2_settleInOrder_X2 f_X2_settleInOrder_42 rfl rfl (by decide) rfl ?_
                refine g_iload_n G 3 dX2_settleInOrder_137 rfl ?_
                refine g_iald G 11 dX2_settleInOrder_138 rfl (by omega) (by omega) (by decide) ?_
                refine g_iconst G dX2_settleInOrder_139 ?_
                refine g_iadd G dX2_settleInOrder_140 ?_
                obtain ⟨x2, hx2⟩ : ∃ r : Int, (cm < ((tg2 (((sa1 (pa k)) * 3) + (vb k))) + 1) → r = (tg2 (((sa1 (pa k)) * 3) + (vb k))) + 1) ∧ (((tg2 (((sa1 (pa k)) * 3) + (vb k))) + 1) ≤ cm → r = cm) := by by_cases h : cm < ((tg2 (((sa1 (pa k)) * 3) + (vb k))) + 1); exact ⟨(tg2 (((sa1 (pa k)) * 3) + (vb k))) + 1, by omega⟩; exact ⟨cm, by omega⟩
                refine g_max G x2 dX2_settleInOrder_141 (by decide +kernel) (by decide +kernel) (by decide +kernel) (by decide +kernel) (Nat.le_of_ble_eq_true rfl) (Nat.le_of_ble_eq_true rfl) (Nat.le_of_ble_eq_true rfl) (Nat.le_of_ble_eq_true rfl) (by omega) (by omega) hx2 ?_
                refine g_istore_n G [(0, .ref q0), (1, .int (iI x2)), (2, .int (iI k)), (3, .int (iI (((sa1 (pa k)) * 3) + (vb k)))), (4, .int (iI sd)), (5, .int (iI t))] dX2_settleInOrder_144 (by decide) rfl rfl ?_
                refine g_iinc G 2 [(0, .ref q0), (1, .int (iI x2)), (2, .int (iI (k + 1))), (3, .int (iI (((sa1 (pa k)) * 3) + (vb k)))), (4, .int (iI sd)), (5, .int (iI t))] dX2_settleInOrder_145 rfl (by decide) rfl rfl ?_
                refine g_goto G 4 dX2_settleInOrder_148 (by decide) ?_
                refine g_lv G [0, 1, 2] (lv' := [(0, .ref q0), (1, .int (iI x2)), (2, .int (iI (k + 1)))]) rfl ?_
                exact ih4 (k + 1) x2 sa2 ph2 xm2 xa2 xt2 xn2 xv2 tg2 xr2 (by first | assumption | omega) (by exact hfn.2 x2 hx2) (by omega)
              · refine g_iload G 5 dX2_settleInOrder_62 rfl ?_
                refine g_iload_n G 1 dX2_settleInOrder_64 rfl ?_
                refine g_icmp_gt G 132 dX2_settleInOrder_65 (by decide) (by omega) (by omega) (fun c65 => ?_) (fun c65 => ?_)
                · have hfn := OrX.fin hT hJ hmm hm3 ht.1 (by omega) ht.2.2
                  have hfb := hfn.1
                  refine g_iload_n G 1 dX2_settleInOrder_132 rfl ?_
                  refine g_aload_n G 0 dX2_settleInOrder_133 rfl ?_
                  refine g_get G 0 10 dX2_settleInOrder_134 i_X2_settleInOrder_X2 f_X2_settleInOrder_42 rfl rfl (by decide) rfl ?_
                  refine g_iload_n G 3 dX2_settleInOrder_137 rfl ?_
                  refine g_iald G 11 dX2_settleInOrder_138 rfl (by omega) (by omega) (by decide) ?_
                  refine g_iconst G dX2_settleInOrder_139 ?_
                  refine g_iadd G dX2_settleInOrder_140 ?_
                  obtain ⟨x2, hx2⟩ : ∃ r : Int, (cm < ((tg2 (((sa1 (pa k)) * 3) + (vb k))) + 1) → r = (tg2 (((sa1 (pa k)) * 3) + (vb k))) + 1) ∧ (((tg2 (((sa1 (pa k)) * 3) + (vb k))) + 1) ≤ cm → r = cm) := by by_cases h : cm < ((tg2 (((sa1 (pa k)) * 3) + (vb k))) + 1); exact ⟨(tg2 (((sa1 (pa k)) * 3) + (vb k))) + 1, by omega⟩; exact ⟨cm, by omega⟩
                  refine g_max G x2 dX2_settleInOrder_141 (by decide +kernel) (by decide +kernel) (by decide +kernel) (by decide +kernel) (Nat.le_of_ble_eq_true rfl) (Nat.le_of_ble_eq_true rfl) (Nat.le_of_ble_eq_true rfl) (Nat.le_of_ble_eq_true rfl) (by omega) (by omega) hx2 ?_
                  refine g_istore_n G [(0, .ref q0), (1, .int (iI x2)), (2, .int (iI k)), (3, .int (iI (((sa1 (pa k)) * 3) + (vb k)))), (4, .int (iI sd)), (5, .int (iI t))] dX2_settleInOrder_144 (by decide) rfl rfl ?_
                  refine g_iinc G 2 [(0, .ref q0), (1, .int (iI x2)), (2, .int (iI (k + 1))), (3, .int (iI (((sa1 (pa k)) * 3) + (vb k)))), (4, .int (iI sd)), (5, .int (iI t))] dX2_settleInOrder_145 rfl (by decide) rfl rfl ?_
                  refine g_goto G 4 dX2_settleInOrder_148 (by decide) ?_
                  refine g_lv G [0, 1, 2] (lv' := [(0, .ref q0), (1, .int (iI x2)), (2, .int (iI (k + 1)))]) rfl ?_
                  exact ih4 (k + 1) x2 sa2 ph2 xm2 xa2 xt2 xn2 xv2 tg2 xr2 (by first | assumption | omega) (by exact hfn.2 x2 hx2) (by omega)
                · refine g_iload G 4 dX2_settleInOrder_68 rfl ?_
                  refine g_if_ne G 132 dX2_settleInOrder_70 (by decide) (by omega) (fun c70 => ?_) (fun c70 => ?_)
                  · have hfn := OrX.fin hT hJ hmm hm3 ht.1 (by omega) ht.2.2
                    have hfb := hfn.1
                    refine g_iload_n G 1 dX2_settleInOrder_132 rfl ?_
                    refine g_aload_n G 0 dX2_settleInOrder_133 rfl ?_
                    refine g_get G 0 10 dX2_settleInOrder_134 i_X2_settleInOrder_X2 f_X2_settleInOrder_42 rfl rfl (by decide) rfl ?_
                    refine g_iload_n G 3 dX2_settleInOrder_137 rfl ?_
                    refine g_iald G 11 dX2_settleInOrder_138 rfl (by omega) (by omega) (by decide) ?_
                    refine g_iconst G dX2_settleInOrder_139 ?_
                    refine g_iadd G dX2_settleInOrder_140 ?_
                    obtain ⟨x2, hx2⟩ : ∃ r : Int, (cm < ((tg2 (((sa1 (pa k)) * 3) + (vb k))) + 1) → r = (tg2 (((sa1 (pa k)) * 3) + (vb k))) + 1) ∧ (((tg2 (((sa1 (pa k)) * 3) + (vb k))) + 1) ≤ cm → r = cm) := by by_cases h : cm < ((tg2 (((sa1 (pa k)) * 3) + (vb k))) + 1); exact ⟨(tg2 (((sa1 (pa k)) * 3) + (vb k))) + 1, by omega⟩; exact ⟨cm, by omega⟩
                    refine g_max G x2 dX2_settleInOrder_141 (by decide +kernel) (by decide +kernel) (by decide +kernel) (by decide +kernel) (Nat.le_of_ble_eq_true rfl) (Nat.le_of_ble_eq_true rfl) (Nat.le_of_ble_eq_true rfl) (Nat.le_of_ble_eq_true rfl) (by omega) (by omega) hx2 ?_
                    refine g_istore_n G [(0, .ref q0), (1, .int (iI x2)), (2, .int (iI k)), (3, .int (iI (((sa1 (pa k)) * 3) + (vb k)))), (4, .int (iI sd)), (5, .int (iI t))] dX2_settleInOrder_144 (by decide) rfl rfl ?_
                    refine g_iinc G 2 [(0, .ref q0), (1, .int (iI x2)), (2, .int (iI (k + 1))), (3, .int (iI (((sa1 (pa k)) * 3) + (vb k)))), (4, .int (iI sd)), (5, .int (iI t))] dX2_settleInOrder_145 rfl (by decide) rfl rfl ?_
                    refine g_goto G 4 dX2_settleInOrder_148 (by decide) ?_
                    refine g_lv G [0, 1, 2] (lv' := [(0, .ref q0), (1, .int (iI x2)), (2, .int (iI (k + 1)))]) rfl ?_
                    exact ih4 (k + 1) x2 sa2 ph2 xm2 xa2 xt2 xn2 xv2 tg2 xr2 (by first | assumption | omega) (by exact hfn.2 x2 hx2) (by omega)
                  · obtain ⟨j1, j2, j3, j4⟩ := OrX.open_ hJ c70
                    obtain ⟨Se2, F2, p1, p2, p3, p4, p5⟩ := j1
                    have hx0 := p1.1.1
                    refine g_aload_n G 0 dX2_settleInOrder_73 rfl ?_
                    refine g_get G 0 15 dX2_settleInOrder_74 i_X2_settleInOrder_X2 f_X2_settleInOrder_124 rfl rfl (by decide) rfl ?_
                    refine g_istore G [(0, .ref q0), (1, .int (iI cm)), (2, .int (iI k)), (3, .int (iI (((sa1 (pa k)) * 3) + (vb k)))), (4, .int (iI sd)), (5, .int (iI t)), (6, .int (iI xr2))] dX2_settleInOrder_77 (by decide) rfl rfl ?_
                    refine g_aload_n G 0 dX2_settleInOrder_79 rfl ?_
                    refine g_iload_n G 3 dX2_settleInOrder_80 rfl ?_
                    refine g_iload G 5 dX2_settleInOrder_81 rfl ?_
                    refine g_callV G [0, 1, 2, 3, 4, 5, 6, 7, 8, 9, 10, 11, 12, 13, 14] [] 15 [] [.int (iI (((sa1 (pa k)) * 3) + (vb k))), .int (iI t)] [] (c_X2_settle E q0 q1 q2 q3 q4 q5 q6 q7 q8 q9 q10 q11 q12 q13 q14 pa vb cd cn xc xw sa2 ph2 xm2 xa2 tg2 xt2 xn2 xv2 nd xr2 al (((sa1 (pa k)) * 3) + (vb k)) t cm So ns Se2 (by exact hT) (by exact hk) (by exact p1) (by exact hmm) (by exact j3) (by exact hm3) (by omega)) dX2_settleInOrder_83 gX2_settleInOrder_X2_settle ⟨rfl, ⟨rfl, rfl⟩, e_X2_settle, ⟨Nat.le_of_ble_eq_true rfl, Nat.le_of_ble_eq_true rfl⟩, Nat.le_of_ble_eq_true rfl, Nat.le_of_ble_eq_true rfl, Nat.le_of_ble_eq_true rfl⟩ rfl rfl rfl rfl rfl (by decide +kernel) rfl (by decide +kernel) rfl (fun v9 w9 h9 => ?_)
                    obtain ⟨r3, sa3, ph3, xm3, xa3, xt3, xn3, xv3, xr3, rfl, rfl, hs3, hg3⟩ := h9
                    refine ⟨[(q0, .inr (2, [.ref q1, .ref q2, .ref q3, .ref q4, .ref q5, .ref q6, .ref q7, .ref q8, .ref q9, .ref q10, .ref q11, .ref q12, .ref q13, .ref q14, .int (iI nd), .int (iI xr3), .int (iI al)])), (q1, ia E 97 pa), (q2, ia E 97 vb), (q3, ia E 97 cd), (q4, ia E 291 cn), (q5, ia E 12 xc), (q6, ia E 97 xw), (q7, ia E 97 sa3), (q8, ia E 97 ph3), (q9, ia E 97 xm3), (q10, ia E 97 xa3), (q11, ia E 12 (upI tg2 (((sa1 (pa k)) * 3) + (vb k)) t)), (q12, ia E 1164 xt3), (q13, ia E 12 xn3), (q14, ia E 12 xv3)], ⟨rfl, rfl, rfl, rfl⟩, g_to 0 0 _ _ [.int (iI r3)] rfl rfl rfl rfl rfl ?_⟩
                    refine g_iconst G dX2_settleInOrder_86 ?_
                    refine g_icmp_ne G 111 dX2_settleInOrder_87 (by decide) (by omega) (by omega) (fun c87 => ?_) (fun c87 => ?_)
                    · refine g_iconst G dX2_settleInOrder_111 ?_
                      refine g_istore G [(0, .ref q0), (1, .int (iI cm)), (2, .int (iI k)), (3, .int (iI (((sa1 (pa k)) * 3) + (vb k)))), (4, .int (iI 0)), (5, .int (iI t)), (6, .int (iI xr2))] dX2_settleInOrder_112 (by decide) rfl rfl ?_
                      refine g_iload G 4 dX2_settleInOrder_114 rfl ?_
                      refine g_if_ne G 126 dX2_settleInOrder_116 (by decide) (by omega) (fun c116 => ?_) (fun c116 => ?_)
                      · exfalso; omega
                      · have hn3 := hs3.1
                        refine g_aload_n G 0 dX2_settleInOrder_119 rfl ?_
                        refine g_iload_n G 3 dX2_settleInOrder_120 rfl ?_
                        refine g_iload G 6 dX2_settleInOrder_121 rfl ?_
                        refine g_callV G [0, 1, 2, 3, 4, 5, 6, 7, 8, 9, 10, 11, 12, 13, 14] [] 15 [] [.int (iI (((sa1 (pa k)) * 3) + (vb k))), .int (iI xr2)] [] (c_X2_unsettle E q0 q1 q2 q3 q4 q5 q6 q7 q8 q9 q10 q11 q12 q13 q14 pa vb cd cn xc xw sa3 ph3 xm3 xa3 (upI tg2 (((sa1 (pa k)) * 3) + (vb k)) t) xt3 xn3 xv3 nd xr3 al (((sa1 (pa k)) * 3) + (vb k)) xr2 (by exact hmm) (by omega) (by exact hnd) (by first | exact hF4.1 | exact hs3.2.1)) dX2_settleInOrder_123 gX2_settleInOrder_X2_unsettle ⟨rfl, ⟨rfl, rfl⟩, e_X2_unsettle, ⟨Nat.le_of_ble_eq_true rfl, Nat.le_of_ble_eq_true rfl⟩, Nat.le_of_ble_eq_true rfl, Nat.le_of_ble_eq_true rfl, Nat.le_of_ble_eq_true rfl⟩ rfl rfl rfl rfl rfl (by decide +kernel) rfl (by decide +kernel) rfl (fun v9 w9 h9 => ?_)
                        obtain ⟨xn5, xv5, rfl, rfl, hS5⟩ := h9
                        refine ⟨[(q0, .inr (2, [.ref q1, .ref q2, .ref q3, .ref q4, .ref q5, .ref q6, .ref q7, .ref q8, .ref q9, .ref q10, .ref q11, .ref q12, .ref q13, .ref q14, .int (iI nd), .int (iI xr2), .int (iI al)])), (q1, ia E 97 pa), (q2, ia E 97 vb), (q3, ia E 97 cd), (q4, ia E 291 cn), (q5, ia E 12 xc), (q6, ia E 97 xw), (q7, ia E 97 sa3), (q8, ia E 97 ph3), (q9, ia E 97 xm3), (q10, ia E 97 xa3), (q11, ia E 12 (upI (upI tg2 (((sa1 (pa k)) * 3) + (vb k)) t) (((sa1 (pa k)) * 3) + (vb k)) (-1))), (q12, ia E 1164 xt3), (q13, ia E 12 xn5), (q14, ia E 12 xv5)], ⟨rfl, rfl, rfl, rfl⟩, g_to 0 0 _ _ [] rfl rfl rfl rfl rfl ?_⟩
                        refine g_norm G 11 (tg2) [(q0, .inr (2, [.ref q1, .ref q2, .ref q3, .ref q4, .ref q5, .ref q6, .ref q7, .ref q8, .ref q9, .ref q10, .ref q11, .ref q12, .ref q13, .ref q14, .int (iI nd), .int (iI xr2), .int (iI al)])), (q1, ia E 97 pa), (q2, ia E 97 vb), (q3, ia E 97 cd), (q4, ia E 291 cn), (q5, ia E 12 xc), (q6, ia E 97 xw), (q7, ia E 97 sa3), (q8, ia E 97 ph3), (q9, ia E 97 xm3), (q10, ia E 97 xa3), (q11, ia E 12 tg2), (q12, ia E 1164 xt3), (q13, ia E 12 xn5), (q14, ia E 12 xv5)] rfl (by intro j9 h0 h1; (by_cases q : j9 = (sa1 (pa k) * 3 + vb k); (rw [q, upI_same, j3]); (rw [upI_ne _ _ q, upI_ne _ _ q]))) rfl ?_
                        refine g_iinc G 5 [(0, .ref q0), (1, .int (iI cm)), (2, .int (iI k)), (3, .int (iI (((sa1 (pa k)) * 3) + (vb k)))), (4, .int (iI 0)), (5, .int (iI (t + 1))), (6, .int (iI xr2))] dX2_settleInOrder_126 rfl (by decide) rfl rfl ?_
                        refine g_goto G 53 dX2_settleInOrder_129 (by decide) ?_
                        refine g_lv G [0, 1, 2, 3, 4, 5] (lv' := [(0, .ref q0), (1, .int (iI cm)), (2, .int (iI k)), (3, .int (iI (((sa1 (pa k)) * 3) + (vb k)))), (4, .int (iI 0)), (5, .int (iI (t + 1)))]) rfl ?_
                        exact ih53 (t + 1) 0 sa3 ph3 xm3 xa3 xt3 xn5 xv5 tg2 xr2 (by omega) (by first | assumption | omega) (by first | exact OrX.took hpa hvb p1 p3 p4 p5 ⟨hk1.1, c9⟩ j2 j3 j4 (by omega) (KeA.trans hs3.2.2.1 hK4 hs3.1 u1) hF4 hx (SvR.left hv4 c104) | exact OrX.again hpa ⟨hk1.1, c9⟩ p1 p2 p3 p4 p5 j2 j3 j4 (KeA.trans hs3.2.2.1 hK4 hs3.1 u1) hS5 (BadM.not (SvR.bad hv4 c104)) | exact OrX.again hpa ⟨hk1.1, c9⟩ p1 p2 p3 p4 p5 j2 j3 j4 hs3.2.2.1 hS5 (BadM.not (SeR.bad hs3 c87))) (by omega)
                    · refine g_aload_n G 0 dX2_settleInOrder_90 rfl ?_
                      refine g_iload_n G 1 dX2_settleInOrder_91 rfl ?_
                      refine g_iload G 5 dX2_settleInOrder_92 rfl ?_
                      refine g_iconst G dX2_settleInOrder_94 ?_
                      refine g_iadd G dX2_settleInOrder_95 ?_
                      obtain ⟨x, hx⟩ : ∃ r : Int, (cm < (t + 1) → r = t + 1) ∧ ((t + 1) ≤ cm → r = cm) := by by_cases h : cm < (t + 1); exact ⟨t + 1, by omega⟩; exact ⟨cm, by omega⟩
                      refine g_max G x dX2_settleInOrder_96 (by decide +kernel) (by decide +kernel) (by decide +kernel) (by decide +kernel) (Nat.le_of_ble_eq_true rfl) (Nat.le_of_ble_eq_true rfl) (Nat.le_of_ble_eq_true rfl) (Nat.le_of_ble_eq_true rfl) (by omega) (by omega) hx ?_
                      obtain ⟨Se3, u1, u2⟩ := SeR.ok hs3 c87 x hx
                      refine g_iconst G dX2_settleInOrder_99 ?_
                      refine g_callV G [0, 1, 2, 3, 4, 5, 6, 7, 8, 9, 10, 11, 12, 13, 14] [] 15 [] [.int (iI x), .int (iI 0)] [] (c_X2_solve E 12 q0 q1 q2 q3 q4 q5 q6 q7 q8 q9 q10 q11 q12 q13 q14 pa vb cd cn xc xw sa3 ph3 xm3 xa3 (upI tg2 (((sa1 (pa k)) * 3) + (vb k)) t) xt3 xn3 xv3 nd xr3 al x 0 So ns Se3 (by exact hT) (by exact hk) (by exact hwt) (by exact hQ) (by exact u2) (by have := cnT_bd (upI tg2 (sa1 (pa k) * 3 + vb k) t) 12; omega) (by have := cnT_bd (upI tg2 (sa1 (pa k) * 3 + vb k) t) 12; omega)) dX2_settleInOrder_100 gX2_settleInOrder_X2_solve ⟨rfl, ⟨rfl, rfl⟩, e_X2_solve, ⟨Nat.le_of_ble_eq_true rfl, Nat.le_of_ble_eq_true rfl⟩, Nat.le_of_ble_eq_true rfl, Nat.le_of_ble_eq_true rfl, Nat.le_of_ble_eq_true rfl⟩ rfl rfl rfl rfl rfl (by decide +kernel) rfl (by decide +kernel) rfl (fun v9 w9 h9 => ?_)
                      obtain ⟨r4, sa4, ph4, xm4, xa4, xt4, xn4, xv4, rfl, rfl, hv4, hg4, hF4, hK4⟩ := h9
                      refine ⟨[(q0, .inr (2, [.ref q1, .ref q2, .ref q3, .ref q4, .ref q5, .ref q6, .ref q7, .ref q8, .ref q9, .ref q10, .ref q11, .ref q12, .ref q13, .ref q14, .int (iI nd), .int (iI xr3), .int (iI al)])), (q1, ia E 97 pa), (q2, ia E 97 vb), (q3, ia E 97 cd), (q4, ia E 291 cn), (q5, ia E 12 xc), (q6, ia E 97 xw), (q7, ia E 97 sa4), (q8, ia E 97 ph4), (q9, ia E 97 xm4), (q10, ia E 97 xa4), (q11, ia E 12 (upI tg2 (((sa1 (pa k)) * 3) + (vb k)) t)), (q12, ia E 1164 xt4), (q13, ia E 12 xn4), (q14, ia E 12 xv4)], ⟨rfl, rfl, rfl, rfl⟩, g_to 0 0 _ _ [.int (iI r4)] rfl rfl rfl rfl rfl ?_⟩
                      refine g_iconst G dX2_settleInOrder_103 ?_
                      refine g_icmp_ne G 111 dX2_settleInOrder_104 (by decide) (by omega) (by omega) (fun c104 => ?_) (fun c104 => ?_)
                      · refine g_iconst G dX2_settleInOrder_111 ?_
                        refine g_istore G [(0, .ref q0), (1, .int (iI cm)), (2, .int (iI k)), (3, .int (iI (((sa1 (pa k)) * 3) + (vb k)))), (4, .int (iI 0)), (5, .int (iI t)), (6, .int (iI xr2))] dX2_settleInOrder_112 (by decide) rfl rfl ?_
                        refine g_iload G 4 dX2_settleInOrder_114 rfl ?_
                        refine g_if_ne G 126 dX2_settleInOrder_116 (by decide) (by omega) (fun c116 => ?_) (fun c116 => ?_)
                        · exfalso; omega
                        · have hn3 := hs3.1
                          refine g_aload_n G 0 dX2_settleInOrder_119 rfl ?_
                          refine g_iload_n G 3 dX2_settleInOrder_120 rfl ?_
                          refine g_iload G 6 dX2_settleInOrder_121 rfl ?_
                          refine g_callV G [0, 1, 2, 3, 4, 5, 6, 7, 8, 9, 10, 11, 12, 13, 14] [] 15 [] [.int (iI (((sa1 (pa k)) * 3) + (vb k))), .int (iI xr2)] [] (c_X2_unsettle E q0 q1 q2 q3 q4 q5 q6 q7 q8 q9 q10 q11 q12 q13 q14 pa vb cd cn xc xw sa4 ph4 xm4 xa4 (upI tg2 (((sa1 (pa k)) * 3) + (vb k)) t) xt4 xn4 xv4 nd xr3 al (((sa1 (pa k)) * 3) + (vb k)) xr2 (by exact hmm) (by omega) (by exact hnd) (by first | exact hF4.1 | exact hs3.2.1)) dX2_settleInOrder_123 gX2_settleInOrder_X2_unsettle ⟨rfl, ⟨rfl, rfl⟩, e_X2_unsettle, ⟨Nat.le_of_ble_eq_true rfl, Nat.le_of_ble_eq_true rfl⟩, Nat.le_of_ble_eq_true rfl, Nat.le_of_ble_eq_true rfl, Nat.le_of_ble_eq_true rfl⟩ rfl rfl rfl rfl rfl (by decide +kernel) rfl (by decide +kernel) rfl (fun v9 w9 h9 => ?_)
                          obtain ⟨xn5, xv5, rfl, rfl, hS5⟩ := h9
                          refine ⟨[(q0, .inr (2, [.ref q1, .ref q2, .ref q3, .ref q4, .ref q5, .ref q6, .ref q7, .ref q8, .ref q9, .ref q10, .ref q11, .ref q12, .ref q13, .ref q14, .int (iI nd), .int (iI xr2), .int (iI al)])), (q1, ia E 97 pa), (q2, ia E 97 vb), (q3, ia E 97 cd), (q4, ia E 291 cn), (q5, ia E 12 xc), (q6, ia E 97 xw), (q7, ia E 97 sa4), (q8, ia E 97 ph4), (q9, ia E 97 xm4), (q10, ia E 97 xa4), (q11, ia E 12 (upI (upI tg2 (((sa1 (pa k)) * 3) + (vb k)) t) (((sa1 (pa k)) * 3) + (vb k)) (-1))), (q12, ia E 1164 xt4), (q13, ia E 12 xn5), (q14, ia E 12 xv5)], ⟨rfl, rfl, rfl, rfl⟩, g_to 0 0 _ _ [] rfl rfl rfl rfl rfl ?_⟩
                          refine g_norm G 11 (tg2) [(q0, .inr (2, [.ref q1, .ref q2, .ref q3, .ref q4, .ref q5, .ref q6, .ref q7, .ref q8, .ref q9, .ref q10, .ref q11, .ref q12, .ref q13, .ref q14, .int (iI nd), .int (iI xr2), .int (iI al)])), (q1, ia E 97 pa), (q2, ia E 97 vb), (q3, ia E 97 cd), (q4, ia E 291 cn), (q5, ia E 12 xc), (q6, ia E 97 xw), (q7, ia E 97 sa4), (q8, ia E 97 ph4), (q9, ia E 97 xm4), (q10, ia E 97 xa4), (q11, ia E 12 tg2), (q12, ia E 1164 xt4), (q13, ia E 12 xn5), (q14, ia E 12 xv5)] rfl (by intro j9 h0 h1; (by_cases q : j9 = (sa1 (pa k) * 3 + vb k); (rw [q, upI_same, j3]); (rw [upI_ne _ _ q, upI_ne _ _ q]))) rfl ?_
                          refine g_iinc G 5 [(0, .ref q0), (1, .int (iI cm)), (2, .int (iI k)), (3, .int (iI (((sa1 (pa k)) * 3) + (vb k)))), (4, .int (iI 0)), (5, .int (iI (t + 1))), (6, .int (iI xr2))] dX2_settleInOrder_126 rfl (by decide) rfl rfl ?_
                          refine g_goto G 53 dX2_settleInOrder_129 (by decide) ?_
                          refine g_lv G [0, 1, 2, 3, 4, 5] (lv' := [(0, .ref q0), (1, .int (iI cm)), (2, .int (iI k)), (3, .int (iI (((sa1 (pa k)) * 3) + (vb k)))), (4, .int (iI 0)), (5, .int (iI (t + 1)))]) rfl ?_
                          exact ih53 (t + 1) 0 sa4 ph4 xm4 xa4 xt4 xn5 xv5 tg2 xr2 (by omega) (by first | assumption | omega) (by first | exact OrX.took hpa hvb p1 p3 p4 p5 ⟨hk1.1, c9⟩ j2 j3 j4 (by omega) (KeA.trans hs3.2.2.1 hK4 hs3.1 u1) hF4 hx (SvR.left hv4 c104) | exact OrX.again hpa ⟨hk1.1, c9⟩ p1 p2 p3 p4 p5 j2 j3 j4 (KeA.trans hs3.2.2.1 hK4 hs3.1 u1) hS5 (BadM.not (SvR.bad hv4 c104)) | exact OrX.again hpa ⟨hk1.1, c9⟩ p1 p2 p3 p4 p5 j2 j3 j4 hs3.2.2.1 hS5 (BadM.not (SeR.bad hs3 c87))) (by omega)
                      · refine g_iconst G dX2_settleInOrder_107 ?_
                        refine g_goto G 112 dX2_settleInOrder_108 (by decide) ?_
                        refine g_istore G [(0, .ref q0), (1, .int (iI cm)), (2, .int (iI k)), (3, .int (iI (((sa1 (pa k)) * 3) + (vb k)))), (4, .int (iI 1)), (5, .int (iI t)), (6, .int (iI xr2))] dX2_settleInOrder_112 (by decide) rfl rfl ?_
                        refine g_iload G 4 dX2_settleInOrder_114 rfl ?_
                        refine g_if_ne G 126 dX2_settleInOrder_116 (by decide) (by omega) (fun c116 => ?_) (fun c116 => ?_)
                        · refine g_iinc G 5 [(0, .ref q0), (1, .int (iI cm)), (2, .int (iI k)), (3, .int (iI (((sa1 (pa k)) * 3) + (vb k)))), (4, .int (iI 1)), (5, .int (iI (t + 1))), (6, .int (iI xr2))] dX2_settleInOrder_126 rfl (by decide) rfl rfl ?_
                          refine g_goto G 53 dX2_settleInOrder_129 (by decide) ?_
                          refine g_lv G [0, 1, 2, 3, 4, 5] (lv' := [(0, .ref q0), (1, .int (iI cm)), (2, .int (iI k)), (3, .int (iI (((sa1 (pa k)) * 3) + (vb k)))), (4, .int (iI 1)), (5, .int (iI (t + 1)))]) rfl ?_
                          exact ih53 (t + 1) 1 sa4 ph4 xm4 xa4 xt4 xn4 xv4 (upI tg2 (((sa1 (pa k)) * 3) + (vb k)) t) xr3 (by omega) (by first | assumption | omega) (by first | exact OrX.took hpa hvb p1 p3 p4 p5 ⟨hk1.1, c9⟩ j2 j3 j4 (by omega) (KeA.trans hs3.2.2.1 hK4 hs3.1 u1) hF4 hx (SvR.left hv4 c104) | exact OrX.again hpa ⟨hk1.1, c9⟩ p1 p2 p3 p4 p5 j2 j3 j4 (KeA.trans hs3.2.2.1 hK4 hs3.1 u1) hS5 (BadM.not (SvR.bad hv4 c104)) | exact OrX.again hpa ⟨hk1.1, c9⟩ p1 p2 p3 p4 p5 j2 j3 j4 hs3.2.2.1 hS5 (BadM.not (SeR.bad hs3 c87))) (by omega)
                        · exfalso; omega
          exact L53 ((5 - 0 : Int).toNat + 1) 0 1 sa1 ph1 xm1 xa1 xt1 xn1 xv1 tg1 xr1 (by omega) (by first | assumption | omega) (by first | exact Or.inl ⟨rfl, hO, by omega, c40, OrJ.init⟩ | exact OrX.yes hO hk1.1 (by omega) (by omega)) (by omega)
  exact L4 ((nd - 1 : Int).toNat + 1) 1 1 sa ph xm xa xt xn xv tg xr (by first | assumption | omega) (by exact OrI.start hF hl ht0) (by omega)
