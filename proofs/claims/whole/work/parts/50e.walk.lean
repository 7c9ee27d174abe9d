theorem f_X2_rarity_24 : Cond.fieldLink RX2 24 (TX2 4).1 (TX2 4).2.1 (TX2 4).2.2.1 ∈ wsX2_rarity := by decide +kernel
theorem i_X2_rarity_X2 : ∀ w ∈ wsX20, w ∈ wsX2_rarity := by decide +kernel
set_option maxRecDepth 100000 in
set_option maxHeartbeats 4000000 in
theorem c_X2_rarity (E : qE) (q0 : Nat) (q1 : Nat) (q2 : Nat) (q3 : Nat) (q4 : Nat) (q5 : Nat) (q6 : Nat) (q7 : Nat) (q8 : Nat) (q9 : Nat) (q10 : Nat) (q11 : Nat) (q12 : Nat) (q13 : Nat) (q14 : Nat) (pa : Int → Int) (vb : Int → Int) (cd : Int → Int) (cn : Int → Int) (xc : Int → Int) (xw : Int → Int) (sa : Int → Int) (ph : Int → Int) (xm : Int → Int) (xa : Int → Int) (tg : Int → Int) (xt : Int → Int) (xn : Int → Int) (xv : Int → Int) (nd : Int) (xr : Int) (al : Int) (v : Int) (c : Int) (hnd : 1 ≤ nd ∧ nd ≤ 97) (hv : 0 ≤ v ∧ v < 3) (hc : 0 ≤ c ∧ c < 4) (hK : KcO vb cd nd xc) : Cn E yX2_rarity wsX2_rarity { frames := 0, cells := 0, slots := 0, locals := 0 } [.ref q0, .int (iI v), .int (iI c)] [(q0, .inr (2, [.ref q1, .ref q2, .ref q3, .ref q4, .ref q5, .ref q6, .ref q7, .ref q8, .ref q9, .ref q10, .ref q11, .ref q12, .ref q13, .ref q14, .int (iI nd), .int (iI xr), .int (iI al)])), (q1, ia E 97 pa), (q2, ia E 97 vb), (q3, ia E 97 cd), (q4, ia E 291 cn), (q5, ia E 12 xc), (q6, ia E 97 xw), (q7, ia E 97 sa), (q8, ia E 97 ph), (q9, ia E 97 xm), (q10, ia E 97 xa), (q11, ia E 12 tg), (q12, ia E 1164 xt), (q13, ia E 12 xn), (q14, ia E 12 xv)] (fun v9 w9 => ∃ (r : Int), v9 = some (.int (iI r)) ∧ w9 = [(q0, .inr (2, [.ref q1, .ref q2, .ref q3, .ref q4, .ref q5, .ref q6, .ref q7, .ref q8, .ref q9, .ref q10, .ref q11, .ref q12, .ref q13, .ref q14, .int (iI nd), .int (iI xr), .int (iI al)])), (q1, ia E 97 pa), (q2, ia E 97 vb), (q3, ia E 97 cd), (q4, ia E 291 cn), (q5, ia E 12 xc), (q6, ia E 97 xw), (q7, ia E 97 sa), (q8, ia E 97 ph), (q9, ia E 97 xm), (q10, ia E 97 xa), (q11, ia E 12 tg), (q12, ia E 1164 xt), (q13, ia E 12 xn), (q14, ia E 12 xv)] ∧ r = (rarI xc v c)) 0 0 := by
  refine Cn.ofP (own := RX2) (cc := cX2_rarity) (maxL := 5) (ret := (some .int)) false [(0, .ref q0), (1, .int (iI v)), (2, .int (iI c))] (by decide +kernel) rfl rfl (Nat.le_of_ble_eq_true rfl) rfl (fun h => nomatch h) (fun v w h => by obtain ⟨r, rfl, h9⟩ := h; exact ⟨_, rfl, rfl⟩) ?_
  intro P G
  have hb := KcO.bd hK hnd hv
  have ho := KcO.one hK hnd hv hc
  have z0 : xc (v * 4 + 0) = xc (v * 4) := by rw [Int.add_zero]
  refine g_iconst G dX2_rarity_0 ?_
  refine g_istore_n G [(0, .ref q0), (1, .int (iI v)), (2, .int (iI c)), (3, .int (iI 0))] dX2_rarity_1 (by decide) rfl rfl ?_
  refine g_iconst G dX2_rarity_2 ?_
  refine g_istore G [(0, .ref q0), (1, .int (iI v)), (2, .int (iI c)), (3, .int (iI 0)), (4, .int (iI 0))] dX2_rarity_3 (by decide) rfl rfl ?_
  refine g_iload G 4 dX2_rarity_5 rfl ?_
  refine g_iconst G dX2_rarity_7 ?_
  refine g_icmp_ge G 31 dX2_rarity_8 (by decide) (by omega) (by omega) (fun c8 => ?_) (fun c8 => ?_)
  · exfalso; omega
  · refine g_iload_n G 3 dX2_rarity_11 rfl ?_
    refine g_aload_n G 0 dX2_rarity_12 rfl ?_
    refine g_get G 0 4 dX2_rarity_13 i_X2_rarity_X2 f_X2_rarity_24 rfl rfl (by decide) rfl ?_
    refine g_iload_n G 1 dX2_rarity_16 rfl ?_
    refine g_iconst G dX2_rarity_17 ?_
    refine g_imul G dX2_rarity_18 ?_
    refine g_iload G 4 dX2_rarity_19 rfl ?_
    refine g_iadd G dX2_rarity_21 ?_
    refine g_iald G 5 dX2_rarity_22 rfl (by omega) (by omega) (by decide) ?_
    refine g_iadd G dX2_rarity_23 ?_
    refine g_istore_n G [(0, .ref q0), (1, .int (iI v)), (2, .int (iI c)), (3, .int (iI (0 + (xc ((v * 4) + 0))))), (4, .int (iI 0))] dX2_rarity_24 (by decide) rfl rfl ?_
    refine g_iinc G 4 [(0, .ref q0), (1, .int (iI v)), (2, .int (iI c)), (3, .int (iI (0 + (xc ((v * 4) + 0))))), (4, .int (iI 1))] dX2_rarity_25 rfl (by decide) rfl rfl ?_
    refine g_goto G 5 dX2_rarity_28 (by decide) ?_
    refine g_iload G 4 dX2_rarity_5 rfl ?_
    refine g_iconst G dX2_rarity_7 ?_
    refine g_icmp_ge G 31 dX2_rarity_8 (by decide) (by omega) (by omega) (fun c8_2 => ?_) (fun c8_2 => ?_)
    · exfalso; omega
    · refine g_iload_n G 3 dX2_rarity_11 rfl ?_
      refine g_aload_n G 0 dX2_rarity_12 rfl ?_
      refine g_get G 0 4 dX2_rarity_13 i_X2_rarity_X2 f_X2_rarity_24 rfl rfl (by decide) rfl ?_
      refine g_iload_n G 1 dX2_rarity_16 rfl ?_
      refine g_iconst G dX2_rarity_17 ?_
      refine g_imul G dX2_rarity_18 ?_
      refine g_iload G 4 dX2_rarity_19 rfl ?_
      refine g_iadd G dX2_rarity_21 ?_
      refine g_iald G 5 dX2_rarity_22 rfl (by omega) (by omega) (by decide) ?_
      refine g_iadd G dX2_rarity_23 ?_
      refine g_istore_n G [(0, .ref q0), (1, .int (iI v)), (2, .int (iI c)), (3, .int (iI ((0 + (xc ((v * 4) + 0))) + (xc ((v * 4) + 1))))), (4, .int (iI 1))] dX2_rarity_24 (by decide) rfl rfl ?_
      refine g_iinc G 4 [(0, .ref q0), (1, .int (iI v)), (2, .int (iI c)), (3, .int (iI ((0 + (xc ((v * 4) + 0))) + (xc ((v * 4) + 1))))), (4, .int (iI 2))] dX2_rarity_25 rfl (by decide) rfl rfl ?_
      refine g_goto G 5 dX2_rarity_28 (by decide) ?_
      refine g_iload G 4 dX2_rarity_5 rfl ?_
      refine g_iconst G dX2_rarity_7 ?_
      refine g_icmp_ge G 31 dX2_rarity_8 (by decide) (by omega) (by omega) (fun c8_3 => ?_) (fun c8_3 => ?_)
      · exfalso; omega
      · refine g_iload_n G 3 dX2_rarity_11 rfl ?_
        refine g_aload_n G 0 dX2_rarity_12 rfl ?_
        refine g_get G 0 4 dX2_rarity_13 i_X2_rarity_X2 f_X2_rarity_24 rfl rfl (by decide) rfl ?_
        refine g_iload_n G 1 dX2_rarity_16 rfl ?_
        refine g_iconst G dX2_rarity_17 ?_
        refine g_imul G dX2_rarity_18 ?_
        refine g_iload G 4 dX2_rarity_19 rfl ?_
        refine g_iadd G dX2_rarity_21 ?_
        refine g_iald G 5 dX2_rarity_22 rfl (by omega) (by omega) (by decide) ?_
        refine g_iadd G dX2_rarity_23 ?_
        refine g_istore_n G [(0, .ref q0), (1, .int (iI v)), (2, .int (iI c)), (3, .int (iI (((0 + (xc ((v * 4) + 0))) + (xc ((v * 4) + 1))) + (xc ((v * 4) + 2))))), (4, .int (iI 2))] dX2_rarity_24 (by decide) rfl rfl ?_
        refine g_iinc G 4 [(0, .ref q0), (1, .int (iI v)), (2, .int (iI c)), (3, .int (iI (((0 + (xc ((v * 4) + 0))) + (xc ((v * 4) + 1))) + (xc ((v * 4) + 2))))), (4, .int (iI 3))] dX2_rarity_25 rfl (by decide) rfl rfl ?_
        refine g_goto G 5 dX2_rarity_28 (by decide) ?_
        refine g_iload G 4 dX2_rarity_5 rfl ?_
        refine g_iconst G dX2_rarity_7 ?_
        refine g_icmp_ge G 31 dX2_rarity_8 (by decide) (by omega) (by omega) (fun c8_4 => ?_) (fun c8_4 => ?_)
        · exfalso; omega
        · refine g_iload_n G 3 dX2_rarity_11 rfl ?_
          refine g_aload_n G 0 dX2_rarity_12 rfl ?_
          refine g_get G 0 4 dX2_rarity_13 i_X2_rarity_X2 f_X2_rarity_24 rfl rfl (by decide) rfl ?_
          refine g_iload_n G 1 dX2_rarity_16 rfl ?_
          refine g_iconst G dX2_rarity_17 ?_
          refine g_imul G dX2_rarity_18 ?_
          refine g_iload G 4 dX2_rarity_19 rfl ?_
          refine g_iadd G dX2_rarity_21 ?_
          refine g_iald G 5 dX2_rarity_22 rfl (by omega) (by omega) (by decide) ?_
          refine g_iadd G dX2_rarity_23 ?_
          refine g_istore_n G [(0, .ref q0), (1, .int (iI v)), (2, .int (iI c)), (3, .int (iI ((((0 + (xc ((v * 4) + 0))) + (xc ((v * 4) + 1))) + (xc ((v * 4) + 2))) + (xc ((v * 4) + 3))))), (4, .int (iI 3))] dX2_rarity_24 (by decide) rfl rfl ?_
          refine g_iinc G 4 [(0, .ref q0), (1, .int (iI v)), (2, .int (iI c)), (3, .int (iI ((((0 + (xc ((v * 4) + 0))) + (xc ((v * 4) + 1))) + (xc ((v * 4) + 2))) + (xc ((v * 4) + 3))))), (4, .int (iI 4))] dX2_rarity_25 rfl (by decide) rfl rfl ?_
          refine g_goto G 5 dX2_rarity_28 (by decide) ?_
          refine g_iload G 4 dX2_rarity_5 rfl ?_
          refine g_iconst G dX2_rarity_7 ?_
          refine g_icmp_ge G 31 dX2_rarity_8 (by decide) (by omega) (by omega) (fun c8_5 => ?_) (fun c8_5 => ?_)
          · have es : ((((0 + (xc ((v * 4) + 0))) + (xc ((v * 4) + 1))) + (xc ((v * 4) + 2))) + (xc ((v * 4) + 3))) = xc (v * 4) + xc (v * 4 + 1) + xc (v * 4 + 2) + xc (v * 4 + 3) := by omega
            refine g_aload_n G 0 dX2_rarity_31 rfl ?_
            refine g_get G 0 4 dX2_rarity_32 i_X2_rarity_X2 f_X2_rarity_24 rfl rfl (by decide) rfl ?_
            refine g_iload_n G 1 dX2_rarity_35 rfl ?_
            refine g_iconst G dX2_rarity_36 ?_
            refine g_imul G dX2_rarity_37 ?_
            refine g_iload_n G 2 dX2_rarity_38 rfl ?_
            refine g_iadd G dX2_rarity_39 ?_
            refine g_iald G 5 dX2_rarity_40 rfl (by omega) (by omega) (by decide) ?_
            refine g_istore G [(0, .ref q0), (1, .int (iI v)), (2, .int (iI c)), (3, .int (iI ((((0 + (xc ((v * 4) + 0))) + (xc ((v * 4) + 1))) + (xc ((v * 4) + 2))) + (xc ((v * 4) + 3))))), (4, .int (iI (xc ((v * 4) + c))))] dX2_rarity_41 (by decide) rfl rfl ?_
            refine g_iload G 4 dX2_rarity_43 rfl ?_
            refine g_if_le G 65 dX2_rarity_45 (by decide) (by omega) (fun c45 => ?_) (fun c45 => ?_)
            · refine g_iconst G dX2_rarity_65 ?_
              exact g_ret G (some (.int (iI 0))) rfl dX2_rarity_66 (Nat.le_refl _) (Nat.le_refl _) ⟨0, rfl, rfl, by unfold rarI; first | (rw [if_pos (by omega), es]; done) | (rw [if_neg (by omega)])⟩
            · refine g_iload_n G 3 dX2_rarity_48 rfl ?_
              refine g_if_le G 65 dX2_rarity_49 (by decide) (by omega) (fun c49 => ?_) (fun c49 => ?_)
              · refine g_iconst G dX2_rarity_65 ?_
                exact g_ret G (some (.int (iI 0))) rfl dX2_rarity_66 (Nat.le_refl _) (Nat.le_refl _) ⟨0, rfl, rfl, by unfold rarI; first | (rw [if_pos (by omega), es]; done) | (rw [if_neg (by omega)])⟩
              · refine g_ldc G (1000000) dX2_rarity_52 (by decide +kernel) ?_
                refine g_iload G 4 dX2_rarity_54 rfl ?_
                refine g_idiv G dX2_rarity_56 (by omega) (by omega) (by omega) (by omega) ?_
                refine g_ldc G (1000000) dX2_rarity_57 (by decide +kernel) ?_
                refine g_iload_n G 3 dX2_rarity_59 rfl ?_
                refine g_idiv G dX2_rarity_60 (by omega) (by omega) (by omega) (by omega) ?_
                refine g_isub G dX2_rarity_61 ?_
                refine g_goto G 66 dX2_rarity_62 (by decide) ?_
                exact g_ret G (some (.int (iI ((1000000 / (xc ((v * 4) + c))) - (1000000 / ((((0 + (xc ((v * 4) + 0))) + (xc ((v * 4) + 1))) + (xc ((v * 4) + 2))) + (xc ((v * 4) + 3)))))))) rfl dX2_rarity_66 (Nat.le_refl _) (Nat.le_refl _) ⟨((1000000 / (xc ((v * 4) + c))) - (1000000 / ((((0 + (xc ((v * 4) + 0))) + (xc ((v * 4) + 1))) + (xc ((v * 4) + 2))) + (xc ((v * 4) + 3))))), rfl, rfl, by unfold rarI; first | (rw [if_pos (by omega), es]; done) | (rw [if_neg (by omega)])⟩
          · exfalso; omega
theorem f_X2_weighNodes_24 : Cond.fieldLink RX2 24 (TX2 4).1 (TX2 4).2.1 (TX2 4).2.2.1 ∈ wsX2_weighNodes := by decide +kernel
theorem i_X2_weighNodes_X2 : ∀ w ∈ wsX20, w ∈ wsX2_weighNodes := by decide +kernel
theorem f_X2_weighNodes_27 : Cond.fieldLink RX2 27 (TX2 5).1 (TX2 5).2.1 (TX2 5).2.2.1 ∈ wsX2_weighNodes := by decide +kernel
theorem f_X2_weighNodes_67 : Cond.fieldLink RX2 67 (TX2 14).1 (TX2 14).2.1 (TX2 14).2.2.1 ∈ wsX2_weighNodes := by decide +kernel
theorem f_X2_weighNodes_11 : Cond.fieldLink RX2 11 (TX2 0).1 (TX2 0).2.1 (TX2 0).2.2.1 ∈ wsX2_weighNodes := by decide +kernel
theorem f_X2_weighNodes_15 : Cond.fieldLink RX2 15 (TX2 1).1 (TX2 1).2.1 (TX2 1).2.2.1 ∈ wsX2_weighNodes := by decide +kernel
theorem f_X2_weighNodes_18 : Cond.fieldLink RX2 18 (TX2 2).1 (TX2 2).2.1 (TX2 2).2.2.1 ∈ wsX2_weighNodes := by decide +kernel
theorem e_X2_rarity : yX2_rarity.cls ≠ "java/lang/invoke/MethodHandle" ∧ yX2_rarity.cls ≠ "java/lang/invoke/VarHandle" ∧ (parseMethodDescriptor yX2_rarity.desc).map (fun d => d.parameters.length) = some 2 := by decide +kernel
set_option maxRecDepth 100000 in
set_option maxHeartbeats 4000000 in
theorem c_X2_weighNodes (E : qE) (q0 : Nat) (q1 : Nat) (q2 : Nat) (q3 : Nat) (q4 : Nat) (q5 : Nat) (q6 : Nat) (q7 : Nat) (q8 : Nat) (q9 : Nat) (q10 : Nat) (q11 : Nat) (q12 : Nat) (q13 : Nat) (q14 : Nat) (pa : Int → Int) (vb : Int → Int) (cd : Int → Int) (cn : Int → Int) (xc : Int → Int) (xw : Int → Int) (sa : Int → Int) (ph : Int → Int) (xm : Int → Int) (xa : Int → Int) (tg : Int → Int) (xt : Int → Int) (xn : Int → Int) (xv : Int → Int) (nd : Int) (xr : Int) (al : Int) (hnd : 1 ≤ nd ∧ nd ≤ 97) (hvb : ∀ k, 0 ≤ vb k ∧ vb k < 3) (hcd : ∀ k, 0 ≤ cd k ∧ cd k < 4) (hpa : ∀ k, 1 ≤ k → k < nd → 0 ≤ pa k ∧ pa k < k) : Cn E yX2_weighNodes wsX2_weighNodes { frames := 1, cells := 0, slots := 0, locals := 24 } [.ref q0] [(q0, .inr (2, [.ref q1, .ref q2, .ref q3, .ref q4, .ref q5, .ref q6, .ref q7, .ref q8, .ref q9, .ref q10, .ref q11, .ref q12, .ref q13, .ref q14, .int (iI nd), .int (iI xr), .int (iI al)])), (q1, ia E 97 pa), (q2, ia E 97 vb), (q3, ia E 97 cd), (q4, ia E 291 cn), (q5, ia E 12 xc), (q6, ia E 97 xw), (q7, ia E 97 sa), (q8, ia E 97 ph), (q9, ia E 97 xm), (q10, ia E 97 xa), (q11, ia E 12 tg), (q12, ia E 1164 xt), (q13, ia E 12 xn), (q14, ia E 12 xv)] (fun v9 w9 => ∃ (xc1 : Int → Int) (xw1 : Int → Int), v9 = none ∧ w9 = [(q0, .inr (2, [.ref q1, .ref q2, .ref q3, .ref q4, .ref q5, .ref q6, .ref q7, .ref q8, .ref q9, .ref q10, .ref q11, .ref q12, .ref q13, .ref q14, .int (iI nd), .int (iI xr), .int (iI al)])), (q1, ia E 97 pa), (q2, ia E 97 vb), (q3, ia E 97 cd), (q4, ia E 291 cn), (q5, ia E 12 xc1), (q6, ia E 97 xw1), (q7, ia E 97 sa), (q8, ia E 97 ph), (q9, ia E 97 xm), (q10, ia E 97 xa), (q11, ia E 12 tg), (q12, ia E 1164 xt), (q13, ia E 12 xn), (q14, ia E 12 xv)] ∧ (WtO xw1) ∧ (WgF pa vb cd nd xw1)) 0 0 := by
  refine Cn.ofP (own := RX2) (cc := cX2_weighNodes) (maxL := 2) (ret := none) false [(0, .ref q0)] (by decide +kernel) rfl rfl (Nat.le_of_ble_eq_true rfl) rfl (fun h => nomatch h) (fun v w h => by obtain ⟨xc1, xw1, rfl, h9⟩ := h; exact (rfl : (none : Option FieldType) = none)) ?_
  intro P G
  refine g_aload_n G 0 dX2_weighNodes_0 rfl ?_
  refine g_get G 0 4 dX2_weighNodes_1 i_X2_weighNodes_X2 f_X2_weighNodes_24 rfl rfl (by decide) rfl ?_
  refine g_iconst G dX2_weighNodes_4 ?_
  refine g_callS G [5] [0, 1, 2, 3, 4, 6, 7, 8, 9, 10, 11, 12, 13, 14] 15 [(q0, .inr (2, [.ref q1, .ref q2, .ref q3, .ref q4, .ref q5, .ref q6, .ref q7, .ref q8, .ref q9, .ref q10, .ref q11, .ref q12, .ref q13, .ref q14, .int (iI nd), .int (iI xr), .int (iI al)])), (q1, ia E 97 pa), (q2, ia E 97 vb), (q3, ia E 97 cd), (q4, ia E 291 cn), (q6, ia E 97 xw), (q7, ia E 97 sa), (q8, ia E 97 ph), (q9, ia E 97 xm), (q10, ia E 97 xa), (q11, ia E 12 tg), (q12, ia E 1164 xt), (q13, ia E 12 xn), (q14, ia E 12 xv)] [.ref q5, .int (iI 0)] [] (c_J7_fill_53178 E q5 12 xc 0 (by first | assumption | omega)) dX2_weighNodes_5 gX2_weighNodes_J7_fill_53178 ⟨rfl, ⟨rfl, rfl⟩, e_J7_fill_53178, ⟨Nat.le_of_ble_eq_true rfl, Nat.le_of_ble_eq_true rfl⟩, Nat.le_of_ble_eq_true rfl, Nat.le_of_ble_eq_true rfl, Nat.le_of_ble_eq_true rfl⟩ rfl (by decide +kernel) rfl (by decide +kernel) rfl (fun v9 w9 h9 => ?_)
  obtain ⟨o1, rfl, rfl, rfl⟩ := h9
  refine ⟨[(q0, .inr (2, [.ref q1, .ref q2, .ref q3, .ref q4, .ref q5, .ref q6, .ref q7, .ref q8, .ref q9, .ref q10, .ref q11, .ref q12, .ref q13, .ref q14, .int (iI nd), .int (iI xr), .int (iI al)])), (q1, ia E 97 pa), (q2, ia E 97 vb), (q3, ia E 97 cd), (q4, ia E 291 cn), (q5, ia E 12 (fiI xc 12 0)), (q6, ia E 97 xw), (q7, ia E 97 sa), (q8, ia E 97 ph), (q9, ia E 97 xm), (q10, ia E 97 xa), (q11, ia E 12 tg), (q12, ia E 1164 xt), (q13, ia E 12 xn), (q14, ia E 12 xv)], ⟨rfl, rfl, rfl, rfl⟩, g_to 0 0 _ _ [] rfl rfl rfl rfl rfl ?_⟩
  refine g_aload_n G 0 dX2_weighNodes_8 rfl ?_
  refine g_get G 0 5 dX2_weighNodes_9 i_X2_weighNodes_X2 f_X2_weighNodes_27 rfl rfl (by decide) rfl ?_
  refine g_iconst G dX2_weighNodes_12 ?_
  refine g_callS G [6] [0, 1, 2, 3, 4, 5, 7, 8, 9, 10, 11, 12, 13, 14] 15 [(q0, .inr (2, [.ref q1, .ref q2, .ref q3, .ref q4, .ref q5, .ref q6, .ref q7, .ref q8, .ref q9, .ref q10, .ref q11, .ref q12, .ref q13, .ref q14, .int (iI nd), .int (iI xr), .int (iI al)])), (q1, ia E 97 pa), (q2, ia E 97 vb), (q3, ia E 97 cd), (q4, ia E 291 cn), (q5, ia E 12 (fiI xc 12 0)), (q7, ia E 97 sa), (q8, ia E 97 ph), (q9, ia E 97 xm), (q10, ia E 97 xa), (q11, ia E 12 tg), (q12, ia E 1164 xt), (q13, ia E 12 xn), (q14, ia E 12 xv)] [.ref q6, .int (iI 0)] [] (c_J7_fill_53178 E q6 97 xw 0 (by first | assumption | omega)) dX2_weighNodes_13 gX2_weighNodes_J7_fill_53178 ⟨rfl, ⟨rfl, rfl⟩, e_J7_fill_53178, ⟨Nat.le_of_ble_eq_true rfl, Nat.le_of_ble_eq_true rfl⟩, Nat.le_of_ble_eq_true rfl, Nat.le_of_ble_eq_true rfl, Nat.le_of_ble_eq_true rfl⟩ rfl (by decide +kernel) rfl (by decide +kernel) rfl (fun v9 w9 h9 => ?_)
  obtain ⟨o2, rfl, rfl, rfl⟩ := h9
  refine ⟨[(q0, .inr (2, [.ref q1, .ref q2, .ref q3, .ref q4, .ref q5, .ref q6, .ref q7, .ref q8, .ref q9, .ref q10, .ref q11, .ref q12, .ref q13, .ref q14, .int (iI nd), .int (iI xr), .int (iI al)])), (q1, ia E 97 pa), (q2, ia E 97 vb), (q3, ia E 97 cd), (q4, ia E 291 cn), (q5, ia E 12 (fiI xc 12 0)), (q6, ia E 97 (fiI xw 97 0)), (q7, ia E 97 sa), (q8, ia E 97 ph), (q9, ia E 97 xm), (q10, ia E 97 xa), (q11, ia E 12 tg), (q12, ia E 1164 xt), (q13, ia E 12 xn), (q14, ia E 12 xv)], ⟨rfl, rfl, rfl, rfl⟩, g_to 0 0 _ _ [] rfl rfl rfl rfl rfl ?_⟩
  refine g_iconst G dX2_weighNodes_16 ?_
  refine g_istore_n G [(0, .ref q0), (1, .int (iI 1))] dX2_weighNodes_17 (by decide) rfl rfl ?_
  have L18 : ∀ (fuel : Nat), ∀ (k : Int) (xc1 : Int → Int), (1 ≤ k ∧ k ≤ nd) → (∀ j, 0 ≤ j → j < 12 → xc1 j = cA (fun i => vb (i + 1) * 4 + cd (i + 1)) j (k - 1).toNat) → (nd - k : Int).toNat < fuel → P 0 0 [(q0, .inr (2, [.ref q1, .ref q2, .ref q3, .ref q4, .ref q5, .ref q6, .ref q7, .ref q8, .ref q9, .ref q10, .ref q11, .ref q12, .ref q13, .ref q14, .int (iI nd), .int (iI xr), .int (iI al)])), (q1, ia E 97 pa), (q2, ia E 97 vb), (q3, ia E 97 cd), (q4, ia E 291 cn), (q5, ia E 12 xc1), (q6, ia E 97 (fiI xw 97 0)), (q7, ia E 97 sa), (q8, ia E 97 ph), (q9, ia E 97 xm), (q10, ia E 97 xa), (q11, ia E 12 tg), (q12, ia E 1164 xt), (q13, ia E 12 xn), (q14, ia E 12 xv)] 18 [(0, .ref q0), (1, .int (iI k))] [] := by
    intro fuel
    induction fuel with
    | zero => intro k xc1 hk hKk hm; exact absurd hm (Nat.not_lt_zero _)
    | succ fuel ih18 =>
      intro k xc1 hk hKk hm
      refine g_iload_n G 1 dX2_weighNodes_18 rfl ?_
      refine g_aload_n G 0 dX2_weighNodes_19 rfl ?_
      refine g_get G 0 14 dX2_weighNodes_20 i_X2_weighNodes_X2 f_X2_weighNodes_67 rfl rfl (by decide) rfl ?_
      refine g_icmp_ge G 56 dX2_weighNodes_23 (by decide) (by omega) (by omega) (fun c23 => ?_) (fun c23 => ?_)
      · have hKc : KcO vb cd nd xc1 := by unfold KcO; rw [(show nd = k by omega)]; exact hKk
        refine g_aload_n G 0 dX2_weighNodes_56 rfl ?_
        refine g_get G 0 14 dX2_weighNodes_57 i_X2_weighNodes_X2 f_X2_weighNodes_67 rfl rfl (by decide) rfl ?_
        refine g_iconst G dX2_weighNodes_60 ?_
        refine g_isub G dX2_weighNodes_61 ?_
        refine g_istore_n G [(0, .ref q0), (1, .int (iI (nd - 1)))] dX2_weighNodes_62 (by decide) rfl rfl ?_
        have L63 : ∀ (fuel : Nat), ∀ (k : Int) (xw1 : Int → Int), (0 ≤ k ∧ k < nd) → (WgL pa vb cd nd xc1 xw1 k) → (k : Int).toNat < fuel → P 0 0 [(q0, .inr (2, [.ref q1, .ref q2, .ref q3, .ref q4, .ref q5, .ref q6, .ref q7, .ref q8, .ref q9, .ref q10, .ref q11, .ref q12, .ref q13, .ref q14, .int (iI nd), .int (iI xr), .int (iI al)])), (q1, ia E 97 pa), (q2, ia E 97 vb), (q3, ia E 97 cd), (q4, ia E 291 cn), (q5, ia E 12 xc1), (q6, ia E 97 xw1), (q7, ia E 97 sa), (q8, ia E 97 ph), (q9, ia E 97 xm), (q10, ia E 97 xa), (q11, ia E 12 tg), (q12, ia E 1164 xt), (q13, ia E 12 xn), (q14, ia E 12 xv)] 63 [(0, .ref q0), (1, .int (iI k))] [] := by
          intro fuel
          induction fuel with
          | zero => intro k xw1 hk2 hGk hm; exact absurd hm (Nat.not_lt_zero _)
          | succ fuel ih63 =>
            intro k xw1 hk2 hGk hm
            refine g_iload_n G 1 dX2_weighNodes_63 rfl ?_
            refine g_if_le G 114 dX2_weighNodes_64 (by decide) (by omega) (fun c64 => ?_) (fun c64 => ?_)
            · exact g_ret G none rfl dX2_weighNodes_114 (Nat.le_refl _) (Nat.le_refl _) ⟨xc1, xw1, rfl, rfl, by exact (WgL.fin hKc hGk (by omega) hnd).1, by exact (WgL.fin hKc hGk (by omega) hnd).2⟩
            · have hwb := WgL.bd hGk ⟨by omega, by omega⟩ hnd.2
              have hpk := hpa k (by omega) (by omega)
              have hvk := hvb k
              have hck := hcd k
              have hra := rar_bd hKc hnd hvk hck
              refine g_aload_n G 0 dX2_weighNodes_67 rfl ?_
              refine g_get G 0 5 dX2_weighNodes_68 i_X2_weighNodes_X2 f_X2_weighNodes_27 rfl rfl (by decide) rfl ?_
              refine g_aload_n G 0 dX2_weighNodes_71 rfl ?_
              refine g_get G 0 0 dX2_weighNodes_72 i_X2_weighNodes_X2 f_X2_weighNodes_11 rfl rfl (by decide) rfl ?_
              refine g_iload_n G 1 dX2_weighNodes_75 rfl ?_
              refine g_iald G 1 dX2_weighNodes_76 rfl (by omega) (by omega) (by decide) ?_
              refine g_dup2 G dX2_weighNodes_77 rfl rfl ?_
              refine g_iald G 6 dX2_weighNodes_78 rfl (by omega) (by omega) (by decide) ?_
              refine g_aload_n G 0 dX2_weighNodes_79 rfl ?_
              refine g_aload_n G 0 dX2_weighNodes_80 rfl ?_
              refine g_get G 0 1 dX2_weighNodes_81 i_X2_weighNodes_X2 f_X2_weighNodes_15 rfl rfl (by decide) rfl ?_
              refine g_iload_n G 1 dX2_weighNodes_84 rfl ?_
              refine g_iald G 2 dX2_weighNodes_85 rfl (by omega) (by omega) (by decide) ?_
              refine g_aload_n G 0 dX2_weighNodes_86 rfl ?_
              refine g_get G 0 2 dX2_weighNodes_87 i_X2_weighNodes_X2 f_X2_weighNodes_18 rfl rfl (by decide) rfl ?_
              refine g_iload_n G 1 dX2_weighNodes_90 rfl ?_
              refine g_iald G 3 dX2_weighNodes_91 rfl (by omega) (by omega) (by decide) ?_
              refine g_callV G [0, 1, 2, 3, 4, 5, 6, 7, 8, 9, 10, 11, 12, 13, 14] [] 15 [] [.int (iI (vb k)), .int (iI (cd k))] [.int (iI (xw1 (pa k))), .int (iI (pa k)), .ref q6] (c_X2_rarity E q0 q1 q2 q3 q4 q5 q6 q7 q8 q9 q10 q11 q12 q13 q14 pa vb cd cn xc1 xw1 sa ph xm xa tg xt xn xv nd xr al (vb k) (cd k) (by exact hnd) (by exact hvk) (by exact hck) (by exact hKc)) dX2_weighNodes_92 gX2_weighNodes_X2_rarity ⟨rfl, ⟨rfl, rfl⟩, e_X2_rarity, ⟨Nat.le_of_ble_eq_true rfl, Nat.le_of_ble_eq_true rfl⟩, Nat.le_of_ble_eq_true rfl, Nat.le_of_ble_eq_true rfl, Nat.le_of_ble_eq_true rfl⟩ rfl rfl rfl rfl rfl (by decide +kernel) rfl (by decide +kernel) rfl (fun v9 w9 h9 => ?_)
              obtain ⟨o3, rfl, rfl, rfl⟩ := h9
              refine ⟨[(q0, .inr (2, [.ref q1, .ref q2, .ref q3, .ref q4, .ref q5, .ref q6, .ref q7, .ref q8, .ref q9, .ref q10, .ref q11, .ref q12, .ref q13, .ref q14, .int (iI nd), .int (iI xr), .int (iI al)])), (q1, ia E 97 pa), (q2, ia E 97 vb), (q3, ia E 97 cd), (q4, ia E 291 cn), (q5, ia E 12 xc1), (q6, ia E 97 xw1), (q7, ia E 97 sa), (q8, ia E 97 ph), (q9, ia E 97 xm), (q10, ia E 97 xa), (q11, ia E 12 tg), (q12, ia E 1164 xt), (q13, ia E 12 xn), (q14, ia E 12 xv)], ⟨rfl, rfl, rfl, rfl⟩, g_to 0 0 _ _ [.int (iI (rarI xc1 (vb k) (cd k))), .int (iI (xw1 (pa k))), .int (iI (pa k)), .ref q6] rfl rfl rfl rfl rfl ?_⟩
              refine g_aload_n G 0 dX2_weighNodes_95 rfl ?_
              refine g_get G 0 5 dX2_weighNodes_96 i_X2_weighNodes_X2 f_X2_weighNodes_27 rfl rfl (by decide) rfl ?_
              refine g_iload_n G 1 dX2_weighNodes_99 rfl ?_
              refine g_iald G 6 dX2_weighNodes_100 rfl (by omega) (by omega) (by decide) ?_
              refine g_iconst G dX2_weighNodes_101 ?_
              refine g_imul G dX2_weighNodes_102 ?_
              refine g_iconst G dX2_weighNodes_103 ?_
              refine g_idiv G dX2_weighNodes_104 (by omega) (by omega) (by omega) (by omega) ?_
              refine g_iadd G dX2_weighNodes_105 ?_
              refine g_iadd G dX2_weighNodes_106 ?_
              refine g_iast G 6 [(q0, .inr (2, [.ref q1, .ref q2, .ref q3, .ref q4, .ref q5, .ref q6, .ref q7, .ref q8, .ref q9, .ref q10, .ref q11, .ref q12, .ref q13, .ref q14, .int (iI nd), .int (iI xr), .int (iI al)])), (q1, ia E 97 pa), (q2, ia E 97 vb), (q3, ia E 97 cd), (q4, ia E 291 cn), (q5, ia E 12 xc1), (q6, ia E 97 (upI xw1 (pa k) ((xw1 (pa k)) + ((rarI xc1 (vb k) (cd k)) + (((xw1 k) * 2) / 3))))), (q7, ia E 97 sa), (q8, ia E 97 ph), (q9, ia E 97 xm), (q10, ia E 97 xa), (q11, ia E 12 tg), (q12, ia E 1164 xt), (q13, ia E 12 xn), (q14, ia E 12 xv)] dX2_weighNodes_107 rfl (by omega) (by omega) (by decide) rfl ?_
              refine g_iinc G 1 [(0, .ref q0), (1, .int (iI (k + (-1))))] dX2_weighNodes_108 rfl (by decide) rfl rfl ?_
              refine g_goto G 63 dX2_weighNodes_111 (by decide) ?_
              exact ih63 (k + (-1)) (upI xw1 (pa k) ((xw1 (pa k)) + ((rarI xc1 (vb k) (cd k)) + (((xw1 k) * 2) / 3)))) (by first | assumption | omega) (by rw [(show k + (-1) = k - 1 by omega)]; exact WgL.next hGk hnd.2 (by omega) hpk hpa hra) (by omega)
        exact L63 (((nd - 1) : Int).toNat + 1) (nd - 1) (fiI xw 97 0) (by first | assumption | omega) (by exact WgL.init _ _) (by omega)
      · have hvk := hvb k
        have hck := hcd k
        refine g_aload_n G 0 dX2_weighNodes_26 rfl ?_
        refine g_get G 0 4 dX2_weighNodes_27 i_X2_weighNodes_X2 f_X2_weighNodes_24 rfl rfl (by decide) rfl ?_
        refine g_aload_n G 0 dX2_weighNodes_30 rfl ?_
        refine g_get G 0 1 dX2_weighNodes_31 i_X2_weighNodes_X2 f_X2_weighNodes_15 rfl rfl (by decide) rfl ?_
        refine g_iload_n G 1 dX2_weighNodes_34 rfl ?_
        refine g_iald G 2 dX2_weighNodes_35 rfl (by omega) (by omega) (by decide) ?_
        refine g_iconst G dX2_weighNodes_36 ?_
        refine g_imul G dX2_weighNodes_37 ?_
        refine g_aload_n G 0 dX2_weighNodes_38 rfl ?_
        refine g_get G 0 2 dX2_weighNodes_39 i_X2_weighNodes_X2 f_X2_weighNodes_18 rfl rfl (by decide) rfl ?_
        refine g_iload_n G 1 dX2_weighNodes_42 rfl ?_
        refine g_iald G 3 dX2_weighNodes_43 rfl (by omega) (by omega) (by decide) ?_
        refine g_iadd G dX2_weighNodes_44 ?_
        refine g_dup2 G dX2_weighNodes_45 rfl rfl ?_
        refine g_iald G 5 dX2_weighNodes_46 rfl (by omega) (by omega) (by decide) ?_
        refine g_iconst G dX2_weighNodes_47 ?_
        refine g_iadd G dX2_weighNodes_48 ?_
        refine g_iast G 5 [(q0, .inr (2, [.ref q1, .ref q2, .ref q3, .ref q4, .ref q5, .ref q6, .ref q7, .ref q8, .ref q9, .ref q10, .ref q11, .ref q12, .ref q13, .ref q14, .int (iI nd), .int (iI xr), .int (iI al)])), (q1, ia E 97 pa), (q2, ia E 97 vb), (q3, ia E 97 cd), (q4, ia E 291 cn), (q5, ia E 12 (upI xc1 (((vb k) * 4) + (cd k)) ((xc1 (((vb k) * 4) + (cd k))) + 1))), (q6, ia E 97 (fiI xw 97 0)), (q7, ia E 97 sa), (q8, ia E 97 ph), (q9, ia E 97 xm), (q10, ia E 97 xa), (q11, ia E 12 tg), (q12, ia E 1164 xt), (q13, ia E 12 xn), (q14, ia E 12 xv)] dX2_weighNodes_49 rfl (by omega) (by omega) (by decide) rfl ?_
        refine g_iinc G 1 [(0, .ref q0), (1, .int (iI (k + 1)))] dX2_weighNodes_50 rfl (by decide) rfl rfl ?_
        refine g_goto G 18 dX2_weighNodes_53 (by decide) ?_
        exact ih18 (k + 1) (upI xc1 (((vb k) * 4) + (cd k)) ((xc1 (((vb k) * 4) + (cd k))) + 1)) (by first | assumption | omega) (by exact KcO.next hk.1 hKk) (by omega)
  exact L18 ((nd - 1 : Int).toNat + 1) 1 (fiI xc 12 0) (by first | assumption | omega) (by exact KcO.init _) (by omega)
theorem f_X2_startMoves_42 : Cond.fieldLink RX2 42 (TX2 10).1 (TX2 10).2.1 (TX2 10).2.2.1 ∈ wsX2_startMoves := by decide +kernel
theorem i_X2_startMoves_X2 : ∀ w ∈ wsX20, w ∈ wsX2_startMoves := by decide +kernel
theorem f_X2_startMoves_48 : Cond.fieldLink RX2 48 (TX2 12).1 (TX2 12).2.1 (TX2 12).2.2.1 ∈ wsX2_startMoves := by decide +kernel
theorem f_X2_startMoves_51 : Cond.fieldLink RX2 51 (TX2 13).1 (TX2 13).2.1 (TX2 13).2.2.1 ∈ wsX2_startMoves := by decide +kernel
theorem f_X2_startMoves_124 : Cond.fieldLink RX2 124 (TX2 15).1 (TX2 15).2.1 (TX2 15).2.2.1 ∈ wsX2_startMoves := by decide +kernel
set_option maxRecDepth 100000 in
set_option maxHeartbeats 4000000 in
theorem c_X2_startMoves (E : qE) (q0 : Nat) (q1 : Nat) (q2 : Nat) (q3 : Nat) (q4 : Nat) (q5 : Nat) (q6 : Nat) (q7 : Nat) (q8 : Nat) (q9 : Nat) (q10 : Nat) (q11 : Nat) (q12 : Nat) (q13 : Nat) (q14 : Nat) (pa : Int → Int) (vb : Int → Int) (cd : Int → Int) (cn : Int → Int) (xc : Int → Int) (xw : Int → Int) (sa : Int → Int) (ph : Int → Int) (xm : Int → Int) (xa : Int → Int) (tg : Int → Int) (xt : Int → Int) (xn : Int → Int) (xv : Int → Int) (nd : Int) (xr : Int) (al : Int) (hnd : 1 ≤ nd ∧ nd ≤ 97) (hvb : ∀ k, 0 ≤ vb k ∧ vb k < 3) (hcd : ∀ k, 0 ≤ cd k ∧ cd k < 4) (hpa : ∀ k, 1 ≤ k → k < nd → 0 ≤ pa k ∧ pa k < k) (hk : TrC pa vb cn nd) : Cn E yX2_startMoves wsX2_startMoves { frames := 1, cells := 0, slots := 0, locals := 27 } [.ref q0] [(q0, .inr (2, [.ref q1, .ref q2, .ref q3, .ref q4, .ref q5, .ref q6, .ref q7, .ref q8, .ref q9, .ref q10, .ref q11, .ref q12, .ref q13, .ref q14, .int (iI nd), .int (iI xr), .int (iI al)])), (q1, ia E 97 pa), (q2, ia E 97 vb), (q3, ia E 97 cd), (q4, ia E 291 cn), (q5, ia E 12 xc), (q6, ia E 97 xw), (q7, ia E 97 sa), (q8, ia E 97 ph), (q9, ia E 97 xm), (q10, ia E 97 xa), (q11, ia E 12 tg), (q12, ia E 1164 xt), (q13, ia E 12 xn), (q14, ia E 12 xv)] (fun v9 w9 => ∃ (xm1 : Int → Int) (xa1 : Int → Int) (xt1 : Int → Int) (xn1 : Int → Int) (xv1 : Int → Int) (xr1 : Int), v9 = none ∧ w9 = [(q0, .inr (2, [.ref q1, .ref q2, .ref q3, .ref q4, .ref q5, .ref q6, .ref q7, .ref q8, .ref q9, .ref q10, .ref q11, .ref q12, .ref q13, .ref q14, .int (iI nd), .int (iI xr1), .int (iI al)])), (q1, ia E 97 pa), (q2, ia E 97 vb), (q3, ia E 97 cd), (q4, ia E 291 cn), (q5, ia E 12 xc), (q6, ia E 97 xw), (q7, ia E 97 (upI sa 0 0)), (q8, ia E 97 (upI ph 0 0)), (q9, ia E 97 xm1), (q10, ia E 97 xa1), (q11, ia E 12 (fun _ => -1)), (q12, ia E 1164 xt1), (q13, ia E 12 xn1), (q14, ia E 12 xv1)] ∧ (ArS nd xw xm1 xa1 xt1 xn1 xv1 xr1) ∧ (ArL pa vb cd nd (fun _ => -1) (upI sa 0 0) xm1 xa1 xr1 1 (fun k => k = 0) nPd)) 0 0 := by
  refine Cn.ofP (own := RX2) (cc := cX2_startMoves) (maxL := 1) (ret := none) false [(0, .ref q0)] (by decide +kernel) rfl rfl (Nat.le_of_ble_eq_true rfl) rfl (fun h => nomatch h) (fun v w h => by obtain ⟨xm1, xa1, xt1, xn1, xv1, xr1, rfl, h9⟩ := h; exact (rfl : (none : Option FieldType) = none)) ?_
  intro P G
  refine g_aload_n G 0 dX2_startMoves_0 rfl ?_
  refine g_get G 0 10 dX2_startMoves_1 i_X2_startMoves_X2 f_X2_startMoves_42 rfl rfl (by decide) rfl ?_
  refine g_iconst G dX2_startMoves_4 ?_
  refine g_callS G [11] [0, 1, 2, 3, 4, 5, 6, 7, 8, 9, 10, 12, 13, 14] 15 [(q0, .inr (2, [.ref q1, .ref q2, .ref q3, .ref q4, .ref q5, .ref q6, .ref q7, .ref q8, .ref q9, .ref q10, .ref q11, .ref q12, .ref q13, .ref q14, .int (iI nd), .int (iI xr), .int (iI al)])), (q1, ia E 97 pa), (q2, ia E 97 vb), (q3, ia E 97 cd), (q4, ia E 291 cn), (q5, ia E 12 xc), (q6, ia E 97 xw), (q7, ia E 97 sa), (q8, ia E 97 ph), (q9, ia E 97 xm), (q10, ia E 97 xa), (q12, ia E 1164 xt), (q13, ia E 12 xn), (q14, ia E 12 xv)] [.ref q11, .int (iI (-1))] [] (c_J7_fill_53178 E q11 12 tg (-1) (by first | assumption | omega)) dX2_startMoves_5 gX2_startMoves_J7_fill_53178 ⟨rfl, ⟨rfl, rfl⟩, e_J7_fill_53178, ⟨Nat.le_of_ble_eq_true rfl, Nat.le_of_ble_eq_true rfl⟩, Nat.le_of_ble_eq_true rfl, Nat.le_of_ble_eq_true rfl, Nat.le_of_ble_eq_true rfl⟩ rfl (by decide +kernel) rfl (by decide +kernel) rfl (fun v9 w9 h9 => ?_)
  obtain ⟨o1, rfl, rfl, rfl⟩ := h9
  refine ⟨[(q0, .inr (2, [.ref q1, .ref q2, .ref q3, .ref q4, .ref q5, .ref q6, .ref q7, .ref q8, .ref q9, .ref q10, .ref q11, .ref q12, .ref q13, .ref q14, .int (iI nd), .int (iI xr), .int (iI al)])), (q1, ia E 97 pa), (q2, ia E 97 vb), (q3, ia E 97 cd), (q4, ia E 291 cn), (q5, ia E 12 xc), (q6, ia E 97 xw), (q7, ia E 97 sa), (q8, ia E 97 ph), (q9, ia E 97 xm), (q10, ia E 97 xa), (q11, ia E 12 (fiI tg 12 (-1))), (q12, ia E 1164 xt), (q13, ia E 12 xn), (q14, ia E 12 xv)], ⟨rfl, rfl, rfl, rfl⟩, g_to 0 0 _ _ [] rfl rfl rfl rfl rfl ?_⟩
  refine g_aload_n G 0 dX2_startMoves_8 rfl ?_
  refine g_get G 0 12 dX2_startMoves_9 i_X2_startMoves_X2 f_X2_startMoves_48 rfl rfl (by decide) rfl ?_
  refine g_iconst G dX2_startMoves_12 ?_
  refine g_callS G [13] [0, 1, 2, 3, 4, 5, 6, 7, 8, 9, 10, 11, 12, 14] 15 [(q0, .inr (2, [.ref q1, .ref q2, .ref q3, .ref q4, .ref q5, .ref q6, .ref q7, .ref q8, .ref q9, .ref q10, .ref q11, .ref q12, .ref q13, .ref q14, .int (iI nd), .int (iI xr), .int (iI al)])), (q1, ia E 97 pa), (q2, ia E 97 vb), (q3, ia E 97 cd), (q4, ia E 291 cn), (q5, ia E 12 xc), (q6, ia E 97 xw), (q7, ia E 97 sa), (q8, ia E 97 ph), (q9, ia E 97 xm), (q10, ia E 97 xa), (q11, ia E 12 (fiI tg 12 (-1))), (q12, ia E 1164 xt), (q14, ia E 12 xv)] [.ref q13, .int (iI 0)] [] (c_J7_fill_53178 E q13 12 xn 0 (by first | assumption | omega)) dX2_startMoves_13 gX2_startMoves_J7_fill_53178 ⟨rfl, ⟨rfl, rfl⟩, e_J7_fill_53178, ⟨Nat.le_of_ble_eq_true rfl, Nat.le_of_ble_eq_true rfl⟩, Nat.le_of_ble_eq_true rfl, Nat.le_of_ble_eq_true rfl, Nat.le_of_ble_eq_true rfl⟩ rfl (by decide +kernel) rfl (by decide +kernel) rfl (fun v9 w9 h9 => ?_)
  obtain ⟨o2, rfl, rfl, rfl⟩ := h9
  refine ⟨[(q0, .inr (2, [.ref q1, .ref q2, .ref q3, .ref q4, .ref q5, .ref q6, .ref q7, .ref q8, .ref q9, .ref q10, .ref q11, .ref q12, .ref q13, .ref q14, .int (iI nd), .int (iI xr), .int (iI al)])), (q1, ia E 97 pa), (q2, ia E 97 vb), (q3, ia E 97 cd), (q4, ia E 291 cn), (q5, ia E 12 xc), (q6, ia E 97 xw), (q7, ia E 97 sa), (q8, ia E 97 ph), (q9, ia E 97 xm), (q10, ia E 97 xa), (q11, ia E 12 (fiI tg 12 (-1))), (q12, ia E 1164 xt), (q13, ia E 12 (fiI xn 12 0)), (q14, ia E 12 xv)], ⟨rfl, rfl, rfl, rfl⟩, g_to 0 0 _ _ [] rfl rfl rfl rfl rfl ?_⟩
  refine g_aload_n G 0 dX2_startMoves_16 rfl ?_
  refine g_get G 0 13 dX2_startMoves_17 i_X2_startMoves_X2 f_X2_startMoves_51 rfl rfl (by decide) rfl ?_
  refine g_iconst G dX2_startMoves_20 ?_
  refine g_callS G [14] [0, 1, 2, 3, 4, 5, 6, 7, 8, 9, 10, 11, 12, 13] 15 [(q0, .inr (2, [.ref q1, .ref q2, .ref q3, .ref q4, .ref q5, .ref q6, .ref q7, .ref q8, .ref q9, .ref q10, .ref q11, .ref q12, .ref q13, .ref q14, .int (iI nd), .int (iI xr), .int (iI al)])), (q1, ia E 97 pa), (q2, ia E 97 vb), (q3, ia E 97 cd), (q4, ia E 291 cn), (q5, ia E 12 xc), (q6, ia E 97 xw), (q7, ia E 97 sa), (q8, ia E 97 ph), (q9, ia E 97 xm), (q10, ia E 97 xa), (q11, ia E 12 (fiI tg 12 (-1))), (q12, ia E 1164 xt), (q13, ia E 12 (fiI xn 12 0))] [.ref q14, .int (iI 0)] [] (c_J7_fill_53178 E q14 12 xv 0 (by first | assumption | omega)) dX2_startMoves_21 gX2_startMoves_J7_fill_53178 ⟨rfl, ⟨rfl, rfl⟩, e_J7_fill_53178, ⟨Nat.le_of_ble_eq_true rfl, Nat.le_of_ble_eq_true rfl⟩, Nat.le_of_ble_eq_true rfl, Nat.le_of_ble_eq_true rfl, Nat.le_of_ble_eq_true rfl⟩ rfl (by decide +kernel) rfl (by decide +kernel) rfl (fun v9 w9 h9 => ?_)
  obtain ⟨o3, rfl, rfl, rfl⟩ := h9
  refine ⟨[(q0, .inr (2, [.ref q1, .ref q2, .ref q3, .ref q4, .ref q5, .ref q6, .ref q7, .ref q8, .ref q9, .ref q10, .ref q11, .ref q12, .ref q13, .ref q14, .int (iI nd), .int (iI xr), .int (iI al)])), (q1, ia E 97 pa), (q2, ia E 97 vb), (q3, ia E 97 cd), (q4, ia E 291 cn), (q5, ia E 12 xc), (q6, ia E 97 xw), (q7, ia E 97 sa), (q8, ia E 97 ph), (q9, ia E 97 xm), (q10, ia E 97 xa), (q11, ia E 12 (fiI tg 12 (-1))), (q12, ia E 1164 xt), (q13, ia E 12 (fiI xn 12 0)), (q14, ia E 12 (fiI xv 12 0))], ⟨rfl, rfl, rfl, rfl⟩, g_to 0 0 _ _ [] rfl rfl rfl rfl rfl ?_⟩
  refine g_norm G 11 (fun _ => -1) [(q0, .inr (2, [.ref q1, .ref q2, .ref q3, .ref q4, .ref q5, .ref q6, .ref q7, .ref q8, .ref q9, .ref q10, .ref q11, .ref q12, .ref q13, .ref q14, .int (iI nd), .int (iI xr), .int (iI al)])), (q1, ia E 97 pa), (q2, ia E 97 vb), (q3, ia E 97 cd), (q4, ia E 291 cn), (q5, ia E 12 xc), (q6, ia E 97 xw), (q7, ia E 97 sa), (q8, ia E 97 ph), (q9, ia E 97 xm), (q10, ia E 97 xa), (q11, ia E 12 (fun _ => -1)), (q12, ia E 1164 xt), (q13, ia E 12 (fiI xn 12 0)), (q14, ia E 12 (fiI xv 12 0))] rfl (by intro j h0 h1; unfold fiI; rw [if_pos (by omega)]) rfl ?_
  refine g_aload_n G 0 dX2_startMoves_24 rfl ?_
  refine g_iconst G dX2_startMoves_25 ?_
  refine g_put G 0 15 [(q0, .inr (2, [.ref q1, .ref q2, .ref q3, .ref q4, .ref q5, .ref q6, .ref q7, .ref q8, .ref q9, .ref q10, .ref q11, .ref q12, .ref q13, .ref q14, .int (iI nd), .int (iI 0), .int (iI al)])), (q1, ia E 97 pa), (q2, ia E 97 vb), (q3, ia E 97 cd), (q4, ia E 291 cn), (q5, ia E 12 xc), (q6, ia E 97 xw), (q7, ia E 97 sa), (q8, ia E 97 ph), (q9, ia E 97 xm), (q10, ia E 97 xa), (q11, ia E 12 (fun _ => -1)), (q12, ia E 1164 xt), (q13, ia E 12 (fiI xn 12 0)), (q14, ia E 12 (fiI xv 12 0))] dX2_startMoves_26 i_X2_startMoves_X2 f_X2_startMoves_124 tyX2_ok nmX2 rfl rfl (by decide) rfl rfl rfl rfl (Nat.le_of_ble_eq_true rfl) rfl ?_
  refine g_aload_n G 0 dX2_startMoves_29 rfl ?_
  refine g_iconst G dX2_startMoves_30 ?_
  refine g_iconst G dX2_startMoves_31 ?_
  refine g_iconst G dX2_startMoves_32 ?_
  refine g_callV G [0, 1, 2, 3, 4, 5, 6, 7, 8, 9, 10, 11, 12, 13, 14] [] 15 [] [.int (iI 0), .int (iI 0), .int (iI 0)] [] (c_X2_enter E q0 q1 q2 q3 q4 q5 q6 q7 q8 q9 q10 q11 q12 q13 q14 pa vb cd cn xc xw sa ph xm xa (fun _ => -1) xt (fiI xn 12 0) (fiI xv 12 0) nd 0 al 0 0 0 1 (fun k => k = 0) (by first | assumption | omega) (by first | assumption | omega) (by first | assumption | omega) (by first | assumption | omega) (by exact hk) (by omega) (by omega) (by exact (rfl : (0 : Int) = 0)) (by exact ArS.zero _ _ _ _ _ (fun j j0 j1 => ⟨if_pos ⟨j0, j1⟩, if_pos ⟨j0, j1⟩⟩)) (by exact ArL.root hvb _ _ _) (by rintro k k0 k1 hp hv9 ⟨i, hi, e9⟩; omega)) dX2_startMoves_33 gX2_startMoves_X2_enter ⟨rfl, ⟨rfl, rfl⟩, e_X2_enter, ⟨Nat.le_of_ble_eq_true rfl, Nat.le_of_ble_eq_true rfl⟩, Nat.le_of_ble_eq_true rfl, Nat.le_of_ble_eq_true rfl, Nat.le_of_ble_eq_true rfl⟩ rfl rfl rfl rfl rfl (by decide +kernel) rfl (by decide +kernel) rfl (fun v9 w9 h9 => ?_)
  obtain ⟨r2, xm2, xa2, xt2, xn2, xv2, xr2, rfl, rfl, hE2, hg2⟩ := h9
  refine ⟨[(q0, .inr (2, [.ref q1, .ref q2, .ref q3, .ref q4, .ref q5, .ref q6, .ref q7, .ref q8, .ref q9, .ref q10, .ref q11, .ref q12, .ref q13, .ref q14, .int (iI nd), .int (iI xr2), .int (iI al)])), (q1, ia E 97 pa), (q2, ia E 97 vb), (q3, ia E 97 cd), (q4, ia E 291 cn), (q5, ia E 12 xc), (q6, ia E 97 xw), (q7, ia E 97 (upI sa 0 0)), (q8, ia E 97 (upI ph 0 0)), (q9, ia E 97 xm2), (q10, ia E 97 xa2), (q11, ia E 12 (fun _ => -1)), (q12, ia E 1164 xt2), (q13, ia E 12 xn2), (q14, ia E 12 xv2)], ⟨rfl, rfl, rfl, rfl⟩, g_to 0 0 _ _ [.int (iI r2)] rfl rfl rfl rfl rfl ?_⟩
  refine g_pop G dX2_startMoves_36 rfl ?_
  exact g_ret G none rfl dX2_startMoves_37 (Nat.le_refl _) (Nat.le_refl _) ⟨xm2, xa2, xt2, xn2, xv2, xr2, rfl, rfl, by exact (EnR.root hk hE2).1, by exact (EnR.root hk hE2).2⟩
