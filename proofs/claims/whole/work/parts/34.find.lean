/-- what turning back leaves: nothing is left; or the search at another place, farther -/
def TbR (ps vb cd : Int → Int) (la : Nat) (n : Int) (c ac co ut cs : Int → Int) (ch r : Int) (t1 cs1 : Int → Int) (ch1 us1 : Int) : Prop :=
  (r = -1 ∧ ∀ τ, ¬ SolP ps vb cd la n τ) ∨ ((0 < r ∧ r ≤ la) ∧ 0 < ch1 ∧ Srch ps vb cd la n t1 c ac co cs1 ut ch1 us1 r ∧ stt ps vb t1 r.toNat = (if ps r = 0 then 0 else cs1 (ch1 - 1)) ∧ loN cs ch.toNat < loN cs1 ch1.toNat)
theorem TbR.mk {ps vb cd t c ac co cs ut : Int → Int} {la : Nat} {n k ch us2 : Int} (h : Stk ps vb cd la n t c ac co cs ut (k + 1)) (hk : 0 ≤ k) (hno : NoAll ps vb cd la n t co (k + 1)) (hx : cs k + 1 < ut k ∨ cs k + 1 = ut k ∧ cs k + 1 < n) (hus : (cs k + 1 = ut k → us2 = cs k + 1 + 1) ∧ (cs k + 1 ≠ ut k → us2 = ut k)) (hc : k + 1 ≤ ch) (hn : n ≤ 4) {f : Int → Prop} (h3 : ∀ j, 0 ≤ j ∧ j < ch → (0 ≤ co j ∧ co j < 12) ∧ f j ∧ (0 ≤ cs j ∧ cs j < n) ∧ cs j ≤ ut j ∧ 1 ≤ ut j ∧ ut j ≤ n ∧ 0 ≤ ac j ∧ ac j < la) (h12 : 0 ≤ ch ∧ ch ≤ 12) : TbR ps vb cd la n c ac co ut cs ch (ac k + 1) (upI t (co k) (cs k + 1)) (upI cs k (cs k + 1)) (k + 1) us2 := by
  obtain ⟨r1, r2⟩ := h.resume hk hno hx hus
  have a3 := h3 k (by omega)
  refine Or.inr ⟨by omega, by omega, r1, ?_, ?_⟩
  · rw [r2, (show k + 1 - 1 = k by omega), upI_same]
  · have := loN_inc (cs := cs) (k := k.toNat) (ch := ch.toNat) (by omega) (by omega) (fun j hj => by have := h3 j (by omega); omega)
    rw [(show ((k.toNat : Nat) : Int) = k by omega)] at this
    rw [(show (k + 1).toNat = k.toNat + 1 by omega)]
    exact this
theorem f_X10_turnsBack_99 : Cond.fieldLink RX10 99 (TX10 13).1 (TX10 13).2.1 (TX10 13).2.2.1 ∈ wsX10_turnsBack := by decide +kernel
theorem i_X10_turnsBack_X10 : ∀ w ∈ wsX100, w ∈ wsX10_turnsBack := by decide +kernel
theorem f_X10_turnsBack_38 : Cond.fieldLink RX10 38 (TX10 11).1 (TX10 11).2.1 (TX10 11).2.2.1 ∈ wsX10_turnsBack := by decide +kernel
theorem f_X10_turnsBack_41 : Cond.fieldLink RX10 41 (TX10 12).1 (TX10 12).2.1 (TX10 12).2.2.1 ∈ wsX10_turnsBack := by decide +kernel
theorem f_X10_turnsBack_26 : Cond.fieldLink RX10 26 (TX10 7).1 (TX10 7).2.1 (TX10 7).2.2.1 ∈ wsX10_turnsBack := by decide +kernel
theorem f_X10_turnsBack_35 : Cond.fieldLink RX10 35 (TX10 10).1 (TX10 10).2.1 (TX10 10).2.2.1 ∈ wsX10_turnsBack := by decide +kernel
theorem f_X10_turnsBack_102 : Cond.fieldLink RX10 102 (TX10 14).1 (TX10 14).2.1 (TX10 14).2.2.1 ∈ wsX10_turnsBack := by decide +kernel
theorem f_X10_turnsBack_32 : Cond.fieldLink RX10 32 (TX10 9).1 (TX10 9).2.1 (TX10 9).2.2.1 ∈ wsX10_turnsBack := by decide +kernel
set_option maxRecDepth 100000 in
set_option maxHeartbeats 4000000 in
theorem c_X10_turnsBack (E : qE) (q0 : Nat) (q1 : Nat) (q2 : Nat) (q3 : Nat) (q4 : Nat) (q5 : Nat) (q6 : Nat) (q7 : Nat) (q8 : Nat) (q9 : Nat) (q10 : Nat) (q11 : Nat) (c0 : Int) (la : Int) (ch : Int) (us : Int) (t : Int → Int) (ac : Int → Int) (co : Int → Int) (cs : Int → Int) (ut : Int → Int) (ps : Int → Int) (vb : Int → Int) (cd : Int → Int) (c : Int → Int) (ln : Nat) (n : Int) (hv : ∀ i, 0 ≤ vb i ∧ vb i < 3) (hn : 0 < n ∧ n ≤ 4) (hl : ln ≤ 96) (hS : Stk ps vb cd ln n t c ac co cs ut ch) (hN : NoAll ps vb cd ln n t co ch) : Cn E yX10_turnsBack wsX10_turnsBack { frames := 0, cells := 0, slots := 0, locals := 0 } [.ref q0, .int (iI n)] [(q0, .inr (10, [.ref q1, .ref q2, .ref q3, .int (iI c0), .ref q4, .ref q5, .int (iI la), .ref q6, .ref q7, .ref q8, .ref q9, .ref q10, .ref q11, .int (iI ch), .int (iI us)])), (q6, ia E 12 t), (q8, ia E 12 ac), (q9, ia E 12 co), (q10, ia E 12 cs), (q11, ia E 12 ut)] (fun v9 w9 => ∃ (r : Int) (t1 : Int → Int) (cs1 : Int → Int) (ch1 : Int) (us1 : Int), v9 = some (.int (iI r)) ∧ w9 = [(q0, .inr (10, [.ref q1, .ref q2, .ref q3, .int (iI c0), .ref q4, .ref q5, .int (iI la), .ref q6, .ref q7, .ref q8, .ref q9, .ref q10, .ref q11, .int (iI ch1), .int (iI us1)])), (q6, ia E 12 t1), (q8, ia E 12 ac), (q9, ia E 12 co), (q10, ia E 12 cs1), (q11, ia E 12 ut)] ∧ (TbR ps vb cd ln n c ac co ut cs ch r t1 cs1 ch1 us1)) 0 0 := by
  refine Cn.ofP (own := RX10) (cc := cX10_turnsBack) (maxL := 4) (ret := (some .int)) false [(0, .ref q0), (1, .int (iI n))] (by decide +kernel) rfl rfl (Nat.le_of_ble_eq_true rfl) rfl (fun h => nomatch h) (fun v w h => by obtain ⟨r, t1, cs1, ch1, us1, rfl, h9⟩ := h; exact ⟨_, rfl, rfl⟩) ?_
  intro P G
  have L0 : ∀ (fuel : Nat), ∀ (ch1 : Int) (t1 : Int → Int), (Stk ps vb cd ln n t1 c ac co cs ut ch1) → (NoAll ps vb cd ln n t1 co ch1) → (ch1 ≤ ch) → (ch1 : Int).toNat < fuel → P 0 0 [(q0, .inr (10, [.ref q1, .ref q2, .ref q3, .int (iI c0), .ref q4, .ref q5, .int (iI la), .ref q6, .ref q7, .ref q8, .ref q9, .ref q10, .ref q11, .int (iI ch1), .int (iI us)])), (q6, ia E 12 t1), (q8, ia E 12 ac), (q9, ia E 12 co), (q10, ia E 12 cs), (q11, ia E 12 ut)] 0 [(0, .ref q0), (1, .int (iI n))] [] := by
    intro fuel
    induction fuel with
    | zero => intro ch1 t1 hS1 hN1 hc1 hm; exact absurd hm (Nat.not_lt_zero _)
    | succ fuel ih0 =>
      intro ch1 t1 hS1 hN1 hc1 hm
      have b0 := hS1.1
      refine g_aload_n G 0 dX10_turnsBack_0 rfl ?_
      refine g_get G 0 13 dX10_turnsBack_1 i_X10_turnsBack_X10 f_X10_turnsBack_99 rfl rfl (by decide) rfl ?_
      refine g_if_le G 127 dX10_turnsBack_4 (by decide) (by omega) (fun c4 => ?_) (fun c4 => ?_)
      · refine g_iconst G dX10_turnsBack_127 ?_
        exact g_ret G (some (.int (iI (-1)))) rfl dX10_turnsBack_128 (Nat.le_refl _) (Nat.le_refl _) ⟨(-1), t1, cs, ch1, us, rfl, rfl, by exact Or.inl ⟨rfl, NoAll.none (by rw [(show (0 : Int) = ch1 by omega)]; exact hN1)⟩⟩
      · have eq1 : ch1 - 1 + 1 = ch1 := by omega
        have hS2 : Stk ps vb cd ln n t1 c ac co cs ut (ch1 - 1 + 1) := by rw [eq1]; exact hS1
        have hN2 : NoAll ps vb cd ln n t1 co (ch1 - 1 + 1) := by rw [eq1]; exact hN1
        have a3 := hS1.2.2.1 (ch1 - 1) (by omega)
        refine g_aload_n G 0 dX10_turnsBack_7 rfl ?_
        refine g_get G 0 13 dX10_turnsBack_8 i_X10_turnsBack_X10 f_X10_turnsBack_99 rfl rfl (by decide) rfl ?_
        refine g_iconst G dX10_turnsBack_11 ?_
        refine g_isub G dX10_turnsBack_12 ?_
        refine g_istore_n G [(0, .ref q0), (1, .int (iI n)), (2, .int (iI (ch1 - 1)))] dX10_turnsBack_13 (by decide) rfl rfl ?_
        refine g_aload_n G 0 dX10_turnsBack_14 rfl ?_
        refine g_get G 0 11 dX10_turnsBack_15 i_X10_turnsBack_X10 f_X10_turnsBack_38 rfl rfl (by decide) rfl ?_
        refine g_iload_n G 2 dX10_turnsBack_18 rfl ?_
        refine g_iald G 4 dX10_turnsBack_19 rfl (by omega) (by omega) (by decide) ?_
        refine g_iconst G dX10_turnsBack_20 ?_
        refine g_iadd G dX10_turnsBack_21 ?_
        refine g_istore_n G [(0, .ref q0), (1, .int (iI n)), (2, .int (iI (ch1 - 1))), (3, .int (iI ((cs (ch1 - 1)) + 1)))] dX10_turnsBack_22 (by decide) rfl rfl ?_
        refine g_iload_n G 3 dX10_turnsBack_23 rfl ?_
        refine g_aload_n G 0 dX10_turnsBack_24 rfl ?_
        refine g_get G 0 12 dX10_turnsBack_25 i_X10_turnsBack_X10 f_X10_turnsBack_41 rfl rfl (by decide) rfl ?_
        refine g_iload_n G 2 dX10_turnsBack_28 rfl ?_
        refine g_iald G 5 dX10_turnsBack_29 rfl (by omega) (by omega) (by decide) ?_
        refine g_icmp_lt G 48 dX10_turnsBack_30 (by decide) (by omega) (by omega) (fun c30 => ?_) (fun c30 => ?_)
        · have hx9 : cs (ch1 - 1) + 1 < ut (ch1 - 1) ∨ cs (ch1 - 1) + 1 = ut (ch1 - 1) ∧ cs (ch1 - 1) + 1 < n := by first | exact Or.inl c30 | exact Or.inr ⟨c40, c45⟩
          refine g_aload_n G 0 dX10_turnsBack_48 rfl ?_
          refine g_get G 0 11 dX10_turnsBack_49 i_X10_turnsBack_X10 f_X10_turnsBack_38 rfl rfl (by decide) rfl ?_
          refine g_iload_n G 2 dX10_turnsBack_52 rfl ?_
          refine g_iload_n G 3 dX10_turnsBack_53 rfl ?_
          refine g_iast G 4 [(q0, .inr (10, [.ref q1, .ref q2, .ref q3, .int (iI c0), .ref q4, .ref q5, .int (iI la), .ref q6, .ref q7, .ref q8, .ref q9, .ref q10, .ref q11, .int (iI ch1), .int (iI us)])), (q6, ia E 12 t1), (q8, ia E 12 ac), (q9, ia E 12 co), (q10, ia E 12 (upI cs (ch1 - 1) ((cs (ch1 - 1)) + 1))), (q11, ia E 12 ut)] dX10_turnsBack_54 rfl (by omega) (by omega) (by decide) rfl ?_
          refine g_aload_n G 0 dX10_turnsBack_55 rfl ?_
          refine g_get G 0 7 dX10_turnsBack_56 i_X10_turnsBack_X10 f_X10_turnsBack_26 rfl rfl (by decide) rfl ?_
          refine g_aload_n G 0 dX10_turnsBack_59 rfl ?_
          refine g_get G 0 10 dX10_turnsBack_60 i_X10_turnsBack_X10 f_X10_turnsBack_35 rfl rfl (by decide) rfl ?_
          refine g_iload_n G 2 dX10_turnsBack_63 rfl ?_
          refine g_iald G 3 dX10_turnsBack_64 rfl (by omega) (by omega) (by decide) ?_
          refine g_iload_n G 3 dX10_turnsBack_65 rfl ?_
          refine g_iast G 1 [(q0, .inr (10, [.ref q1, .ref q2, .ref q3, .int (iI c0), .ref q4, .ref q5, .int (iI la), .ref q6, .ref q7, .ref q8, .ref q9, .ref q10, .ref q11, .int (iI ch1), .int (iI us)])), (q6, ia E 12 (upI t1 (co (ch1 - 1)) ((cs (ch1 - 1)) + 1))), (q8, ia E 12 ac), (q9, ia E 12 co), (q10, ia E 12 (upI cs (ch1 - 1) ((cs (ch1 - 1)) + 1))), (q11, ia E 12 ut)] dX10_turnsBack_66 rfl (by omega) (by omega) (by decide) rfl ?_
          refine g_aload_n G 0 dX10_turnsBack_67 rfl ?_
          refine g_iload_n G 3 dX10_turnsBack_68 rfl ?_
          refine g_aload_n G 0 dX10_turnsBack_69 rfl ?_
          refine g_get G 0 12 dX10_turnsBack_70 i_X10_turnsBack_X10 f_X10_turnsBack_41 rfl rfl (by decide) rfl ?_
          refine g_iload_n G 2 dX10_turnsBack_73 rfl ?_
          refine g_iald G 5 dX10_turnsBack_74 rfl (by omega) (by omega) (by decide) ?_
          refine g_icmp_ne G 84 dX10_turnsBack_75 (by decide) (by omega) (by omega) (fun c75 => ?_) (fun c75 => ?_)
          · refine g_aload_n G 0 dX10_turnsBack_84 rfl ?_
            refine g_get G 0 12 dX10_turnsBack_85 i_X10_turnsBack_X10 f_X10_turnsBack_41 rfl rfl (by decide) rfl ?_
            refine g_iload_n G 2 dX10_turnsBack_88 rfl ?_
            refine g_iald G 5 dX10_turnsBack_89 rfl (by omega) (by omega) (by decide) ?_
            refine g_put G 0 14 [(q0, .inr (10, [.ref q1, .ref q2, .ref q3, .int (iI c0), .ref q4, .ref q5, .int (iI la), .ref q6, .ref q7, .ref q8, .ref q9, .ref q10, .ref q11, .int (iI ch1), .int (iI (ut (ch1 - 1)))])), (q6, ia E 12 (upI t1 (co (ch1 - 1)) ((cs (ch1 - 1)) + 1))), (q8, ia E 12 ac), (q9, ia E 12 co), (q10, ia E 12 (upI cs (ch1 - 1) ((cs (ch1 - 1)) + 1))), (q11, ia E 12 ut)] dX10_turnsBack_90 i_X10_turnsBack_X10 f_X10_turnsBack_102 tyX10_ok nmX10 rfl rfl (by decide) rfl rfl rfl rfl (Nat.le_of_ble_eq_true rfl) rfl ?_
            refine g_aload_n G 0 dX10_turnsBack_93 rfl ?_
            refine g_get G 0 9 dX10_turnsBack_94 i_X10_turnsBack_X10 f_X10_turnsBack_32 rfl rfl (by decide) rfl ?_
            refine g_iload_n G 2 dX10_turnsBack_97 rfl ?_
            refine g_iald G 2 dX10_turnsBack_98 rfl (by omega) (by omega) (by decide) ?_
            refine g_iconst G dX10_turnsBack_99 ?_
            refine g_iadd G dX10_turnsBack_100 ?_
            exact g_ret G (some (.int (iI ((ac (ch1 - 1)) + 1)))) rfl dX10_turnsBack_101 (Nat.le_refl _) (Nat.le_refl _) ⟨((ac (ch1 - 1)) + 1), (upI t1 (co (ch1 - 1)) ((cs (ch1 - 1)) + 1)), (upI cs (ch1 - 1) ((cs (ch1 - 1)) + 1)), ch1, (ut (ch1 - 1)), rfl, rfl, by first | (have h9 := TbR.mk (us2 := cs (ch1 - 1) + 1 + 1) hS2 (by omega) hN2 hx9 (by omega) (by omega) hn.2 hS.2.2.1 hS.1; rw [eq1] at h9; exact h9) | (have h9 := TbR.mk (us2 := ut (ch1 - 1)) hS2 (by omega) hN2 hx9 (by omega) (by omega) hn.2 hS.2.2.1 hS.1; rw [eq1] at h9; exact h9)⟩
          · refine g_iload_n G 3 dX10_turnsBack_78 rfl ?_
            refine g_iconst G dX10_turnsBack_79 ?_
            refine g_iadd G dX10_turnsBack_80 ?_
            refine g_goto G 90 dX10_turnsBack_81 (by decide) ?_
            refine g_put G 0 14 [(q0, .inr (10, [.ref q1, .ref q2, .ref q3, .int (iI c0), .ref q4, .ref q5, .int (iI la), .ref q6, .ref q7, .ref q8, .ref q9, .ref q10, .ref q11, .int (iI ch1), .int (iI (((cs (ch1 - 1)) + 1) + 1))])), (q6, ia E 12 (upI t1 (co (ch1 - 1)) ((cs (ch1 - 1)) + 1))), (q8, ia E 12 ac), (q9, ia E 12 co), (q10, ia E 12 (upI cs (ch1 - 1) ((cs (ch1 - 1)) + 1))), (q11, ia E 12 ut)] dX10_turnsBack_90 i_X10_turnsBack_X10 f_X10_turnsBack_102 tyX10_ok nmX10 rfl rfl (by decide) rfl rfl rfl rfl (Nat.le_of_ble_eq_true rfl) rfl ?_
            refine g_aload_n G 0 dX10_turnsBack_93 rfl ?_
            refine g_get G 0 9 dX10_turnsBack_94 i_X10_turnsBack_X10 f_X10_turnsBack_32 rfl rfl (by decide) rfl ?_
            refine g_iload_n G 2 dX10_turnsBack_97 rfl ?_
            refine g_iald G 2 dX10_turnsBack_98 rfl (by omega) (by omega) (by decide) ?_
            refine g_iconst G dX10_turnsBack_99 ?_
            refine g_iadd G dX10_turnsBack_100 ?_
            exact g_ret G (some (.int (iI ((ac (ch1 - 1)) + 1)))) rfl dX10_turnsBack_101 (Nat.le_refl _) (Nat.le_refl _) ⟨((ac (ch1 - 1)) + 1), (upI t1 (co (ch1 - 1)) ((cs (ch1 - 1)) + 1)), (upI cs (ch1 - 1) ((cs (ch1 - 1)) + 1)), ch1, (((cs (ch1 - 1)) + 1) + 1), rfl, rfl, by first | (have h9 := TbR.mk (us2 := cs (ch1 - 1) + 1 + 1) hS2 (by omega) hN2 hx9 (by omega) (by omega) hn.2 hS.2.2.1 hS.1; rw [eq1] at h9; exact h9) | (have h9 := TbR.mk (us2 := ut (ch1 - 1)) hS2 (by omega) hN2 hx9 (by omega) (by omega) hn.2 hS.2.2.1 hS.1; rw [eq1] at h9; exact h9)⟩
        · refine g_iload_n G 3 dX10_turnsBack_33 rfl ?_
          refine g_aload_n G 0 dX10_turnsBack_34 rfl ?_
          refine g_get G 0 12 dX10_turnsBack_35 i_X10_turnsBack_X10 f_X10_turnsBack_41 rfl rfl (by decide) rfl ?_
          refine g_iload_n G 2 dX10_turnsBack_38 rfl ?_
          refine g_iald G 5 dX10_turnsBack_39 rfl (by omega) (by omega) (by decide) ?_
          refine g_icmp_ne G 102 dX10_turnsBack_40 (by decide) (by omega) (by omega) (fun c40 => ?_) (fun c40 => ?_)
          · have hx9 : ¬ (cs (ch1 - 1) + 1 < ut (ch1 - 1) ∨ cs (ch1 - 1) + 1 = ut (ch1 - 1) ∧ cs (ch1 - 1) + 1 < n) := by omega
            have p1 := hS2.pop (by omega)
            have p2 := hS2.popNo hv (by omega) hN2 hx9
            refine g_aload_n G 0 dX10_turnsBack_102 rfl ?_
            refine g_get G 0 7 dX10_turnsBack_103 i_X10_turnsBack_X10 f_X10_turnsBack_26 rfl rfl (by decide) rfl ?_
            refine g_aload_n G 0 dX10_turnsBack_106 rfl ?_
            refine g_get G 0 10 dX10_turnsBack_107 i_X10_turnsBack_X10 f_X10_turnsBack_35 rfl rfl (by decide) rfl ?_
            refine g_iload_n G 2 dX10_turnsBack_110 rfl ?_
            refine g_iald G 3 dX10_turnsBack_111 rfl (by omega) (by omega) (by decide) ?_
            refine g_iconst G dX10_turnsBack_112 ?_
            refine g_iast G 1 [(q0, .inr (10, [.ref q1, .ref q2, .ref q3, .int (iI c0), .ref q4, .ref q5, .int (iI la), .ref q6, .ref q7, .ref q8, .ref q9, .ref q10, .ref q11, .int (iI ch1), .int (iI us)])), (q6, ia E 12 (upI t1 (co (ch1 - 1)) (-1))), (q8, ia E 12 ac), (q9, ia E 12 co), (q10, ia E 12 cs), (q11, ia E 12 ut)] dX10_turnsBack_113 rfl (by omega) (by omega) (by decide) rfl ?_
            refine g_aload_n G 0 dX10_turnsBack_114 rfl ?_
            refine g_dup G dX10_turnsBack_115 rfl ?_
            refine g_get G 0 13 dX10_turnsBack_116 i_X10_turnsBack_X10 f_X10_turnsBack_99 rfl rfl (by decide) rfl ?_
            refine g_iconst G dX10_turnsBack_119 ?_
            refine g_isub G dX10_turnsBack_120 ?_
            refine g_put G 0 13 [(q0, .inr (10, [.ref q1, .ref q2, .ref q3, .int (iI c0), .ref q4, .ref q5, .int (iI la), .ref q6, .ref q7, .ref q8, .ref q9, .ref q10, .ref q11, .int (iI (ch1 - 1)), .int (iI us)])), (q6, ia E 12 (upI t1 (co (ch1 - 1)) (-1))), (q8, ia E 12 ac), (q9, ia E 12 co), (q10, ia E 12 cs), (q11, ia E 12 ut)] dX10_turnsBack_121 i_X10_turnsBack_X10 f_X10_turnsBack_99 tyX10_ok nmX10 rfl rfl (by decide) rfl rfl rfl rfl (Nat.le_of_ble_eq_true rfl) rfl ?_
            refine g_goto G 0 dX10_turnsBack_124 (by decide) ?_
            refine g_lv G [0, 1] (lv' := [(0, .ref q0), (1, .int (iI n))]) rfl ?_
            exact ih0 (ch1 - 1) (upI t1 (co (ch1 - 1)) (-1)) (by exact p1.1) (by exact fun τ hs hag => p2 τ hs (fun i hi => by rw [hag i hi]; exact p1.2 i hi)) (by first | assumption | omega) (by omega)
          · refine g_iload_n G 3 dX10_turnsBack_43 rfl ?_
            refine g_iload_n G 1 dX10_turnsBack_44 rfl ?_
            refine g_icmp_ge G 102 dX10_turnsBack_45 (by decide) (by omega) (by omega) (fun c45 => ?_) (fun c45 => ?_)
            · have hx9 : ¬ (cs (ch1 - 1) + 1 < ut (ch1 - 1) ∨ cs (ch1 - 1) + 1 = ut (ch1 - 1) ∧ cs (ch1 - 1) + 1 < n) := by omega
              have p1 := hS2.pop (by omega)
              have p2 := hS2.popNo hv (by omega) hN2 hx9
              refine g_aload_n G 0 dX10_turnsBack_102 rfl ?_
              refine g_get G 0 7 dX10_turnsBack_103 i_X10_turnsBack_X10 f_X10_turnsBack_26 rfl rfl (by decide) rfl ?_
              refine g_aload_n G 0 dX10_turnsBack_106 rfl ?_
              refine g_get G 0 10 dX10_turnsBack_107 i_X10_turnsBack_X10 f_X10_turnsBack_35 rfl rfl (by decide) rfl ?_
              refine g_iload_n G 2 dX10_turnsBack_110 rfl ?_
              refine g_iald G 3 dX10_turnsBack_111 rfl (by omega) (by omega) (by decide) ?_
              refine g_iconst G dX10_turnsBack_112 ?_
              refine g_iast G 1 [(q0, .inr (10, [.ref q1, .ref q2, .ref q3, .int (iI c0), .ref q4, .ref q5, .int (iI la), .ref q6, .ref q7, .ref q8, .ref q9, .ref q10, .ref q11, .int (iI ch1), .int (iI us)])), (q6, ia E 12 (upI t1 (co (ch1 - 1)) (-1))), (q8, ia E 12 ac), (q9, ia E 12 co), (q10, ia E 12 cs), (q11, ia E 12 ut)] dX10_turnsBack_113 rfl (by omega) (by omega) (by decide) rfl ?_
              refine g_aload_n G 0 dX10_turnsBack_114 rfl ?_
              refine g_dup G dX10_turnsBack_115 rfl ?_
              refine g_get G 0 13 dX10_turnsBack_116 i_X10_turnsBack_X10 f_X10_turnsBack_99 rfl rfl (by decide) rfl ?_
              refine g_iconst G dX10_turnsBack_119 ?_
              refine g_isub G dX10_turnsBack_120 ?_
              refine g_put G 0 13 [(q0, .inr (10, [.ref q1, .ref q2, .ref q3, .int (iI c0), .ref q4, .ref q5, .int (iI la), .ref q6, .ref q7, .ref q8, .ref q9, .ref q10, .ref q11, .int (iI (ch1 - 1)), .int (iI us)])), (q6, ia E 12 (upI t1 (co (ch1 - 1)) (-1))), (q8, ia E 12 ac), (q9, ia E 12 co), (q10, ia E 12 cs), (q11, ia E 12 ut)] dX10_turnsBack_121 i_X10_turnsBack_X10 f_X10_turnsBack_99 tyX10_ok nmX10 rfl rfl (by decide) rfl rfl rfl rfl (Nat.le_of_ble_eq_true rfl) rfl ?_
              refine g_goto G 0 dX10_turnsBack_124 (by decide) ?_
              refine g_lv G [0, 1] (lv' := [(0, .ref q0), (1, .int (iI n))]) rfl ?_
              exact ih0 (ch1 - 1) (upI t1 (co (ch1 - 1)) (-1)) (by exact p1.1) (by exact fun τ hs hag => p2 τ hs (fun i hi => by rw [hag i hi]; exact p1.2 i hi)) (by first | assumption | omega) (by omega)
            · have hx9 : cs (ch1 - 1) + 1 < ut (ch1 - 1) ∨ cs (ch1 - 1) + 1 = ut (ch1 - 1) ∧ cs (ch1 - 1) + 1 < n := by first | exact Or.inl c30 | exact Or.inr ⟨c40, c45⟩
              refine g_aload_n G 0 dX10_turnsBack_48 rfl ?_
              refine g_get G 0 11 dX10_turnsBack_49 i_X10_turnsBack_X10 f_X10_turnsBack_38 rfl rfl (by decide) rfl ?_
              refine g_iload_n G 2 dX10_turnsBack_52 rfl ?_
              refine g_iload_n G 3 dX10_turnsBack_53 rfl ?_
              refine g_iast G 4 [(q0, .inr (10, [.ref q1, .ref q2, .ref q3, .int (iI c0), .ref q4, .ref q5, .int (iI la), .ref q6, .ref q7, .ref q8, .ref q9, .ref q10, .ref q11, .int (iI ch1), .int (iI us)])), (q6, ia E 12 t1), (q8, ia E 12 ac), (q9, ia E 12 co), (q10, ia E 12 (upI cs (ch1 - 1) ((cs (ch1 - 1)) + 1))), (q11, ia E 12 ut)] dX10_turnsBack_54 rfl (by omega) (by omega) (by decide) rfl ?_
              refine g_aload_n G 0 dX10_turnsBack_55 rfl ?_
              refine g_get G 0 7 dX10_turnsBack_56 i_X10_turnsBack_X10 f_X10_turnsBack_26 rfl rfl (by decide) rfl ?_
              refine g_aload_n G 0 dX10_turnsBack_59 rfl ?_
              refine g_get G 0 10 dX10_turnsBack_60 i_X10_turnsBack_X10 f_X10_turnsBack_35 rfl rfl (by decide) rfl ?_
              refine g_iload_n G 2 dX10_turnsBack_63 rfl ?_
              refine g_iald G 3 dX10_turnsBack_64 rfl (by omega) (by omega) (by decide) ?_
              refine g_iload_n G 3 dX10_turnsBack_65 rfl ?_
              refine g_iast G 1 [(q0, .inr (10, [.ref q1, .ref q2, .ref q3, .int (iI c0), .ref q4, .ref q5, .int (iI la), .ref q6, .ref q7, .ref q8, .ref q9, .ref q10, .ref q11, .int (iI ch1), .int (iI us)])), (q6, ia E 12 (upI t1 (co (ch1 - 1)) ((cs (ch1 - 1)) + 1))), (q8, ia E 12 ac), (q9, ia E 12 co), (q10, ia E 12 (upI cs (ch1 - 1) ((cs (ch1 - 1)) + 1))), (q11, ia E 12 ut)] dX10_turnsBack_66 rfl (by omega) (by omega) (by decide) rfl ?_
              refine g_aload_n G 0 dX10_turnsBack_67 rfl ?_
              refine g_iload_n G 3 dX10_turnsBack_68 rfl ?_
              refine g_aload_n G 0 dX10_turnsBack_69 rfl ?_
              refine g_get G 0 12 dX10_turnsBack_70 i_X10_turnsBack_X10 f_X10_turnsBack_41 rfl rfl (by decide) rfl ?_
              refine g_iload_n G 2 dX10_turnsBack_73 rfl ?_
              refine g_iald G 5 dX10_turnsBack_74 rfl (by omega) (by omega) (by decide) ?_
              refine g_icmp_ne G 84 dX10_turnsBack_75 (by decide) (by omega) (by omega) (fun c75 => ?_) (fun c75 => ?_)
              · refine g_aload_n G 0 dX10_turnsBack_84 rfl ?_
                refine g_get G 0 12 dX10_turnsBack_85 i_X10_turnsBack_X10 f_X10_turnsBack_41 rfl rfl (by decide) rfl ?_
                refine g_iload_n G 2 dX10_turnsBack_88 rfl ?_
                refine g_iald G 5 dX10_turnsBack_89 rfl (by omega) (by omega) (by decide) ?_
                refine g_put G 0 14 [(q0, .inr (10, [.ref q1, .ref q2, .ref q3, .int (iI c0), .ref q4, .ref q5, .int (iI la), .ref q6, .ref q7, .ref q8, .ref q9, .ref q10, .ref q11, .int (iI ch1), .int (iI (ut (ch1 - 1)))])), (q6, ia E 12 (upI t1 (co (ch1 - 1)) ((cs (ch1 - 1)) + 1))), (q8, ia E 12 ac), (q9, ia E 12 co), (q10, ia E 12 (upI cs (ch1 - 1) ((cs (ch1 - 1)) + 1))), (q11, ia E 12 ut)] dX10_turnsBack_90 i_X10_turnsBack_X10 f_X10_turnsBack_102 tyX10_ok nmX10 rfl rfl (by decide) rfl rfl rfl rfl (Nat.le_of_ble_eq_true rfl) rfl ?_
                refine g_aload_n G 0 dX10_turnsBack_93 rfl ?_
                refine g_get G 0 9 dX10_turnsBack_94 i_X10_turnsBack_X10 f_X10_turnsBack_32 rfl rfl (by decide) rfl ?_
                refine g_iload_n G 2 dX10_turnsBack_97 rfl ?_
                refine g_iald G 2 dX10_turnsBack_98 rfl (by omega) (by omega) (by decide) ?_
                refine g_iconst G dX10_turnsBack_99 ?_
                refine g_iadd G dX10_turnsBack_100 ?_
                exact g_ret G (some (.int (iI ((ac (ch1 - 1)) + 1)))) rfl dX10_turnsBack_101 (Nat.le_refl _) (Nat.le_refl _) ⟨((ac (ch1 - 1)) + 1), (upI t1 (co (ch1 - 1)) ((cs (ch1 - 1)) + 1)), (upI cs (ch1 - 1) ((cs (ch1 - 1)) + 1)), ch1, (ut (ch1 - 1)), rfl, rfl, by first | (have h9 := TbR.mk (us2 := cs (ch1 - 1) + 1 + 1) hS2 (by omega) hN2 hx9 (by omega) (by omega) hn.2 hS.2.2.1 hS.1; rw [eq1] at h9; exact h9) | (have h9 := TbR.mk (us2 := ut (ch1 - 1)) hS2 (by omega) hN2 hx9 (by omega) (by omega) hn.2 hS.2.2.1 hS.1; rw [eq1] at h9; exact h9)⟩
              · refine g_iload_n G 3 dX10_turnsBack_78 rfl ?_
                refine g_iconst G dX10_turnsBack_79 ?_
                refine g_iadd G dX10_turnsBack_80 ?_
                refine g_goto G 90 dX10_turnsBack_81 (by decide) ?_
                refine g_put G 0 14 [(q0, .inr (10, [.ref q1, .ref q2, .ref q3, .int (iI c0), .ref q4, .ref q5, .int (iI la), .ref q6, .ref q7, .ref q8, .ref q9, .ref q10, .ref q11, .int (iI ch1), .int (iI (((cs (ch1 - 1)) + 1) + 1))])), (q6, ia E 12 (upI t1 (co (ch1 - 1)) ((cs (ch1 - 1)) + 1))), (q8, ia E 12 ac), (q9, ia E 12 co), (q10, ia E 12 (upI cs (ch1 - 1) ((cs (ch1 - 1)) + 1))), (q11, ia E 12 ut)] dX10_turnsBack_90 i_X10_turnsBack_X10 f_X10_turnsBack_102 tyX10_ok nmX10 rfl rfl (by decide) rfl rfl rfl rfl (Nat.le_of_ble_eq_true rfl) rfl ?_
                refine g_aload_n G 0 dX10_turnsBack_93 rfl ?_
                refine g_get G 0 9 dX10_turnsBack_94 i_X10_turnsBack_X10 f_X10_turnsBack_32 rfl rfl (by decide) rfl ?_
                refine g_iload_n G 2 dX10_turnsBack_97 rfl ?_
                refine g_iald G 2 dX10_turnsBack_98 rfl (by omega) (by omega) (by decide) ?_
                refine g_iconst G dX10_turnsBack_99 ?_
                refine g_iadd G dX10_turnsBack_100 ?_
                exact g_ret G (some (.int (iI ((ac (ch1 - 1)) + 1)))) rfl dX10_turnsBack_101 (Nat.le_refl _) (Nat.le_refl _) ⟨((ac (ch1 - 1)) + 1), (upI t1 (co (ch1 - 1)) ((cs (ch1 - 1)) + 1)), (upI cs (ch1 - 1) ((cs (ch1 - 1)) + 1)), ch1, (((cs (ch1 - 1)) + 1) + 1), rfl, rfl, by first | (have h9 := TbR.mk (us2 := cs (ch1 - 1) + 1 + 1) hS2 (by omega) hN2 hx9 (by omega) (by omega) hn.2 hS.2.2.1 hS.1; rw [eq1] at h9; exact h9) | (have h9 := TbR.mk (us2 := ut (ch1 - 1)) hS2 (by omega) hN2 hx9 (by omega) (by omega) hn.2 hS.2.2.1 hS.1; rw [eq1] at h9; exact h9)⟩
  exact L0 ((ch : Int).toNat + 1) ch t (by exact hS) (by exact hN) (by omega) (by omega)
