/-! MINI KIT 6: masks -/
section K6
variable {E : qE} {own : String} {cc : ByteArray} {nL : Nat} {Ts : List Cond} {R : Room} {ini : Bool} {Rt : Option Value → va_W → Prop} {mc ms : Nat} {P : qP} {k n : Nat} {w : va_W} {pc : Nat} {lv : List (Nat × Value)} {st : List Value}
theorem g_ior (G : Gd E own cc nL Ts R ini Rt mc ms P) {a b : Int} (d : decode cc pc = .ok (.ior, 1)) (kk : P k n w (pc + 1) lv (.int (iI (orI a b)) :: st)) : P k n w pc lv (.int (iI b) :: .int (iI a) :: st) :=
  G.one (fun _ _ _ _ _ _ _ _ _ _ _ _ hx hb _ _ h => lv_ior hx hb d (by unfold orI at h; rw [iI_bk] at h; exact h)) kk
theorem g_iand (G : Gd E own cc nL Ts R ini Rt mc ms P) {a b : Int} (d : decode cc pc = .ok (.iand, 1)) (kk : P k n w (pc + 1) lv (.int (iI (andI a b)) :: st)) : P k n w pc lv (.int (iI b) :: .int (iI a) :: st) :=
  G.one (fun _ _ _ _ _ _ _ _ _ _ _ _ hx hb _ _ h => lv_iand hx hb d (by unfold andI at h; rw [iI_bk] at h; exact h)) kk
theorem g_ixor (G : Gd E own cc nL Ts R ini Rt mc ms P) {a b : Int} (d : decode cc pc = .ok (.ixor, 1)) (kk : P k n w (pc + 1) lv (.int (iI (xorI a b)) :: st)) : P k n w pc lv (.int (iI b) :: .int (iI a) :: st) :=
  G.one (fun _ _ _ _ _ _ _ _ _ _ _ _ hx hb _ _ h => lv_ixor hx hb d (by unfold xorI at h; rw [iI_bk] at h; exact h)) kk
theorem g_ishl (G : Gd E own cc nL Ts R ini Rt mc ms P) {a b : Int} (d : decode cc pc = .ok (.ishl, 1)) (kk : P k n w (pc + 1) lv (.int (iI (shlI a b)) :: st)) : P k n w pc lv (.int (iI b) :: .int (iI a) :: st) :=
  G.one (fun _ _ _ _ _ _ _ _ _ _ _ _ hx hb _ _ h => lv_ishl hx hb d (by unfold shlI at h; rw [iI_bk] at h; exact h)) kk
end K6
theorem f_X2_chooseTarget_33 : Cond.fieldLink RX2 33 (TX2 7).1 (TX2 7).2.1 (TX2 7).2.2.1 ∈ wsX2_chooseTarget := by decide +kernel
theorem i_X2_chooseTarget_X2 : ∀ w ∈ wsX20, w ∈ wsX2_chooseTarget := by decide +kernel
theorem f_X2_chooseTarget_27 : Cond.fieldLink RX2 27 (TX2 5).1 (TX2 5).2.1 (TX2 5).2.2.1 ∈ wsX2_chooseTarget := by decide +kernel
theorem f_X2_chooseTarget_11 : Cond.fieldLink RX2 11 (TX2 0).1 (TX2 0).2.1 (TX2 0).2.2.1 ∈ wsX2_chooseTarget := by decide +kernel
theorem f_X2_chooseTarget_59 : Cond.fieldLink RX2 59 (TX2 9).1 (TX2 9).2.1 (TX2 9).2.2.1 ∈ wsX2_chooseTarget := by decide +kernel
theorem f_X2_chooseTarget_30 : Cond.fieldLink RX2 30 (TX2 6).1 (TX2 6).2.1 (TX2 6).2.2.1 ∈ wsX2_chooseTarget := by decide +kernel
theorem f_X2_chooseTarget_24 : Cond.fieldLink RX2 24 (TX2 4).1 (TX2 4).2.1 (TX2 4).2.2.1 ∈ wsX2_chooseTarget := by decide +kernel
theorem e_X2_walk : yX2_walk.cls ≠ "java/lang/invoke/MethodHandle" ∧ yX2_walk.cls ≠ "java/lang/invoke/VarHandle" ∧ (parseMethodDescriptor yX2_walk.desc).map (fun d => d.parameters.length) = some 3 := by decide +kernel
set_option maxRecDepth 100000 in
set_option maxHeartbeats 4000000 in
theorem c_X2_chooseTarget_of (E : qE) (e : Nat) (q0 : Nat) (q1 : Nat) (q2 : Nat) (q3 : Nat) (q4 : Nat) (q5 : Nat) (q6 : Nat) (q7 : Nat) (q8 : Nat) (pa : Int → Int) (vb : Int → Int) (cd : Int → Int) (cn : Int → Int) (sa : Int → Int) (ph : Int → Int) (tg : Int → Int) (fn : Int → Int) (nd : Int) (al : Int) (f : Int) (m : Int) (cm : Int) (dp : Int) (So : SoT) (ns : NsT) (hT : TrS pa vb cd nd al So ns) (hI : WkI So ns pa vb cd nd al tg fn sa ph f cm dp) (hf : f < nd) (em : 3 * sa (pa f) + vb f = m) (htm : tg m = -1) (hd : dp + (e : Int) = 11) (hW : ∀ (q0 : Nat) (q1 : Nat) (q2 : Nat) (q3 : Nat) (q4 : Nat) (q5 : Nat) (q6 : Nat) (q7 : Nat) (q8 : Nat) (pa : Int → Int) (vb : Int → Int) (cd : Int → Int) (cn : Int → Int) (sa : Int → Int) (ph : Int → Int) (tg : Int → Int) (fn : Int → Int) (nd : Int) (al : Int) (f : Int) (cm : Int) (dp : Int) (So : SoT) (ns : NsT), (TrS pa vb cd nd al So ns) → (WkI So ns pa vb cd nd al tg fn sa ph f cm dp) → (dp + (e : Int) = 12) → Cn E yX2_walk wsX2_walk { frames := 2 * e, cells := 0, slots := 0, locals := 55 * e } [.ref q0, .int (iI f), .int (iI cm), .int (iI dp)] [(q0, .inr (2, [.ref q1, .ref q2, .ref q3, .ref q4, .ref q5, .ref q6, .ref q7, .ref q8, .int (iI nd), .int (iI al)])), (q1, ia E 97 pa), (q2, ia E 97 vb), (q3, ia E 97 cd), (q4, ia E 291 cn), (q5, ia E 97 sa), (q6, ia E 97 ph), (q7, ia E 12 tg), (q8, ia E 12 fn)] (fun v9 w9 => ∃ (r : Int) (sa1 : Int → Int) (ph1 : Int → Int) (tg1 : Int → Int) (fn1 : Int → Int), v9 = some (.int (iI r)) ∧ w9 = [(q0, .inr (2, [.ref q1, .ref q2, .ref q3, .ref q4, .ref q5, .ref q6, .ref q7, .ref q8, .int (iI nd), .int (iI al)])), (q1, ia E 97 pa), (q2, ia E 97 vb), (q3, ia E 97 cd), (q4, ia E 291 cn), (q5, ia E 97 sa1), (q6, ia E 97 ph1), (q7, ia E 12 tg1), (q8, ia E 12 fn1)] ∧ (WkR So ns pa vb cd nd al tg fn sa ph f r tg1 fn1 sa1 ph1) ∧ (-2147483648 ≤ r ∧ r < 2147483648)) 0 0) : Cn E yX2_chooseTarget wsX2_chooseTarget { frames := 2 * e + 1, cells := 0, slots := 0, locals := 55 * e + 27 } [.ref q0, .int (iI f), .int (iI m), .int (iI cm), .int (iI dp)] [(q0, .inr (2, [.ref q1, .ref q2, .ref q3, .ref q4, .ref q5, .ref q6, .ref q7, .ref q8, .int (iI nd), .int (iI al)])), (q1, ia E 97 pa), (q2, ia E 97 vb), (q3, ia E 97 cd), (q4, ia E 291 cn), (q5, ia E 97 sa), (q6, ia E 97 ph), (q7, ia E 12 tg), (q8, ia E 12 fn)] (fun v9 w9 => ∃ (r : Int) (sa1 : Int → Int) (ph1 : Int → Int) (tg1 : Int → Int) (fn1 : Int → Int), v9 = some (.int (iI r)) ∧ w9 = [(q0, .inr (2, [.ref q1, .ref q2, .ref q3, .ref q4, .ref q5, .ref q6, .ref q7, .ref q8, .int (iI nd), .int (iI al)])), (q1, ia E 97 pa), (q2, ia E 97 vb), (q3, ia E 97 cd), (q4, ia E 291 cn), (q5, ia E 97 sa1), (q6, ia E 97 ph1), (q7, ia E 12 tg1), (q8, ia E 12 fn1)] ∧ (WkR So ns pa vb cd nd al tg fn sa ph f r tg1 fn1 sa1 ph1) ∧ (-2147483648 ≤ r ∧ r < 2147483648)) 0 0 := by
  refine Cn.ofP (own := RX2) (cc := cX2_chooseTarget) (maxL := 9) (ret := (some .int)) false [(0, .ref q0), (1, .int (iI f)), (2, .int (iI m)), (3, .int (iI cm)), (4, .int (iI dp))] (by decide +kernel) rfl rfl (Nat.le_of_ble_eq_true rfl) rfl (fun h => nomatch h) (fun v w h => by obtain ⟨r, sa1, ph1, tg1, fn1, rfl, h9⟩ := h; exact ⟨_, rfl, rfl⟩) ?_
  intro P G
  have hal := hT.1.1
  have hnd := hT.1.2.1
  have hi1 := hI.1
  have hpa := hT.1.2.2.1
  have hmv := WkI.mv hT hI hf
  have hd0 := WkI.dp0 hI
  refine g_iload G 4 dX2_chooseTarget_0 rfl ?_
  refine g_bipush G dX2_chooseTarget_2 (by decide +kernel) ?_
  refine g_icmp_lt G 9 dX2_chooseTarget_4 (by decide) (by omega) (by omega) (fun c4 => ?_) (fun c4 => ?_)
  · refine g_iconst G dX2_chooseTarget_9 ?_
    refine g_iload_n G 2 dX2_chooseTarget_10 rfl ?_
    refine g_ishl G dX2_chooseTarget_11 ?_
    refine g_istore G [(0, .ref q0), (1, .int (iI f)), (2, .int (iI m)), (3, .int (iI cm)), (4, .int (iI dp)), (5, .int (iI (shlI 1 m)))] dX2_chooseTarget_12 (by decide) rfl rfl ?_
    refine g_iconst G dX2_chooseTarget_14 ?_
    refine g_istore G [(0, .ref q0), (1, .int (iI f)), (2, .int (iI m)), (3, .int (iI cm)), (4, .int (iI dp)), (5, .int (iI (shlI 1 m))), (6, .int (iI 0))] dX2_chooseTarget_15 (by decide) rfl rfl ?_
    refine g_aload_n G 0 dX2_chooseTarget_17 rfl ?_
    refine g_get G 0 7 dX2_chooseTarget_18 i_X2_chooseTarget_X2 f_X2_chooseTarget_33 rfl rfl (by decide) rfl ?_
    refine g_iload_n G 2 dX2_chooseTarget_21 rfl ?_
    refine g_iload_n G 1 dX2_chooseTarget_22 rfl ?_
    refine g_iast G 8 [(q0, .inr (2, [.ref q1, .ref q2, .ref q3, .ref q4, .ref q5, .ref q6, .ref q7, .ref q8, .int (iI nd), .int (iI al)])), (q1, ia E 97 pa), (q2, ia E 97 vb), (q3, ia E 97 cd), (q4, ia E 291 cn), (q5, ia E 97 sa), (q6, ia E 97 ph), (q7, ia E 12 tg), (q8, ia E 12 (upI fn m f))] dX2_chooseTarget_23 rfl (by omega) (by omega) (by decide) rfl ?_
    refine g_aload_n G 0 dX2_chooseTarget_24 rfl ?_
    refine g_get G 0 5 dX2_chooseTarget_25 i_X2_chooseTarget_X2 f_X2_chooseTarget_27 rfl rfl (by decide) rfl ?_
    refine g_iload_n G 1 dX2_chooseTarget_28 rfl ?_
    refine g_aload_n G 0 dX2_chooseTarget_29 rfl ?_
    refine g_get G 0 5 dX2_chooseTarget_30 i_X2_chooseTarget_X2 f_X2_chooseTarget_27 rfl rfl (by decide) rfl ?_
    refine g_aload_n G 0 dX2_chooseTarget_33 rfl ?_
    refine g_get G 0 0 dX2_chooseTarget_34 i_X2_chooseTarget_X2 f_X2_chooseTarget_11 rfl rfl (by decide) rfl ?_
    refine g_iload_n G 1 dX2_chooseTarget_37 rfl ?_
    refine g_iald G 1 dX2_chooseTarget_38 rfl (by omega) (by omega) (by decide) ?_
    refine g_iald G 6 dX2_chooseTarget_39 rfl (by omega) (by omega) (by decide) ?_
    refine g_iload G 5 dX2_chooseTarget_40 rfl ?_
    refine g_ior G dX2_chooseTarget_42 ?_
    refine g_iast G 6 [(q0, .inr (2, [.ref q1, .ref q2, .ref q3, .ref q4, .ref q5, .ref q6, .ref q7, .ref q8, .int (iI nd), .int (iI al)])), (q1, ia E 97 pa), (q2, ia E 97 vb), (q3, ia E 97 cd), (q4, ia E 291 cn), (q5, ia E 97 sa), (q6, ia E 97 (upI ph f (orI (ph (pa f)) (shlI 1 m)))), (q7, ia E 12 tg), (q8, ia E 12 (upI fn m f))] dX2_chooseTarget_43 rfl (by omega) (by omega) (by decide) rfl ?_
    refine g_iconst G dX2_chooseTarget_44 ?_
    refine g_istore G [(0, .ref q0), (1, .int (iI f)), (2, .int (iI m)), (3, .int (iI cm)), (4, .int (iI dp)), (5, .int (iI (shlI 1 m))), (6, .int (iI 0)), (7, .int (iI 0))] dX2_chooseTarget_45 (by decide) rfl rfl ?_
    have L47 : ∀ (fuel : Nat), ∀ (t : Int) (B : Int) (tg1 : Int → Int) (fn1 : Int → Int) (sa1 : Int → Int) (ph1 : Int → Int), (ChL So ns pa vb cd nd al tg fn sa ph f m cm tg1 fn1 sa1 ph1 B t) → (0 ≤ t ∧ t ≤ 4) → (4 - t : Int).toNat < fuel → P 0 0 [(q0, .inr (2, [.ref q1, .ref q2, .ref q3, .ref q4, .ref q5, .ref q6, .ref q7, .ref q8, .int (iI nd), .int (iI al)])), (q1, ia E 97 pa), (q2, ia E 97 vb), (q3, ia E 97 cd), (q4, ia E 291 cn), (q5, ia E 97 sa1), (q6, ia E 97 ph1), (q7, ia E 12 tg1), (q8, ia E 12 fn1)] 47 [(0, .ref q0), (1, .int (iI f)), (2, .int (iI m)), (3, .int (iI cm)), (4, .int (iI dp)), (5, .int (iI (shlI 1 m))), (6, .int (iI B)), (7, .int (iI t))] [] := by
      intro fuel
      induction fuel with
      | zero => intro t B tg1 fn1 sa1 ph1 hL ht4 hm; exact absurd hm (Nat.not_lt_zero _)
      | succ fuel ih47 =>
        intro t B tg1 fn1 sa1 ph1 hL ht4 hm
        refine g_iload G 7 dX2_chooseTarget_47 rfl ?_
        refine g_aload_n G 0 dX2_chooseTarget_49 rfl ?_
        refine g_get G 0 9 dX2_chooseTarget_50 i_X2_chooseTarget_X2 f_X2_chooseTarget_59 rfl rfl (by decide) rfl ?_
        refine g_icmp_ge G 138 dX2_chooseTarget_53 (by decide) (by omega) (by omega) (fun c53 => ?_) (fun c53 => ?_)
        · refine g_aload_n G 0 dX2_chooseTarget_138 rfl ?_
          refine g_get G 0 6 dX2_chooseTarget_139 i_X2_chooseTarget_X2 f_X2_chooseTarget_30 rfl rfl (by decide) rfl ?_
          refine g_iload_n G 2 dX2_chooseTarget_142 rfl ?_
          refine g_iconst G dX2_chooseTarget_143 ?_
          refine g_iast G 7 [(q0, .inr (2, [.ref q1, .ref q2, .ref q3, .ref q4, .ref q5, .ref q6, .ref q7, .ref q8, .int (iI nd), .int (iI al)])), (q1, ia E 97 pa), (q2, ia E 97 vb), (q3, ia E 97 cd), (q4, ia E 291 cn), (q5, ia E 97 sa1), (q6, ia E 97 ph1), (q7, ia E 12 (upI tg1 m (-1))), (q8, ia E 12 fn1)] dX2_chooseTarget_144 rfl (by omega) (by omega) (by decide) rfl ?_
          refine g_iload G 6 dX2_chooseTarget_145 rfl ?_
          refine g_iload G 5 dX2_chooseTarget_147 rfl ?_
          refine g_iconst G dX2_chooseTarget_149 ?_
          refine g_ixor G dX2_chooseTarget_150 ?_
          refine g_iand G dX2_chooseTarget_151 ?_
          exact g_ret G (some (.int (iI (andI B (xorI (shlI 1 m) (-1)))))) rfl dX2_chooseTarget_152 (Nat.le_refl _) (Nat.le_refl _) ⟨(andI B (xorI (shlI 1 m) (-1))), sa1, ph1, (upI tg1 m (-1)), fn1, rfl, rfl, by exact ChL.none hT hI hf em htm hL (by omega), by exact andI_rg _ _⟩
        · refine g_iload G 7 dX2_chooseTarget_56 rfl ?_
          refine g_iload_n G 3 dX2_chooseTarget_58 rfl ?_
          refine g_icmp_gt G 138 dX2_chooseTarget_59 (by decide) (by omega) (by omega) (fun c59 => ?_) (fun c59 => ?_)
          · refine g_aload_n G 0 dX2_chooseTarget_138 rfl ?_
            refine g_get G 0 6 dX2_chooseTarget_139 i_X2_chooseTarget_X2 f_X2_chooseTarget_30 rfl rfl (by decide) rfl ?_
            refine g_iload_n G 2 dX2_chooseTarget_142 rfl ?_
            refine g_iconst G dX2_chooseTarget_143 ?_
            refine g_iast G 7 [(q0, .inr (2, [.ref q1, .ref q2, .ref q3, .ref q4, .ref q5, .ref q6, .ref q7, .ref q8, .int (iI nd), .int (iI al)])), (q1, ia E 97 pa), (q2, ia E 97 vb), (q3, ia E 97 cd), (q4, ia E 291 cn), (q5, ia E 97 sa1), (q6, ia E 97 ph1), (q7, ia E 12 (upI tg1 m (-1))), (q8, ia E 12 fn1)] dX2_chooseTarget_144 rfl (by omega) (by omega) (by decide) rfl ?_
            refine g_iload G 6 dX2_chooseTarget_145 rfl ?_
            refine g_iload G 5 dX2_chooseTarget_147 rfl ?_
            refine g_iconst G dX2_chooseTarget_149 ?_
            refine g_ixor G dX2_chooseTarget_150 ?_
            refine g_iand G dX2_chooseTarget_151 ?_
            exact g_ret G (some (.int (iI (andI B (xorI (shlI 1 m) (-1)))))) rfl dX2_chooseTarget_152 (Nat.le_refl _) (Nat.le_refl _) ⟨(andI B (xorI (shlI 1 m) (-1))), sa1, ph1, (upI tg1 m (-1)), fn1, rfl, rfl, by exact ChL.none hT hI hf em htm hL (by omega), by exact andI_rg _ _⟩
          · refine g_aload_n G 0 dX2_chooseTarget_62 rfl ?_
            refine g_get G 0 6 dX2_chooseTarget_63 i_X2_chooseTarget_X2 f_X2_chooseTarget_30 rfl rfl (by decide) rfl ?_
            refine g_iload_n G 2 dX2_chooseTarget_66 rfl ?_
            refine g_iload G 7 dX2_chooseTarget_67 rfl ?_
            refine g_iast G 7 [(q0, .inr (2, [.ref q1, .ref q2, .ref q3, .ref q4, .ref q5, .ref q6, .ref q7, .ref q8, .int (iI nd), .int (iI al)])), (q1, ia E 97 pa), (q2, ia E 97 vb), (q3, ia E 97 cd), (q4, ia E 291 cn), (q5, ia E 97 sa1), (q6, ia E 97 ph1), (q7, ia E 12 (upI tg1 m t)), (q8, ia E 12 fn1)] dX2_chooseTarget_69 rfl (by omega) (by omega) (by decide) rfl ?_
            refine g_aload_n G 0 dX2_chooseTarget_70 rfl ?_
            refine g_get G 0 4 dX2_chooseTarget_71 i_X2_chooseTarget_X2 f_X2_chooseTarget_24 rfl rfl (by decide) rfl ?_
            refine g_iload_n G 1 dX2_chooseTarget_74 rfl ?_
            refine g_iload G 7 dX2_chooseTarget_75 rfl ?_
            refine g_iast G 5 [(q0, .inr (2, [.ref q1, .ref q2, .ref q3, .ref q4, .ref q5, .ref q6, .ref q7, .ref q8, .int (iI nd), .int (iI al)])), (q1, ia E 97 pa), (q2, ia E 97 vb), (q3, ia E 97 cd), (q4, ia E 291 cn), (q5, ia E 97 (upI sa1 f t)), (q6, ia E 97 ph1), (q7, ia E 12 (upI tg1 m t)), (q8, ia E 12 fn1)] dX2_chooseTarget_77 rfl (by omega) (by omega) (by decide) rfl ?_
            refine g_aload_n G 0 dX2_chooseTarget_78 rfl ?_
            refine g_iload_n G 1 dX2_chooseTarget_79 rfl ?_
            refine g_iconst G dX2_chooseTarget_80 ?_
            refine g_iadd G dX2_chooseTarget_81 ?_
            refine g_iload_n G 3 dX2_chooseTarget_82 rfl ?_
            refine g_iload G 7 dX2_chooseTarget_83 rfl ?_
            refine g_iconst G dX2_chooseTarget_85 ?_
            refine g_iadd G dX2_chooseTarget_86 ?_
            obtain ⟨x, hx⟩ : ∃ r : Int, (cm < (t + 1) → r = t + 1) ∧ ((t + 1) ≤ cm → r = cm) := by by_cases h : cm < (t + 1); exact ⟨t + 1, by omega⟩; exact ⟨cm, by omega⟩
            refine g_max G x dX2_chooseTarget_87 (by decide +kernel) (by decide +kernel) (by decide +kernel) (by decide +kernel) (by show 1 ≤ 2 * e + 1; omega) (by show 2 + 13 ≤ 55 * e + 27; omega) (Nat.le_of_ble_eq_true rfl) (Nat.le_of_ble_eq_true rfl) (by omega) (by omega) hx ?_
            refine g_iload G 4 dX2_chooseTarget_90 rfl ?_
            refine g_iconst G dX2_chooseTarget_92 ?_
            refine g_iadd G dX2_chooseTarget_93 ?_
            refine g_callV G [0, 1, 2, 3, 4, 5, 6, 7, 8] [] 9 [] [.int (iI (f + 1)), .int (iI x), .int (iI (dp + 1))] [] (hW q0 q1 q2 q3 q4 q5 q6 q7 q8 pa vb cd cn (upI sa1 f t) ph1 (upI tg1 m t) fn1 nd al (f + 1) x (dp + 1) So ns (by exact hT) (by exact ChL.try_ hT hI hf em htm hL c53 c59 hx) (by omega)) dX2_chooseTarget_94 gX2_chooseTarget_X2_walk ⟨rfl, ⟨rfl, rfl⟩, e_X2_walk, ⟨by show (2 * e) + 1 ≤ 2 * e + 1; omega, by show 8 + (8 + 11) + (55 * e) ≤ 55 * e + 27; omega⟩, Nat.le_of_ble_eq_true rfl, Nat.le_of_ble_eq_true rfl, Nat.le_of_ble_eq_true rfl⟩ rfl rfl rfl rfl rfl (by decide +kernel) rfl (by decide +kernel) rfl (fun v9 w9 h9 => ?_)
            obtain ⟨r2, sa2, ph2, tg2, fn2, rfl, rfl, hr2, hg2⟩ := h9
            refine ⟨[(q0, .inr (2, [.ref q1, .ref q2, .ref q3, .ref q4, .ref q5, .ref q6, .ref q7, .ref q8, .int (iI nd), .int (iI al)])), (q1, ia E 97 pa), (q2, ia E 97 vb), (q3, ia E 97 cd), (q4, ia E 291 cn), (q5, ia E 97 sa2), (q6, ia E 97 ph2), (q7, ia E 12 tg2), (q8, ia E 12 fn2)], ⟨rfl, rfl, rfl, rfl⟩, g_to 0 0 _ _ [.int (iI r2)] rfl rfl rfl rfl rfl ?_⟩
            refine g_istore G [(0, .ref q0), (1, .int (iI f)), (2, .int (iI m)), (3, .int (iI cm)), (4, .int (iI dp)), (5, .int (iI (shlI 1 m))), (6, .int (iI B)), (7, .int (iI t)), (8, .int (iI r2))] dX2_chooseTarget_97 (by decide) rfl rfl ?_
            refine g_iload G 8 dX2_chooseTarget_99 rfl ?_
            refine g_iconst G dX2_chooseTarget_101 ?_
            refine g_icmp_ne G 107 dX2_chooseTarget_102 (by decide) (by omega) (by omega) (fun c102 => ?_) (fun c102 => ?_)
            · refine g_iload G 8 dX2_chooseTarget_107 rfl ?_
              refine g_iload G 5 dX2_chooseTarget_109 rfl ?_
              refine g_iand G dX2_chooseTarget_111 ?_
              refine g_if_ne G 125 dX2_chooseTarget_112 (by decide) (by exact andI_rg _ _) (fun c112 => ?_) (fun c112 => ?_)
              · refine g_iload G 6 dX2_chooseTarget_125 rfl ?_
                refine g_iload G 8 dX2_chooseTarget_127 rfl ?_
                refine g_ior G dX2_chooseTarget_129 ?_
                refine g_istore G [(0, .ref q0), (1, .int (iI f)), (2, .int (iI m)), (3, .int (iI cm)), (4, .int (iI dp)), (5, .int (iI (shlI 1 m))), (6, .int (iI (orI B r2))), (7, .int (iI t)), (8, .int (iI r2))] dX2_chooseTarget_130 (by decide) rfl rfl ?_
                refine g_iinc G 7 [(0, .ref q0), (1, .int (iI f)), (2, .int (iI m)), (3, .int (iI cm)), (4, .int (iI dp)), (5, .int (iI (shlI 1 m))), (6, .int (iI (orI B r2))), (7, .int (iI (t + 1))), (8, .int (iI r2))] dX2_chooseTarget_132 rfl (by decide) rfl rfl ?_
                refine g_goto G 47 dX2_chooseTarget_135 (by decide) ?_
                refine g_lv G [0, 1, 2, 3, 4, 5, 6, 7] (lv' := [(0, .ref q0), (1, .int (iI f)), (2, .int (iI m)), (3, .int (iI cm)), (4, .int (iI dp)), (5, .int (iI (shlI 1 m))), (6, .int (iI (orI B r2))), (7, .int (iI (t + 1)))]) rfl ?_
                exact ih47 (t + 1) (orI B r2) tg2 fn2 sa2 ph2 (by exact ChL.next hT hI hf em htm hL c53 c59 hr2 c102) (by first | assumption | omega) (by omega)
              · refine g_aload_n G 0 dX2_chooseTarget_115 rfl ?_
                refine g_get G 0 6 dX2_chooseTarget_116 i_X2_chooseTarget_X2 f_X2_chooseTarget_30 rfl rfl (by decide) rfl ?_
                refine g_iload_n G 2 dX2_chooseTarget_119 rfl ?_
                refine g_iconst G dX2_chooseTarget_120 ?_
                refine g_iast G 7 [(q0, .inr (2, [.ref q1, .ref q2, .ref q3, .ref q4, .ref q5, .ref q6, .ref q7, .ref q8, .int (iI nd), .int (iI al)])), (q1, ia E 97 pa), (q2, ia E 97 vb), (q3, ia E 97 cd), (q4, ia E 291 cn), (q5, ia E 97 sa2), (q6, ia E 97 ph2), (q7, ia E 12 (upI tg2 m (-1))), (q8, ia E 12 fn2)] dX2_chooseTarget_121 rfl (by omega) (by omega) (by decide) rfl ?_
                refine g_iload G 8 dX2_chooseTarget_122 rfl ?_
                exact g_ret G (some (.int (iI r2))) rfl dX2_chooseTarget_124 (Nat.le_refl _) (Nat.le_refl _) ⟨r2, sa2, ph2, (upI tg2 m (-1)), fn2, rfl, rfl, by exact ChL.out hT hI hf em htm hL c53 c59 hr2 c102 c112, by exact hg2⟩
            · refine g_iconst G dX2_chooseTarget_105 ?_
              exact g_ret G (some (.int (iI (-1)))) rfl dX2_chooseTarget_106 (Nat.le_refl _) (Nat.le_refl _) ⟨(-1), sa2, ph2, tg2, fn2, rfl, rfl, by exact WkR.up hr2 c102, by omega⟩
    exact L47 ((4 - 0 : Int).toNat + 1) 0 0 tg (upI fn m f) sa (upI ph f (orI (ph (pa f)) (shlI 1 m))) (by exact ChL.init hT hI hf em htm) (by first | assumption | omega) (by omega)
  · exfalso; omega
theorem f_X2_walk_49 : Cond.fieldLink RX2 49 (TX2 8).1 (TX2 8).2.1 (TX2 8).2.2.1 ∈ wsX2_walk := by decide +kernel
theorem i_X2_walk_X2 : ∀ w ∈ wsX20, w ∈ wsX2_walk := by decide +kernel
theorem f_X2_walk_11 : Cond.fieldLink RX2 11 (TX2 0).1 (TX2 0).2.1 (TX2 0).2.2.1 ∈ wsX2_walk := by decide +kernel
theorem f_X2_walk_24 : Cond.fieldLink RX2 24 (TX2 4).1 (TX2 4).2.1 (TX2 4).2.2.1 ∈ wsX2_walk := by decide +kernel
theorem f_X2_walk_15 : Cond.fieldLink RX2 15 (TX2 1).1 (TX2 1).2.1 (TX2 1).2.2.1 ∈ wsX2_walk := by decide +kernel
theorem f_X2_walk_30 : Cond.fieldLink RX2 30 (TX2 6).1 (TX2 6).2.1 (TX2 6).2.2.1 ∈ wsX2_walk := by decide +kernel
theorem f_X2_walk_33 : Cond.fieldLink RX2 33 (TX2 7).1 (TX2 7).2.1 (TX2 7).2.2.1 ∈ wsX2_walk := by decide +kernel
theorem f_X2_walk_18 : Cond.fieldLink RX2 18 (TX2 2).1 (TX2 2).2.1 (TX2 2).2.2.1 ∈ wsX2_walk := by decide +kernel
theorem f_X2_walk_27 : Cond.fieldLink RX2 27 (TX2 5).1 (TX2 5).2.1 (TX2 5).2.2.1 ∈ wsX2_walk := by decide +kernel
theorem e_X2_chooseTarget : yX2_chooseTarget.cls ≠ "java/lang/invoke/MethodHandle" ∧ yX2_chooseTarget.cls ≠ "java/lang/invoke/VarHandle" ∧ (parseMethodDescriptor yX2_chooseTarget.desc).map (fun d => d.parameters.length) = some 4 := by decide +kernel
set_option maxRecDepth 100000 in
set_option maxHeartbeats 4000000 in
theorem c_X2_walk_of (E : qE) (e : Nat) (q0 : Nat) (q1 : Nat) (q2 : Nat) (q3 : Nat) (q4 : Nat) (q5 : Nat) (q6 : Nat) (q7 : Nat) (q8 : Nat) (pa : Int → Int) (vb : Int → Int) (cd : Int → Int) (cn : Int → Int) (sa : Int → Int) (ph : Int → Int) (tg : Int → Int) (fn : Int → Int) (nd : Int) (al : Int) (f : Int) (cm : Int) (dp : Int) (So : SoT) (ns : NsT) (hT : TrS pa vb cd nd al So ns) (hI : WkI So ns pa vb cd nd al tg fn sa ph f cm dp) (hd : dp + (e : Int) = 12) (hC : ∀ e1 : Nat, e = e1 + 1 → ∀ (q0 : Nat) (q1 : Nat) (q2 : Nat) (q3 : Nat) (q4 : Nat) (q5 : Nat) (q6 : Nat) (q7 : Nat) (q8 : Nat) (pa : Int → Int) (vb : Int → Int) (cd : Int → Int) (cn : Int → Int) (sa : Int → Int) (ph : Int → Int) (tg : Int → Int) (fn : Int → Int) (nd : Int) (al : Int) (f : Int) (m : Int) (cm : Int) (dp : Int) (So : SoT) (ns : NsT), (TrS pa vb cd nd al So ns) → (WkI So ns pa vb cd nd al tg fn sa ph f cm dp) → (f < nd) → (3 * sa (pa f) + vb f = m) → (tg m = -1) → (dp + (e1 : Int) = 11) → Cn E yX2_chooseTarget wsX2_chooseTarget { frames := 2 * e1 + 1, cells := 0, slots := 0, locals := 55 * e1 + 27 } [.ref q0, .int (iI f), .int (iI m), .int (iI cm), .int (iI dp)] [(q0, .inr (2, [.ref q1, .ref q2, .ref q3, .ref q4, .ref q5, .ref q6, .ref q7, .ref q8, .int (iI nd), .int (iI al)])), (q1, ia E 97 pa), (q2, ia E 97 vb), (q3, ia E 97 cd), (q4, ia E 291 cn), (q5, ia E 97 sa), (q6, ia E 97 ph), (q7, ia E 12 tg), (q8, ia E 12 fn)] (fun v9 w9 => ∃ (r : Int) (sa1 : Int → Int) (ph1 : Int → Int) (tg1 : Int → Int) (fn1 : Int → Int), v9 = some (.int (iI r)) ∧ w9 = [(q0, .inr (2, [.ref q1, .ref q2, .ref q3, .ref q4, .ref q5, .ref q6, .ref q7, .ref q8, .int (iI nd), .int (iI al)])), (q1, ia E 97 pa), (q2, ia E 97 vb), (q3, ia E 97 cd), (q4, ia E 291 cn), (q5, ia E 97 sa1), (q6, ia E 97 ph1), (q7, ia E 12 tg1), (q8, ia E 12 fn1)] ∧ (WkR So ns pa vb cd nd al tg fn sa ph f r tg1 fn1 sa1 ph1) ∧ (-2147483648 ≤ r ∧ r < 2147483648)) 0 0) : Cn E yX2_walk wsX2_walk { frames := 2 * e, cells := 0, slots := 0, locals := 55 * e } [.ref q0, .int (iI f), .int (iI cm), .int (iI dp)] [(q0, .inr (2, [.ref q1, .ref q2, .ref q3, .ref q4, .ref q5, .ref q6, .ref q7, .ref q8, .int (iI nd), .int (iI al)])), (q1, ia E 97 pa), (q2, ia E 97 vb), (q3, ia E 97 cd), (q4, ia E 291 cn), (q5, ia E 97 sa), (q6, ia E 97 ph), (q7, ia E 12 tg), (q8, ia E 12 fn)] (fun v9 w9 => ∃ (r : Int) (sa1 : Int → Int) (ph1 : Int → Int) (tg1 : Int → Int) (fn1 : Int → Int), v9 = some (.int (iI r)) ∧ w9 = [(q0, .inr (2, [.ref q1, .ref q2, .ref q3, .ref q4, .ref q5, .ref q6, .ref q7, .ref q8, .int (iI nd), .int (iI al)])), (q1, ia E 97 pa), (q2, ia E 97 vb), (q3, ia E 97 cd), (q4, ia E 291 cn), (q5, ia E 97 sa1), (q6, ia E 97 ph1), (q7, ia E 12 tg1), (q8, ia E 12 fn1)] ∧ (WkR So ns pa vb cd nd al tg fn sa ph f r tg1 fn1 sa1 ph1) ∧ (-2147483648 ≤ r ∧ r < 2147483648)) 0 0 := by
  refine Cn.ofP (own := RX2) (cc := cX2_walk) (maxL := 8) (ret := (some .int)) false [(0, .ref q0), (1, .int (iI f)), (2, .int (iI cm)), (3, .int (iI dp))] (by decide +kernel) rfl rfl (Nat.le_of_ble_eq_true rfl) rfl (fun h => nomatch h) (fun v w h => by obtain ⟨r, sa1, ph1, tg1, fn1, rfl, h9⟩ := h; exact ⟨_, rfl, rfl⟩) ?_
  intro P G
  have hal := hT.1.1
  have hnd := hT.1.2.1
  have hpa := hT.1.2.2.1
  have hd0 := WkI.dp0 hI
  have hf0 := hI.1
  refine g_iload_n G 1 dX2_walk_0 rfl ?_
  refine g_istore G [(0, .ref q0), (1, .int (iI f)), (2, .int (iI cm)), (3, .int (iI dp)), (4, .int (iI f))] dX2_walk_1 (by decide) rfl rfl ?_
  have L3 : ∀ (fuel : Nat), ∀ (k : Int) (sa1 : Int → Int) (ph1 : Int → Int), (f ≤ k ∧ k ≤ nd) → (WkI So ns pa vb cd nd al tg fn sa1 ph1 k cm dp) → (∀ j, 0 ≤ j → j < f → sa1 j = sa j ∧ ph1 j = ph j) → (nd - k : Int).toNat < fuel → P 0 0 [(q0, .inr (2, [.ref q1, .ref q2, .ref q3, .ref q4, .ref q5, .ref q6, .ref q7, .ref q8, .int (iI nd), .int (iI al)])), (q1, ia E 97 pa), (q2, ia E 97 vb), (q3, ia E 97 cd), (q4, ia E 291 cn), (q5, ia E 97 sa1), (q6, ia E 97 ph1), (q7, ia E 12 tg), (q8, ia E 12 fn)] 3 [(0, .ref q0), (1, .int (iI f)), (2, .int (iI cm)), (3, .int (iI dp)), (4, .int (iI k))] [] := by
    intro fuel
    induction fuel with
    | zero => intro k sa1 ph1 hk hI1 hsm hm; exact absurd hm (Nat.not_lt_zero _)
    | succ fuel ih3 =>
      intro k sa1 ph1 hk hI1 hsm hm
      refine g_iload G 4 dX2_walk_3 rfl ?_
      refine g_aload_n G 0 dX2_walk_5 rfl ?_
      refine g_get G 0 8 dX2_walk_6 i_X2_walk_X2 f_X2_walk_49 rfl rfl (by decide) rfl ?_
      refine g_icmp_ge G 148 dX2_walk_9 (by decide) (by omega) (by omega) (fun c9 => ?_) (fun c9 => ?_)
      · refine g_iconst G dX2_walk_148 ?_
        exact g_ret G (some (.int (iI (-1)))) rfl dX2_walk_149 (Nat.le_refl _) (Nat.le_refl _) ⟨(-1), sa1, ph1, tg, fn, rfl, rfl, by exact WkR.yesf hI1 (by omega), by omega⟩
      · have hmv := WkI.mv hT hI1 c9
        refine g_aload_n G 0 dX2_walk_12 rfl ?_
        refine g_get G 0 0 dX2_walk_13 i_X2_walk_X2 f_X2_walk_11 rfl rfl (by decide) rfl ?_
        refine g_iload G 4 dX2_walk_16 rfl ?_
        refine g_iald G 1 dX2_walk_18 rfl (by omega) (by omega) (by decide) ?_
        refine g_istore G [(0, .ref q0), (1, .int (iI f)), (2, .int (iI cm)), (3, .int (iI dp)), (4, .int (iI k)), (5, .int (iI (pa k)))] dX2_walk_19 (by decide) rfl rfl ?_
        refine g_aload_n G 0 dX2_walk_21 rfl ?_
        refine g_get G 0 4 dX2_walk_22 i_X2_walk_X2 f_X2_walk_24 rfl rfl (by decide) rfl ?_
        refine g_iload G 5 dX2_walk_25 rfl ?_
        refine g_iald G 5 dX2_walk_27 rfl (by omega) (by omega) (by decide) ?_
        refine g_iconst G dX2_walk_28 ?_
        refine g_imul G dX2_walk_29 ?_
        refine g_aload_n G 0 dX2_walk_30 rfl ?_
        refine g_get G 0 1 dX2_walk_31 i_X2_walk_X2 f_X2_walk_15 rfl rfl (by decide) rfl ?_
        refine g_iload G 4 dX2_walk_34 rfl ?_
        refine g_iald G 2 dX2_walk_36 rfl (by omega) (by omega) (by decide) ?_
        refine g_iadd G dX2_walk_37 ?_
        refine g_istore G [(0, .ref q0), (1, .int (iI f)), (2, .int (iI cm)), (3, .int (iI dp)), (4, .int (iI k)), (5, .int (iI (pa k))), (6, .int (iI (((sa1 (pa k)) * 3) + (vb k))))] dX2_walk_38 (by decide) rfl rfl ?_
        refine g_aload_n G 0 dX2_walk_40 rfl ?_
        refine g_get G 0 6 dX2_walk_41 i_X2_walk_X2 f_X2_walk_30 rfl rfl (by decide) rfl ?_
        refine g_iload G 6 dX2_walk_44 rfl ?_
        refine g_iald G 7 dX2_walk_46 rfl (by omega) (by omega) (by decide) ?_
        have htb := WkI.bd hT hI1 (sa1 (pa k) * 3 + vb k)
        refine g_iconst G dX2_walk_47 ?_
        refine g_icmp_ne G 62 dX2_walk_48 (by decide) (by omega) (by omega) (fun c48 => ?_) (fun c48 => ?_)
        · have hfm := WkT.lt hI1.2.1 (m := (sa1 (pa k) * 3 + vb k)) (by omega)
          have hpf := hpa (fn (sa1 (pa k) * 3 + vb k)) (by omega) (by omega)
          have hc1 := hT.1.2.2.2.2 (fn (sa1 (pa k) * 3 + vb k))
          have hc2 := hT.1.2.2.2.2 k
          refine g_aload_n G 0 dX2_walk_62 rfl ?_
          refine g_get G 0 7 dX2_walk_63 i_X2_walk_X2 f_X2_walk_33 rfl rfl (by decide) rfl ?_
          refine g_iload G 6 dX2_walk_66 rfl ?_
          refine g_iald G 8 dX2_walk_68 rfl (by omega) (by omega) (by decide) ?_
          refine g_istore G [(0, .ref q0), (1, .int (iI f)), (2, .int (iI cm)), (3, .int (iI dp)), (4, .int (iI k)), (5, .int (iI (pa k))), (6, .int (iI (((sa1 (pa k)) * 3) + (vb k)))), (7, .int (iI (fn (((sa1 (pa k)) * 3) + (vb k)))))] dX2_walk_69 (by decide) rfl rfl ?_
          refine g_aload_n G 0 dX2_walk_71 rfl ?_
          refine g_get G 0 2 dX2_walk_72 i_X2_walk_X2 f_X2_walk_18 rfl rfl (by decide) rfl ?_
          refine g_iload G 7 dX2_walk_75 rfl ?_
          refine g_iald G 3 dX2_walk_77 rfl (by omega) (by omega) (by decide) ?_
          refine g_aload_n G 0 dX2_walk_78 rfl ?_
          refine g_get G 0 2 dX2_walk_79 i_X2_walk_X2 f_X2_walk_18 rfl rfl (by decide) rfl ?_
          refine g_iload G 4 dX2_walk_82 rfl ?_
          refine g_iald G 3 dX2_walk_84 rfl (by omega) (by omega) (by decide) ?_
          refine g_icmp_eq G 109 dX2_walk_85 (by decide) (by omega) (by omega) (fun c85 => ?_) (fun c85 => ?_)
          · refine g_aload_n G 0 dX2_walk_109 rfl ?_
            refine g_get G 0 4 dX2_walk_110 i_X2_walk_X2 f_X2_walk_24 rfl rfl (by decide) rfl ?_
            refine g_iload G 4 dX2_walk_113 rfl ?_
            refine g_aload_n G 0 dX2_walk_115 rfl ?_
            refine g_get G 0 6 dX2_walk_116 i_X2_walk_X2 f_X2_walk_30 rfl rfl (by decide) rfl ?_
            refine g_iload G 6 dX2_walk_119 rfl ?_
            refine g_iald G 7 dX2_walk_121 rfl (by omega) (by omega) (by decide) ?_
            refine g_iast G 5 [(q0, .inr (2, [.ref q1, .ref q2, .ref q3, .ref q4, .ref q5, .ref q6, .ref q7, .ref q8, .int (iI nd), .int (iI al)])), (q1, ia E 97 pa), (q2, ia E 97 vb), (q3, ia E 97 cd), (q4, ia E 291 cn), (q5, ia E 97 (upI sa1 k (tg (((sa1 (pa k)) * 3) + (vb k))))), (q6, ia E 97 ph1), (q7, ia E 12 tg), (q8, ia E 12 fn)] dX2_walk_122 rfl (by omega) (by omega) (by decide) rfl ?_
            refine g_aload_n G 0 dX2_walk_123 rfl ?_
            refine g_get G 0 5 dX2_walk_124 i_X2_walk_X2 f_X2_walk_27 rfl rfl (by decide) rfl ?_
            refine g_iload G 4 dX2_walk_127 rfl ?_
            refine g_aload_n G 0 dX2_walk_129 rfl ?_
            refine g_get G 0 5 dX2_walk_130 i_X2_walk_X2 f_X2_walk_27 rfl rfl (by decide) rfl ?_
            refine g_iload G 5 dX2_walk_133 rfl ?_
            refine g_iald G 6 dX2_walk_135 rfl (by omega) (by omega) (by decide) ?_
            refine g_iconst G dX2_walk_136 ?_
            refine g_iload G 6 dX2_walk_137 rfl ?_
            refine g_ishl G dX2_walk_139 ?_
            refine g_ior G dX2_walk_140 ?_
            refine g_iast G 6 [(q0, .inr (2, [.ref q1, .ref q2, .ref q3, .ref q4, .ref q5, .ref q6, .ref q7, .ref q8, .int (iI nd), .int (iI al)])), (q1, ia E 97 pa), (q2, ia E 97 vb), (q3, ia E 97 cd), (q4, ia E 291 cn), (q5, ia E 97 (upI sa1 k (tg (((sa1 (pa k)) * 3) + (vb k))))), (q6, ia E 97 (upI ph1 k (orI (ph1 (pa k)) (shlI 1 (((sa1 (pa k)) * 3) + (vb k)))))), (q7, ia E 12 tg), (q8, ia E 12 fn)] dX2_walk_141 rfl (by omega) (by omega) (by decide) rfl ?_
            refine g_iinc G 4 [(0, .ref q0), (1, .int (iI f)), (2, .int (iI cm)), (3, .int (iI dp)), (4, .int (iI (k + 1))), (5, .int (iI (pa k))), (6, .int (iI (((sa1 (pa k)) * 3) + (vb k)))), (7, .int (iI (fn (((sa1 (pa k)) * 3) + (vb k)))))] dX2_walk_142 rfl (by decide) rfl rfl ?_
            refine g_goto G 3 dX2_walk_145 (by decide) ?_
            refine g_lv G [0, 1, 2, 3, 4] (lv' := [(0, .ref q0), (1, .int (iI f)), (2, .int (iI cm)), (3, .int (iI dp)), (4, .int (iI (k + 1)))]) rfl ?_
            exact ih3 (k + 1) (upI sa1 k (tg (((sa1 (pa k)) * 3) + (vb k)))) (upI ph1 k (orI (ph1 (pa k)) (shlI 1 (((sa1 (pa k)) * 3) + (vb k))))) (by first | assumption | omega) (by exact WkI.go hT hI1 c9 (show 3 * sa1 (pa k) + vb k = sa1 (pa k) * 3 + vb k by omega) c48 c85) (by intro j h0 h1; rw [upI_ne _ _ (by omega), upI_ne _ _ (by omega)]; exact hsm j h0 h1) (by omega)
          · refine g_aload_n G 0 dX2_walk_88 rfl ?_
            refine g_get G 0 5 dX2_walk_89 i_X2_walk_X2 f_X2_walk_27 rfl rfl (by decide) rfl ?_
            refine g_iload G 5 dX2_walk_92 rfl ?_
            refine g_iald G 6 dX2_walk_94 rfl (by omega) (by omega) (by decide) ?_
            refine g_aload_n G 0 dX2_walk_95 rfl ?_
            refine g_get G 0 5 dX2_walk_96 i_X2_walk_X2 f_X2_walk_27 rfl rfl (by decide) rfl ?_
            refine g_aload_n G 0 dX2_walk_99 rfl ?_
            refine g_get G 0 0 dX2_walk_100 i_X2_walk_X2 f_X2_walk_11 rfl rfl (by decide) rfl ?_
            refine g_iload G 7 dX2_walk_103 rfl ?_
            refine g_iald G 1 dX2_walk_105 rfl (by omega) (by omega) (by decide) ?_
            refine g_iald G 6 dX2_walk_106 rfl (by omega) (by omega) (by decide) ?_
            refine g_ior G dX2_walk_107 ?_
            exact g_ret G (some (.int (iI (orI (ph1 (pa k)) (ph1 (pa (fn (((sa1 (pa k)) * 3) + (vb k))))))))) rfl dX2_walk_108 (Nat.le_refl _) (Nat.le_refl _) ⟨(orI (ph1 (pa k)) (ph1 (pa (fn (((sa1 (pa k)) * 3) + (vb k)))))), sa1, ph1, tg, fn, rfl, rfl, by exact WkR.more (WkI.bad hT hI1 c9 (show 3 * sa1 (pa k) + vb k = sa1 (pa k) * 3 + vb k by omega) c48 c85) hk.1 hsm, by exact orI_rg _ _⟩
        · obtain ⟨e1, he1⟩ : ∃ e1 : Nat, e = e1 + 1 := ⟨e - 1, by have q := WkI.dep hT hI1 c9 (by rw [(show 3 * sa1 (pa k) + vb k = sa1 (pa k) * 3 + vb k by omega)]; exact c48); omega⟩
          refine g_aload_n G 0 dX2_walk_51 rfl ?_
          refine g_iload G 4 dX2_walk_52 rfl ?_
          refine g_iload G 6 dX2_walk_54 rfl ?_
          refine g_iload_n G 2 dX2_walk_56 rfl ?_
          refine g_iload_n G 3 dX2_walk_57 rfl ?_
          refine g_callV G [0, 1, 2, 3, 4, 5, 6, 7, 8] [] 9 [] [.int (iI k), .int (iI (((sa1 (pa k)) * 3) + (vb k))), .int (iI cm), .int (iI dp)] [] (hC e1 he1 q0 q1 q2 q3 q4 q5 q6 q7 q8 pa vb cd cn sa1 ph1 tg fn nd al k (((sa1 (pa k)) * 3) + (vb k)) cm dp So ns (by exact hT) (by exact hI1) (by exact c9) (by omega) (by exact c48) (by omega)) dX2_walk_58 gX2_walk_X2_chooseTarget ⟨rfl, ⟨rfl, rfl⟩, e_X2_chooseTarget, ⟨by show (2 * e1 + 1) + 1 ≤ 2 * e; omega, by show 8 + (9 + 11) + (55 * e1 + 27) ≤ 55 * e; omega⟩, Nat.le_of_ble_eq_true rfl, Nat.le_of_ble_eq_true rfl, Nat.le_of_ble_eq_true rfl⟩ rfl rfl rfl rfl rfl (by decide +kernel) rfl (by decide +kernel) rfl (fun v9 w9 h9 => ?_)
          obtain ⟨r2, sa2, ph2, tg2, fn2, rfl, rfl, hr2, hg2⟩ := h9
          refine ⟨[(q0, .inr (2, [.ref q1, .ref q2, .ref q3, .ref q4, .ref q5, .ref q6, .ref q7, .ref q8, .int (iI nd), .int (iI al)])), (q1, ia E 97 pa), (q2, ia E 97 vb), (q3, ia E 97 cd), (q4, ia E 291 cn), (q5, ia E 97 sa2), (q6, ia E 97 ph2), (q7, ia E 12 tg2), (q8, ia E 12 fn2)], ⟨rfl, rfl, rfl, rfl⟩, g_to 0 0 _ _ [.int (iI r2)] rfl rfl rfl rfl rfl ?_⟩
          exact g_ret G (some (.int (iI r2))) rfl dX2_walk_61 (Nat.le_refl _) (Nat.le_refl _) ⟨r2, sa2, ph2, tg2, fn2, rfl, rfl, by exact WkR.more hr2 hk.1 hsm, by exact hg2⟩
  exact L3 ((nd - f : Int).toNat + 1) f sa ph (by first | assumption | omega) (by exact hI) (by exact fun j _ _ => ⟨rfl, rfl⟩) (by omega)
theorem wk_all (E : qE) : ∀ e : Nat, ∀ (q0 : Nat) (q1 : Nat) (q2 : Nat) (q3 : Nat) (q4 : Nat) (q5 : Nat) (q6 : Nat) (q7 : Nat) (q8 : Nat) (pa : Int → Int) (vb : Int → Int) (cd : Int → Int) (cn : Int → Int) (sa : Int → Int) (ph : Int → Int) (tg : Int → Int) (fn : Int → Int) (nd : Int) (al : Int) (f : Int) (cm : Int) (dp : Int) (So : SoT) (ns : NsT), (TrS pa vb cd nd al So ns) → (WkI So ns pa vb cd nd al tg fn sa ph f cm dp) → (dp + (e : Int) = 12) → Cn E yX2_walk wsX2_walk { frames := 2 * e, cells := 0, slots := 0, locals := 55 * e } [.ref q0, .int (iI f), .int (iI cm), .int (iI dp)] [(q0, .inr (2, [.ref q1, .ref q2, .ref q3, .ref q4, .ref q5, .ref q6, .ref q7, .ref q8, .int (iI nd), .int (iI al)])), (q1, ia E 97 pa), (q2, ia E 97 vb), (q3, ia E 97 cd), (q4, ia E 291 cn), (q5, ia E 97 sa), (q6, ia E 97 ph), (q7, ia E 12 tg), (q8, ia E 12 fn)] (fun v9 w9 => ∃ (r : Int) (sa1 : Int → Int) (ph1 : Int → Int) (tg1 : Int → Int) (fn1 : Int → Int), v9 = some (.int (iI r)) ∧ w9 = [(q0, .inr (2, [.ref q1, .ref q2, .ref q3, .ref q4, .ref q5, .ref q6, .ref q7, .ref q8, .int (iI nd), .int (iI al)])), (q1, ia E 97 pa), (q2, ia E 97 vb), (q3, ia E 97 cd), (q4, ia E 291 cn), (q5, ia E 97 sa1), (q6, ia E 97 ph1), (q7, ia E 12 tg1), (q8, ia E 12 fn1)] ∧ (WkR So ns pa vb cd nd al tg fn sa ph f r tg1 fn1 sa1 ph1) ∧ (-2147483648 ≤ r ∧ r < 2147483648)) 0 0 := by
  intro e
  induction e with
  | zero => exact fun q0 q1 q2 q3 q4 q5 q6 q7 q8 pa vb cd cn sa ph tg fn nd al f cm dp So ns hT hI hd => c_X2_walk_of E 0 q0 q1 q2 q3 q4 q5 q6 q7 q8 pa vb cd cn sa ph tg fn nd al f cm dp So ns hT hI hd (fun e1 q => by omega)
  | succ e ih =>
    refine fun q0 q1 q2 q3 q4 q5 q6 q7 q8 pa vb cd cn sa ph tg fn nd al f cm dp So ns hT hI hd => c_X2_walk_of E (e + 1) q0 q1 q2 q3 q4 q5 q6 q7 q8 pa vb cd cn sa ph tg fn nd al f cm dp So ns hT hI hd (fun e1 q => ?_)
    have q2 : e = e1 := by omega
    subst q2
    exact fun q0 q1 q2 q3 q4 q5 q6 q7 q8 pa vb cd cn sa ph tg fn nd al f m cm dp So ns hT hI hf em htm hd => c_X2_chooseTarget_of E e q0 q1 q2 q3 q4 q5 q6 q7 q8 pa vb cd cn sa ph tg fn nd al f m cm dp So ns hT hI hf em htm hd ih
theorem c_X2_walk (E : qE) (e : Nat) (q0 : Nat) (q1 : Nat) (q2 : Nat) (q3 : Nat) (q4 : Nat) (q5 : Nat) (q6 : Nat) (q7 : Nat) (q8 : Nat) (pa : Int → Int) (vb : Int → Int) (cd : Int → Int) (cn : Int → Int) (sa : Int → Int) (ph : Int → Int) (tg : Int → Int) (fn : Int → Int) (nd : Int) (al : Int) (f : Int) (cm : Int) (dp : Int) (So : SoT) (ns : NsT) (hT : TrS pa vb cd nd al So ns) (hI : WkI So ns pa vb cd nd al tg fn sa ph f cm dp) (hd : dp + (e : Int) = 12) : Cn E yX2_walk wsX2_walk { frames := 2 * e, cells := 0, slots := 0, locals := 55 * e } [.ref q0, .int (iI f), .int (iI cm), .int (iI dp)] [(q0, .inr (2, [.ref q1, .ref q2, .ref q3, .ref q4, .ref q5, .ref q6, .ref q7, .ref q8, .int (iI nd), .int (iI al)])), (q1, ia E 97 pa), (q2, ia E 97 vb), (q3, ia E 97 cd), (q4, ia E 291 cn), (q5, ia E 97 sa), (q6, ia E 97 ph), (q7, ia E 12 tg), (q8, ia E 12 fn)] (fun v9 w9 => ∃ (r : Int) (sa1 : Int → Int) (ph1 : Int → Int) (tg1 : Int → Int) (fn1 : Int → Int), v9 = some (.int (iI r)) ∧ w9 = [(q0, .inr (2, [.ref q1, .ref q2, .ref q3, .ref q4, .ref q5, .ref q6, .ref q7, .ref q8, .int (iI nd), .int (iI al)])), (q1, ia E 97 pa), (q2, ia E 97 vb), (q3, ia E 97 cd), (q4, ia E 291 cn), (q5, ia E 97 sa1), (q6, ia E 97 ph1), (q7, ia E 12 tg1), (q8, ia E 12 fn1)] ∧ (WkR So ns pa vb cd nd al tg fn sa ph f r tg1 fn1 sa1 ph1) ∧ (-2147483648 ≤ r ∧ r < 2147483648)) 0 0 := wk_all E e q0 q1 q2 q3 q4 q5 q6 q7 q8 pa vb cd cn sa ph tg fn nd al f cm dp So ns hT hI hd
