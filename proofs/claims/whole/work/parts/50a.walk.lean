/-! MINI KIT 6: masks -/
section K6
variable {E : qE} {own : String} {cc : ByteArray} {nL : Nat} {Ts : List Cond} {R : Room} {ini : Bool} {Rt : Option Value → va_W → Prop} {mc ms : Nat} {P : qP} {k n : Nat} {w : va_W} {pc : Nat} {lv : List (Nat × Value)} {st : List Value}
theorem g_ior (G : Gd E own cc nL Ts R ini Rt mc ms P) {a b : Int} (d : decode cc pc = .ok (.ior, 1)) (kk : P k n w (pc + 1) lv (.int (iI (orI a b)) :: st)) : P k n w pc lv (.int (iI b) :: .int (iI a) :: st) :=
  G.one (fun _ _ _ _ _ _ _ _ _ _ _ _ hx hb _ _ h => lv_ior hx hb d (by unfold orI at h; rw [iI_bk] at h; exact h)) kk
theorem g_iand (G : Gd E own cc nL Ts R ini Rt mc ms P) {a b : Int} (d : decode cc pc = .ok (.iand, 1)) (kk : P k n w (pc + 1) lv (.int (iI (andI a b)) :: st)) : P k n w pc lv (.int (iI b) :: .int (iI a) :: st) :=
  G.one (fun _ _ _ _ _ _ _ _ _ _ _ _ hx hb _ _ h => lv_iand hx hb d (by unfold andI at h; rw [iI_bk] at h; exact h)) kk
theorem g_ixor (G : Gd E own cc nL Ts R ini Rt mc ms P) {a b : Int} (d : decode cc pc = .ok (.ixor, 1)) (kk : P k n w (pc + 1) lv (.int (iI (xorI a b)) :: st)) : P k n w pc lv (.int (iI b) :: .int (iI a) :: st) :=
  G.one (fun _ _ _ _ _ _ _ _ _ _ _ _ hx hb _ _ h => lv_ixor hx hb d (by unfold xorI at h; rw [iI_bk] at h; exact h)) kk
theorem g_ishl (G : Gd E own cc nL Ts R ini Rt mc ms P) {a b : Int} (d : decode cc pc = .ok (.ishl, 1)) (kk : P k n w (pc + 1) lv (.int (iI (shlI a b)) :: st)) : P k n w pc lv (.int (iI b) :: .int (iI a) :: st) :=
  G.one (fun _ _ _ _ _ _ _ _ _ _ _ _ hx hb _ _ h => lv_ishl hx hb d (by unfold shlI at h; rw [iI_bk] at h; exact h)) kk
theorem g_pop (G : Gd E own cc nL Ts R ini Rt mc ms P) {v : Value} (d : decode cc pc = .ok (.pop, 1)) (hv : v.category = 1) (kk : P k n w (pc + 1) lv st) : P k n w pc lv (v :: st) :=
  G.one (fun _ _ _ _ _ _ _ _ _ _ _ _ hx hb _ _ h => lv_pop hx hb d hv h) kk
end K6
theorem f_X2_enter_30 : Cond.fieldLink RX2 30 (TX2 6).1 (TX2 6).2.1 (TX2 6).2.2.1 ∈ wsX2_enter := by decide +kernel
theorem i_X2_enter_X2 : ∀ w ∈ wsX20, w ∈ wsX2_enter := by decide +kernel
theorem f_X2_enter_33 : Cond.fieldLink RX2 33 (TX2 7).1 (TX2 7).2.1 (TX2 7).2.2.1 ∈ wsX2_enter := by decide +kernel
theorem f_X2_enter_21 : Cond.fieldLink RX2 21 (TX2 3).1 (TX2 3).2.1 (TX2 3).2.2.1 ∈ wsX2_enter := by decide +kernel
theorem f_X2_enter_124 : Cond.fieldLink RX2 124 (TX2 15).1 (TX2 15).2.1 (TX2 15).2.2.1 ∈ wsX2_enter := by decide +kernel
theorem f_X2_enter_45 : Cond.fieldLink RX2 45 (TX2 11).1 (TX2 11).2.1 (TX2 11).2.2.1 ∈ wsX2_enter := by decide +kernel
theorem f_X2_enter_48 : Cond.fieldLink RX2 48 (TX2 12).1 (TX2 12).2.1 (TX2 12).2.2.1 ∈ wsX2_enter := by decide +kernel
theorem f_X2_enter_51 : Cond.fieldLink RX2 51 (TX2 13).1 (TX2 13).2.1 (TX2 13).2.2.1 ∈ wsX2_enter := by decide +kernel
theorem f_X2_enter_27 : Cond.fieldLink RX2 27 (TX2 5).1 (TX2 5).2.1 (TX2 5).2.2.1 ∈ wsX2_enter := by decide +kernel
theorem f_X2_enter_36 : Cond.fieldLink RX2 36 (TX2 8).1 (TX2 8).2.1 (TX2 8).2.2.1 ∈ wsX2_enter := by decide +kernel
theorem f_X2_enter_39 : Cond.fieldLink RX2 39 (TX2 9).1 (TX2 9).2.1 (TX2 9).2.2.1 ∈ wsX2_enter := by decide +kernel
theorem f_X2_enter_18 : Cond.fieldLink RX2 18 (TX2 2).1 (TX2 2).2.1 (TX2 2).2.2.1 ∈ wsX2_enter := by decide +kernel
theorem f_X2_enter_11 : Cond.fieldLink RX2 11 (TX2 0).1 (TX2 0).2.1 (TX2 0).2.2.1 ∈ wsX2_enter := by decide +kernel
set_option maxRecDepth 100000 in
set_option maxHeartbeats 4000000 in
theorem c_X2_enter (E : qE) (q0 : Nat) (q1 : Nat) (q2 : Nat) (q3 : Nat) (q4 : Nat) (q5 : Nat) (q6 : Nat) (q7 : Nat) (q8 : Nat) (q9 : Nat) (q10 : Nat) (q11 : Nat) (q12 : Nat) (q13 : Nat) (q14 : Nat) (pa : Int → Int) (vb : Int → Int) (cd : Int → Int) (cn : Int → Int) (xc : Int → Int) (xw : Int → Int) (sa : Int → Int) (ph : Int → Int) (xm : Int → Int) (xa : Int → Int) (tg : Int → Int) (xt : Int → Int) (xn : Int → Int) (xv : Int → Int) (nd : Int) (xr : Int) (al : Int) (x : Int) (st : Int) (pt : Int) (cm : Int) (Se : Int → Prop) (hnd : 1 ≤ nd ∧ nd ≤ 97) (hvb : ∀ k, 0 ≤ vb k ∧ vb k < 3) (hcd : ∀ k, 0 ≤ cd k ∧ cd k < 4) (hpa : ∀ k, 1 ≤ k → k < nd → 0 ≤ pa k ∧ pa k < k) (hk : TrC pa vb cn nd) (hcm : cm ≤ 4) (hx : 0 ≤ x ∧ x < nd) (hsx : Se x) (hS : ArS nd xw xm xa xt xn xv xr) (hL : ArL pa vb cd nd tg (upI sa x st) xm xa xr cm Se (cPd pa vb x 0)) (hN : ∀ k, 1 ≤ k → k < nd → pa k = x → 0 ≤ vb k → ¬ ArA xa xr k) : Cn E yX2_enter wsX2_enter { frames := 0, cells := 0, slots := 0, locals := 0 } [.ref q0, .int (iI x), .int (iI st), .int (iI pt)] [(q0, .inr (2, [.ref q1, .ref q2, .ref q3, .ref q4, .ref q5, .ref q6, .ref q7, .ref q8, .ref q9, .ref q10, .ref q11, .ref q12, .ref q13, .ref q14, .int (iI nd), .int (iI xr), .int (iI al)])), (q1, ia E 97 pa), (q2, ia E 97 vb), (q3, ia E 97 cd), (q4, ia E 291 cn), (q5, ia E 12 xc), (q6, ia E 97 xw), (q7, ia E 97 sa), (q8, ia E 97 ph), (q9, ia E 97 xm), (q10, ia E 97 xa), (q11, ia E 12 tg), (q12, ia E 1164 xt), (q13, ia E 12 xn), (q14, ia E 12 xv)] (fun v9 w9 => ∃ (r : Int) (xm1 : Int → Int) (xa1 : Int → Int) (xt1 : Int → Int) (xn1 : Int → Int) (xv1 : Int → Int) (xr1 : Int), v9 = some (.int (iI r)) ∧ w9 = [(q0, .inr (2, [.ref q1, .ref q2, .ref q3, .ref q4, .ref q5, .ref q6, .ref q7, .ref q8, .ref q9, .ref q10, .ref q11, .ref q12, .ref q13, .ref q14, .int (iI nd), .int (iI xr1), .int (iI al)])), (q1, ia E 97 pa), (q2, ia E 97 vb), (q3, ia E 97 cd), (q4, ia E 291 cn), (q5, ia E 12 xc), (q6, ia E 97 xw), (q7, ia E 97 (upI sa x st)), (q8, ia E 97 (upI ph x pt)), (q9, ia E 97 xm1), (q10, ia E 97 xa1), (q11, ia E 12 tg), (q12, ia E 1164 xt1), (q13, ia E 12 xn1), (q14, ia E 12 xv1)] ∧ (EnR pa vb cd nd xw tg (upI sa x st) (upI ph x pt) xm xa xr cm Se r xm1 xa1 xt1 xn1 xv1 xr1) ∧ (-2147483648 ≤ r ∧ r < 2147483648)) 0 0 := by
  refine Cn.ofP (own := RX2) (cc := cX2_enter) (maxL := 8) (ret := (some .int)) false [(0, .ref q0), (1, .int (iI x)), (2, .int (iI st)), (3, .int (iI pt))] (by decide +kernel) rfl rfl (Nat.le_of_ble_eq_true rfl) rfl (fun h => nomatch h) (fun v w h => by obtain ⟨r, xm1, xa1, xt1, xn1, xv1, xr1, rfl, h9⟩ := h; exact ⟨_, rfl, rfl⟩) ?_
  intro P G
  refine g_aload_n G 0 dX2_enter_0 rfl ?_
  refine g_get G 0 6 dX2_enter_1 i_X2_enter_X2 f_X2_enter_30 rfl rfl (by decide) rfl ?_
  refine g_iload_n G 1 dX2_enter_4 rfl ?_
  refine g_iload_n G 2 dX2_enter_5 rfl ?_
  refine g_iast G 7 [(q0, .inr (2, [.ref q1, .ref q2, .ref q3, .ref q4, .ref q5, .ref q6, .ref q7, .ref q8, .ref q9, .ref q10, .ref q11, .ref q12, .ref q13, .ref q14, .int (iI nd), .int (iI xr), .int (iI al)])), (q1, ia E 97 pa), (q2, ia E 97 vb), (q3, ia E 97 cd), (q4, ia E 291 cn), (q5, ia E 12 xc), (q6, ia E 97 xw), (q7, ia E 97 (upI sa x st)), (q8, ia E 97 ph), (q9, ia E 97 xm), (q10, ia E 97 xa), (q11, ia E 12 tg), (q12, ia E 1164 xt), (q13, ia E 12 xn), (q14, ia E 12 xv)] dX2_enter_6 rfl (by omega) (by omega) (by decide) rfl ?_
  refine g_aload_n G 0 dX2_enter_7 rfl ?_
  refine g_get G 0 7 dX2_enter_8 i_X2_enter_X2 f_X2_enter_33 rfl rfl (by decide) rfl ?_
  refine g_iload_n G 1 dX2_enter_11 rfl ?_
  refine g_iload_n G 3 dX2_enter_12 rfl ?_
  refine g_iast G 8 [(q0, .inr (2, [.ref q1, .ref q2, .ref q3, .ref q4, .ref q5, .ref q6, .ref q7, .ref q8, .ref q9, .ref q10, .ref q11, .ref q12, .ref q13, .ref q14, .int (iI nd), .int (iI xr), .int (iI al)])), (q1, ia E 97 pa), (q2, ia E 97 vb), (q3, ia E 97 cd), (q4, ia E 291 cn), (q5, ia E 12 xc), (q6, ia E 97 xw), (q7, ia E 97 (upI sa x st)), (q8, ia E 97 (upI ph x pt)), (q9, ia E 97 xm), (q10, ia E 97 xa), (q11, ia E 12 tg), (q12, ia E 1164 xt), (q13, ia E 12 xn), (q14, ia E 12 xv)] dX2_enter_13 rfl (by omega) (by omega) (by decide) rfl ?_
  refine g_iconst G dX2_enter_14 ?_
  refine g_istore G [(0, .ref q0), (1, .int (iI x)), (2, .int (iI st)), (3, .int (iI pt)), (4, .int (iI 0))] dX2_enter_15 (by decide) rfl rfl ?_
  have L17 : ∀ (fuel : Nat), ∀ (v : Int) (xm1 : Int → Int) (xa1 : Int → Int) (xt1 : Int → Int) (xn1 : Int → Int) (xv1 : Int → Int) (xr1 : Int), (0 ≤ v ∧ v ≤ 3) → (EnL pa vb cd nd xw tg (upI sa x st) xm xa xr cm Se x v xm1 xa1 xt1 xn1 xv1 xr1) → (3 - v : Int).toNat < fuel → P 0 0 [(q0, .inr (2, [.ref q1, .ref q2, .ref q3, .ref q4, .ref q5, .ref q6, .ref q7, .ref q8, .ref q9, .ref q10, .ref q11, .ref q12, .ref q13, .ref q14, .int (iI nd), .int (iI xr1), .int (iI al)])), (q1, ia E 97 pa), (q2, ia E 97 vb), (q3, ia E 97 cd), (q4, ia E 291 cn), (q5, ia E 12 xc), (q6, ia E 97 xw), (q7, ia E 97 (upI sa x st)), (q8, ia E 97 (upI ph x pt)), (q9, ia E 97 xm1), (q10, ia E 97 xa1), (q11, ia E 12 tg), (q12, ia E 1164 xt1), (q13, ia E 12 xn1), (q14, ia E 12 xv1)] 17 [(0, .ref q0), (1, .int (iI x)), (2, .int (iI st)), (3, .int (iI pt)), (4, .int (iI v))] [] := by
    intro fuel
    induction fuel with
    | zero => intro v xm1 xa1 xt1 xn1 xv1 xr1 hv hI hm; exact absurd hm (Nat.not_lt_zero _)
    | succ fuel ih17 =>
      intro v xm1 xa1 xt1 xn1 xv1 xr1 hv hI hm
      refine g_iload G 4 dX2_enter_17 rfl ?_
      refine g_iconst G dX2_enter_19 ?_
      refine g_icmp_ge G 200 dX2_enter_20 (by decide) (by omega) (by omega) (fun c20 => ?_) (fun c20 => ?_)
      · refine g_iconst G dX2_enter_200 ?_
        exact g_ret G (some (.int (iI (-1)))) rfl dX2_enter_201 (Nat.le_refl _) (Nat.le_refl _) ⟨(-1), xm1, xa1, xt1, xn1, xv1, xr1, rfl, rfl, by exact EnL.done hI (by omega) hvb, by omega⟩
      · have hlen := ArS.len hI.2.1 hnd.1
        have hr0 := hI.2.1.1
        have hst := ArL.st hI.2.2.1 hsx
        rw [upI_same] at hst
        have hkid := hk.1 x v hx.1 hx.2 (by omega) (by omega)
        have hkr : -1 ≤ cn (x * 3 + v) ∧ cn (x * 3 + v) < nd := by rcases hkid with q | q <;> omega
        refine g_aload_n G 0 dX2_enter_23 rfl ?_
        refine g_get G 0 3 dX2_enter_24 i_X2_enter_X2 f_X2_enter_21 rfl rfl (by decide) rfl ?_
        refine g_iload_n G 1 dX2_enter_27 rfl ?_
        refine g_iconst G dX2_enter_28 ?_
        refine g_imul G dX2_enter_29 ?_
        refine g_iload G 4 dX2_enter_30 rfl ?_
        refine g_iadd G dX2_enter_32 ?_
        refine g_iald G 4 dX2_enter_33 rfl (by omega) (by omega) (by decide) ?_
        refine g_istore G [(0, .ref q0), (1, .int (iI x)), (2, .int (iI st)), (3, .int (iI pt)), (4, .int (iI v)), (5, .int (iI (cn ((x * 3) + v))))] dX2_enter_34 (by decide) rfl rfl ?_
        refine g_iload G 5 dX2_enter_36 rfl ?_
        refine g_iconst G dX2_enter_38 ?_
        refine g_icmp_eq G 194 dX2_enter_39 (by decide) (by omega) (by omega) (fun c39 => ?_) (fun c39 => ?_)
        · refine g_iinc G 4 [(0, .ref q0), (1, .int (iI x)), (2, .int (iI st)), (3, .int (iI pt)), (4, .int (iI (v + 1))), (5, .int (iI (cn ((x * 3) + v))))] dX2_enter_194 rfl (by decide) rfl rfl ?_
          refine g_goto G 17 dX2_enter_197 (by decide) ?_
          refine g_lv G [0, 1, 2, 3, 4] (lv' := [(0, .ref q0), (1, .int (iI x)), (2, .int (iI st)), (3, .int (iI pt)), (4, .int (iI (v + 1)))]) rfl ?_
          exact ih17 (v + 1) xm1 xa1 xt1 xn1 xv1 xr1 (by first | assumption | omega) (by first | exact EnL.skip hI hk c39 | exact EnL.psh hI hnd hk hx (show 0 ≤ v ∧ v < 3 by omega) hsx c39 (by rw [upI_same]; omega) (by omega) (fun q9 => by first | exact c98 | (exfalso; omega))) (by omega)
        · have hkd := EnL.kid hk hx (show 0 ≤ v ∧ v < 3 by omega) c39
          refine g_aload_n G 0 dX2_enter_42 rfl ?_
          refine g_get G 0 15 dX2_enter_43 i_X2_enter_X2 f_X2_enter_124 rfl rfl (by decide) rfl ?_
          refine g_bipush G dX2_enter_46 (by decide +kernel) ?_
          refine g_icmp_lt G 54 dX2_enter_48 (by decide) (by omega) (by omega) (fun c48 => ?_) (fun c48 => ?_)
          · refine g_iload_n G 2 dX2_enter_54 rfl ?_
            refine g_iconst G dX2_enter_55 ?_
            refine g_imul G dX2_enter_56 ?_
            refine g_iload G 4 dX2_enter_57 rfl ?_
            refine g_iadd G dX2_enter_59 ?_
            refine g_istore G [(0, .ref q0), (1, .int (iI x)), (2, .int (iI st)), (3, .int (iI pt)), (4, .int (iI v)), (5, .int (iI (cn ((x * 3) + v)))), (6, .int (iI ((st * 3) + v)))] dX2_enter_60 (by decide) rfl rfl ?_
            refine g_aload_n G 0 dX2_enter_62 rfl ?_
            refine g_get G 0 11 dX2_enter_63 i_X2_enter_X2 f_X2_enter_45 rfl rfl (by decide) rfl ?_
            refine g_iload G 6 dX2_enter_66 rfl ?_
            refine g_bipush G dX2_enter_68 (by decide +kernel) ?_
            refine g_imul G dX2_enter_70 ?_
            refine g_iald G 12 dX2_enter_71 rfl (by omega) (by omega) (by decide) ?_
            have han := ArS.an hI.2.1 (m := st * 3 + v) (by omega) (by omega)
            refine g_istore G [(0, .ref q0), (1, .int (iI x)), (2, .int (iI st)), (3, .int (iI pt)), (4, .int (iI v)), (5, .int (iI (cn ((x * 3) + v)))), (6, .int (iI ((st * 3) + v))), (7, .int (iI (xt1 (((st * 3) + v) * 97))))] dX2_enter_72 (by decide) rfl rfl ?_
            refine g_aload_n G 0 dX2_enter_74 rfl ?_
            refine g_get G 0 12 dX2_enter_75 i_X2_enter_X2 f_X2_enter_48 rfl rfl (by decide) rfl ?_
            refine g_iload G 6 dX2_enter_78 rfl ?_
            refine g_iald G 13 dX2_enter_80 rfl (by omega) (by omega) (by decide) ?_
            refine g_if_le G 116 dX2_enter_81 (by decide) (by omega) (fun c81 => ?_) (fun c81 => ?_)
            · refine g_aload_n G 0 dX2_enter_116 rfl ?_
              refine g_get G 0 11 dX2_enter_117 i_X2_enter_X2 f_X2_enter_45 rfl rfl (by decide) rfl ?_
              refine g_iload G 6 dX2_enter_120 rfl ?_
              refine g_bipush G dX2_enter_122 (by decide +kernel) ?_
              refine g_imul G dX2_enter_124 ?_
              refine g_aload_n G 0 dX2_enter_125 rfl ?_
              refine g_get G 0 12 dX2_enter_126 i_X2_enter_X2 f_X2_enter_48 rfl rfl (by decide) rfl ?_
              refine g_iload G 6 dX2_enter_129 rfl ?_
              refine g_iald G 13 dX2_enter_131 rfl (by omega) (by omega) (by decide) ?_
              refine g_iadd G dX2_enter_132 ?_
              refine g_iload G 5 dX2_enter_133 rfl ?_
              refine g_iast G 12 [(q0, .inr (2, [.ref q1, .ref q2, .ref q3, .ref q4, .ref q5, .ref q6, .ref q7, .ref q8, .ref q9, .ref q10, .ref q11, .ref q12, .ref q13, .ref q14, .int (iI nd), .int (iI xr1), .int (iI al)])), (q1, ia E 97 pa), (q2, ia E 97 vb), (q3, ia E 97 cd), (q4, ia E 291 cn), (q5, ia E 12 xc), (q6, ia E 97 xw), (q7, ia E 97 (upI sa x st)), (q8, ia E 97 (upI ph x pt)), (q9, ia E 97 xm1), (q10, ia E 97 xa1), (q11, ia E 12 tg), (q12, ia E 1164 (upI xt1 ((((st * 3) + v) * 97) + (xn1 ((st * 3) + v))) (cn ((x * 3) + v)))), (q13, ia E 12 xn1), (q14, ia E 12 xv1)] dX2_enter_135 rfl (by omega) (by omega) (by decide) rfl ?_
              refine g_aload_n G 0 dX2_enter_136 rfl ?_
              refine g_get G 0 12 dX2_enter_137 i_X2_enter_X2 f_X2_enter_48 rfl rfl (by decide) rfl ?_
              refine g_iload G 6 dX2_enter_140 rfl ?_
              refine g_dup2 G dX2_enter_142 rfl rfl ?_
              refine g_iald G 13 dX2_enter_143 rfl (by omega) (by omega) (by decide) ?_
              refine g_iconst G dX2_enter_144 ?_
              refine g_iadd G dX2_enter_145 ?_
              refine g_iast G 13 [(q0, .inr (2, [.ref q1, .ref q2, .ref q3, .ref q4, .ref q5, .ref q6, .ref q7, .ref q8, .ref q9, .ref q10, .ref q11, .ref q12, .ref q13, .ref q14, .int (iI nd), .int (iI xr1), .int (iI al)])), (q1, ia E 97 pa), (q2, ia E 97 vb), (q3, ia E 97 cd), (q4, ia E 291 cn), (q5, ia E 12 xc), (q6, ia E 97 xw), (q7, ia E 97 (upI sa x st)), (q8, ia E 97 (upI ph x pt)), (q9, ia E 97 xm1), (q10, ia E 97 xa1), (q11, ia E 12 tg), (q12, ia E 1164 (upI xt1 ((((st * 3) + v) * 97) + (xn1 ((st * 3) + v))) (cn ((x * 3) + v)))), (q13, ia E 12 (upI xn1 ((st * 3) + v) ((xn1 ((st * 3) + v)) + 1))), (q14, ia E 12 xv1)] dX2_enter_146 rfl (by omega) (by omega) (by decide) rfl ?_
              refine g_aload_n G 0 dX2_enter_147 rfl ?_
              refine g_get G 0 13 dX2_enter_148 i_X2_enter_X2 f_X2_enter_51 rfl rfl (by decide) rfl ?_
              refine g_iload G 6 dX2_enter_151 rfl ?_
              refine g_dup2 G dX2_enter_153 rfl rfl ?_
              refine g_iald G 14 dX2_enter_154 rfl (by omega) (by omega) (by decide) ?_
              refine g_aload_n G 0 dX2_enter_155 rfl ?_
              refine g_get G 0 5 dX2_enter_156 i_X2_enter_X2 f_X2_enter_27 rfl rfl (by decide) rfl ?_
              refine g_iload G 5 dX2_enter_159 rfl ?_
              refine g_iald G 6 dX2_enter_161 rfl (by omega) (by omega) (by decide) ?_
              refine g_iadd G dX2_enter_162 ?_
              refine g_iast G 14 [(q0, .inr (2, [.ref q1, .ref q2, .ref q3, .ref q4, .ref q5, .ref q6, .ref q7, .ref q8, .ref q9, .ref q10, .ref q11, .ref q12, .ref q13, .ref q14, .int (iI nd), .int (iI xr1), .int (iI al)])), (q1, ia E 97 pa), (q2, ia E 97 vb), (q3, ia E 97 cd), (q4, ia E 291 cn), (q5, ia E 12 xc), (q6, ia E 97 xw), (q7, ia E 97 (upI sa x st)), (q8, ia E 97 (upI ph x pt)), (q9, ia E 97 xm1), (q10, ia E 97 xa1), (q11, ia E 12 tg), (q12, ia E 1164 (upI xt1 ((((st * 3) + v) * 97) + (xn1 ((st * 3) + v))) (cn ((x * 3) + v)))), (q13, ia E 12 (upI xn1 ((st * 3) + v) ((xn1 ((st * 3) + v)) + 1))), (q14, ia E 12 (upI xv1 ((st * 3) + v) ((xv1 ((st * 3) + v)) + (xw (cn ((x * 3) + v))))))] dX2_enter_163 rfl (by omega) (by omega) (by decide) rfl ?_
              refine g_aload_n G 0 dX2_enter_164 rfl ?_
              refine g_get G 0 8 dX2_enter_165 i_X2_enter_X2 f_X2_enter_36 rfl rfl (by decide) rfl ?_
              refine g_iload G 5 dX2_enter_168 rfl ?_
              refine g_iload G 6 dX2_enter_170 rfl ?_
              refine g_iast G 9 [(q0, .inr (2, [.ref q1, .ref q2, .ref q3, .ref q4, .ref q5, .ref q6, .ref q7, .ref q8, .ref q9, .ref q10, .ref q11, .ref q12, .ref q13, .ref q14, .int (iI nd), .int (iI xr1), .int (iI al)])), (q1, ia E 97 pa), (q2, ia E 97 vb), (q3, ia E 97 cd), (q4, ia E 291 cn), (q5, ia E 12 xc), (q6, ia E 97 xw), (q7, ia E 97 (upI sa x st)), (q8, ia E 97 (upI ph x pt)), (q9, ia E 97 (upI xm1 (cn ((x * 3) + v)) ((st * 3) + v))), (q10, ia E 97 xa1), (q11, ia E 12 tg), (q12, ia E 1164 (upI xt1 ((((st * 3) + v) * 97) + (xn1 ((st * 3) + v))) (cn ((x * 3) + v)))), (q13, ia E 12 (upI xn1 ((st * 3) + v) ((xn1 ((st * 3) + v)) + 1))), (q14, ia E 12 (upI xv1 ((st * 3) + v) ((xv1 ((st * 3) + v)) + (xw (cn ((x * 3) + v))))))] dX2_enter_172 rfl (by omega) (by omega) (by decide) rfl ?_
              refine g_aload_n G 0 dX2_enter_173 rfl ?_
              refine g_get G 0 9 dX2_enter_174 i_X2_enter_X2 f_X2_enter_39 rfl rfl (by decide) rfl ?_
              refine g_aload_n G 0 dX2_enter_177 rfl ?_
              refine g_get G 0 15 dX2_enter_178 i_X2_enter_X2 f_X2_enter_124 rfl rfl (by decide) rfl ?_
              refine g_iload G 5 dX2_enter_181 rfl ?_
              refine g_iast G 10 [(q0, .inr (2, [.ref q1, .ref q2, .ref q3, .ref q4, .ref q5, .ref q6, .ref q7, .ref q8, .ref q9, .ref q10, .ref q11, .ref q12, .ref q13, .ref q14, .int (iI nd), .int (iI xr1), .int (iI al)])), (q1, ia E 97 pa), (q2, ia E 97 vb), (q3, ia E 97 cd), (q4, ia E 291 cn), (q5, ia E 12 xc), (q6, ia E 97 xw), (q7, ia E 97 (upI sa x st)), (q8, ia E 97 (upI ph x pt)), (q9, ia E 97 (upI xm1 (cn ((x * 3) + v)) ((st * 3) + v))), (q10, ia E 97 (upI xa1 xr1 (cn ((x * 3) + v)))), (q11, ia E 12 tg), (q12, ia E 1164 (upI xt1 ((((st * 3) + v) * 97) + (xn1 ((st * 3) + v))) (cn ((x * 3) + v)))), (q13, ia E 12 (upI xn1 ((st * 3) + v) ((xn1 ((st * 3) + v)) + 1))), (q14, ia E 12 (upI xv1 ((st * 3) + v) ((xv1 ((st * 3) + v)) + (xw (cn ((x * 3) + v))))))] dX2_enter_183 rfl (by omega) (by omega) (by decide) rfl ?_
              refine g_aload_n G 0 dX2_enter_184 rfl ?_
              refine g_dup G dX2_enter_185 rfl ?_
              refine g_get G 0 15 dX2_enter_186 i_X2_enter_X2 f_X2_enter_124 rfl rfl (by decide) rfl ?_
              refine g_iconst G dX2_enter_189 ?_
              refine g_iadd G dX2_enter_190 ?_
              refine g_put G 0 15 [(q0, .inr (2, [.ref q1, .ref q2, .ref q3, .ref q4, .ref q5, .ref q6, .ref q7, .ref q8, .ref q9, .ref q10, .ref q11, .ref q12, .ref q13, .ref q14, .int (iI nd), .int (iI (xr1 + 1)), .int (iI al)])), (q1, ia E 97 pa), (q2, ia E 97 vb), (q3, ia E 97 cd), (q4, ia E 291 cn), (q5, ia E 12 xc), (q6, ia E 97 xw), (q7, ia E 97 (upI sa x st)), (q8, ia E 97 (upI ph x pt)), (q9, ia E 97 (upI xm1 (cn ((x * 3) + v)) ((st * 3) + v))), (q10, ia E 97 (upI xa1 xr1 (cn ((x * 3) + v)))), (q11, ia E 12 tg), (q12, ia E 1164 (upI xt1 ((((st * 3) + v) * 97) + (xn1 ((st * 3) + v))) (cn ((x * 3) + v)))), (q13, ia E 12 (upI xn1 ((st * 3) + v) ((xn1 ((st * 3) + v)) + 1))), (q14, ia E 12 (upI xv1 ((st * 3) + v) ((xv1 ((st * 3) + v)) + (xw (cn ((x * 3) + v))))))] dX2_enter_191 i_X2_enter_X2 f_X2_enter_124 tyX2_ok nmX2 rfl rfl (by decide) rfl rfl rfl rfl (Nat.le_of_ble_eq_true rfl) rfl ?_
              refine g_iinc G 4 [(0, .ref q0), (1, .int (iI x)), (2, .int (iI st)), (3, .int (iI pt)), (4, .int (iI (v + 1))), (5, .int (iI (cn ((x * 3) + v)))), (6, .int (iI ((st * 3) + v))), (7, .int (iI (xt1 (((st * 3) + v) * 97))))] dX2_enter_194 rfl (by decide) rfl rfl ?_
              refine g_goto G 17 dX2_enter_197 (by decide) ?_
              refine g_lv G [0, 1, 2, 3, 4] (lv' := [(0, .ref q0), (1, .int (iI x)), (2, .int (iI st)), (3, .int (iI pt)), (4, .int (iI (v + 1)))]) rfl ?_
              exact ih17 (v + 1) (upI xm1 (cn ((x * 3) + v)) ((st * 3) + v)) (upI xa1 xr1 (cn ((x * 3) + v))) (upI xt1 ((((st * 3) + v) * 97) + (xn1 ((st * 3) + v))) (cn ((x * 3) + v))) (upI xn1 ((st * 3) + v) ((xn1 ((st * 3) + v)) + 1)) (upI xv1 ((st * 3) + v) ((xv1 ((st * 3) + v)) + (xw (cn ((x * 3) + v))))) (xr1 + 1) (by first | assumption | omega) (by first | exact EnL.skip hI hk c39 | exact EnL.psh hI hnd hk hx (show 0 ≤ v ∧ v < 3 by omega) hsx c39 (by rw [upI_same]; omega) (by omega) (fun q9 => by first | exact c98 | (exfalso; omega))) (by omega)
            · have hfs := EnL.fst hI (m := st * 3 + v) (by omega) (by omega)
              have hc1 := hcd (xt1 ((st * 3 + v) * 97))
              have hc2 := hcd (cn (x * 3 + v))
              have hpf := hpa (xt1 ((st * 3 + v) * 97)) hfs.1 hfs.2
              refine g_aload_n G 0 dX2_enter_84 rfl ?_
              refine g_get G 0 2 dX2_enter_85 i_X2_enter_X2 f_X2_enter_18 rfl rfl (by decide) rfl ?_
              refine g_iload G 7 dX2_enter_88 rfl ?_
              refine g_iald G 3 dX2_enter_90 rfl (by omega) (by omega) (by decide) ?_
              refine g_aload_n G 0 dX2_enter_91 rfl ?_
              refine g_get G 0 2 dX2_enter_92 i_X2_enter_X2 f_X2_enter_18 rfl rfl (by decide) rfl ?_
              refine g_iload G 5 dX2_enter_95 rfl ?_
              refine g_iald G 3 dX2_enter_97 rfl (by omega) (by omega) (by decide) ?_
              refine g_icmp_eq G 116 dX2_enter_98 (by decide) (by omega) (by omega) (fun c98 => ?_) (fun c98 => ?_)
              · refine g_aload_n G 0 dX2_enter_116 rfl ?_
                refine g_get G 0 11 dX2_enter_117 i_X2_enter_X2 f_X2_enter_45 rfl rfl (by decide) rfl ?_
                refine g_iload G 6 dX2_enter_120 rfl ?_
                refine g_bipush G dX2_enter_122 (by decide +kernel) ?_
                refine g_imul G dX2_enter_124 ?_
                refine g_aload_n G 0 dX2_enter_125 rfl ?_
                refine g_get G 0 12 dX2_enter_126 i_X2_enter_X2 f_X2_enter_48 rfl rfl (by decide) rfl ?_
                refine g_iload G 6 dX2_enter_129 rfl ?_
                refine g_iald G 13 dX2_enter_131 rfl (by omega) (by omega) (by decide) ?_
                refine g_iadd G dX2_enter_132 ?_
                refine g_iload G 5 dX2_enter_133 rfl ?_
                refine g_iast G 12 [(q0, .inr (2, [.ref q1, .ref q2, .ref q3, .ref q4, .ref q5, .ref q6, .ref q7, .ref q8, .ref q9, .ref q10, .ref q11, .ref q12, .ref q13, .ref q14, .int (iI nd), .int (iI xr1), .int (iI al)])), (q1, ia E 97 pa), (q2, ia E 97 vb), (q3, ia E 97 cd), (q4, ia E 291 cn), (q5, ia E 12 xc), (q6, ia E 97 xw), (q7, ia E 97 (upI sa x st)), (q8, ia E 97 (upI ph x pt)), (q9, ia E 97 xm1), (q10, ia E 97 xa1), (q11, ia E 12 tg), (q12, ia E 1164 (upI xt1 ((((st * 3) + v) * 97) + (xn1 ((st * 3) + v))) (cn ((x * 3) + v)))), (q13, ia E 12 xn1), (q14, ia E 12 xv1)] dX2_enter_135 rfl (by omega) (by omega) (by decide) rfl ?_
                refine g_aload_n G 0 dX2_enter_136 rfl ?_
                refine g_get G 0 12 dX2_enter_137 i_X2_enter_X2 f_X2_enter_48 rfl rfl (by decide) rfl ?_
                refine g_iload G 6 dX2_enter_140 rfl ?_
                refine g_dup2 G dX2_enter_142 rfl rfl ?_
                refine g_iald G 13 dX2_enter_143 rfl (by omega) (by omega) (by decide) ?_
                refine g_iconst G dX2_enter_144 ?_
                refine g_iadd G dX2_enter_145 ?_
                refine g_iast G 13 [(q0, .inr (2, [.ref q1, .ref q2, .ref q3, .ref q4, .ref q5, .ref q6, .ref q7, .ref q8, .ref q9, .ref q10, .ref q11, .ref q12, .ref q13, .ref q14, .int (iI nd), .int (iI xr1), .int (iI al)])), (q1, ia E 97 pa), (q2, ia E 97 vb), (q3, ia E 97 cd), (q4, ia E 291 cn), (q5, ia E 12 xc), (q6, ia E 97 xw), (q7, ia E 97 (upI sa x st)), (q8, ia E 97 (upI ph x pt)), (q9, ia E 97 xm1), (q10, ia E 97 xa1), (q11, ia E 12 tg), (q12, ia E 1164 (upI xt1 ((((st * 3) + v) * 97) + (xn1 ((st * 3) + v))) (cn ((x * 3) + v)))), (q13, ia E 12 (upI xn1 ((st * 3) + v) ((xn1 ((st * 3) + v)) + 1))), (q14, ia E 12 xv1)] dX2_enter_146 rfl (by omega) (by omega) (by decide) rfl ?_
                refine g_aload_n G 0 dX2_enter_147 rfl ?_
                refine g_get G 0 13 dX2_enter_148 i_X2_enter_X2 f_X2_enter_51 rfl rfl (by decide) rfl ?_
                refine g_iload G 6 dX2_enter_151 rfl ?_
                refine g_dup2 G dX2_enter_153 rfl rfl ?_
                refine g_iald G 14 dX2_enter_154 rfl (by omega) (by omega) (by decide) ?_
                refine g_aload_n G 0 dX2_enter_155 rfl ?_
                refine g_get G 0 5 dX2_enter_156 i_X2_enter_X2 f_X2_enter_27 rfl rfl (by decide) rfl ?_
                refine g_iload G 5 dX2_enter_159 rfl ?_
                refine g_iald G 6 dX2_enter_161 rfl (by omega) (by omega) (by decide) ?_
                refine g_iadd G dX2_enter_162 ?_
                refine g_iast G 14 [(q0, .inr (2, [.ref q1, .ref q2, .ref q3, .ref q4, .ref q5, .ref q6, .ref q7, .ref q8, .ref q9, .ref q10, .ref q11, .ref q12, .ref q13, .ref q14, .int (iI nd), .int (iI xr1), .int (iI al)])), (q1, ia E 97 pa), (q2, ia E 97 vb), (q3, ia E 97 cd), (q4, ia E 291 cn), (q5, ia E 12 xc), (q6, ia E 97 xw), (q7, ia E 97 (upI sa x st)), (q8, ia E 97 (upI ph x pt)), (q9, ia E 97 xm1), (q10, ia E 97 xa1), (q11, ia E 12 tg), (q12, ia E 1164 (upI xt1 ((((st * 3) + v) * 97) + (xn1 ((st * 3) + v))) (cn ((x * 3) + v)))), (q13, ia E 12 (upI xn1 ((st * 3) + v) ((xn1 ((st * 3) + v)) + 1))), (q14, ia E 12 (upI xv1 ((st * 3) + v) ((xv1 ((st * 3) + v)) + (xw (cn ((x * 3) + v))))))] dX2_enter_163 rfl (by omega) (by omega) (by decide) rfl ?_
                refine g_aload_n G 0 dX2_enter_164 rfl ?_
                refine g_get G 0 8 dX2_enter_165 i_X2_enter_X2 f_X2_enter_36 rfl rfl (by decide) rfl ?_
                refine g_iload G 5 dX2_enter_168 rfl ?_
                refine g_iload G 6 dX2_enter_170 rfl ?_
                refine g_iast G 9 [(q0, .inr (2, [.ref q1, .ref q2, .ref q3, .ref q4, .ref q5, .ref q6, .ref q7, .ref q8, .ref q9, .ref q10, .ref q11, .ref q12, .ref q13, .ref q14, .int (iI nd), .int (iI xr1), .int (iI al)])), (q1, ia E 97 pa), (q2, ia E 97 vb), (q3, ia E 97 cd), (q4, ia E 291 cn), (q5, ia E 12 xc), (q6, ia E 97 xw), (q7, ia E 97 (upI sa x st)), (q8, ia E 97 (upI ph x pt)), (q9, ia E 97 (upI xm1 (cn ((x * 3) + v)) ((st * 3) + v))), (q10, ia E 97 xa1), (q11, ia E 12 tg), (q12, ia E 1164 (upI xt1 ((((st * 3) + v) * 97) + (xn1 ((st * 3) + v))) (cn ((x * 3) + v)))), (q13, ia E 12 (upI xn1 ((st * 3) + v) ((xn1 ((st * 3) + v)) + 1))), (q14, ia E 12 (upI xv1 ((st * 3) + v) ((xv1 ((st * 3) + v)) + (xw (cn ((x * 3) + v))))))] dX2_enter_172 rfl (by omega) (by omega) (by decide) rfl ?_
                refine g_aload_n G 0 dX2_enter_173 rfl ?_
                refine g_get G 0 9 dX2_enter_174 i_X2_enter_X2 f_X2_enter_39 rfl rfl (by decide) rfl ?_
                refine g_aload_n G 0 dX2_enter_177 rfl ?_
                refine g_get G 0 15 dX2_enter_178 i_X2_enter_X2 f_X2_enter_124 rfl rfl (by decide) rfl ?_
                refine g_iload G 5 dX2_enter_181 rfl ?_
                refine g_iast G 10 [(q0, .inr (2, [.ref q1, .ref q2, .ref q3, .ref q4, .ref q5, .ref q6, .ref q7, .ref q8, .ref q9, .ref q10, .ref q11, .ref q12, .ref q13, .ref q14, .int (iI nd), .int (iI xr1), .int (iI al)])), (q1, ia E 97 pa), (q2, ia E 97 vb), (q3, ia E 97 cd), (q4, ia E 291 cn), (q5, ia E 12 xc), (q6, ia E 97 xw), (q7, ia E 97 (upI sa x st)), (q8, ia E 97 (upI ph x pt)), (q9, ia E 97 (upI xm1 (cn ((x * 3) + v)) ((st * 3) + v))), (q10, ia E 97 (upI xa1 xr1 (cn ((x * 3) + v)))), (q11, ia E 12 tg), (q12, ia E 1164 (upI xt1 ((((st * 3) + v) * 97) + (xn1 ((st * 3) + v))) (cn ((x * 3) + v)))), (q13, ia E 12 (upI xn1 ((st * 3) + v) ((xn1 ((st * 3) + v)) + 1))), (q14, ia E 12 (upI xv1 ((st * 3) + v) ((xv1 ((st * 3) + v)) + (xw (cn ((x * 3) + v))))))] dX2_enter_183 rfl (by omega) (by omega) (by decide) rfl ?_
                refine g_aload_n G 0 dX2_enter_184 rfl ?_
                refine g_dup G dX2_enter_185 rfl ?_
                refine g_get G 0 15 dX2_enter_186 i_X2_enter_X2 f_X2_enter_124 rfl rfl (by decide) rfl ?_
                refine g_iconst G dX2_enter_189 ?_
                refine g_iadd G dX2_enter_190 ?_
                refine g_put G 0 15 [(q0, .inr (2, [.ref q1, .ref q2, .ref q3, .ref q4, .ref q5, .ref q6, .ref q7, .ref q8, .ref q9, .ref q10, .ref q11, .ref q12, .ref q13, .ref q14, .int (iI nd), .int (iI (xr1 + 1)), .int (iI al)])), (q1, ia E 97 pa), (q2, ia E 97 vb), (q3, ia E 97 cd), (q4, ia E 291 cn), (q5, ia E 12 xc), (q6, ia E 97 xw), (q7, ia E 97 (upI sa x st)), (q8, ia E 97 (upI ph x pt)), (q9, ia E 97 (upI xm1 (cn ((x * 3) + v)) ((st * 3) + v))), (q10, ia E 97 (upI xa1 xr1 (cn ((x * 3) + v)))), (q11, ia E 12 tg), (q12, ia E 1164 (upI xt1 ((((st * 3) + v) * 97) + (xn1 ((st * 3) + v))) (cn ((x * 3) + v)))), (q13, ia E 12 (upI xn1 ((st * 3) + v) ((xn1 ((st * 3) + v)) + 1))), (q14, ia E 12 (upI xv1 ((st * 3) + v) ((xv1 ((st * 3) + v)) + (xw (cn ((x * 3) + v))))))] dX2_enter_191 i_X2_enter_X2 f_X2_enter_124 tyX2_ok nmX2 rfl rfl (by decide) rfl rfl rfl rfl (Nat.le_of_ble_eq_true rfl) rfl ?_
                refine g_iinc G 4 [(0, .ref q0), (1, .int (iI x)), (2, .int (iI st)), (3, .int (iI pt)), (4, .int (iI (v + 1))), (5, .int (iI (cn ((x * 3) + v)))), (6, .int (iI ((st * 3) + v))), (7, .int (iI (xt1 (((st * 3) + v) * 97))))] dX2_enter_194 rfl (by decide) rfl rfl ?_
                refine g_goto G 17 dX2_enter_197 (by decide) ?_
                refine g_lv G [0, 1, 2, 3, 4] (lv' := [(0, .ref q0), (1, .int (iI x)), (2, .int (iI st)), (3, .int (iI pt)), (4, .int (iI (v + 1)))]) rfl ?_
                exact ih17 (v + 1) (upI xm1 (cn ((x * 3) + v)) ((st * 3) + v)) (upI xa1 xr1 (cn ((x * 3) + v))) (upI xt1 ((((st * 3) + v) * 97) + (xn1 ((st * 3) + v))) (cn ((x * 3) + v))) (upI xn1 ((st * 3) + v) ((xn1 ((st * 3) + v)) + 1)) (upI xv1 ((st * 3) + v) ((xv1 ((st * 3) + v)) + (xw (cn ((x * 3) + v))))) (xr1 + 1) (by first | assumption | omega) (by first | exact EnL.skip hI hk c39 | exact EnL.psh hI hnd hk hx (show 0 ≤ v ∧ v < 3 by omega) hsx c39 (by rw [upI_same]; omega) (by omega) (fun q9 => by first | exact c98 | (exfalso; omega))) (by omega)
              · refine g_iload_n G 3 dX2_enter_101 rfl ?_
                refine g_aload_n G 0 dX2_enter_102 rfl ?_
                refine g_get G 0 7 dX2_enter_103 i_X2_enter_X2 f_X2_enter_33 rfl rfl (by decide) rfl ?_
                refine g_aload_n G 0 dX2_enter_106 rfl ?_
                refine g_get G 0 0 dX2_enter_107 i_X2_enter_X2 f_X2_enter_11 rfl rfl (by decide) rfl ?_
                refine g_iload G 7 dX2_enter_110 rfl ?_
                refine g_iald G 1 dX2_enter_112 rfl (by omega) (by omega) (by decide) ?_
                refine g_iald G 8 dX2_enter_113 rfl (by omega) (by omega) (by decide) ?_
                refine g_ior G dX2_enter_114 ?_
                exact g_ret G (some (.int (iI (orI pt ((upI ph x pt) (pa (xt1 (((st * 3) + v) * 97)))))))) rfl dX2_enter_115 (Nat.le_refl _) (Nat.le_refl _) ⟨(orI pt ((upI ph x pt) (pa (xt1 (((st * 3) + v) * 97))))), xm1, xa1, xt1, xn1, xv1, xr1, rfl, rfl, by exact EnL.bad hI hk hx (show 0 ≤ v ∧ v < 3 by omega) hsx c39 (by rw [upI_same]; omega) (by omega) (by omega) c98 (by rw [upI_same]), by exact orI_rg _ _⟩
          · exfalso; omega
  exact L17 ((3 - 0 : Int).toNat + 1) 0 xm xa xt xn xv xr (by first | assumption | omega) (by exact EnL.init hS hL hN) (by omega)
theorem f_X2_unsettle_124 : Cond.fieldLink RX2 124 (TX2 15).1 (TX2 15).2.1 (TX2 15).2.2.1 ∈ wsX2_unsettle := by decide +kernel
theorem i_X2_unsettle_X2 : ∀ w ∈ wsX20, w ∈ wsX2_unsettle := by decide +kernel
theorem f_X2_unsettle_42 : Cond.fieldLink RX2 42 (TX2 10).1 (TX2 10).2.1 (TX2 10).2.2.1 ∈ wsX2_unsettle := by decide +kernel
theorem f_X2_unsettle_39 : Cond.fieldLink RX2 39 (TX2 9).1 (TX2 9).2.1 (TX2 9).2.2.1 ∈ wsX2_unsettle := by decide +kernel
theorem f_X2_unsettle_48 : Cond.fieldLink RX2 48 (TX2 12).1 (TX2 12).2.1 (TX2 12).2.2.1 ∈ wsX2_unsettle := by decide +kernel
theorem f_X2_unsettle_36 : Cond.fieldLink RX2 36 (TX2 8).1 (TX2 8).2.1 (TX2 8).2.2.1 ∈ wsX2_unsettle := by decide +kernel
theorem f_X2_unsettle_51 : Cond.fieldLink RX2 51 (TX2 13).1 (TX2 13).2.1 (TX2 13).2.2.1 ∈ wsX2_unsettle := by decide +kernel
theorem f_X2_unsettle_27 : Cond.fieldLink RX2 27 (TX2 5).1 (TX2 5).2.1 (TX2 5).2.2.1 ∈ wsX2_unsettle := by decide +kernel
set_option maxRecDepth 100000 in
set_option maxHeartbeats 4000000 in
theorem c_X2_unsettle (E : qE) (q0 : Nat) (q1 : Nat) (q2 : Nat) (q3 : Nat) (q4 : Nat) (q5 : Nat) (q6 : Nat) (q7 : Nat) (q8 : Nat) (q9 : Nat) (q10 : Nat) (q11 : Nat) (q12 : Nat) (q13 : Nat) (q14 : Nat) (pa : Int → Int) (vb : Int → Int) (cd : Int → Int) (cn : Int → Int) (xc : Int → Int) (xw : Int → Int) (sa : Int → Int) (ph : Int → Int) (xm : Int → Int) (xa : Int → Int) (tg : Int → Int) (xt : Int → Int) (xn : Int → Int) (xv : Int → Int) (nd : Int) (xr : Int) (al : Int) (m : Int) (mr : Int) (hm : 0 ≤ m ∧ m < 12) (hmr : 0 ≤ mr ∧ mr ≤ xr) (hnd : 1 ≤ nd ∧ nd ≤ 97) (hS : ArS nd xw xm xa xt xn xv xr) : Cn E yX2_unsettle wsX2_unsettle { frames := 0, cells := 0, slots := 0, locals := 0 } [.ref q0, .int (iI m), .int (iI mr)] [(q0, .inr (2, [.ref q1, .ref q2, .ref q3, .ref q4, .ref q5, .ref q6, .ref q7, .ref q8, .ref q9, .ref q10, .ref q11, .ref q12, .ref q13, .ref q14, .int (iI nd), .int (iI xr), .int (iI al)])), (q1, ia E 97 pa), (q2, ia E 97 vb), (q3, ia E 97 cd), (q4, ia E 291 cn), (q5, ia E 12 xc), (q6, ia E 97 xw), (q7, ia E 97 sa), (q8, ia E 97 ph), (q9, ia E 97 xm), (q10, ia E 97 xa), (q11, ia E 12 tg), (q12, ia E 1164 xt), (q13, ia E 12 xn), (q14, ia E 12 xv)] (fun v9 w9 => ∃ (xn1 : Int → Int) (xv1 : Int → Int), v9 = none ∧ w9 = [(q0, .inr (2, [.ref q1, .ref q2, .ref q3, .ref q4, .ref q5, .ref q6, .ref q7, .ref q8, .ref q9, .ref q10, .ref q11, .ref q12, .ref q13, .ref q14, .int (iI nd), .int (iI mr), .int (iI al)])), (q1, ia E 97 pa), (q2, ia E 97 vb), (q3, ia E 97 cd), (q4, ia E 291 cn), (q5, ia E 12 xc), (q6, ia E 97 xw), (q7, ia E 97 sa), (q8, ia E 97 ph), (q9, ia E 97 xm), (q10, ia E 97 xa), (q11, ia E 12 (upI tg m (-1))), (q12, ia E 1164 xt), (q13, ia E 12 xn1), (q14, ia E 12 xv1)] ∧ (ArS nd xw xm xa xt xn1 xv1 mr)) 0 0 := by
  refine Cn.ofP (own := RX2) (cc := cX2_unsettle) (maxL := 5) (ret := none) false [(0, .ref q0), (1, .int (iI m)), (2, .int (iI mr))] (by decide +kernel) rfl rfl (Nat.le_of_ble_eq_true rfl) rfl (fun h => nomatch h) (fun v w h => by obtain ⟨xn1, xv1, rfl, h9⟩ := h; exact (rfl : (none : Option FieldType) = none)) ?_
  intro P G
  have hlen := ArS.len hS hnd.1
  refine g_aload_n G 0 dX2_unsettle_0 rfl ?_
  refine g_get G 0 15 dX2_unsettle_1 i_X2_unsettle_X2 f_X2_unsettle_124 rfl rfl (by decide) rfl ?_
  refine g_iconst G dX2_unsettle_4 ?_
  refine g_isub G dX2_unsettle_5 ?_
  refine g_istore_n G [(0, .ref q0), (1, .int (iI m)), (2, .int (iI mr)), (3, .int (iI (xr - 1)))] dX2_unsettle_6 (by decide) rfl rfl ?_
  have L7 : ∀ (fuel : Nat), ∀ (a : Int) (xn1 : Int → Int) (xv1 : Int → Int), (mr - 1 ≤ a ∧ a < xr) → (∀ j, 0 ≤ j → j < 12 → xn1 j = cA (fun i => xm (xa i)) j (a + 1).toNat ∧ xv1 j = sA (fun i => xm (xa i)) (fun i => xw (xa i)) j (a + 1).toNat) → (a + 1 - mr : Int).toNat < fuel → P 0 0 [(q0, .inr (2, [.ref q1, .ref q2, .ref q3, .ref q4, .ref q5, .ref q6, .ref q7, .ref q8, .ref q9, .ref q10, .ref q11, .ref q12, .ref q13, .ref q14, .int (iI nd), .int (iI xr), .int (iI al)])), (q1, ia E 97 pa), (q2, ia E 97 vb), (q3, ia E 97 cd), (q4, ia E 291 cn), (q5, ia E 12 xc), (q6, ia E 97 xw), (q7, ia E 97 sa), (q8, ia E 97 ph), (q9, ia E 97 xm), (q10, ia E 97 xa), (q11, ia E 12 tg), (q12, ia E 1164 xt), (q13, ia E 12 xn1), (q14, ia E 12 xv1)] 7 [(0, .ref q0), (1, .int (iI m)), (2, .int (iI mr)), (3, .int (iI a))] [] := by
    intro fuel
    induction fuel with
    | zero => intro a xn1 xv1 ha hc hm; exact absurd hm (Nat.not_lt_zero _)
    | succ fuel ih7 =>
      intro a xn1 xv1 ha hc hm
      refine g_iload_n G 3 dX2_unsettle_7 rfl ?_
      refine g_iload_n G 2 dX2_unsettle_8 rfl ?_
      refine g_icmp_lt G 64 dX2_unsettle_9 (by decide) (by omega) (by omega) (fun c9 => ?_) (fun c9 => ?_)
      · refine g_aload_n G 0 dX2_unsettle_64 rfl ?_
        refine g_iload_n G 2 dX2_unsettle_65 rfl ?_
        refine g_put G 0 15 [(q0, .inr (2, [.ref q1, .ref q2, .ref q3, .ref q4, .ref q5, .ref q6, .ref q7, .ref q8, .ref q9, .ref q10, .ref q11, .ref q12, .ref q13, .ref q14, .int (iI nd), .int (iI mr), .int (iI al)])), (q1, ia E 97 pa), (q2, ia E 97 vb), (q3, ia E 97 cd), (q4, ia E 291 cn), (q5, ia E 12 xc), (q6, ia E 97 xw), (q7, ia E 97 sa), (q8, ia E 97 ph), (q9, ia E 97 xm), (q10, ia E 97 xa), (q11, ia E 12 tg), (q12, ia E 1164 xt), (q13, ia E 12 xn1), (q14, ia E 12 xv1)] dX2_unsettle_66 i_X2_unsettle_X2 f_X2_unsettle_124 tyX2_ok nmX2 rfl rfl (by decide) rfl rfl rfl rfl (Nat.le_of_ble_eq_true rfl) rfl ?_
        refine g_aload_n G 0 dX2_unsettle_69 rfl ?_
        refine g_get G 0 10 dX2_unsettle_70 i_X2_unsettle_X2 f_X2_unsettle_42 rfl rfl (by decide) rfl ?_
        refine g_iload_n G 1 dX2_unsettle_73 rfl ?_
        refine g_iconst G dX2_unsettle_74 ?_
        refine g_iast G 11 [(q0, .inr (2, [.ref q1, .ref q2, .ref q3, .ref q4, .ref q5, .ref q6, .ref q7, .ref q8, .ref q9, .ref q10, .ref q11, .ref q12, .ref q13, .ref q14, .int (iI nd), .int (iI mr), .int (iI al)])), (q1, ia E 97 pa), (q2, ia E 97 vb), (q3, ia E 97 cd), (q4, ia E 291 cn), (q5, ia E 12 xc), (q6, ia E 97 xw), (q7, ia E 97 sa), (q8, ia E 97 ph), (q9, ia E 97 xm), (q10, ia E 97 xa), (q11, ia E 12 (upI tg m (-1))), (q12, ia E 1164 xt), (q13, ia E 12 xn1), (q14, ia E 12 xv1)] dX2_unsettle_75 rfl (by omega) (by omega) (by decide) rfl ?_
        exact g_ret G none rfl dX2_unsettle_76 (Nat.le_refl _) (Nat.le_refl _) ⟨xn1, xv1, rfl, rfl, by exact ArS.less hS (by omega) (by omega) (fun j j0 j1 => by rw [(show mr.toNat = (a + 1).toNat by omega)]; exact hc j j0 j1)⟩
      · have hai := hS.2.1 a (by omega) (by omega)
        refine g_aload_n G 0 dX2_unsettle_12 rfl ?_
        refine g_get G 0 9 dX2_unsettle_13 i_X2_unsettle_X2 f_X2_unsettle_39 rfl rfl (by decide) rfl ?_
        refine g_iload_n G 3 dX2_unsettle_16 rfl ?_
        refine g_iald G 10 dX2_unsettle_17 rfl (by omega) (by omega) (by decide) ?_
        refine g_istore G [(0, .ref q0), (1, .int (iI m)), (2, .int (iI mr)), (3, .int (iI a)), (4, .int (iI (xa a)))] dX2_unsettle_18 (by decide) rfl rfl ?_
        refine g_aload_n G 0 dX2_unsettle_20 rfl ?_
        refine g_get G 0 12 dX2_unsettle_21 i_X2_unsettle_X2 f_X2_unsettle_48 rfl rfl (by decide) rfl ?_
        refine g_aload_n G 0 dX2_unsettle_24 rfl ?_
        refine g_get G 0 8 dX2_unsettle_25 i_X2_unsettle_X2 f_X2_unsettle_36 rfl rfl (by decide) rfl ?_
        refine g_iload G 4 dX2_unsettle_28 rfl ?_
        refine g_iald G 9 dX2_unsettle_30 rfl (by omega) (by omega) (by decide) ?_
        refine g_dup2 G dX2_unsettle_31 rfl rfl ?_
        refine g_iald G 13 dX2_unsettle_32 rfl (by omega) (by omega) (by decide) ?_
        refine g_iconst G dX2_unsettle_33 ?_
        refine g_isub G dX2_unsettle_34 ?_
        refine g_iast G 13 [(q0, .inr (2, [.ref q1, .ref q2, .ref q3, .ref q4, .ref q5, .ref q6, .ref q7, .ref q8, .ref q9, .ref q10, .ref q11, .ref q12, .ref q13, .ref q14, .int (iI nd), .int (iI xr), .int (iI al)])), (q1, ia E 97 pa), (q2, ia E 97 vb), (q3, ia E 97 cd), (q4, ia E 291 cn), (q5, ia E 12 xc), (q6, ia E 97 xw), (q7, ia E 97 sa), (q8, ia E 97 ph), (q9, ia E 97 xm), (q10, ia E 97 xa), (q11, ia E 12 tg), (q12, ia E 1164 xt), (q13, ia E 12 (upI xn1 (xm (xa a)) ((xn1 (xm (xa a))) - 1))), (q14, ia E 12 xv1)] dX2_unsettle_35 rfl (by omega) (by omega) (by decide) rfl ?_
        refine g_aload_n G 0 dX2_unsettle_36 rfl ?_
        refine g_get G 0 13 dX2_unsettle_37 i_X2_unsettle_X2 f_X2_unsettle_51 rfl rfl (by decide) rfl ?_
        refine g_aload_n G 0 dX2_unsettle_40 rfl ?_
        refine g_get G 0 8 dX2_unsettle_41 i_X2_unsettle_X2 f_X2_unsettle_36 rfl rfl (by decide) rfl ?_
        refine g_iload G 4 dX2_unsettle_44 rfl ?_
        refine g_iald G 9 dX2_unsettle_46 rfl (by omega) (by omega) (by decide) ?_
        refine g_dup2 G dX2_unsettle_47 rfl rfl ?_
        refine g_iald G 14 dX2_unsettle_48 rfl (by omega) (by omega) (by decide) ?_
        refine g_aload_n G 0 dX2_unsettle_49 rfl ?_
        refine g_get G 0 5 dX2_unsettle_50 i_X2_unsettle_X2 f_X2_unsettle_27 rfl rfl (by decide) rfl ?_
        refine g_iload G 4 dX2_unsettle_53 rfl ?_
        refine g_iald G 6 dX2_unsettle_55 rfl (by omega) (by omega) (by decide) ?_
        refine g_isub G dX2_unsettle_56 ?_
        refine g_iast G 14 [(q0, .inr (2, [.ref q1, .ref q2, .ref q3, .ref q4, .ref q5, .ref q6, .ref q7, .ref q8, .ref q9, .ref q10, .ref q11, .ref q12, .ref q13, .ref q14, .int (iI nd), .int (iI xr), .int (iI al)])), (q1, ia E 97 pa), (q2, ia E 97 vb), (q3, ia E 97 cd), (q4, ia E 291 cn), (q5, ia E 12 xc), (q6, ia E 97 xw), (q7, ia E 97 sa), (q8, ia E 97 ph), (q9, ia E 97 xm), (q10, ia E 97 xa), (q11, ia E 12 tg), (q12, ia E 1164 xt), (q13, ia E 12 (upI xn1 (xm (xa a)) ((xn1 (xm (xa a))) - 1))), (q14, ia E 12 (upI xv1 (xm (xa a)) ((xv1 (xm (xa a))) - (xw (xa a)))))] dX2_unsettle_57 rfl (by omega) (by omega) (by decide) rfl ?_
        refine g_iinc G 3 [(0, .ref q0), (1, .int (iI m)), (2, .int (iI mr)), (3, .int (iI (a + (-1)))), (4, .int (iI (xa a)))] dX2_unsettle_58 rfl (by decide) rfl rfl ?_
        refine g_goto G 7 dX2_unsettle_61 (by decide) ?_
        refine g_lv G [0, 1, 2, 3] (lv' := [(0, .ref q0), (1, .int (iI m)), (2, .int (iI mr)), (3, .int (iI (a + (-1))))]) rfl ?_
        exact ih7 (a + (-1)) (upI xn1 (xm (xa a)) ((xn1 (xm (xa a))) - 1)) (upI xv1 (xm (xa a)) ((xv1 (xm (xa a))) - (xw (xa a)))) (by first | assumption | omega) (by intro j j0 j1; rw [(show a + (-1) + 1 = a by omega)]; exact ArS.pop hS (by omega) (by omega) hc j j0 j1) (by omega)
  exact L7 (((xr - 1) + 1 - mr : Int).toNat + 1) (xr - 1) xn xv (by first | assumption | omega) (by intro j j0 j1; rw [(show xr - 1 + 1 = xr by omega)]; exact hS.2.2.2.1 j j0 j1) (by omega)
theorem f_X2_heaviestOpenMove_42 : Cond.fieldLink RX2 42 (TX2 10).1 (TX2 10).2.1 (TX2 10).2.2.1 ∈ wsX2_heaviestOpenMove := by decide +kernel
theorem i_X2_heaviestOpenMove_X2 : ∀ w ∈ wsX20, w ∈ wsX2_heaviestOpenMove := by decide +kernel
theorem f_X2_heaviestOpenMove_51 : Cond.fieldLink RX2 51 (TX2 13).1 (TX2 13).2.1 (TX2 13).2.2.1 ∈ wsX2_heaviestOpenMove := by decide +kernel
set_option maxRecDepth 100000 in
set_option maxHeartbeats 4000000 in
theorem c_X2_heaviestOpenMove (E : qE) (q0 : Nat) (q1 : Nat) (q2 : Nat) (q3 : Nat) (q4 : Nat) (q5 : Nat) (q6 : Nat) (q7 : Nat) (q8 : Nat) (q9 : Nat) (q10 : Nat) (q11 : Nat) (q12 : Nat) (q13 : Nat) (q14 : Nat) (pa : Int → Int) (vb : Int → Int) (cd : Int → Int) (cn : Int → Int) (xc : Int → Int) (xw : Int → Int) (sa : Int → Int) (ph : Int → Int) (xm : Int → Int) (xa : Int → Int) (tg : Int → Int) (xt : Int → Int) (xn : Int → Int) (xv : Int → Int) (nd : Int) (xr : Int) (al : Int) (ht : ∀ i, -1 ≤ tg i ∧ tg i < 4) (hw : ∀ i, 0 ≤ i → i < 12 → 0 ≤ xv i ∧ xv i ≤ 300000000) : Cn E yX2_heaviestOpenMove wsX2_heaviestOpenMove { frames := 0, cells := 0, slots := 0, locals := 0 } [.ref q0] [(q0, .inr (2, [.ref q1, .ref q2, .ref q3, .ref q4, .ref q5, .ref q6, .ref q7, .ref q8, .ref q9, .ref q10, .ref q11, .ref q12, .ref q13, .ref q14, .int (iI nd), .int (iI xr), .int (iI al)])), (q1, ia E 97 pa), (q2, ia E 97 vb), (q3, ia E 97 cd), (q4, ia E 291 cn), (q5, ia E 12 xc), (q6, ia E 97 xw), (q7, ia E 97 sa), (q8, ia E 97 ph), (q9, ia E 97 xm), (q10, ia E 97 xa), (q11, ia E 12 tg), (q12, ia E 1164 xt), (q13, ia E 12 xn), (q14, ia E 12 xv)] (fun v9 w9 => ∃ (r : Int), v9 = some (.int (iI r)) ∧ w9 = [(q0, .inr (2, [.ref q1, .ref q2, .ref q3, .ref q4, .ref q5, .ref q6, .ref q7, .ref q8, .ref q9, .ref q10, .ref q11, .ref q12, .ref q13, .ref q14, .int (iI nd), .int (iI xr), .int (iI al)])), (q1, ia E 97 pa), (q2, ia E 97 vb), (q3, ia E 97 cd), (q4, ia E 291 cn), (q5, ia E 12 xc), (q6, ia E 97 xw), (q7, ia E 97 sa), (q8, ia E 97 ph), (q9, ia E 97 xm), (q10, ia E 97 xa), (q11, ia E 12 tg), (q12, ia E 1164 xt), (q13, ia E 12 xn), (q14, ia E 12 xv)] ∧ ((r = -1 ∧ ∀ j, 0 ≤ j → j < 12 → tg j = -1 → xv j ≤ 0) ∨ ((0 ≤ r ∧ r < 12) ∧ tg r = -1 ∧ 0 < xv r))) 0 0 := by
  refine Cn.ofP (own := RX2) (cc := cX2_heaviestOpenMove) (maxL := 4) (ret := (some .int)) false [(0, .ref q0)] (by decide +kernel) rfl rfl (Nat.le_of_ble_eq_true rfl) rfl (fun h => nomatch h) (fun v w h => by obtain ⟨r, rfl, h9⟩ := h; exact ⟨_, rfl, rfl⟩) ?_
  intro P G
  refine g_iconst G dX2_heaviestOpenMove_0 ?_
  refine g_istore_n G [(0, .ref q0), (1, .int (iI (-1)))] dX2_heaviestOpenMove_1 (by decide) rfl rfl ?_
  refine g_iconst G dX2_heaviestOpenMove_2 ?_
  refine g_istore_n G [(0, .ref q0), (1, .int (iI (-1))), (2, .int (iI 0))] dX2_heaviestOpenMove_3 (by decide) rfl rfl ?_
  refine g_iconst G dX2_heaviestOpenMove_4 ?_
  refine g_istore_n G [(0, .ref q0), (1, .int (iI (-1))), (2, .int (iI 0)), (3, .int (iI 0))] dX2_heaviestOpenMove_5 (by decide) rfl rfl ?_
  have L6 : ∀ (fuel : Nat), ∀ (i : Int) (b : Int) (o : Int), (0 ≤ i ∧ i ≤ 12) → (0 ≤ o ∧ o ≤ 300000000) → ((b = -1 ∧ o = 0) ∨ ((0 ≤ b ∧ b < 12) ∧ tg b = -1 ∧ o = xv b ∧ 0 < o)) → (∀ j, 0 ≤ j → j < i → tg j = -1 → xv j ≤ o) → (12 - i : Int).toNat < fuel → P 0 0 [(q0, .inr (2, [.ref q1, .ref q2, .ref q3, .ref q4, .ref q5, .ref q6, .ref q7, .ref q8, .ref q9, .ref q10, .ref q11, .ref q12, .ref q13, .ref q14, .int (iI nd), .int (iI xr), .int (iI al)])), (q1, ia E 97 pa), (q2, ia E 97 vb), (q3, ia E 97 cd), (q4, ia E 291 cn), (q5, ia E 12 xc), (q6, ia E 97 xw), (q7, ia E 97 sa), (q8, ia E 97 ph), (q9, ia E 97 xm), (q10, ia E 97 xa), (q11, ia E 12 tg), (q12, ia E 1164 xt), (q13, ia E 12 xn), (q14, ia E 12 xv)] 6 [(0, .ref q0), (1, .int (iI b)), (2, .int (iI o)), (3, .int (iI i))] [] := by
    intro fuel
    induction fuel with
    | zero => intro i b o hi ho hb hal hm; exact absurd hm (Nat.not_lt_zero _)
    | succ fuel ih6 =>
      intro i b o hi ho hb hal hm
      refine g_iload_n G 3 dX2_heaviestOpenMove_6 rfl ?_
      refine g_bipush G dX2_heaviestOpenMove_7 (by decide +kernel) ?_
      refine g_icmp_ge G 47 dX2_heaviestOpenMove_9 (by decide) (by omega) (by omega) (fun c9 => ?_) (fun c9 => ?_)
      · refine g_iload_n G 1 dX2_heaviestOpenMove_47 rfl ?_
        exact g_ret G (some (.int (iI b))) rfl dX2_heaviestOpenMove_48 (Nat.le_refl _) (Nat.le_refl _) ⟨b, rfl, rfl, by rcases hb with q | q; (left; refine ⟨q.1, fun j j0 j1 hj => ?_⟩; have h7 := hal j j0 (by omega) hj; omega); (right; have h7 := q.2.2; exact ⟨q.1, q.2.1, by omega⟩)⟩
      · have hwi := hw i (by omega) (by omega)
        refine g_aload_n G 0 dX2_heaviestOpenMove_12 rfl ?_
        refine g_get G 0 10 dX2_heaviestOpenMove_13 i_X2_heaviestOpenMove_X2 f_X2_heaviestOpenMove_42 rfl rfl (by decide) rfl ?_
        refine g_iload_n G 3 dX2_heaviestOpenMove_16 rfl ?_
        refine g_iald G 11 dX2_heaviestOpenMove_17 rfl (by omega) (by omega) (by decide) ?_
        have b1 := ht i
        refine g_iconst G dX2_heaviestOpenMove_18 ?_
        refine g_icmp_ne G 41 dX2_heaviestOpenMove_19 (by decide) (by omega) (by omega) (fun c19 => ?_) (fun c19 => ?_)
        · refine g_iinc G 3 [(0, .ref q0), (1, .int (iI b)), (2, .int (iI o)), (3, .int (iI (i + 1)))] dX2_heaviestOpenMove_41 rfl (by decide) rfl rfl ?_
          refine g_goto G 6 dX2_heaviestOpenMove_44 (by decide) ?_
          exact ih6 (i + 1) b o (by first | assumption | omega) (by first | assumption | omega) (by first | exact hb | exact Or.inr ⟨⟨by omega, by omega⟩, c19, rfl, by omega⟩) (by intro j j0 j1 hj; by_cases q : j = i; (subst q; first | exact absurd hj c19 | omega); (have h7 := hal j j0 (by omega) hj; omega)) (by omega)
        · refine g_aload_n G 0 dX2_heaviestOpenMove_22 rfl ?_
          refine g_get G 0 13 dX2_heaviestOpenMove_23 i_X2_heaviestOpenMove_X2 f_X2_heaviestOpenMove_51 rfl rfl (by decide) rfl ?_
          refine g_iload_n G 3 dX2_heaviestOpenMove_26 rfl ?_
          refine g_iald G 14 dX2_heaviestOpenMove_27 rfl (by omega) (by omega) (by decide) ?_
          refine g_iload_n G 2 dX2_heaviestOpenMove_28 rfl ?_
          refine g_icmp_le G 41 dX2_heaviestOpenMove_29 (by decide) (by omega) (by omega) (fun c29 => ?_) (fun c29 => ?_)
          · refine g_iinc G 3 [(0, .ref q0), (1, .int (iI b)), (2, .int (iI o)), (3, .int (iI (i + 1)))] dX2_heaviestOpenMove_41 rfl (by decide) rfl rfl ?_
            refine g_goto G 6 dX2_heaviestOpenMove_44 (by decide) ?_
            exact ih6 (i + 1) b o (by first | assumption | omega) (by first | assumption | omega) (by first | exact hb | exact Or.inr ⟨⟨by omega, by omega⟩, c19, rfl, by omega⟩) (by intro j j0 j1 hj; by_cases q : j = i; (subst q; first | exact absurd hj c19 | omega); (have h7 := hal j j0 (by omega) hj; omega)) (by omega)
          · refine g_iload_n G 3 dX2_heaviestOpenMove_32 rfl ?_
            refine g_istore_n G [(0, .ref q0), (1, .int (iI i)), (2, .int (iI o)), (3, .int (iI i))] dX2_heaviestOpenMove_33 (by decide) rfl rfl ?_
            refine g_aload_n G 0 dX2_heaviestOpenMove_34 rfl ?_
            refine g_get G 0 13 dX2_heaviestOpenMove_35 i_X2_heaviestOpenMove_X2 f_X2_heaviestOpenMove_51 rfl rfl (by decide) rfl ?_
            refine g_iload_n G 3 dX2_heaviestOpenMove_38 rfl ?_
            refine g_iald G 14 dX2_heaviestOpenMove_39 rfl (by omega) (by omega) (by decide) ?_
            refine g_istore_n G [(0, .ref q0), (1, .int (iI i)), (2, .int (iI (xv i))), (3, .int (iI i))] dX2_heaviestOpenMove_40 (by decide) rfl rfl ?_
            refine g_iinc G 3 [(0, .ref q0), (1, .int (iI i)), (2, .int (iI (xv i))), (3, .int (iI (i + 1)))] dX2_heaviestOpenMove_41 rfl (by decide) rfl rfl ?_
            refine g_goto G 6 dX2_heaviestOpenMove_44 (by decide) ?_
            exact ih6 (i + 1) i (xv i) (by first | assumption | omega) (by first | assumption | omega) (by first | exact hb | exact Or.inr ⟨⟨by omega, by omega⟩, c19, rfl, by omega⟩) (by intro j j0 j1 hj; by_cases q : j = i; (subst q; first | exact absurd hj c19 | omega); (have h7 := hal j j0 (by omega) hj; omega)) (by omega)
  exact L6 ((12 - 0 : Int).toNat + 1) 0 (-1) 0 (by first | assumption | omega) (by first | assumption | omega) (by exact Or.inl ⟨rfl, rfl⟩) (by intro j j0 j1; omega) (by omega)
