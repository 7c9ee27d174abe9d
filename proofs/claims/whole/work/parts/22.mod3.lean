def bsN (g : Int → Int) (v x y : Int) : Int := if v = 0 then 0 else if v = 1 then g (20 + 72 * x + 6 * y + 1) else if v = 2 then g (20 + 72 * x + 6 * y + 2) else if v = 3 then ahI g x y else ltI g x y y.toNat
theorem ahI_bd (g : Int → Int) (x y : Int) : ∀ n : Nat, 0 ≤ sumI (fun k => if g (20 + 72 * x + 6 * k + 0) = g (20 + 72 * x + 6 * y + 0) then 1 else 0) n ∧ sumI (fun k => if g (20 + 72 * x + 6 * k + 0) = g (20 + 72 * x + 6 * y + 0) then 1 else 0) n ≤ n
  | 0 => by show (0 : Int) ≤ 0 ∧ (0 : Int) ≤ ((0 : Nat) : Int); omega
  | n + 1 => by
    have h := ahI_bd g x y n
    unfold sumI
    (try dsimp only)
    split <;> omega
theorem ltI_bd2 {g : Int → Int} (hX : ∀ i, 20 ≤ i → i < 596 → 0 ≤ g i ∧ g i < 100) {x : Int} (y : Int) (h0 : 0 ≤ x) (h8 : x < 8) : ∀ n : Nat, n ≤ 12 → -1 ≤ ltI g x y n ∧ ltI g x y n < 100
  | 0, _ => by show -1 ≤ (-1 : Int) ∧ (-1 : Int) < 100; omega
  | n + 1, hn => by
    have h := ltI_bd2 hX y h0 h8 n (by omega)
    have h2 := hX (20 + 72 * x + 6 * n + 2) (by omega) (by omega)
    unfold ltI
    split <;> omega
theorem bs_cases {g : Int → Int} (hX : ∀ i, 20 ≤ i → i < 596 → 0 ≤ g i ∧ g i < 100) {v x y : Int} (h0 : 0 ≤ x) (h8 : x < 8) (y0 : 0 ≤ y) (y12 : y < 12) (hv : 0 ≤ v ∧ v ≤ 4) : (bsR g v x y = -1000 ∧ bsN g v x y = -1) ∨ (bsR g v x y = bsN g v x y ∧ 0 ≤ bsN g v x y ∧ bsN g v x y < 100) := by
  have e1 := hX (20 + 72 * x + 6 * y + 1) (by omega) (by omega)
  have e2 := hX (20 + 72 * x + 6 * y + 2) (by omega) (by omega)
  have e3 := ahI_bd g x y y.toNat
  have e3b : ahI g x y = sumI (fun k => if g (20 + 72 * x + 6 * k + 0) = g (20 + 72 * x + 6 * y + 0) then 1 else 0) y.toNat := rfl
  have e4 := ltI_bd2 hX y h0 h8 y.toNat (by omega)
  rw [← e3b] at e3
  unfold bsR bsN
  (repeat' split) <;> omega
def hsS (g : Int → Int) (x v f : Int) (r p o : Int) : Int := if g (20 + 72 * r + 6 * p + 0) = v then wgh o (bsN g x r p) (g (20 + 72 * r + 6 * p + (4 + f))) else o
def hsT (g : Int → Int) (x v f b : Int) : Int := nR (hsS g x v f) (fun r => g (10 + r)) b (g 0).toNat 1000
def HS (fo c o : Int) : Prop := (fo = 0 ∧ o = 1000) ∨ (fo = 1 ∧ c = o ∧ -200 ≤ o ∧ o ≤ 200)
theorem wgh_max (b v : Int) : wgh 1001 b v = 1001 := if_pos rfl
theorem f_X10_holds_7 : Cond.fieldLink RX10 7 (TX10 0).1 (TX10 0).2.1 (TX10 0).2.2.1 ∈ wsX10_holds := by decide +kernel
theorem i_X10_holds_X10 : ∀ w ∈ wsX100, w ∈ wsX10_holds := by decide +kernel
theorem e_X10_base : yX10_base.cls ≠ "java/lang/invoke/MethodHandle" ∧ yX10_base.cls ≠ "java/lang/invoke/VarHandle" ∧ (parseMethodDescriptor yX10_base.desc).map (fun d => d.parameters.length) = some 3 := by decide +kernel
theorem f_X10_holds_77 : Cond.fieldLink RX10 77 (TX10 3).1 (TX10 3).2.1 (TX10 3).2.2.1 ∈ wsX10_holds := by decide +kernel
set_option maxRecDepth 100000 in
set_option maxHeartbeats 4000000 in
theorem c_X10_holds (E : qE) (q0 : Nat) (q1 : Nat) (q2 : Nat) (q3 : Nat) (q4 : Nat) (q5 : Nat) (q6 : Nat) (q7 : Nat) (q8 : Nat) (q9 : Nat) (q10 : Nat) (q11 : Nat) (c0 : Int) (la : Int) (ch : Int) (us : Int) (g : Int → Int) (x : Int) (v : Int) (f : Int) (b : Int) (hG : AllOk g) (hX : ∀ i, 20 ≤ i → i < 596 → 0 ≤ g i ∧ g i < 100) (hx : 0 ≤ x ∧ x ≤ 4) (hv : 0 ≤ v ∧ v < 3) (hf : 0 ≤ f ∧ f < 2) (hb : -2147483648 ≤ b ∧ b < 2147483648) : Cn E yX10_holds wsX10_holds { frames := 3, cells := 0, slots := 0, locals := 70 } [.ref q0, .int (iI x), .int (iI v), .int (iI f), .int (iI b)] [(q0, .inr (10, [.ref q1, .ref q2, .ref q3, .int (iI c0), .ref q4, .ref q5, .int (iI la), .ref q6, .ref q7, .ref q8, .ref q9, .ref q10, .ref q11, .int (iI ch), .int (iI us)])), (q1, ia E 5400 g)] (fun v9 w9 => ∃ (r : Int) (c1 : Int), v9 = some (.int (iI r)) ∧ w9 = [(q0, .inr (10, [.ref q1, .ref q2, .ref q3, .int (iI c1), .ref q4, .ref q5, .int (iI la), .ref q6, .ref q7, .ref q8, .ref q9, .ref q10, .ref q11, .int (iI ch), .int (iI us)])), (q1, ia E 5400 g)] ∧ ((r = 1 → c1 = hsT g x v f b) ∧ r = (if hsT g x v f b = 1000 ∨ hsT g x v f b = 1001 then 0 else 1))) 0 0 := by
  refine Cn.ofP (own := RX10) (cc := cX10_holds) (maxL := 10) (ret := (some .boolean)) false [(0, .ref q0), (1, .int (iI x)), (2, .int (iI v)), (3, .int (iI f)), (4, .int (iI b))] (by decide +kernel) rfl rfl (Nat.le_of_ble_eq_true rfl) rfl (fun h => nomatch h) (fun v w h => by obtain ⟨r, c1, rfl, h9⟩ := h; exact ⟨_, rfl, by refine iI_b01 ?_; have h8 := h9.2.2; split at h8 <;> omega⟩) ?_
  intro P G
  obtain ⟨hg, hg0, hgs⟩ := id hG
  refine g_iconst G dX10_holds_0 ?_
  refine g_istore G [(0, .ref q0), (1, .int (iI x)), (2, .int (iI v)), (3, .int (iI f)), (4, .int (iI b)), (5, .int (iI 0))] dX10_holds_1 (by decide) rfl rfl ?_
  refine g_iconst G dX10_holds_3 ?_
  refine g_istore G [(0, .ref q0), (1, .int (iI x)), (2, .int (iI v)), (3, .int (iI f)), (4, .int (iI b)), (5, .int (iI 0)), (6, .int (iI 0))] dX10_holds_4 (by decide) rfl rfl ?_
  have L6 : ∀ (fuel : Nat), ∀ (i : Int) (fo : Int) (c1 : Int), (0 ≤ i ∧ i ≤ g 0) → (HS fo c1 (nR (hsS g x v f) (fun r => g (10 + r)) b i.toNat (1000))) → (g 0 - i : Int).toNat < fuel → P 0 0 [(q0, .inr (10, [.ref q1, .ref q2, .ref q3, .int (iI c1), .ref q4, .ref q5, .int (iI la), .ref q6, .ref q7, .ref q8, .ref q9, .ref q10, .ref q11, .int (iI ch), .int (iI us)])), (q1, ia E 5400 g)] 6 [(0, .ref q0), (1, .int (iI x)), (2, .int (iI v)), (3, .int (iI f)), (4, .int (iI b)), (5, .int (iI fo)), (6, .int (iI i))] [] := by
    intro fuel
    induction fuel with
    | zero => intro i fo c1 hi hs hm; exact absurd hm (Nat.not_lt_zero _)
    | succ fuel ih6 =>
      intro i fo c1 hi hs hm
      refine g_iload G 6 dX10_holds_6 rfl ?_
      refine g_aload_n G 0 dX10_holds_8 rfl ?_
      refine g_get G 0 0 dX10_holds_9 i_X10_holds_X10 f_X10_holds_7 rfl rfl (by decide) rfl ?_
      refine g_iconst G dX10_holds_12 ?_
      refine g_iald G 1 dX10_holds_13 rfl (by omega) (by omega) (by decide) ?_
      have b1 := hg 0
      refine g_icmp_ge G 136 dX10_holds_14 (by decide) (by omega) (by omega) (fun c14 => ?_) (fun c14 => ?_)
      · refine g_iload G 5 dX10_holds_136 rfl ?_
        exact g_ret G (some (.int (iI fo))) rfl dX10_holds_138 (Nat.le_refl _) (Nat.le_refl _) ⟨fo, c1, rfl, rfl, by first | (rw [e9]; exact ⟨fun q => absurd q (by decide), rfl⟩) | (unfold HS at hs; unfold hsT; rw [(show g 0 = i by omega)]; generalize nR (hsS g x v f) (fun r => g (10 + r)) b i.toNat (1000) = o at hs ⊢; refine ⟨by omega, ?_⟩; split <;> omega)⟩
      · have hgi := hgs i hi.1 (by omega)
        refine g_iconst G dX10_holds_17 ?_
        refine g_istore G [(0, .ref q0), (1, .int (iI x)), (2, .int (iI v)), (3, .int (iI f)), (4, .int (iI b)), (5, .int (iI fo)), (6, .int (iI i)), (7, .int (iI 0))] dX10_holds_18 (by decide) rfl rfl ?_
        have L20 : ∀ (fuel : Nat), ∀ (j : Int) (fp : Int) (c2 : Int), (0 ≤ j ∧ j ≤ g (10 + i)) → (i = b → j = 0) → (HS fp c2 (nP (hsS g x v f) i j.toNat (nR (hsS g x v f) (fun r => g (10 + r)) b i.toNat (1000)))) → (g (10 + i) - j : Int).toNat < fuel → P 0 0 [(q0, .inr (10, [.ref q1, .ref q2, .ref q3, .int (iI c2), .ref q4, .ref q5, .int (iI la), .ref q6, .ref q7, .ref q8, .ref q9, .ref q10, .ref q11, .int (iI ch), .int (iI us)])), (q1, ia E 5400 g)] 20 [(0, .ref q0), (1, .int (iI x)), (2, .int (iI v)), (3, .int (iI f)), (4, .int (iI b)), (5, .int (iI fp)), (6, .int (iI i)), (7, .int (iI j))] [] := by
          intro fuel
          induction fuel with
          | zero => intro j fp c2 hj hjb hs2 hm; exact absurd hm (Nat.not_lt_zero _)
          | succ fuel ih20 =>
            intro j fp c2 hj hjb hs2 hm
            refine g_iload G 7 dX10_holds_20 rfl ?_
            refine g_aload_n G 0 dX10_holds_22 rfl ?_
            refine g_iload G 6 dX10_holds_23 rfl ?_
            refine g_callV G [0, 1] [] 2 [] [.int (iI i)] [.int (iI j)] (c_X10_sizeOf E q0 q1 q2 q3 q4 q5 q6 q7 q8 q9 q10 q11 c2 la ch us g i (by first | assumption | omega)) dX10_holds_25 gX10_holds_X10_sizeOf ⟨rfl, ⟨rfl, rfl⟩, e_X10_sizeOf, ⟨Nat.le_of_ble_eq_true rfl, Nat.le_of_ble_eq_true rfl⟩, Nat.le_of_ble_eq_true rfl, Nat.le_of_ble_eq_true rfl, Nat.le_of_ble_eq_true rfl⟩ rfl rfl rfl rfl rfl (by decide +kernel) rfl (by decide +kernel) rfl (fun v9 w9 h9 => ?_)
            obtain ⟨o2, rfl, rfl, rfl⟩ := h9
            have b3 := hg (10 + i)
            refine ⟨[(q0, .inr (10, [.ref q1, .ref q2, .ref q3, .int (iI c2), .ref q4, .ref q5, .int (iI la), .ref q6, .ref q7, .ref q8, .ref q9, .ref q10, .ref q11, .int (iI ch), .int (iI us)])), (q1, ia E 5400 g)], ⟨rfl, rfl, rfl, rfl⟩, g_to 0 0 _ _ [.int (iI (g (10 + i))), .int (iI j)] rfl rfl rfl rfl rfl ?_⟩
            refine g_icmp_ge G 130 dX10_holds_28 (by decide) (by omega) (by omega) (fun c28 => ?_) (fun c28 => ?_)
            · refine g_iinc G 6 [(0, .ref q0), (1, .int (iI x)), (2, .int (iI v)), (3, .int (iI f)), (4, .int (iI b)), (5, .int (iI fp)), (6, .int (iI (i + 1))), (7, .int (iI j))] dX10_holds_130 rfl (by decide) rfl rfl ?_
              refine g_goto G 6 dX10_holds_133 (by decide) ?_
              refine g_lv G [0, 1, 2, 3, 4, 5, 6] (lv' := [(0, .ref q0), (1, .int (iI x)), (2, .int (iI v)), (3, .int (iI f)), (4, .int (iI b)), (5, .int (iI fp)), (6, .int (iI (i + 1)))]) rfl ?_
              exact ih6 (i + 1) fp c2 (by first | assumption | omega) (by rw [nR_up _ _ _ hi.1]; by_cases q : i = b; (rw [if_pos q]; have q2 := hjb q; subst q2; exact hs2); (rw [if_neg q]; first | exact absurd c35 q | ((try dsimp only); rw [(show g (10 + i) = j by omega)]; exact hs2))) (by omega)
            · refine g_iload G 6 dX10_holds_31 rfl ?_
              refine g_iload G 4 dX10_holds_33 rfl ?_
              refine g_icmp_eq G 130 dX10_holds_35 (by decide) (by omega) (by omega) (fun c35 => ?_) (fun c35 => ?_)
              · refine g_iinc G 6 [(0, .ref q0), (1, .int (iI x)), (2, .int (iI v)), (3, .int (iI f)), (4, .int (iI b)), (5, .int (iI fp)), (6, .int (iI (i + 1))), (7, .int (iI j))] dX10_holds_130 rfl (by decide) rfl rfl ?_
                refine g_goto G 6 dX10_holds_133 (by decide) ?_
                refine g_lv G [0, 1, 2, 3, 4, 5, 6] (lv' := [(0, .ref q0), (1, .int (iI x)), (2, .int (iI v)), (3, .int (iI f)), (4, .int (iI b)), (5, .int (iI fp)), (6, .int (iI (i + 1)))]) rfl ?_
                exact ih6 (i + 1) fp c2 (by first | assumption | omega) (by rw [nR_up _ _ _ hi.1]; by_cases q : i = b; (rw [if_pos q]; have q2 := hjb q; subst q2; exact hs2); (rw [if_neg q]; first | exact absurd c35 q | ((try dsimp only); rw [(show g (10 + i) = j by omega)]; exact hs2))) (by omega)
              · refine g_aload_n G 0 dX10_holds_38 rfl ?_
                refine g_iload G 6 dX10_holds_39 rfl ?_
                refine g_iload G 7 dX10_holds_41 rfl ?_
                refine g_iconst G dX10_holds_43 ?_
                refine g_callV G [0, 1] [] 2 [] [.int (iI i), .int (iI j), .int (iI 0)] [] (c_X10_of E q0 q1 q2 q3 q4 q5 q6 q7 q8 q9 q10 q11 c2 la ch us g i j 0 (by first | assumption | omega) (by first | assumption | omega) (by first | assumption | omega)) dX10_holds_44 gX10_holds_X10_of ⟨rfl, ⟨rfl, rfl⟩, e_X10_of, ⟨Nat.le_of_ble_eq_true rfl, Nat.le_of_ble_eq_true rfl⟩, Nat.le_of_ble_eq_true rfl, Nat.le_of_ble_eq_true rfl, Nat.le_of_ble_eq_true rfl⟩ rfl rfl rfl rfl rfl (by decide +kernel) rfl (by decide +kernel) rfl (fun v9 w9 h9 => ?_)
                obtain ⟨o4, rfl, rfl, rfl⟩ := h9
                have b5 := hg (20 + 72 * i + 6 * j + 0)
                refine ⟨[(q0, .inr (10, [.ref q1, .ref q2, .ref q3, .int (iI c2), .ref q4, .ref q5, .int (iI la), .ref q6, .ref q7, .ref q8, .ref q9, .ref q10, .ref q11, .int (iI ch), .int (iI us)])), (q1, ia E 5400 g)], ⟨rfl, rfl, rfl, rfl⟩, g_to 0 0 _ _ [.int (iI (g (20 + 72 * i + 6 * j + 0)))] rfl rfl rfl rfl rfl ?_⟩
                refine g_iload_n G 2 dX10_holds_47 rfl ?_
                refine g_icmp_eq G 54 dX10_holds_48 (by decide) (by omega) (by omega) (fun c48 => ?_) (fun c48 => ?_)
                · refine g_aload_n G 0 dX10_holds_54 rfl ?_
                  refine g_iload G 6 dX10_holds_55 rfl ?_
                  refine g_iload G 7 dX10_holds_57 rfl ?_
                  refine g_iconst G dX10_holds_59 ?_
                  refine g_iload_n G 3 dX10_holds_60 rfl ?_
                  refine g_iadd G dX10_holds_61 ?_
                  refine g_callV G [0, 1] [] 2 [] [.int (iI i), .int (iI j), .int (iI (4 + f))] [] (c_X10_of E q0 q1 q2 q3 q4 q5 q6 q7 q8 q9 q10 q11 c2 la ch us g i j (4 + f) (by first | assumption | omega) (by first | assumption | omega) (by first | assumption | omega)) dX10_holds_62 gX10_holds_X10_of ⟨rfl, ⟨rfl, rfl⟩, e_X10_of, ⟨Nat.le_of_ble_eq_true rfl, Nat.le_of_ble_eq_true rfl⟩, Nat.le_of_ble_eq_true rfl, Nat.le_of_ble_eq_true rfl, Nat.le_of_ble_eq_true rfl⟩ rfl rfl rfl rfl rfl (by decide +kernel) rfl (by decide +kernel) rfl (fun v9 w9 h9 => ?_)
                  obtain ⟨o6, rfl, rfl, rfl⟩ := h9
                  have b7 := hg (20 + 72 * i + 6 * j + (4 + f))
                  refine ⟨[(q0, .inr (10, [.ref q1, .ref q2, .ref q3, .int (iI c2), .ref q4, .ref q5, .int (iI la), .ref q6, .ref q7, .ref q8, .ref q9, .ref q10, .ref q11, .int (iI ch), .int (iI us)])), (q1, ia E 5400 g)], ⟨rfl, rfl, rfl, rfl⟩, g_to 0 0 _ _ [.int (iI (g (20 + 72 * i + 6 * j + (4 + f))))] rfl rfl rfl rfl rfl ?_⟩
                  refine g_istore G [(0, .ref q0), (1, .int (iI x)), (2, .int (iI v)), (3, .int (iI f)), (4, .int (iI b)), (5, .int (iI fp)), (6, .int (iI i)), (7, .int (iI j)), (8, .int (iI (g (20 + 72 * i + 6 * j + (4 + f)))))] dX10_holds_65 (by decide) rfl rfl ?_
                  have hvl := hX (20 + 72 * i + 6 * j + (4 + f)) (by omega) (by omega)
                  have hbs := bs_cases hX hi.1 (show i < 8 by omega) hj.1 (show j < 12 by omega) hx
                  refine g_aload_n G 0 dX10_holds_67 rfl ?_
                  refine g_iload_n G 1 dX10_holds_68 rfl ?_
                  refine g_iload G 6 dX10_holds_69 rfl ?_
                  refine g_iload G 7 dX10_holds_71 rfl ?_
                  refine g_callV G [0, 1] [] 2 [] [.int (iI x), .int (iI i), .int (iI j)] [] (c_X10_base E q0 q1 q2 q3 q4 q5 q6 q7 q8 q9 q10 q11 c2 la ch us g x i j (by first | assumption | omega) (by first | assumption | omega) (by first | assumption | omega) (by first | assumption | omega)) dX10_holds_73 gX10_holds_X10_base ⟨rfl, ⟨rfl, rfl⟩, e_X10_base, ⟨Nat.le_of_ble_eq_true rfl, Nat.le_of_ble_eq_true rfl⟩, Nat.le_of_ble_eq_true rfl, Nat.le_of_ble_eq_true rfl, Nat.le_of_ble_eq_true rfl⟩ rfl rfl rfl rfl rfl (by decide +kernel) rfl (by decide +kernel) rfl (fun v9 w9 h9 => ?_)
                  obtain ⟨o8, rfl, rfl, rfl⟩ := h9
                  refine ⟨[(q0, .inr (10, [.ref q1, .ref q2, .ref q3, .int (iI c2), .ref q4, .ref q5, .int (iI la), .ref q6, .ref q7, .ref q8, .ref q9, .ref q10, .ref q11, .int (iI ch), .int (iI us)])), (q1, ia E 5400 g)], ⟨rfl, rfl, rfl, rfl⟩, g_to 0 0 _ _ [.int (iI (bsR g x i j))] rfl rfl rfl rfl rfl ?_⟩
                  refine g_istore G [(0, .ref q0), (1, .int (iI x)), (2, .int (iI v)), (3, .int (iI f)), (4, .int (iI b)), (5, .int (iI fp)), (6, .int (iI i)), (7, .int (iI j)), (8, .int (iI (g (20 + 72 * i + 6 * j + (4 + f))))), (9, .int (iI (bsR g x i j)))] dX10_holds_76 (by decide) rfl rfl ?_
                  refine g_iload G 9 dX10_holds_78 rfl ?_
                  refine g_sipush G dX10_holds_80 (by decide +kernel) ?_
                  refine g_icmp_ne G 93 dX10_holds_83 (by decide) (by omega) (by omega) (fun c83 => ?_) (fun c83 => ?_)
                  · have hs3 := hs2
                    unfold HS at hs3
                    refine g_iload G 5 dX10_holds_93 rfl ?_
                    refine g_if_ne G 107 dX10_holds_95 (by decide) (by omega) (fun c95 => ?_) (fun c95 => ?_)
                    · refine g_iconst G dX10_holds_107 ?_
                      refine g_istore G [(0, .ref q0), (1, .int (iI x)), (2, .int (iI v)), (3, .int (iI f)), (4, .int (iI b)), (5, .int (iI 1)), (6, .int (iI i)), (7, .int (iI j)), (8, .int (iI (g (20 + 72 * i + 6 * j + (4 + f))))), (9, .int (iI (bsR g x i j)))] dX10_holds_108 (by decide) rfl rfl ?_
                      refine g_iload G 8 dX10_holds_110 rfl ?_
                      refine g_iload G 9 dX10_holds_112 rfl ?_
                      refine g_aload_n G 0 dX10_holds_114 rfl ?_
                      refine g_get G 0 3 dX10_holds_115 i_X10_holds_X10 f_X10_holds_77 rfl rfl (by decide) rfl ?_
                      refine g_iadd G dX10_holds_118 ?_
                      refine g_icmp_eq G 124 dX10_holds_119 (by decide) (by omega) (by omega) (fun c119 => ?_) (fun c119 => ?_)
                      · refine g_iinc G 7 [(0, .ref q0), (1, .int (iI x)), (2, .int (iI v)), (3, .int (iI f)), (4, .int (iI b)), (5, .int (iI 1)), (6, .int (iI i)), (7, .int (iI (j + 1))), (8, .int (iI (g (20 + 72 * i + 6 * j + (4 + f))))), (9, .int (iI (bsR g x i j)))] dX10_holds_124 rfl (by decide) rfl rfl ?_
                        refine g_goto G 20 dX10_holds_127 (by decide) ?_
                        refine g_lv G [0, 1, 2, 3, 4, 5, 6, 7] (lv' := [(0, .ref q0), (1, .int (iI x)), (2, .int (iI v)), (3, .int (iI f)), (4, .int (iI b)), (5, .int (iI 1)), (6, .int (iI i)), (7, .int (iI (j + 1)))]) rfl ?_
                        exact ih20 (j + 1) 1 c2 (by first | assumption | omega) (by exact fun q => absurd q c35) (by rw [nP_up _ _ hj.1]; generalize nP (hsS g x v f) i j.toNat (nR (hsS g x v f) (fun r => g (10 + r)) b i.toNat (1000)) = o at hs2 ⊢; unfold HS at hs2 ⊢; (try dsimp only); unfold hsS wgh; (repeat' split) <;> omega) (by omega)
                      · have e9 : hsT g x v f b = 1001 := nR_exit (hsS g x v f) (fun r => g (10 + r)) b hi.1 (by omega) c35 hj.1 (by show j < g (10 + i); omega) (by rw [nP_up _ _ hj.1]; generalize nP (hsS g x v f) i j.toNat (nR (hsS g x v f) (fun r => g (10 + r)) b i.toNat (1000)) = o at hs2 ⊢; unfold HS at hs2; (try dsimp only); unfold hsS wgh; (repeat' split) <;> omega) (fun r p => by unfold hsS; split; exact wgh_max _ _; rfl)
                        refine g_iconst G dX10_holds_122 ?_
                        exact g_ret G (some (.int (iI 0))) rfl dX10_holds_123 (Nat.le_refl _) (Nat.le_refl _) ⟨0, c2, rfl, rfl, by first | (rw [e9]; exact ⟨fun q => absurd q (by decide), rfl⟩) | (unfold HS at hs; unfold hsT; rw [(show g 0 = i by omega)]; generalize nR (hsS g x v f) (fun r => g (10 + r)) b i.toNat (1000) = o at hs ⊢; refine ⟨by omega, ?_⟩; split <;> omega)⟩
                    · refine g_aload_n G 0 dX10_holds_98 rfl ?_
                      refine g_iload G 8 dX10_holds_99 rfl ?_
                      refine g_iload G 9 dX10_holds_101 rfl ?_
                      refine g_isub G dX10_holds_103 ?_
                      refine g_put G 0 3 [(q0, .inr (10, [.ref q1, .ref q2, .ref q3, .int (iI ((g (20 + 72 * i + 6 * j + (4 + f))) - (bsR g x i j))), .ref q4, .ref q5, .int (iI la), .ref q6, .ref q7, .ref q8, .ref q9, .ref q10, .ref q11, .int (iI ch), .int (iI us)])), (q1, ia E 5400 g)] dX10_holds_104 i_X10_holds_X10 f_X10_holds_77 tyX10_ok nmX10 rfl rfl (by decide) rfl rfl rfl rfl (Nat.le_of_ble_eq_true rfl) rfl ?_
                      refine g_iconst G dX10_holds_107 ?_
                      refine g_istore G [(0, .ref q0), (1, .int (iI x)), (2, .int (iI v)), (3, .int (iI f)), (4, .int (iI b)), (5, .int (iI 1)), (6, .int (iI i)), (7, .int (iI j)), (8, .int (iI (g (20 + 72 * i + 6 * j + (4 + f))))), (9, .int (iI (bsR g x i j)))] dX10_holds_108 (by decide) rfl rfl ?_
                      refine g_iload G 8 dX10_holds_110 rfl ?_
                      refine g_iload G 9 dX10_holds_112 rfl ?_
                      refine g_aload_n G 0 dX10_holds_114 rfl ?_
                      refine g_get G 0 3 dX10_holds_115 i_X10_holds_X10 f_X10_holds_77 rfl rfl (by decide) rfl ?_
                      refine g_iadd G dX10_holds_118 ?_
                      refine g_icmp_eq G 124 dX10_holds_119 (by decide) (by omega) (by omega) (fun c119 => ?_) (fun c119 => ?_)
                      · refine g_iinc G 7 [(0, .ref q0), (1, .int (iI x)), (2, .int (iI v)), (3, .int (iI f)), (4, .int (iI b)), (5, .int (iI 1)), (6, .int (iI i)), (7, .int (iI (j + 1))), (8, .int (iI (g (20 + 72 * i + 6 * j + (4 + f))))), (9, .int (iI (bsR g x i j)))] dX10_holds_124 rfl (by decide) rfl rfl ?_
                        refine g_goto G 20 dX10_holds_127 (by decide) ?_
                        refine g_lv G [0, 1, 2, 3, 4, 5, 6, 7] (lv' := [(0, .ref q0), (1, .int (iI x)), (2, .int (iI v)), (3, .int (iI f)), (4, .int (iI b)), (5, .int (iI 1)), (6, .int (iI i)), (7, .int (iI (j + 1)))]) rfl ?_
                        exact ih20 (j + 1) 1 ((g (20 + 72 * i + 6 * j + (4 + f))) - (bsR g x i j)) (by first | assumption | omega) (by exact fun q => absurd q c35) (by rw [nP_up _ _ hj.1]; generalize nP (hsS g x v f) i j.toNat (nR (hsS g x v f) (fun r => g (10 + r)) b i.toNat (1000)) = o at hs2 ⊢; unfold HS at hs2 ⊢; (try dsimp only); unfold hsS wgh; (repeat' split) <;> omega) (by omega)
                      · have e9 : hsT g x v f b = 1001 := nR_exit (hsS g x v f) (fun r => g (10 + r)) b hi.1 (by omega) c35 hj.1 (by show j < g (10 + i); omega) (by rw [nP_up _ _ hj.1]; generalize nP (hsS g x v f) i j.toNat (nR (hsS g x v f) (fun r => g (10 + r)) b i.toNat (1000)) = o at hs2 ⊢; unfold HS at hs2; (try dsimp only); unfold hsS wgh; (repeat' split) <;> omega) (fun r p => by unfold hsS; split; exact wgh_max _ _; rfl)
                        refine g_iconst G dX10_holds_122 ?_
                        exact g_ret G (some (.int (iI 0))) rfl dX10_holds_123 (Nat.le_refl _) (Nat.le_refl _) ⟨0, ((g (20 + 72 * i + 6 * j + (4 + f))) - (bsR g x i j)), rfl, rfl, by first | (rw [e9]; exact ⟨fun q => absurd q (by decide), rfl⟩) | (unfold HS at hs; unfold hsT; rw [(show g 0 = i by omega)]; generalize nR (hsS g x v f) (fun r => g (10 + r)) b i.toNat (1000) = o at hs ⊢; refine ⟨by omega, ?_⟩; split <;> omega)⟩
                  · refine g_iload G 8 dX10_holds_86 rfl ?_
                    refine g_if_eq G 124 dX10_holds_88 (by decide) (by omega) (fun c88 => ?_) (fun c88 => ?_)
                    · refine g_iinc G 7 [(0, .ref q0), (1, .int (iI x)), (2, .int (iI v)), (3, .int (iI f)), (4, .int (iI b)), (5, .int (iI fp)), (6, .int (iI i)), (7, .int (iI (j + 1))), (8, .int (iI (g (20 + 72 * i + 6 * j + (4 + f))))), (9, .int (iI (bsR g x i j)))] dX10_holds_124 rfl (by decide) rfl rfl ?_
                      refine g_goto G 20 dX10_holds_127 (by decide) ?_
                      refine g_lv G [0, 1, 2, 3, 4, 5, 6, 7] (lv' := [(0, .ref q0), (1, .int (iI x)), (2, .int (iI v)), (3, .int (iI f)), (4, .int (iI b)), (5, .int (iI fp)), (6, .int (iI i)), (7, .int (iI (j + 1)))]) rfl ?_
                      exact ih20 (j + 1) fp c2 (by first | assumption | omega) (by exact fun q => absurd q c35) (by rw [nP_up _ _ hj.1]; generalize nP (hsS g x v f) i j.toNat (nR (hsS g x v f) (fun r => g (10 + r)) b i.toNat (1000)) = o at hs2 ⊢; unfold HS at hs2 ⊢; (try dsimp only); unfold hsS wgh; (repeat' split) <;> omega) (by omega)
                    · have e9 : hsT g x v f b = 1001 := nR_exit (hsS g x v f) (fun r => g (10 + r)) b hi.1 (by omega) c35 hj.1 (by show j < g (10 + i); omega) (by rw [nP_up _ _ hj.1]; generalize nP (hsS g x v f) i j.toNat (nR (hsS g x v f) (fun r => g (10 + r)) b i.toNat (1000)) = o at hs2 ⊢; unfold HS at hs2; (try dsimp only); unfold hsS wgh; (repeat' split) <;> omega) (fun r p => by unfold hsS; split; exact wgh_max _ _; rfl)
                      refine g_iconst G dX10_holds_91 ?_
                      exact g_ret G (some (.int (iI 0))) rfl dX10_holds_92 (Nat.le_refl _) (Nat.le_refl _) ⟨0, c2, rfl, rfl, by first | (rw [e9]; exact ⟨fun q => absurd q (by decide), rfl⟩) | (unfold HS at hs; unfold hsT; rw [(show g 0 = i by omega)]; generalize nR (hsS g x v f) (fun r => g (10 + r)) b i.toNat (1000) = o at hs ⊢; refine ⟨by omega, ?_⟩; split <;> omega)⟩
                · refine g_goto G 124 dX10_holds_51 (by decide) ?_
                  refine g_iinc G 7 [(0, .ref q0), (1, .int (iI x)), (2, .int (iI v)), (3, .int (iI f)), (4, .int (iI b)), (5, .int (iI fp)), (6, .int (iI i)), (7, .int (iI (j + 1)))] dX10_holds_124 rfl (by decide) rfl rfl ?_
                  refine g_goto G 20 dX10_holds_127 (by decide) ?_
                  exact ih20 (j + 1) fp c2 (by first | assumption | omega) (by exact fun q => absurd q c35) (by rw [nP_up _ _ hj.1]; generalize nP (hsS g x v f) i j.toNat (nR (hsS g x v f) (fun r => g (10 + r)) b i.toNat (1000)) = o at hs2 ⊢; unfold HS at hs2 ⊢; (try dsimp only); unfold hsS wgh; (repeat' split) <;> omega) (by omega)
        exact L20 ((g (10 + i) - 0 : Int).toNat + 1) 0 fo c1 (by first | assumption | omega) (by exact fun _ => rfl) (by exact hs) (by omega)
  exact L6 ((g 0 - 0 : Int).toNat + 1) 0 0 c0 (by first | assumption | omega) (by exact Or.inl ⟨rfl, rfl⟩) (by omega)
