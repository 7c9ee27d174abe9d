def quS (q : Int → Int → Int) (r s : Int) (t : Int × Int × Int) : Int × Int × Int := if t = (-1, -1, -1) ∧ r < s ∧ 0 ≤ q r s then (r, s, q r s) else t
def quI (q : Int → Int → Int) (z : Int) : Int × Int × Int := nR (quS q) (fun _ => z) (-1) z.toNat (-1, -1, -1)
theorem quS_lo (q : Int → Int → Int) {i : Int} (hi : 0 ≤ i) : ∀ n : Nat, (n : Int) ≤ i + 1 → nP (quS q) i n (-1, -1, -1) = (-1, -1, -1)
  | 0, _ => rfl
  | n + 1, h => by
    show quS q i n (nP (quS q) i n (-1, -1, -1)) = _
    rw [quS_lo q hi n (by omega)]
    exact if_neg (fun q => by omega)
theorem qAt_bd (g : Int → Int) (x y : Int) : -1 ≤ qAt g x y ∧ qAt g x y < 2147483648 ∨ 2147483648 ≤ (min (g (10 + x)) (g (10 + y))) := by
  unfold qAt
  rcases qpl_bd (fun p => g (20 + 72 * x + 6 * p + 0) ≠ g (20 + 72 * y + 6 * p + 0)) (fun p => g (20 + 72 * x + 6 * p + 3) ≠ g (20 + 72 * y + 6 * p + 3)) (min (g (10 + x)) (g (10 + y))).toNat 0 with h | ⟨h1, h2, -⟩
  · left; rw [h]; omega
  · omega
def ctI (g : Int → Int) (x : Int) : Int := if x = 0 then g 0 else if 1 ≤ x ∧ x ≤ 4 then sumI (fun a => sumI (fun b => if x < 2 ∨ 4 < x ∨ g (20 + 72 * a + 6 * b + 0) = x - 2 then 1 else 0) (g (10 + a)).toNat) (g 0).toNat else if x = 5 then sumI (fun a => sumI (fun b => if fsI g a b = 1 then 1 else 0) (g (10 + a)).toNat) (g 0).toNat else -1
def lyS (r p : Int) (S : (Int → Int) × (Int → Int) × Int) : (Int → Int) × (Int → Int) × Int := (upI S.1 S.2.2 r, upI S.2.1 S.2.2 p, S.2.2 + 1)
def lyI (g : Int → Int) (b : Int) (lr lp : Int → Int) : (Int → Int) × (Int → Int) × Int := nR lyS (fun r => g (10 + r)) b (g 0).toNat (lr, lp, 0)
theorem f_X10_quarrel_7 : Cond.fieldLink RX10 7 (TX10 0).1 (TX10 0).2.1 (TX10 0).2.2.1 ∈ wsX10_quarrel := by decide +kernel
theorem i_X10_quarrel_X10 : ∀ w ∈ wsX100, w ∈ wsX10_quarrel := by decide +kernel
theorem e_X10_quarrelAt : yX10_quarrelAt.cls ≠ "java/lang/invoke/MethodHandle" ∧ yX10_quarrelAt.cls ≠ "java/lang/invoke/VarHandle" ∧ (parseMethodDescriptor yX10_quarrelAt.desc).map (fun d => d.parameters.length) = some 2 := by decide +kernel
set_option maxRecDepth 100000 in
set_option maxHeartbeats 4000000 in
theorem c_X10_quarrel (E : qE) (q0 : Nat) (q1 : Nat) (q2 : Nat) (q3 : Nat) (q4 : Nat) (q5 : Nat) (q6 : Nat) (q7 : Nat) (q8 : Nat) (q9 : Nat) (q10 : Nat) (q11 : Nat) (c0 : Int) (la : Int) (ch : Int) (us : Int) (g : Int → Int) (x : Int) (hG : AllOk g) (hx : -2147483648 ≤ x ∧ x < 2147483648) : Cn E yX10_quarrel wsX10_quarrel { frames := 2, cells := 0, slots := 0, locals := 46 } [.ref q0, .int (iI x)] [(q0, .inr (10, [.ref q1, .ref q2, .ref q3, .int (iI c0), .ref q4, .ref q5, .int (iI la), .ref q6, .ref q7, .ref q8, .ref q9, .ref q10, .ref q11, .int (iI ch), .int (iI us)])), (q1, ia E 5400 g)] (fun v9 w9 => ∃ (r : Int), v9 = some (.int (iI r)) ∧ w9 = [(q0, .inr (10, [.ref q1, .ref q2, .ref q3, .int (iI c0), .ref q4, .ref q5, .int (iI la), .ref q6, .ref q7, .ref q8, .ref q9, .ref q10, .ref q11, .int (iI ch), .int (iI us)])), (q1, ia E 5400 g)] ∧ r = (pick3 x (quI (qAt g) (g 0)).1 (quI (qAt g) (g 0)).2.1 (quI (qAt g) (g 0)).2.2)) 0 0 := by
  refine Cn.ofP (own := RX10) (cc := cX10_quarrel) (maxL := 5) (ret := (some .int)) false [(0, .ref q0), (1, .int (iI x))] (by decide +kernel) rfl rfl (Nat.le_of_ble_eq_true rfl) rfl (fun h => nomatch h) (fun v w h => by obtain ⟨r, rfl, h9⟩ := h; exact ⟨_, rfl, rfl⟩) ?_
  intro P G
  obtain ⟨hg, hg0, hgs⟩ := id hG
  refine g_iload_n G 1 dX10_quarrel_0 rfl ?_
  refine g_iconst G dX10_quarrel_1 ?_
  refine g_iconst G dX10_quarrel_2 ?_
  refine g_callS G [] [0, 1] 2 [(q0, .inr (10, [.ref q1, .ref q2, .ref q3, .int (iI c0), .ref q4, .ref q5, .int (iI la), .ref q6, .ref q7, .ref q8, .ref q9, .ref q10, .ref q11, .int (iI ch), .int (iI us)])), (q1, ia E 5400 g)] [.int (iI x), .int (iI 0), .int (iI 2)] [] (c_X10_isIn E x 0 2 (by first | assumption | omega) (by first | assumption | omega) (by first | assumption | omega)) dX10_quarrel_3 gX10_quarrel_X10_isIn ⟨rfl, ⟨rfl, rfl⟩, e_X10_isIn, ⟨Nat.le_of_ble_eq_true rfl, Nat.le_of_ble_eq_true rfl⟩, Nat.le_of_ble_eq_true rfl, Nat.le_of_ble_eq_true rfl, Nat.le_of_ble_eq_true rfl⟩ rfl (by decide +kernel) rfl (by decide +kernel) rfl (fun v9 w9 h9 => ?_)
  obtain ⟨o1, rfl, rfl, rfl⟩ := h9
  refine ⟨[(q0, .inr (10, [.ref q1, .ref q2, .ref q3, .int (iI c0), .ref q4, .ref q5, .int (iI la), .ref q6, .ref q7, .ref q8, .ref q9, .ref q10, .ref q11, .int (iI ch), .int (iI us)])), (q1, ia E 5400 g)], ⟨rfl, rfl, rfl, rfl⟩, g_to 0 0 _ _ [.int (iI (if 0 ≤ x ∧ x ≤ 2 then 1 else 0))] rfl rfl rfl rfl rfl ?_⟩
  refine g_ifb_ne G 11 dX10_quarrel_6 (by decide) (fun c6 => ?_) (fun c6 => ?_)
  · refine g_iconst G dX10_quarrel_11 ?_
    refine g_istore_n G [(0, .ref q0), (1, .int (iI x)), (2, .int (iI 0))] dX10_quarrel_12 (by decide) rfl rfl ?_
    have L13 : ∀ (fuel : Nat), ∀ (i : Int), (0 ≤ i ∧ i ≤ g 0) → (nR (quS (qAt g)) (fun _ => g 0) (-1) i.toNat (-1, -1, -1) = (-1, -1, -1)) → (g 0 - i : Int).toNat < fuel → P 0 0 [(q0, .inr (10, [.ref q1, .ref q2, .ref q3, .int (iI c0), .ref q4, .ref q5, .int (iI la), .ref q6, .ref q7, .ref q8, .ref q9, .ref q10, .ref q11, .int (iI ch), .int (iI us)])), (q1, ia E 5400 g)] 13 [(0, .ref q0), (1, .int (iI x)), (2, .int (iI i))] [] := by
      intro fuel
      induction fuel with
      | zero => intro i hi ho hm; exact absurd hm (Nat.not_lt_zero _)
      | succ fuel ih13 =>
        intro i hi ho hm
        refine g_iload_n G 2 dX10_quarrel_13 rfl ?_
        refine g_aload_n G 0 dX10_quarrel_14 rfl ?_
        refine g_get G 0 0 dX10_quarrel_15 i_X10_quarrel_X10 f_X10_quarrel_7 rfl rfl (by decide) rfl ?_
        refine g_iconst G dX10_quarrel_18 ?_
        refine g_iald G 1 dX10_quarrel_19 rfl (by omega) (by omega) (by decide) ?_
        have b2 := hg 0
        refine g_icmp_ge G 82 dX10_quarrel_20 (by decide) (by omega) (by omega) (fun c20 => ?_) (fun c20 => ?_)
        · refine g_iconst G dX10_quarrel_82 ?_
          exact g_ret G (some (.int (iI (-1)))) rfl dX10_quarrel_83 (Nat.le_refl _) (Nat.le_refl _) ⟨(-1), rfl, rfl, by unfold quI; rw [(show g 0 = i by omega), ← (show g 0 = i by omega), (show (g 0).toNat = i.toNat by omega), ho]; unfold pick3; (repeat' split) <;> rfl⟩
        · refine g_iload_n G 2 dX10_quarrel_23 rfl ?_
          refine g_iconst G dX10_quarrel_24 ?_
          refine g_iadd G dX10_quarrel_25 ?_
          refine g_istore_n G [(0, .ref q0), (1, .int (iI x)), (2, .int (iI i)), (3, .int (iI (i + 1)))] dX10_quarrel_26 (by decide) rfl rfl ?_
          have L27 : ∀ (fuel : Nat), ∀ (j : Int), (i + 1 ≤ j ∧ j ≤ g 0) → (nP (quS (qAt g)) i j.toNat (-1, -1, -1) = (-1, -1, -1)) → (g 0 - j : Int).toNat < fuel → P 0 0 [(q0, .inr (10, [.ref q1, .ref q2, .ref q3, .int (iI c0), .ref q4, .ref q5, .int (iI la), .ref q6, .ref q7, .ref q8, .ref q9, .ref q10, .ref q11, .int (iI ch), .int (iI us)])), (q1, ia E 5400 g)] 27 [(0, .ref q0), (1, .int (iI x)), (2, .int (iI i)), (3, .int (iI j))] [] := by
            intro fuel
            induction fuel with
            | zero => intro j hj ho2 hm; exact absurd hm (Nat.not_lt_zero _)
            | succ fuel ih27 =>
              intro j hj ho2 hm
              refine g_iload_n G 3 dX10_quarrel_27 rfl ?_
              refine g_aload_n G 0 dX10_quarrel_28 rfl ?_
              refine g_get G 0 0 dX10_quarrel_29 i_X10_quarrel_X10 f_X10_quarrel_7 rfl rfl (by decide) rfl ?_
              refine g_iconst G dX10_quarrel_32 ?_
              refine g_iald G 1 dX10_quarrel_33 rfl (by omega) (by omega) (by decide) ?_
              have b3 := hg 0
              refine g_icmp_ge G 76 dX10_quarrel_34 (by decide) (by omega) (by omega) (fun c34 => ?_) (fun c34 => ?_)
              · refine g_iinc G 2 [(0, .ref q0), (1, .int (iI x)), (2, .int (iI (i + 1))), (3, .int (iI j))] dX10_quarrel_76 rfl (by decide) rfl rfl ?_
                refine g_goto G 13 dX10_quarrel_79 (by decide) ?_
                refine g_lv G [0, 1, 2] (lv' := [(0, .ref q0), (1, .int (iI x)), (2, .int (iI (i + 1)))]) rfl ?_
                exact ih13 (i + 1) (by first | assumption | omega) (by rw [nR_up _ _ _ hi.1, if_neg (by omega), ho]; (try dsimp only); rw [(show g 0 = j by omega)]; exact ho2) (by omega)
              · refine g_aload_n G 0 dX10_quarrel_37 rfl ?_
                refine g_iload_n G 2 dX10_quarrel_38 rfl ?_
                refine g_iload_n G 3 dX10_quarrel_39 rfl ?_
                refine g_callV G [0, 1] [] 2 [] [.int (iI i), .int (iI j)] [] (c_X10_quarrelAt E q0 q1 q2 q3 q4 q5 q6 q7 q8 q9 q10 q11 c0 la ch us g i j (by exact hG) (by first | assumption | omega) (by first | assumption | omega)) dX10_quarrel_40 gX10_quarrel_X10_quarrelAt ⟨rfl, ⟨rfl, rfl⟩, e_X10_quarrelAt, ⟨Nat.le_of_ble_eq_true rfl, Nat.le_of_ble_eq_true rfl⟩, Nat.le_of_ble_eq_true rfl, Nat.le_of_ble_eq_true rfl, Nat.le_of_ble_eq_true rfl⟩ rfl rfl rfl rfl rfl (by decide +kernel) rfl (by decide +kernel) rfl (fun v9 w9 h9 => ?_)
                obtain ⟨o4, rfl, rfl, rfl⟩ := h9
                refine ⟨[(q0, .inr (10, [.ref q1, .ref q2, .ref q3, .int (iI c0), .ref q4, .ref q5, .int (iI la), .ref q6, .ref q7, .ref q8, .ref q9, .ref q10, .ref q11, .int (iI ch), .int (iI us)])), (q1, ia E 5400 g)], ⟨rfl, rfl, rfl, rfl⟩, g_to 0 0 _ _ [.int (iI (qAt g i j))] rfl rfl rfl rfl rfl ?_⟩
                refine g_istore G [(0, .ref q0), (1, .int (iI x)), (2, .int (iI i)), (3, .int (iI j)), (4, .int (iI (qAt g i j)))] dX10_quarrel_43 (by decide) rfl rfl ?_
                have hqb := qAt_bd g i j
                have hg1 := hg (10 + i)
                have hg2 := hg (10 + j)
                refine g_iload G 4 dX10_quarrel_45 rfl ?_
                refine g_if_lt G 70 dX10_quarrel_47 (by decide) (by omega) (fun c47 => ?_) (fun c47 => ?_)
                · refine g_iinc G 3 [(0, .ref q0), (1, .int (iI x)), (2, .int (iI i)), (3, .int (iI (j + 1))), (4, .int (iI (qAt g i j)))] dX10_quarrel_70 rfl (by decide) rfl rfl ?_
                  refine g_goto G 27 dX10_quarrel_73 (by decide) ?_
                  refine g_lv G [0, 1, 2, 3] (lv' := [(0, .ref q0), (1, .int (iI x)), (2, .int (iI i)), (3, .int (iI (j + 1)))]) rfl ?_
                  exact ih27 (j + 1) (by first | assumption | omega) (by rw [nP_up _ _ (show 0 ≤ j by omega), ho2]; exact if_neg (fun q => by omega)) (by omega)
                · have e9 : quI (qAt g) (g 0) = (i, j, qAt g i j) := nR_exit (quS (qAt g)) (fun _ => g 0) (-1) hi.1 (show i < g 0 by omega) (by omega) (show 0 ≤ j by omega) (show j < g 0 by omega) (by rw [nP_up _ _ (show 0 ≤ j by omega), ho, ho2]; exact if_pos ⟨rfl, by omega, c47⟩) (fun r p => if_neg (fun q => by have q2 := congrArg Prod.fst q.1; dsimp only at q2; omega))
                  refine g_iload_n G 1 dX10_quarrel_50 rfl ?_
                  refine g_if_ne G 58 dX10_quarrel_51 (by decide) (by omega) (fun c51 => ?_) (fun c51 => ?_)
                  · refine g_iload_n G 1 dX10_quarrel_58 rfl ?_
                    refine g_iconst G dX10_quarrel_59 ?_
                    refine g_icmp_ne G 67 dX10_quarrel_60 (by decide) (by omega) (by omega) (fun c60 => ?_) (fun c60 => ?_)
                    · refine g_iload G 4 dX10_quarrel_67 rfl ?_
                      exact g_ret G (some (.int (iI (qAt g i j)))) rfl dX10_quarrel_69 (Nat.le_refl _) (Nat.le_refl _) ⟨(qAt g i j), rfl, rfl, by rw [e9]; unfold pick3; first | (rw [if_pos (by omega)]; done) | (rw [if_neg (by omega), if_pos (by omega)]; done) | (rw [if_neg (by omega), if_neg (by omega), if_pos (by omega)])⟩
                    · refine g_iload_n G 3 dX10_quarrel_63 rfl ?_
                      refine g_goto G 69 dX10_quarrel_64 (by decide) ?_
                      exact g_ret G (some (.int (iI j))) rfl dX10_quarrel_69 (Nat.le_refl _) (Nat.le_refl _) ⟨j, rfl, rfl, by rw [e9]; unfold pick3; first | (rw [if_pos (by omega)]; done) | (rw [if_neg (by omega), if_pos (by omega)]; done) | (rw [if_neg (by omega), if_neg (by omega), if_pos (by omega)])⟩
                  · refine g_iload_n G 2 dX10_quarrel_54 rfl ?_
                    refine g_goto G 69 dX10_quarrel_55 (by decide) ?_
                    exact g_ret G (some (.int (iI i))) rfl dX10_quarrel_69 (Nat.le_refl _) (Nat.le_refl _) ⟨i, rfl, rfl, by rw [e9]; unfold pick3; first | (rw [if_pos (by omega)]; done) | (rw [if_neg (by omega), if_pos (by omega)]; done) | (rw [if_neg (by omega), if_neg (by omega), if_pos (by omega)])⟩
          exact L27 ((g 0 - (i + 1) : Int).toNat + 1) (i + 1) (by first | assumption | omega) (by exact quS_lo _ hi.1 _ (by omega)) (by omega)
    exact L13 ((g 0 - 0 : Int).toNat + 1) 0 (by first | assumption | omega) (by rfl) (by omega)
  · refine g_iconst G dX10_quarrel_9 ?_
    exact g_ret G (some (.int (iI (-1)))) rfl dX10_quarrel_10 (Nat.le_refl _) (Nat.le_refl _) ⟨(-1), rfl, rfl, by unfold pick3; rw [if_neg (by omega), if_neg (by omega), if_neg (by omega)]⟩
theorem f_X10_count_7 : Cond.fieldLink RX10 7 (TX10 0).1 (TX10 0).2.1 (TX10 0).2.2.1 ∈ wsX10_count := by decide +kernel
theorem i_X10_count_X10 : ∀ w ∈ wsX100, w ∈ wsX10_count := by decide +kernel
theorem e_X10_isFirst : yX10_isFirst.cls ≠ "java/lang/invoke/MethodHandle" ∧ yX10_isFirst.cls ≠ "java/lang/invoke/VarHandle" ∧ (parseMethodDescriptor yX10_isFirst.desc).map (fun d => d.parameters.length) = some 2 := by decide +kernel
set_option maxRecDepth 100000 in
set_option maxHeartbeats 4000000 in
theorem c_X10_count (E : qE) (q0 : Nat) (q1 : Nat) (q2 : Nat) (q3 : Nat) (q4 : Nat) (q5 : Nat) (q6 : Nat) (q7 : Nat) (q8 : Nat) (q9 : Nat) (q10 : Nat) (q11 : Nat) (c0 : Int) (la : Int) (ch : Int) (us : Int) (g : Int → Int) (x : Int) (hG : AllOk g) (hx : -2147483648 ≤ x ∧ x < 2147483648) : Cn E yX10_count wsX10_count { frames := 2, cells := 0, slots := 0, locals := 47 } [.ref q0, .int (iI x)] [(q0, .inr (10, [.ref q1, .ref q2, .ref q3, .int (iI c0), .ref q4, .ref q5, .int (iI la), .ref q6, .ref q7, .ref q8, .ref q9, .ref q10, .ref q11, .int (iI ch), .int (iI us)])), (q1, ia E 5400 g)] (fun v9 w9 => ∃ (r : Int), v9 = some (.int (iI r)) ∧ w9 = [(q0, .inr (10, [.ref q1, .ref q2, .ref q3, .int (iI c0), .ref q4, .ref q5, .int (iI la), .ref q6, .ref q7, .ref q8, .ref q9, .ref q10, .ref q11, .int (iI ch), .int (iI us)])), (q1, ia E 5400 g)] ∧ r = (ctI g x)) 0 0 := by
  refine Cn.ofP (own := RX10) (cc := cX10_count) (maxL := 6) (ret := (some .int)) false [(0, .ref q0), (1, .int (iI x))] (by decide +kernel) rfl rfl (Nat.le_of_ble_eq_true rfl) rfl (fun h => nomatch h) (fun v w h => by obtain ⟨r, rfl, h9⟩ := h; exact ⟨_, rfl, rfl⟩) ?_
  intro P G
  obtain ⟨hg, hg0, hgs⟩ := id hG
  refine g_iconst G dX10_count_0 ?_
  refine g_istore_n G [(0, .ref q0), (1, .int (iI x)), (2, .int (iI 0))] dX10_count_1 (by decide) rfl rfl ?_
  refine g_iconst G dX10_count_2 ?_
  refine g_istore_n G [(0, .ref q0), (1, .int (iI x)), (2, .int (iI 0)), (3, .int (iI 0))] dX10_count_3 (by decide) rfl rfl ?_
  refine g_iconst G dX10_count_4 ?_
  refine g_istore G [(0, .ref q0), (1, .int (iI x)), (2, .int (iI 0)), (3, .int (iI 0)), (4, .int (iI 0))] dX10_count_5 (by decide) rfl rfl ?_
  have L7 : ∀ (fuel : Nat), ∀ (i : Int) (n : Int) (t : Int), (0 ≤ i ∧ i ≤ g 0) → (n = sumI (fun a => sumI (fun b => if x < 2 ∨ 4 < x ∨ g (20 + 72 * a + 6 * b + 0) = x - 2 then 1 else 0) (g (10 + a)).toNat) i.toNat) → (t = sumI (fun a => sumI (fun b => if fsI g a b = 1 then 1 else 0) (g (10 + a)).toNat) i.toNat) → (g 0 - i : Int).toNat < fuel → P 0 0 [(q0, .inr (10, [.ref q1, .ref q2, .ref q3, .int (iI c0), .ref q4, .ref q5, .int (iI la), .ref q6, .ref q7, .ref q8, .ref q9, .ref q10, .ref q11, .int (iI ch), .int (iI us)])), (q1, ia E 5400 g)] 7 [(0, .ref q0), (1, .int (iI x)), (2, .int (iI n)), (3, .int (iI t)), (4, .int (iI i))] [] := by
    intro fuel
    induction fuel with
    | zero => intro i n t hi hn ht hm; exact absurd hm (Nat.not_lt_zero _)
    | succ fuel ih7 =>
      intro i n t hi hn ht hm
      refine g_iload G 4 dX10_count_7 rfl ?_
      refine g_aload_n G 0 dX10_count_9 rfl ?_
      refine g_get G 0 0 dX10_count_10 i_X10_count_X10 f_X10_count_7 rfl rfl (by decide) rfl ?_
      refine g_iconst G dX10_count_13 ?_
      refine g_iald G 1 dX10_count_14 rfl (by omega) (by omega) (by decide) ?_
      have b1 := hg 0
      refine g_icmp_ge G 96 dX10_count_15 (by decide) (by omega) (by omega) (fun c15 => ?_) (fun c15 => ?_)
      · have e8 : g 0 = i := by omega
        refine g_iload_n G 1 dX10_count_96 rfl ?_
        refine g_if_ne G 109 dX10_count_97 (by decide) (by omega) (fun c97 => ?_) (fun c97 => ?_)
        · refine g_iload_n G 1 dX10_count_109 rfl ?_
          refine g_iconst G dX10_count_110 ?_
          refine g_iconst G dX10_count_111 ?_
          refine g_callS G [] [0, 1] 2 [(q0, .inr (10, [.ref q1, .ref q2, .ref q3, .int (iI c0), .ref q4, .ref q5, .int (iI la), .ref q6, .ref q7, .ref q8, .ref q9, .ref q10, .ref q11, .int (iI ch), .int (iI us)])), (q1, ia E 5400 g)] [.int (iI x), .int (iI 1), .int (iI 4)] [] (c_X10_isIn E x 1 4 (by first | assumption | omega) (by first | assumption | omega) (by first | assumption | omega)) dX10_count_112 gX10_count_X10_isIn ⟨rfl, ⟨rfl, rfl⟩, e_X10_isIn, ⟨Nat.le_of_ble_eq_true rfl, Nat.le_of_ble_eq_true rfl⟩, Nat.le_of_ble_eq_true rfl, Nat.le_of_ble_eq_true rfl, Nat.le_of_ble_eq_true rfl⟩ rfl (by decide +kernel) rfl (by decide +kernel) rfl (fun v9 w9 h9 => ?_)
          obtain ⟨o2, rfl, rfl, rfl⟩ := h9
          refine ⟨[(q0, .inr (10, [.ref q1, .ref q2, .ref q3, .int (iI c0), .ref q4, .ref q5, .int (iI la), .ref q6, .ref q7, .ref q8, .ref q9, .ref q10, .ref q11, .int (iI ch), .int (iI us)])), (q1, ia E 5400 g)], ⟨rfl, rfl, rfl, rfl⟩, g_to 0 0 _ _ [.int (iI (if 1 ≤ x ∧ x ≤ 4 then 1 else 0))] rfl rfl rfl rfl rfl ?_⟩
          refine g_ifb_eq G 122 dX10_count_115 (by decide) (fun c115 => ?_) (fun c115 => ?_)
          · refine g_iload_n G 1 dX10_count_122 rfl ?_
            refine g_iconst G dX10_count_123 ?_
            refine g_icmp_ne G 131 dX10_count_124 (by decide) (by omega) (by omega) (fun c124 => ?_) (fun c124 => ?_)
            · refine g_iconst G dX10_count_131 ?_
              exact g_ret G (some (.int (iI (-1)))) rfl dX10_count_132 (Nat.le_refl _) (Nat.le_refl _) ⟨(-1), rfl, rfl, by unfold ctI; first | (rw [if_pos (by omega)]; done) | (rw [if_neg (by omega), if_pos (by omega), hn, ← e8]; done) | (rw [if_neg (by omega), if_neg (by omega), if_pos (by omega), ht, ← e8]; done) | (rw [if_neg (by omega), if_neg (by omega), if_neg (by omega)])⟩
            · refine g_iload_n G 3 dX10_count_127 rfl ?_
              refine g_goto G 132 dX10_count_128 (by decide) ?_
              exact g_ret G (some (.int (iI t))) rfl dX10_count_132 (Nat.le_refl _) (Nat.le_refl _) ⟨t, rfl, rfl, by unfold ctI; first | (rw [if_pos (by omega)]; done) | (rw [if_neg (by omega), if_pos (by omega), hn, ← e8]; done) | (rw [if_neg (by omega), if_neg (by omega), if_pos (by omega), ht, ← e8]; done) | (rw [if_neg (by omega), if_neg (by omega), if_neg (by omega)])⟩
          · refine g_iload_n G 2 dX10_count_118 rfl ?_
            refine g_goto G 132 dX10_count_119 (by decide) ?_
            exact g_ret G (some (.int (iI n))) rfl dX10_count_132 (Nat.le_refl _) (Nat.le_refl _) ⟨n, rfl, rfl, by unfold ctI; first | (rw [if_pos (by omega)]; done) | (rw [if_neg (by omega), if_pos (by omega), hn, ← e8]; done) | (rw [if_neg (by omega), if_neg (by omega), if_pos (by omega), ht, ← e8]; done) | (rw [if_neg (by omega), if_neg (by omega), if_neg (by omega)])⟩
        · refine g_aload_n G 0 dX10_count_100 rfl ?_
          refine g_get G 0 0 dX10_count_101 i_X10_count_X10 f_X10_count_7 rfl rfl (by decide) rfl ?_
          refine g_iconst G dX10_count_104 ?_
          refine g_iald G 1 dX10_count_105 rfl (by omega) (by omega) (by decide) ?_
          have b3 := hg 0
          refine g_goto G 132 dX10_count_106 (by decide) ?_
          exact g_ret G (some (.int (iI (g 0)))) rfl dX10_count_132 (Nat.le_refl _) (Nat.le_refl _) ⟨(g 0), rfl, rfl, by unfold ctI; first | (rw [if_pos (by omega)]; done) | (rw [if_neg (by omega), if_pos (by omega), hn, ← e8]; done) | (rw [if_neg (by omega), if_neg (by omega), if_pos (by omega), ht, ← e8]; done) | (rw [if_neg (by omega), if_neg (by omega), if_neg (by omega)])⟩
      · have hgi := hgs i hi.1 (by omega)
        refine g_iconst G dX10_count_18 ?_
        refine g_istore G [(0, .ref q0), (1, .int (iI x)), (2, .int (iI n)), (3, .int (iI t)), (4, .int (iI i)), (5, .int (iI 0))] dX10_count_19 (by decide) rfl rfl ?_
        have L21 : ∀ (fuel : Nat), ∀ (j : Int) (n2 : Int) (t2 : Int), (0 ≤ j ∧ j ≤ g (10 + i)) → (n2 = n + sumI (fun b => if x < 2 ∨ 4 < x ∨ g (20 + 72 * i + 6 * b + 0) = x - 2 then 1 else 0) j.toNat) → (t2 = t + sumI (fun b => if fsI g i b = 1 then 1 else 0) j.toNat) → (g (10 + i) - j : Int).toNat < fuel → P 0 0 [(q0, .inr (10, [.ref q1, .ref q2, .ref q3, .int (iI c0), .ref q4, .ref q5, .int (iI la), .ref q6, .ref q7, .ref q8, .ref q9, .ref q10, .ref q11, .int (iI ch), .int (iI us)])), (q1, ia E 5400 g)] 21 [(0, .ref q0), (1, .int (iI x)), (2, .int (iI n2)), (3, .int (iI t2)), (4, .int (iI i)), (5, .int (iI j))] [] := by
          intro fuel
          induction fuel with
          | zero => intro j n2 t2 hj hn2 ht2 hm; exact absurd hm (Nat.not_lt_zero _)
          | succ fuel ih21 =>
            intro j n2 t2 hj hn2 ht2 hm
            refine g_iload G 5 dX10_count_21 rfl ?_
            refine g_aload_n G 0 dX10_count_23 rfl ?_
            refine g_iload G 4 dX10_count_24 rfl ?_
            refine g_callV G [0, 1] [] 2 [] [.int (iI i)] [.int (iI j)] (c_X10_sizeOf E q0 q1 q2 q3 q4 q5 q6 q7 q8 q9 q10 q11 c0 la ch us g i (by first | assumption | omega)) dX10_count_26 gX10_count_X10_sizeOf ⟨rfl, ⟨rfl, rfl⟩, e_X10_sizeOf, ⟨Nat.le_of_ble_eq_true rfl, Nat.le_of_ble_eq_true rfl⟩, Nat.le_of_ble_eq_true rfl, Nat.le_of_ble_eq_true rfl, Nat.le_of_ble_eq_true rfl⟩ rfl rfl rfl rfl rfl (by decide +kernel) rfl (by decide +kernel) rfl (fun v9 w9 h9 => ?_)
            obtain ⟨o4, rfl, rfl, rfl⟩ := h9
            have b5 := hg (10 + i)
            refine ⟨[(q0, .inr (10, [.ref q1, .ref q2, .ref q3, .int (iI c0), .ref q4, .ref q5, .int (iI la), .ref q6, .ref q7, .ref q8, .ref q9, .ref q10, .ref q11, .int (iI ch), .int (iI us)])), (q1, ia E 5400 g)], ⟨rfl, rfl, rfl, rfl⟩, g_to 0 0 _ _ [.int (iI (g (10 + i))), .int (iI j)] rfl rfl rfl rfl rfl ?_⟩
            refine g_icmp_ge G 90 dX10_count_29 (by decide) (by omega) (by omega) (fun c29 => ?_) (fun c29 => ?_)
            · refine g_iinc G 4 [(0, .ref q0), (1, .int (iI x)), (2, .int (iI n2)), (3, .int (iI t2)), (4, .int (iI (i + 1))), (5, .int (iI j))] dX10_count_90 rfl (by decide) rfl rfl ?_
              refine g_goto G 7 dX10_count_93 (by decide) ?_
              refine g_lv G [0, 1, 2, 3, 4] (lv' := [(0, .ref q0), (1, .int (iI x)), (2, .int (iI n2)), (3, .int (iI t2)), (4, .int (iI (i + 1)))]) rfl ?_
              exact ih7 (i + 1) n2 t2 (by first | assumption | omega) (by rw [sumI_up _ hi.1, hn2, hn, (show j = g (10 + i) by omega)]) (by rw [sumI_up _ hi.1, ht2, ht, (show j = g (10 + i) by omega)]) (by omega)
            · refine g_iload_n G 2 dX10_count_32 rfl ?_
              refine g_iload_n G 1 dX10_count_33 rfl ?_
              refine g_iconst G dX10_count_34 ?_
              refine g_icmp_lt G 58 dX10_count_35 (by decide) (by omega) (by omega) (fun c35 => ?_) (fun c35 => ?_)
              · have hd9 : x < 2 ∨ 4 < x ∨ g (20 + 72 * i + 6 * j + 0) = x - 2 := by omega
                refine g_iconst G dX10_count_58 ?_
                refine g_goto G 63 dX10_count_59 (by decide) ?_
                refine g_iadd G dX10_count_63 ?_
                refine g_istore_n G [(0, .ref q0), (1, .int (iI x)), (2, .int (iI (n2 + 1))), (3, .int (iI t2)), (4, .int (iI i)), (5, .int (iI j))] dX10_count_64 (by decide) rfl rfl ?_
                refine g_iload_n G 3 dX10_count_65 rfl ?_
                refine g_aload_n G 0 dX10_count_66 rfl ?_
                refine g_iload G 4 dX10_count_67 rfl ?_
                refine g_iload G 5 dX10_count_69 rfl ?_
                refine g_callV G [0, 1] [] 2 [] [.int (iI i), .int (iI j)] [.int (iI t2)] (c_X10_isFirst E q0 q1 q2 q3 q4 q5 q6 q7 q8 q9 q10 q11 c0 la ch us g i j (by exact hG) (by first | assumption | omega) (by first | assumption | omega)) dX10_count_71 gX10_count_X10_isFirst ⟨rfl, ⟨rfl, rfl⟩, e_X10_isFirst, ⟨Nat.le_of_ble_eq_true rfl, Nat.le_of_ble_eq_true rfl⟩, Nat.le_of_ble_eq_true rfl, Nat.le_of_ble_eq_true rfl, Nat.le_of_ble_eq_true rfl⟩ rfl rfl rfl rfl rfl (by decide +kernel) rfl (by decide +kernel) rfl (fun v9 w9 h9 => ?_)
                obtain ⟨o6, rfl, rfl, rfl⟩ := h9
                refine ⟨[(q0, .inr (10, [.ref q1, .ref q2, .ref q3, .int (iI c0), .ref q4, .ref q5, .int (iI la), .ref q6, .ref q7, .ref q8, .ref q9, .ref q10, .ref q11, .int (iI ch), .int (iI us)])), (q1, ia E 5400 g)], ⟨rfl, rfl, rfl, rfl⟩, g_to 0 0 _ _ [.int (iI (if fsI g i j = 1 then 1 else 0)), .int (iI t2)] rfl rfl rfl rfl rfl ?_⟩
                refine g_ifb_eq G 81 dX10_count_74 (by decide) (fun c74 => ?_) (fun c74 => ?_)
                · refine g_iconst G dX10_count_81 ?_
                  refine g_iadd G dX10_count_82 ?_
                  refine g_istore_n G [(0, .ref q0), (1, .int (iI x)), (2, .int (iI (n2 + 1))), (3, .int (iI (t2 + 0))), (4, .int (iI i)), (5, .int (iI j))] dX10_count_83 (by decide) rfl rfl ?_
                  refine g_iinc G 5 [(0, .ref q0), (1, .int (iI x)), (2, .int (iI (n2 + 1))), (3, .int (iI (t2 + 0))), (4, .int (iI i)), (5, .int (iI (j + 1)))] dX10_count_84 rfl (by decide) rfl rfl ?_
                  refine g_goto G 21 dX10_count_87 (by decide) ?_
                  exact ih21 (j + 1) (n2 + 1) (t2 + 0) (by first | assumption | omega) (by rw [sumI_up _ hj.1, hn2]; (try dsimp only); first | (rw [if_pos hd9]; omega) | (rw [if_neg hd9]; omega)) (by rw [sumI_up _ hj.1, ht2]; (try dsimp only); first | (rw [if_pos c74]; omega) | (rw [if_neg c74]; omega)) (by omega)
                · refine g_iconst G dX10_count_77 ?_
                  refine g_goto G 82 dX10_count_78 (by decide) ?_
                  refine g_iadd G dX10_count_82 ?_
                  refine g_istore_n G [(0, .ref q0), (1, .int (iI x)), (2, .int (iI (n2 + 1))), (3, .int (iI (t2 + 1))), (4, .int (iI i)), (5, .int (iI j))] dX10_count_83 (by decide) rfl rfl ?_
                  refine g_iinc G 5 [(0, .ref q0), (1, .int (iI x)), (2, .int (iI (n2 + 1))), (3, .int (iI (t2 + 1))), (4, .int (iI i)), (5, .int (iI (j + 1)))] dX10_count_84 rfl (by decide) rfl rfl ?_
                  refine g_goto G 21 dX10_count_87 (by decide) ?_
                  exact ih21 (j + 1) (n2 + 1) (t2 + 1) (by first | assumption | omega) (by rw [sumI_up _ hj.1, hn2]; (try dsimp only); first | (rw [if_pos hd9]; omega) | (rw [if_neg hd9]; omega)) (by rw [sumI_up _ hj.1, ht2]; (try dsimp only); first | (rw [if_pos c74]; omega) | (rw [if_neg c74]; omega)) (by omega)
              · refine g_iload_n G 1 dX10_count_38 rfl ?_
                refine g_iconst G dX10_count_39 ?_
                refine g_icmp_gt G 58 dX10_count_40 (by decide) (by omega) (by omega) (fun c40 => ?_) (fun c40 => ?_)
                · have hd9 : x < 2 ∨ 4 < x ∨ g (20 + 72 * i + 6 * j + 0) = x - 2 := by omega
                  refine g_iconst G dX10_count_58 ?_
                  refine g_goto G 63 dX10_count_59 (by decide) ?_
                  refine g_iadd G dX10_count_63 ?_
                  refine g_istore_n G [(0, .ref q0), (1, .int (iI x)), (2, .int (iI (n2 + 1))), (3, .int (iI t2)), (4, .int (iI i)), (5, .int (iI j))] dX10_count_64 (by decide) rfl rfl ?_
                  refine g_iload_n G 3 dX10_count_65 rfl ?_
                  refine g_aload_n G 0 dX10_count_66 rfl ?_
                  refine g_iload G 4 dX10_count_67 rfl ?_
                  refine g_iload G 5 dX10_count_69 rfl ?_
                  refine g_callV G [0, 1] [] 2 [] [.int (iI i), .int (iI j)] [.int (iI t2)] (c_X10_isFirst E q0 q1 q2 q3 q4 q5 q6 q7 q8 q9 q10 q11 c0 la ch us g i j (by exact hG) (by first | assumption | omega) (by first | assumption | omega)) dX10_count_71 gX10_count_X10_isFirst ⟨rfl, ⟨rfl, rfl⟩, e_X10_isFirst, ⟨Nat.le_of_ble_eq_true rfl, Nat.le_of_ble_eq_true rfl⟩, Nat.le_of_ble_eq_true rfl, Nat.le_of_ble_eq_true rfl, Nat.le_of_ble_eq_true rfl⟩ rfl rfl rfl rfl rfl (by decide +kernel) rfl (by decide +kernel) rfl (fun v9 w9 h9 => ?_)
                  obtain ⟨o7, rfl, rfl, rfl⟩ := h9
                  refine ⟨[(q0, .inr (10, [.ref q1, .ref q2, .ref q3, .int (iI c0), .ref q4, .ref q5, .int (iI la), .ref q6, .ref q7, .ref q8, .ref q9, .ref q10, .ref q11, .int (iI ch), .int (iI us)])), (q1, ia E 5400 g)], ⟨rfl, rfl, rfl, rfl⟩, g_to 0 0 _ _ [.int (iI (if fsI g i j = 1 then 1 else 0)), .int (iI t2)] rfl rfl rfl rfl rfl ?_⟩
                  refine g_ifb_eq G 81 dX10_count_74 (by decide) (fun c74 => ?_) (fun c74 => ?_)
                  · refine g_iconst G dX10_count_81 ?_
                    refine g_iadd G dX10_count_82 ?_
                    refine g_istore_n G [(0, .ref q0), (1, .int (iI x)), (2, .int (iI (n2 + 1))), (3, .int (iI (t2 + 0))), (4, .int (iI i)), (5, .int (iI j))] dX10_count_83 (by decide) rfl rfl ?_
                    refine g_iinc G 5 [(0, .ref q0), (1, .int (iI x)), (2, .int (iI (n2 + 1))), (3, .int (iI (t2 + 0))), (4, .int (iI i)), (5, .int (iI (j + 1)))] dX10_count_84 rfl (by decide) rfl rfl ?_
                    refine g_goto G 21 dX10_count_87 (by decide) ?_
                    exact ih21 (j + 1) (n2 + 1) (t2 + 0) (by first | assumption | omega) (by rw [sumI_up _ hj.1, hn2]; (try dsimp only); first | (rw [if_pos hd9]; omega) | (rw [if_neg hd9]; omega)) (by rw [sumI_up _ hj.1, ht2]; (try dsimp only); first | (rw [if_pos c74]; omega) | (rw [if_neg c74]; omega)) (by omega)
                  · refine g_iconst G dX10_count_77 ?_
                    refine g_goto G 82 dX10_count_78 (by decide) ?_
                    refine g_iadd G dX10_count_82 ?_
                    refine g_istore_n G [(0, .ref q0), (1, .int (iI x)), (2, .int (iI (n2 + 1))), (3, .int (iI (t2 + 1))), (4, .int (iI i)), (5, .int (iI j))] dX10_count_83 (by decide) rfl rfl ?_
                    refine g_iinc G 5 [(0, .ref q0), (1, .int (iI x)), (2, .int (iI (n2 + 1))), (3, .int (iI (t2 + 1))), (4, .int (iI i)), (5, .int (iI (j + 1)))] dX10_count_84 rfl (by decide) rfl rfl ?_
                    refine g_goto G 21 dX10_count_87 (by decide) ?_
                    exact ih21 (j + 1) (n2 + 1) (t2 + 1) (by first | assumption | omega) (by rw [sumI_up _ hj.1, hn2]; (try dsimp only); first | (rw [if_pos hd9]; omega) | (rw [if_neg hd9]; omega)) (by rw [sumI_up _ hj.1, ht2]; (try dsimp only); first | (rw [if_pos c74]; omega) | (rw [if_neg c74]; omega)) (by omega)
                · refine g_aload_n G 0 dX10_count_43 rfl ?_
                  refine g_iload G 4 dX10_count_44 rfl ?_
                  refine g_iload G 5 dX10_count_46 rfl ?_
                  refine g_iconst G dX10_count_48 ?_
                  refine g_callV G [0, 1] [] 2 [] [.int (iI i), .int (iI j), .int (iI 0)] [.int (iI n2)] (c_X10_of E q0 q1 q2 q3 q4 q5 q6 q7 q8 q9 q10 q11 c0 la ch us g i j 0 (by first | assumption | omega) (by first | assumption | omega) (by first | assumption | omega)) dX10_count_49 gX10_count_X10_of ⟨rfl, ⟨rfl, rfl⟩, e_X10_of, ⟨Nat.le_of_ble_eq_true rfl, Nat.le_of_ble_eq_true rfl⟩, Nat.le_of_ble_eq_true rfl, Nat.le_of_ble_eq_true rfl, Nat.le_of_ble_eq_true rfl⟩ rfl rfl rfl rfl rfl (by decide +kernel) rfl (by decide +kernel) rfl (fun v9 w9 h9 => ?_)
                  obtain ⟨o8, rfl, rfl, rfl⟩ := h9
                  have b9 := hg (20 + 72 * i + 6 * j + 0)
                  refine ⟨[(q0, .inr (10, [.ref q1, .ref q2, .ref q3, .int (iI c0), .ref q4, .ref q5, .int (iI la), .ref q6, .ref q7, .ref q8, .ref q9, .ref q10, .ref q11, .int (iI ch), .int (iI us)])), (q1, ia E 5400 g)], ⟨rfl, rfl, rfl, rfl⟩, g_to 0 0 _ _ [.int (iI (g (20 + 72 * i + 6 * j + 0))), .int (iI n2)] rfl rfl rfl rfl rfl ?_⟩
                  refine g_iload_n G 1 dX10_count_52 rfl ?_
                  refine g_iconst G dX10_count_53 ?_
                  refine g_isub G dX10_count_54 ?_
                  refine g_icmp_ne G 62 dX10_count_55 (by decide) (by omega) (by omega) (fun c55 => ?_) (fun c55 => ?_)
                  · have hd9 : ¬ (x < 2 ∨ 4 < x ∨ g (20 + 72 * i + 6 * j + 0) = x - 2) := by omega
                    refine g_iconst G dX10_count_62 ?_
                    refine g_iadd G dX10_count_63 ?_
                    refine g_istore_n G [(0, .ref q0), (1, .int (iI x)), (2, .int (iI (n2 + 0))), (3, .int (iI t2)), (4, .int (iI i)), (5, .int (iI j))] dX10_count_64 (by decide) rfl rfl ?_
                    refine g_iload_n G 3 dX10_count_65 rfl ?_
                    refine g_aload_n G 0 dX10_count_66 rfl ?_
                    refine g_iload G 4 dX10_count_67 rfl ?_
                    refine g_iload G 5 dX10_count_69 rfl ?_
                    refine g_callV G [0, 1] [] 2 [] [.int (iI i), .int (iI j)] [.int (iI t2)] (c_X10_isFirst E q0 q1 q2 q3 q4 q5 q6 q7 q8 q9 q10 q11 c0 la ch us g i j (by exact hG) (by first | assumption | omega) (by first | assumption | omega)) dX10_count_71 gX10_count_X10_isFirst ⟨rfl, ⟨rfl, rfl⟩, e_X10_isFirst, ⟨Nat.le_of_ble_eq_true rfl, Nat.le_of_ble_eq_true rfl⟩, Nat.le_of_ble_eq_true rfl, Nat.le_of_ble_eq_true rfl, Nat.le_of_ble_eq_true rfl⟩ rfl rfl rfl rfl rfl (by decide +kernel) rfl (by decide +kernel) rfl (fun v9 w9 h9 => ?_)
                    obtain ⟨o10, rfl, rfl, rfl⟩ := h9
                    refine ⟨[(q0, .inr (10, [.ref q1, .ref q2, .ref q3, .int (iI c0), .ref q4, .ref q5, .int (iI la), .ref q6, .ref q7, .ref q8, .ref q9, .ref q10, .ref q11, .int (iI ch), .int (iI us)])), (q1, ia E 5400 g)], ⟨rfl, rfl, rfl, rfl⟩, g_to 0 0 _ _ [.int (iI (if fsI g i j = 1 then 1 else 0)), .int (iI t2)] rfl rfl rfl rfl rfl ?_⟩
                    refine g_ifb_eq G 81 dX10_count_74 (by decide) (fun c74 => ?_) (fun c74 => ?_)
                    · refine g_iconst G dX10_count_81 ?_
                      refine g_iadd G dX10_count_82 ?_
                      refine g_istore_n G [(0, .ref q0), (1, .int (iI x)), (2, .int (iI (n2 + 0))), (3, .int (iI (t2 + 0))), (4, .int (iI i)), (5, .int (iI j))] dX10_count_83 (by decide) rfl rfl ?_
                      refine g_iinc G 5 [(0, .ref q0), (1, .int (iI x)), (2, .int (iI (n2 + 0))), (3, .int (iI (t2 + 0))), (4, .int (iI i)), (5, .int (iI (j + 1)))] dX10_count_84 rfl (by decide) rfl rfl ?_
                      refine g_goto G 21 dX10_count_87 (by decide) ?_
                      exact ih21 (j + 1) (n2 + 0) (t2 + 0) (by first | assumption | omega) (by rw [sumI_up _ hj.1, hn2]; (try dsimp only); first | (rw [if_pos hd9]; omega) | (rw [if_neg hd9]; omega)) (by rw [sumI_up _ hj.1, ht2]; (try dsimp only); first | (rw [if_pos c74]; omega) | (rw [if_neg c74]; omega)) (by omega)
                    · refine g_iconst G dX10_count_77 ?_
                      refine g_goto G 82 dX10_count_78 (by decide) ?_
                      refine g_iadd G dX10_count_82 ?_
                      refine g_istore_n G [(0, .ref q0), (1, .int (iI x)), (2, .int (iI (n2 + 0))), (3, .int (iI (t2 + 1))), (4, .int (iI i)), (5, .int (iI j))] dX10_count_83 (by decide) rfl rfl ?_
                      refine g_iinc G 5 [(0, .ref q0), (1, .int (iI x)), (2, .int (iI (n2 + 0))), (3, .int (iI (t2 + 1))), (4, .int (iI i)), (5, .int (iI (j + 1)))] dX10_count_84 rfl (by decide) rfl rfl ?_
                      refine g_goto G 21 dX10_count_87 (by decide) ?_
                      exact ih21 (j + 1) (n2 + 0) (t2 + 1) (by first | assumption | omega) (by rw [sumI_up _ hj.1, hn2]; (try dsimp only); first | (rw [if_pos hd9]; omega) | (rw [if_neg hd9]; omega)) (by rw [sumI_up _ hj.1, ht2]; (try dsimp only); first | (rw [if_pos c74]; omega) | (rw [if_neg c74]; omega)) (by omega)
                  · have hd9 : x < 2 ∨ 4 < x ∨ g (20 + 72 * i + 6 * j + 0) = x - 2 := by omega
                    refine g_iconst G dX10_count_58 ?_
                    refine g_goto G 63 dX10_count_59 (by decide) ?_
                    refine g_iadd G dX10_count_63 ?_
                    refine g_istore_n G [(0, .ref q0), (1, .int (iI x)), (2, .int (iI (n2 + 1))), (3, .int (iI t2)), (4, .int (iI i)), (5, .int (iI j))] dX10_count_64 (by decide) rfl rfl ?_
                    refine g_iload_n G 3 dX10_count_65 rfl ?_
                    refine g_aload_n G 0 dX10_count_66 rfl ?_
                    refine g_iload G 4 dX10_count_67 rfl ?_
                    refine g_iload G 5 dX10_count_69 rfl ?_
                    refine g_callV G [0, 1] [] 2 [] [.int (iI i), .int (iI j)] [.int (iI t2)] (c_X10_isFirst E q0 q1 q2 q3 q4 q5 q6 q7 q8 q9 q10 q11 c0 la ch us g i j (by exact hG) (by first | assumption | omega) (by first | assumption | omega)) dX10_count_71 gX10_count_X10_isFirst ⟨rfl, ⟨rfl, rfl⟩, e_X10_isFirst, ⟨Nat.le_of_ble_eq_true rfl, Nat.le_of_ble_eq_true rfl⟩, Nat.le_of_ble_eq_true rfl, Nat.le_of_ble_eq_true rfl, Nat.le_of_ble_eq_true rfl⟩ rfl rfl rfl rfl rfl (by decide +kernel) rfl (by decide +kernel) rfl (fun v9 w9 h9 => ?_)
                    obtain ⟨o11, rfl, rfl, rfl⟩ := h9
                    refine ⟨[(q0, .inr (10, [.ref q1, .ref q2, .ref q3, .int (iI c0), .ref q4, .ref q5, .int (iI la), .ref q6, .ref q7, .ref q8, .ref q9, .ref q10, .ref q11, .int (iI ch), .int (iI us)])), (q1, ia E 5400 g)], ⟨rfl, rfl, rfl, rfl⟩, g_to 0 0 _ _ [.int (iI (if fsI g i j = 1 then 1 else 0)), .int (iI t2)] rfl rfl rfl rfl rfl ?_⟩
                    refine g_ifb_eq G 81 dX10_count_74 (by decide) (fun c74 => ?_) (fun c74 => ?_)
                    · refine g_iconst G dX10_count_81 ?_
                      refine g_iadd G dX10_count_82 ?_
                      refine g_istore_n G [(0, .ref q0), (1, .int (iI x)), (2, .int (iI (n2 + 1))), (3, .int (iI (t2 + 0))), (4, .int (iI i)), (5, .int (iI j))] dX10_count_83 (by decide) rfl rfl ?_
                      refine g_iinc G 5 [(0, .ref q0), (1, .int (iI x)), (2, .int (iI (n2 + 1))), (3, .int (iI (t2 + 0))), (4, .int (iI i)), (5, .int (iI (j + 1)))] dX10_count_84 rfl (by decide) rfl rfl ?_
                      refine g_goto G 21 dX10_count_87 (by decide) ?_
                      exact ih21 (j + 1) (n2 + 1) (t2 + 0) (by first | assumption | omega) (by rw [sumI_up _ hj.1, hn2]; (try dsimp only); first | (rw [if_pos hd9]; omega) | (rw [if_neg hd9]; omega)) (by rw [sumI_up _ hj.1, ht2]; (try dsimp only); first | (rw [if_pos c74]; omega) | (rw [if_neg c74]; omega)) (by omega)
                    · refine g_iconst G dX10_count_77 ?_
                      refine g_goto G 82 dX10_count_78 (by decide) ?_
                      refine g_iadd G dX10_count_82 ?_
                      refine g_istore_n G [(0, .ref q0), (1, .int (iI x)), (2, .int (iI (n2 + 1))), (3, .int (iI (t2 + 1))), (4, .int (iI i)), (5, .int (iI j))] dX10_count_83 (by decide) rfl rfl ?_
                      refine g_iinc G 5 [(0, .ref q0), (1, .int (iI x)), (2, .int (iI (n2 + 1))), (3, .int (iI (t2 + 1))), (4, .int (iI i)), (5, .int (iI (j + 1)))] dX10_count_84 rfl (by decide) rfl rfl ?_
                      refine g_goto G 21 dX10_count_87 (by decide) ?_
                      exact ih21 (j + 1) (n2 + 1) (t2 + 1) (by first | assumption | omega) (by rw [sumI_up _ hj.1, hn2]; (try dsimp only); first | (rw [if_pos hd9]; omega) | (rw [if_neg hd9]; omega)) (by rw [sumI_up _ hj.1, ht2]; (try dsimp only); first | (rw [if_pos c74]; omega) | (rw [if_neg c74]; omega)) (by omega)
        exact L21 ((g (10 + i) - 0 : Int).toNat + 1) 0 n t (by first | assumption | omega) (by show _ = _ + 0; omega) (by show _ = _ + 0; omega) (by omega)
  exact L7 ((g 0 - 0 : Int).toNat + 1) 0 0 0 (by first | assumption | omega) (by rfl) (by rfl) (by omega)
theorem f_X10_lays_96 : Cond.fieldLink RX10 96 (TX10 6).1 (TX10 6).2.1 (TX10 6).2.2.1 ∈ wsX10_lays := by decide +kernel
theorem i_X10_lays_X10 : ∀ w ∈ wsX100, w ∈ wsX10_lays := by decide +kernel
theorem f_X10_lays_7 : Cond.fieldLink RX10 7 (TX10 0).1 (TX10 0).2.1 (TX10 0).2.2.1 ∈ wsX10_lays := by decide +kernel
theorem f_X10_lays_20 : Cond.fieldLink RX10 20 (TX10 4).1 (TX10 4).2.1 (TX10 4).2.2.1 ∈ wsX10_lays := by decide +kernel
theorem f_X10_lays_23 : Cond.fieldLink RX10 23 (TX10 5).1 (TX10 5).2.1 (TX10 5).2.2.1 ∈ wsX10_lays := by decide +kernel
set_option maxRecDepth 100000 in
set_option maxHeartbeats 4000000 in
theorem c_X10_lays (E : qE) (q0 : Nat) (q1 : Nat) (q2 : Nat) (q3 : Nat) (q4 : Nat) (q5 : Nat) (q6 : Nat) (q7 : Nat) (q8 : Nat) (q9 : Nat) (q10 : Nat) (q11 : Nat) (c0 : Int) (la : Int) (ch : Int) (us : Int) (g : Int → Int) (lr : Int → Int) (lp : Int → Int) (b : Int) (hG : AllOk g) (hb : -2147483648 ≤ b ∧ b < 2147483648) : Cn E yX10_lays wsX10_lays { frames := 1, cells := 0, slots := 0, locals := 21 } [.ref q0, .int (iI b)] [(q0, .inr (10, [.ref q1, .ref q2, .ref q3, .int (iI c0), .ref q4, .ref q5, .int (iI la), .ref q6, .ref q7, .ref q8, .ref q9, .ref q10, .ref q11, .int (iI ch), .int (iI us)])), (q1, ia E 5400 g), (q4, ia E 96 lr), (q5, ia E 96 lp)] (fun v9 w9 => ∃ (A1 : Int → Int) (B1 : Int → Int) (n1 : Int), v9 = none ∧ w9 = [(q0, .inr (10, [.ref q1, .ref q2, .ref q3, .int (iI c0), .ref q4, .ref q5, .int (iI n1), .ref q6, .ref q7, .ref q8, .ref q9, .ref q10, .ref q11, .int (iI ch), .int (iI us)])), (q1, ia E 5400 g), (q4, ia E 96 A1), (q5, ia E 96 B1)] ∧ (lyI g b lr lp = (A1, B1, n1)) ∧ (0 ≤ n1 ∧ n1 ≤ 96)) 0 0 := by
  refine Cn.ofP (own := RX10) (cc := cX10_lays) (maxL := 4) (ret := none) false [(0, .ref q0), (1, .int (iI b))] (by decide +kernel) rfl rfl (Nat.le_of_ble_eq_true rfl) rfl (fun h => nomatch h) (fun v w h => by obtain ⟨A1, B1, n1, rfl, h9⟩ := h; exact (rfl : (none : Option FieldType) = none)) ?_
  intro P G
  obtain ⟨hg, hg0, hgs⟩ := id hG
  refine g_aload_n G 0 dX10_lays_0 rfl ?_
  refine g_iconst G dX10_lays_1 ?_
  refine g_put G 0 6 [(q0, .inr (10, [.ref q1, .ref q2, .ref q3, .int (iI c0), .ref q4, .ref q5, .int (iI 0), .ref q6, .ref q7, .ref q8, .ref q9, .ref q10, .ref q11, .int (iI ch), .int (iI us)])), (q1, ia E 5400 g), (q4, ia E 96 lr), (q5, ia E 96 lp)] dX10_lays_2 i_X10_lays_X10 f_X10_lays_96 tyX10_ok nmX10 rfl rfl (by decide) rfl rfl rfl rfl (Nat.le_of_ble_eq_true rfl) rfl ?_
  refine g_iconst G dX10_lays_5 ?_
  refine g_istore_n G [(0, .ref q0), (1, .int (iI b)), (2, .int (iI 0))] dX10_lays_6 (by decide) rfl rfl ?_
  have L7 : ∀ (fuel : Nat), ∀ (i : Int) (A1 : Int → Int) (B1 : Int → Int) (n1 : Int), (0 ≤ i ∧ i ≤ g 0) → (0 ≤ n1 ∧ n1 ≤ 12 * i) → (nR lyS (fun r => g (10 + r)) b i.toNat (lr, lp, 0) = (A1, B1, n1)) → (g 0 - i : Int).toNat < fuel → P 0 0 [(q0, .inr (10, [.ref q1, .ref q2, .ref q3, .int (iI c0), .ref q4, .ref q5, .int (iI n1), .ref q6, .ref q7, .ref q8, .ref q9, .ref q10, .ref q11, .int (iI ch), .int (iI us)])), (q1, ia E 5400 g), (q4, ia E 96 A1), (q5, ia E 96 B1)] 7 [(0, .ref q0), (1, .int (iI b)), (2, .int (iI i))] [] := by
    intro fuel
    induction fuel with
    | zero => intro i A1 B1 n1 hi hn ho hm; exact absurd hm (Nat.not_lt_zero _)
    | succ fuel ih7 =>
      intro i A1 B1 n1 hi hn ho hm
      refine g_iload_n G 2 dX10_lays_7 rfl ?_
      refine g_aload_n G 0 dX10_lays_8 rfl ?_
      refine g_get G 0 0 dX10_lays_9 i_X10_lays_X10 f_X10_lays_7 rfl rfl (by decide) rfl ?_
      refine g_iconst G dX10_lays_12 ?_
      refine g_iald G 1 dX10_lays_13 rfl (by omega) (by omega) (by decide) ?_
      have b1 := hg 0
      refine g_icmp_ge G 75 dX10_lays_14 (by decide) (by omega) (by omega) (fun c14 => ?_) (fun c14 => ?_)
      · exact g_ret G none rfl dX10_lays_75 (Nat.le_refl _) (Nat.le_refl _) ⟨A1, B1, n1, rfl, rfl, by unfold lyI; rw [(show g 0 = i by omega)]; exact ho, by omega⟩
      · have hgi := hgs i hi.1 (by omega)
        refine g_iconst G dX10_lays_17 ?_
        refine g_istore_n G [(0, .ref q0), (1, .int (iI b)), (2, .int (iI i)), (3, .int (iI 0))] dX10_lays_18 (by decide) rfl rfl ?_
        have L19 : ∀ (fuel : Nat), ∀ (j : Int) (A2 : Int → Int) (B2 : Int → Int) (n2 : Int), (0 ≤ j ∧ j ≤ g (10 + i)) → (i = b → j = 0) → (0 ≤ n2 ∧ n2 ≤ 12 * i + j) → (nP lyS i j.toNat (A1, B1, n1) = (A2, B2, n2)) → (g (10 + i) - j : Int).toNat < fuel → P 0 0 [(q0, .inr (10, [.ref q1, .ref q2, .ref q3, .int (iI c0), .ref q4, .ref q5, .int (iI n2), .ref q6, .ref q7, .ref q8, .ref q9, .ref q10, .ref q11, .int (iI ch), .int (iI us)])), (q1, ia E 5400 g), (q4, ia E 96 A2), (q5, ia E 96 B2)] 19 [(0, .ref q0), (1, .int (iI b)), (2, .int (iI i)), (3, .int (iI j))] [] := by
          intro fuel
          induction fuel with
          | zero => intro j A2 B2 n2 hj hjb hn2 ho2 hm; exact absurd hm (Nat.not_lt_zero _)
          | succ fuel ih19 =>
            intro j A2 B2 n2 hj hjb hn2 ho2 hm
            refine g_iload_n G 3 dX10_lays_19 rfl ?_
            refine g_aload_n G 0 dX10_lays_20 rfl ?_
            refine g_iload_n G 2 dX10_lays_21 rfl ?_
            refine g_callV G [0, 1] [2, 3] 4 [(q4, ia E 96 A2), (q5, ia E 96 B2)] [.int (iI i)] [.int (iI j)] (c_X10_sizeOf E q0 q1 q2 q3 q4 q5 q6 q7 q8 q9 q10 q11 c0 n2 ch us g i (by first | assumption | omega)) dX10_lays_22 gX10_lays_X10_sizeOf ⟨rfl, ⟨rfl, rfl⟩, e_X10_sizeOf, ⟨Nat.le_of_ble_eq_true rfl, Nat.le_of_ble_eq_true rfl⟩, Nat.le_of_ble_eq_true rfl, Nat.le_of_ble_eq_true rfl, Nat.le_of_ble_eq_true rfl⟩ rfl rfl rfl rfl rfl (by decide +kernel) rfl (by decide +kernel) rfl (fun v9 w9 h9 => ?_)
            obtain ⟨o2, rfl, rfl, rfl⟩ := h9
            have b3 := hg (10 + i)
            refine ⟨[(q0, .inr (10, [.ref q1, .ref q2, .ref q3, .int (iI c0), .ref q4, .ref q5, .int (iI n2), .ref q6, .ref q7, .ref q8, .ref q9, .ref q10, .ref q11, .int (iI ch), .int (iI us)])), (q1, ia E 5400 g), (q4, ia E 96 A2), (q5, ia E 96 B2)], ⟨rfl, rfl, rfl, rfl⟩, g_to 0 0 _ _ [.int (iI (g (10 + i))), .int (iI j)] rfl rfl rfl rfl rfl ?_⟩
            refine g_icmp_ge G 69 dX10_lays_25 (by decide) (by omega) (by omega) (fun c25 => ?_) (fun c25 => ?_)
            · refine g_iinc G 2 [(0, .ref q0), (1, .int (iI b)), (2, .int (iI (i + 1))), (3, .int (iI j))] dX10_lays_69 rfl (by decide) rfl rfl ?_
              refine g_goto G 7 dX10_lays_72 (by decide) ?_
              refine g_lv G [0, 1, 2] (lv' := [(0, .ref q0), (1, .int (iI b)), (2, .int (iI (i + 1)))]) rfl ?_
              exact ih7 (i + 1) A2 B2 n2 (by first | assumption | omega) (by first | assumption | omega) (by rw [nR_up _ _ _ hi.1]; by_cases q : i = b; (rw [if_pos q, ho]; have q2 := hjb q; subst q2; exact ho2); (rw [if_neg q, ho]; first | exact absurd c30 q | ((try dsimp only); rw [(show g (10 + i) = j by omega)]; exact ho2))) (by omega)
            · refine g_iload_n G 2 dX10_lays_28 rfl ?_
              refine g_iload_n G 1 dX10_lays_29 rfl ?_
              refine g_icmp_eq G 69 dX10_lays_30 (by decide) (by omega) (by omega) (fun c30 => ?_) (fun c30 => ?_)
              · refine g_iinc G 2 [(0, .ref q0), (1, .int (iI b)), (2, .int (iI (i + 1))), (3, .int (iI j))] dX10_lays_69 rfl (by decide) rfl rfl ?_
                refine g_goto G 7 dX10_lays_72 (by decide) ?_
                refine g_lv G [0, 1, 2] (lv' := [(0, .ref q0), (1, .int (iI b)), (2, .int (iI (i + 1)))]) rfl ?_
                exact ih7 (i + 1) A2 B2 n2 (by first | assumption | omega) (by first | assumption | omega) (by rw [nR_up _ _ _ hi.1]; by_cases q : i = b; (rw [if_pos q, ho]; have q2 := hjb q; subst q2; exact ho2); (rw [if_neg q, ho]; first | exact absurd c30 q | ((try dsimp only); rw [(show g (10 + i) = j by omega)]; exact ho2))) (by omega)
              · refine g_aload_n G 0 dX10_lays_33 rfl ?_
                refine g_get G 0 4 dX10_lays_34 i_X10_lays_X10 f_X10_lays_20 rfl rfl (by decide) rfl ?_
                refine g_aload_n G 0 dX10_lays_37 rfl ?_
                refine g_get G 0 6 dX10_lays_38 i_X10_lays_X10 f_X10_lays_96 rfl rfl (by decide) rfl ?_
                refine g_iload_n G 2 dX10_lays_41 rfl ?_
                refine g_iast G 2 [(q0, .inr (10, [.ref q1, .ref q2, .ref q3, .int (iI c0), .ref q4, .ref q5, .int (iI n2), .ref q6, .ref q7, .ref q8, .ref q9, .ref q10, .ref q11, .int (iI ch), .int (iI us)])), (q1, ia E 5400 g), (q4, ia E 96 (upI A2 n2 i)), (q5, ia E 96 B2)] dX10_lays_42 rfl (by omega) (by omega) (by decide) rfl ?_
                refine g_aload_n G 0 dX10_lays_43 rfl ?_
                refine g_get G 0 5 dX10_lays_44 i_X10_lays_X10 f_X10_lays_23 rfl rfl (by decide) rfl ?_
                refine g_aload_n G 0 dX10_lays_47 rfl ?_
                refine g_get G 0 6 dX10_lays_48 i_X10_lays_X10 f_X10_lays_96 rfl rfl (by decide) rfl ?_
                refine g_iload_n G 3 dX10_lays_51 rfl ?_
                refine g_iast G 3 [(q0, .inr (10, [.ref q1, .ref q2, .ref q3, .int (iI c0), .ref q4, .ref q5, .int (iI n2), .ref q6, .ref q7, .ref q8, .ref q9, .ref q10, .ref q11, .int (iI ch), .int (iI us)])), (q1, ia E 5400 g), (q4, ia E 96 (upI A2 n2 i)), (q5, ia E 96 (upI B2 n2 j))] dX10_lays_52 rfl (by omega) (by omega) (by decide) rfl ?_
                refine g_aload_n G 0 dX10_lays_53 rfl ?_
                refine g_dup G dX10_lays_54 rfl ?_
                refine g_get G 0 6 dX10_lays_55 i_X10_lays_X10 f_X10_lays_96 rfl rfl (by decide) rfl ?_
                refine g_iconst G dX10_lays_58 ?_
                refine g_iadd G dX10_lays_59 ?_
                refine g_put G 0 6 [(q0, .inr (10, [.ref q1, .ref q2, .ref q3, .int (iI c0), .ref q4, .ref q5, .int (iI (n2 + 1)), .ref q6, .ref q7, .ref q8, .ref q9, .ref q10, .ref q11, .int (iI ch), .int (iI us)])), (q1, ia E 5400 g), (q4, ia E 96 (upI A2 n2 i)), (q5, ia E 96 (upI B2 n2 j))] dX10_lays_60 i_X10_lays_X10 f_X10_lays_96 tyX10_ok nmX10 rfl rfl (by decide) rfl rfl rfl rfl (Nat.le_of_ble_eq_true rfl) rfl ?_
                refine g_iinc G 3 [(0, .ref q0), (1, .int (iI b)), (2, .int (iI i)), (3, .int (iI (j + 1)))] dX10_lays_63 rfl (by decide) rfl rfl ?_
                refine g_goto G 19 dX10_lays_66 (by decide) ?_
                exact ih19 (j + 1) (upI A2 n2 i) (upI B2 n2 j) (n2 + 1) (by first | assumption | omega) (by exact fun q => absurd q c30) (by first | assumption | omega) (by rw [nP_up _ _ hj.1, ho2]; rfl) (by omega)
        exact L19 ((g (10 + i) - 0 : Int).toNat + 1) 0 A1 B1 n1 (by first | assumption | omega) (by exact fun _ => rfl) (by first | assumption | omega) (by rfl) (by omega)
  exact L7 ((g 0 - 0 : Int).toNat + 1) 0 lr lp 0 (by first | assumption | omega) (by first | assumption | omega) (by rfl) (by omega)
