def foS (g : Int → Int) (v x y f : Int) (r p s : Int) : Int := if s = -1 ∧ g (20 + 72 * r + 6 * p + 0) = v ∧ g (20 + 72 * r + 6 * p + 1) = x ∧ g (20 + 72 * r + 6 * p + 2) = y then g (20 + 72 * r + 6 * p + (4 + f)) else s
def foI (g : Int → Int) (v x y f b : Int) : Int := nR (foS g v x y f) (fun r => g (10 + r)) b (g 0).toNat (-1)
def tbS2 (g : Int → Int) (v f i j : Int) (r p t : Int) : Int := if t = 1 ∧ g (20 + 72 * r + 6 * p + 0) = v ∧ g (20 + 72 * r + 6 * p + 1) = g (20 + 72 * i + 6 * j + 1) ∧ g (20 + 72 * r + 6 * p + 2) = g (20 + 72 * i + 6 * j + 2) ∧ g (20 + 72 * r + 6 * p + (4 + f)) ≠ g (20 + 72 * i + 6 * j + (4 + f)) then 0 else t
def tbS (g : Int → Int) (v f b : Int) (r p t : Int) : Int := if t = 1 ∧ g (20 + 72 * r + 6 * p + 0) = v ∧ nR (tbS2 g v f r p) (fun r => g (10 + r)) b (g 0).toNat 1 = 0 then 0 else t
def tbI (g : Int → Int) (v f b : Int) : Int := nR (tbS g v f b) (fun r => g (10 + r)) b (g 0).toNat 1
/-- the rule found by the kinds 4, 3 .. : of n kinds -/
def fkI (g : Int → Int) (v f b : Int) : Nat → Int × Int
  | 0 => (if tbI g v f b = 1 then 5 else 6, -1000)
  | n + 1 => if hsT g (4 - n) v f b = 1000 ∨ hsT g (4 - n) v f b = 1001 then fkI g v f b n else (4 - n, hsT g (4 - n) v f b)
theorem fkI_up (g : Int → Int) (v f b : Int) {i : Int} (h : 0 ≤ i ∧ i ≤ 4) : fkI g v f b ((4 - i).toNat + 1) = if hsT g i v f b = 1000 ∨ hsT g i v f b = 1001 then fkI g v f b (4 - i).toNat else (i, hsT g i v f b) := by
  show (if hsT g (4 - ((4 - i).toNat : Nat)) v f b = _ ∨ hsT g (4 - ((4 - i).toNat : Nat)) v f b = _ then _ else ((4 : Int) - ((4 - i).toNat : Nat), hsT g (4 - ((4 - i).toNat : Nat)) v f b)) = _
  rw [(show (4 : Int) - ((4 - i).toNat : Nat) = i by omega)]
def rkI (g : Int → Int) (v f b : Int) : Int × Int := if thI g v b = 1 then fkI g v f b 5 else (-1, -1000)
theorem f_X10_fieldOf_7 : Cond.fieldLink RX10 7 (TX10 0).1 (TX10 0).2.1 (TX10 0).2.2.1 ∈ wsX10_fieldOf := by decide +kernel
theorem i_X10_fieldOf_X10 : ∀ w ∈ wsX100, w ∈ wsX10_fieldOf := by decide +kernel
set_option maxRecDepth 100000 in
set_option maxHeartbeats 4000000 in
theorem c_X10_fieldOf (E : qE) (q0 : Nat) (q1 : Nat) (q2 : Nat) (q3 : Nat) (q4 : Nat) (q5 : Nat) (q6 : Nat) (q7 : Nat) (q8 : Nat) (q9 : Nat) (q10 : Nat) (q11 : Nat) (c0 : Int) (la : Int) (ch : Int) (us : Int) (g : Int → Int) (v : Int) (x : Int) (y : Int) (f : Int) (b : Int) (hG : AllOk g) (hX : ∀ i, 20 ≤ i → i < 596 → 0 ≤ g i ∧ g i < 100) (hv : -2147483648 ≤ v ∧ v < 2147483648) (hx : -2147483648 ≤ x ∧ x < 2147483648) (hy : -2147483648 ≤ y ∧ y < 2147483648) (hf : 0 ≤ f ∧ f < 2) (hb : -2147483648 ≤ b ∧ b < 2147483648) : Cn E yX10_fieldOf wsX10_fieldOf { frames := 1, cells := 0, slots := 0, locals := 23 } [.ref q0, .int (iI v), .int (iI x), .int (iI y), .int (iI f), .int (iI b)] [(q0, .inr (10, [.ref q1, .ref q2, .ref q3, .int (iI c0), .ref q4, .ref q5, .int (iI la), .ref q6, .ref q7, .ref q8, .ref q9, .ref q10, .ref q11, .int (iI ch), .int (iI us)])), (q1, ia E 5400 g)] (fun v9 w9 => ∃ (r : Int), v9 = some (.int (iI r)) ∧ w9 = [(q0, .inr (10, [.ref q1, .ref q2, .ref q3, .int (iI c0), .ref q4, .ref q5, .int (iI la), .ref q6, .ref q7, .ref q8, .ref q9, .ref q10, .ref q11, .int (iI ch), .int (iI us)])), (q1, ia E 5400 g)] ∧ r = (foI g v x y f b)) 0 0 := by
  refine Cn.ofP (own := RX10) (cc := cX10_fieldOf) (maxL := 8) (ret := (some .int)) false [(0, .ref q0), (1, .int (iI v)), (2, .int (iI x)), (3, .int (iI y)), (4, .int (iI f)), (5, .int (iI b))] (by decide +kernel) rfl rfl (Nat.le_of_ble_eq_true rfl) rfl (fun h => nomatch h) (fun v w h => by obtain ⟨r, rfl, h9⟩ := h; exact ⟨_, rfl, rfl⟩) ?_
  intro P G
  obtain ⟨hg, hg0, hgs⟩ := id hG
  refine g_iconst G dX10_fieldOf_0 ?_
  refine g_istore G [(0, .ref q0), (1, .int (iI v)), (2, .int (iI x)), (3, .int (iI y)), (4, .int (iI f)), (5, .int (iI b)), (6, .int (iI 0))] dX10_fieldOf_1 (by decide) rfl rfl ?_
  have L3 : ∀ (fuel : Nat), ∀ (i : Int), (0 ≤ i ∧ i ≤ g 0) → (nR (foS g v x y f) (fun r => g (10 + r)) b i.toNat (-1) = -1) → (g 0 - i : Int).toNat < fuel → P 0 0 [(q0, .inr (10, [.ref q1, .ref q2, .ref q3, .int (iI c0), .ref q4, .ref q5, .int (iI la), .ref q6, .ref q7, .ref q8, .ref q9, .ref q10, .ref q11, .int (iI ch), .int (iI us)])), (q1, ia E 5400 g)] 3 [(0, .ref q0), (1, .int (iI v)), (2, .int (iI x)), (3, .int (iI y)), (4, .int (iI f)), (5, .int (iI b)), (6, .int (iI i))] [] := by
    intro fuel
    induction fuel with
    | zero => intro i hi ho hm; exact absurd hm (Nat.not_lt_zero _)
    | succ fuel ih3 =>
      intro i hi ho hm
      refine g_iload G 6 dX10_fieldOf_3 rfl ?_
      refine g_aload_n G 0 dX10_fieldOf_5 rfl ?_
      refine g_get G 0 0 dX10_fieldOf_6 i_X10_fieldOf_X10 f_X10_fieldOf_7 rfl rfl (by decide) rfl ?_
      refine g_iconst G dX10_fieldOf_9 ?_
      refine g_iald G 1 dX10_fieldOf_10 rfl (by omega) (by omega) (by decide) ?_
      have b1 := hg 0
      refine g_icmp_ge G 99 dX10_fieldOf_11 (by decide) (by omega) (by omega) (fun c11 => ?_) (fun c11 => ?_)
      · refine g_iconst G dX10_fieldOf_99 ?_
        exact g_ret G (some (.int (iI (-1)))) rfl dX10_fieldOf_100 (Nat.le_refl _) (Nat.le_refl _) ⟨(-1), rfl, rfl, by unfold foI; rw [(show g 0 = i by omega), ho]⟩
      · have hgi := hgs i hi.1 (by omega)
        refine g_iconst G dX10_fieldOf_14 ?_
        refine g_istore G [(0, .ref q0), (1, .int (iI v)), (2, .int (iI x)), (3, .int (iI y)), (4, .int (iI f)), (5, .int (iI b)), (6, .int (iI i)), (7, .int (iI 0))] dX10_fieldOf_15 (by decide) rfl rfl ?_
        have L17 : ∀ (fuel : Nat), ∀ (j : Int), (0 ≤ j ∧ j ≤ g (10 + i)) → (nP (foS g v x y f) i j.toNat (-1) = -1) → (g (10 + i) - j : Int).toNat < fuel → P 0 0 [(q0, .inr (10, [.ref q1, .ref q2, .ref q3, .int (iI c0), .ref q4, .ref q5, .int (iI la), .ref q6, .ref q7, .ref q8, .ref q9, .ref q10, .ref q11, .int (iI ch), .int (iI us)])), (q1, ia E 5400 g)] 17 [(0, .ref q0), (1, .int (iI v)), (2, .int (iI x)), (3, .int (iI y)), (4, .int (iI f)), (5, .int (iI b)), (6, .int (iI i)), (7, .int (iI j))] [] := by
          intro fuel
          induction fuel with
          | zero => intro j hj ho2 hm; exact absurd hm (Nat.not_lt_zero _)
          | succ fuel ih17 =>
            intro j hj ho2 hm
            refine g_iload G 7 dX10_fieldOf_17 rfl ?_
            refine g_aload_n G 0 dX10_fieldOf_19 rfl ?_
            refine g_iload G 6 dX10_fieldOf_20 rfl ?_
            refine g_callV G [0, 1] [] 2 [] [.int (iI i)] [.int (iI j)] (c_X10_sizeOf E q0 q1 q2 q3 q4 q5 q6 q7 q8 q9 q10 q11 c0 la ch us g i (by first | assumption | omega)) dX10_fieldOf_22 gX10_fieldOf_X10_sizeOf ⟨rfl, ⟨rfl, rfl⟩, e_X10_sizeOf, ⟨Nat.le_of_ble_eq_true rfl, Nat.le_of_ble_eq_true rfl⟩, Nat.le_of_ble_eq_true rfl, Nat.le_of_ble_eq_true rfl, Nat.le_of_ble_eq_true rfl⟩ rfl rfl rfl rfl rfl (by decide +kernel) rfl (by decide +kernel) rfl (fun v9 w9 h9 => ?_)
            obtain ⟨o2, rfl, rfl, rfl⟩ := h9
            have b3 := hg (10 + i)
            refine ⟨[(q0, .inr (10, [.ref q1, .ref q2, .ref q3, .int (iI c0), .ref q4, .ref q5, .int (iI la), .ref q6, .ref q7, .ref q8, .ref q9, .ref q10, .ref q11, .int (iI ch), .int (iI us)])), (q1, ia E 5400 g)], ⟨rfl, rfl, rfl, rfl⟩, g_to 0 0 _ _ [.int (iI (g (10 + i))), .int (iI j)] rfl rfl rfl rfl rfl ?_⟩
            refine g_icmp_ge G 93 dX10_fieldOf_25 (by decide) (by omega) (by omega) (fun c25 => ?_) (fun c25 => ?_)
            · refine g_iinc G 6 [(0, .ref q0), (1, .int (iI v)), (2, .int (iI x)), (3, .int (iI y)), (4, .int (iI f)), (5, .int (iI b)), (6, .int (iI (i + 1))), (7, .int (iI j))] dX10_fieldOf_93 rfl (by decide) rfl rfl ?_
              refine g_goto G 3 dX10_fieldOf_96 (by decide) ?_
              refine g_lv G [0, 1, 2, 3, 4, 5, 6] (lv' := [(0, .ref q0), (1, .int (iI v)), (2, .int (iI x)), (3, .int (iI y)), (4, .int (iI f)), (5, .int (iI b)), (6, .int (iI (i + 1)))]) rfl ?_
              exact ih3 (i + 1) (by first | assumption | omega) (by rw [nR_up _ _ _ hi.1]; by_cases q : i = b; (rw [if_pos q]; exact ho); (rw [if_neg q, ho]; first | exact absurd c32 q | ((try dsimp only); rw [(show g (10 + i) = j by omega)]; exact ho2))) (by omega)
            · refine g_iload G 6 dX10_fieldOf_28 rfl ?_
              refine g_iload G 5 dX10_fieldOf_30 rfl ?_
              refine g_icmp_eq G 93 dX10_fieldOf_32 (by decide) (by omega) (by omega) (fun c32 => ?_) (fun c32 => ?_)
              · refine g_iinc G 6 [(0, .ref q0), (1, .int (iI v)), (2, .int (iI x)), (3, .int (iI y)), (4, .int (iI f)), (5, .int (iI b)), (6, .int (iI (i + 1))), (7, .int (iI j))] dX10_fieldOf_93 rfl (by decide) rfl rfl ?_
                refine g_goto G 3 dX10_fieldOf_96 (by decide) ?_
                refine g_lv G [0, 1, 2, 3, 4, 5, 6] (lv' := [(0, .ref q0), (1, .int (iI v)), (2, .int (iI x)), (3, .int (iI y)), (4, .int (iI f)), (5, .int (iI b)), (6, .int (iI (i + 1)))]) rfl ?_
                exact ih3 (i + 1) (by first | assumption | omega) (by rw [nR_up _ _ _ hi.1]; by_cases q : i = b; (rw [if_pos q]; exact ho); (rw [if_neg q, ho]; first | exact absurd c32 q | ((try dsimp only); rw [(show g (10 + i) = j by omega)]; exact ho2))) (by omega)
              · refine g_aload_n G 0 dX10_fieldOf_35 rfl ?_
                refine g_iload G 6 dX10_fieldOf_36 rfl ?_
                refine g_iload G 7 dX10_fieldOf_38 rfl ?_
                refine g_iconst G dX10_fieldOf_40 ?_
                refine g_callV G [0, 1] [] 2 [] [.int (iI i), .int (iI j), .int (iI 0)] [] (c_X10_of E q0 q1 q2 q3 q4 q5 q6 q7 q8 q9 q10 q11 c0 la ch us g i j 0 (by first | assumption | omega) (by first | assumption | omega) (by first | assumption | omega)) dX10_fieldOf_41 gX10_fieldOf_X10_of ⟨rfl, ⟨rfl, rfl⟩, e_X10_of, ⟨Nat.le_of_ble_eq_true rfl, Nat.le_of_ble_eq_true rfl⟩, Nat.le_of_ble_eq_true rfl, Nat.le_of_ble_eq_true rfl, Nat.le_of_ble_eq_true rfl⟩ rfl rfl rfl rfl rfl (by decide +kernel) rfl (by decide +kernel) rfl (fun v9 w9 h9 => ?_)
                obtain ⟨o4, rfl, rfl, rfl⟩ := h9
                have b5 := hg (20 + 72 * i + 6 * j + 0)
                refine ⟨[(q0, .inr (10, [.ref q1, .ref q2, .ref q3, .int (iI c0), .ref q4, .ref q5, .int (iI la), .ref q6, .ref q7, .ref q8, .ref q9, .ref q10, .ref q11, .int (iI ch), .int (iI us)])), (q1, ia E 5400 g)], ⟨rfl, rfl, rfl, rfl⟩, g_to 0 0 _ _ [.int (iI (g (20 + 72 * i + 6 * j + 0)))] rfl rfl rfl rfl rfl ?_⟩
                refine g_iload_n G 1 dX10_fieldOf_44 rfl ?_
                refine g_icmp_ne G 87 dX10_fieldOf_45 (by decide) (by omega) (by omega) (fun c45 => ?_) (fun c45 => ?_)
                · refine g_iinc G 7 [(0, .ref q0), (1, .int (iI v)), (2, .int (iI x)), (3, .int (iI y)), (4, .int (iI f)), (5, .int (iI b)), (6, .int (iI i)), (7, .int (iI (j + 1)))] dX10_fieldOf_87 rfl (by decide) rfl rfl ?_
                  refine g_goto G 17 dX10_fieldOf_90 (by decide) ?_
                  exact ih17 (j + 1) (by first | assumption | omega) (by rw [nP_up _ _ hj.1, ho2]; exact if_neg (fun q => by omega)) (by omega)
                · refine g_aload_n G 0 dX10_fieldOf_48 rfl ?_
                  refine g_iload G 6 dX10_fieldOf_49 rfl ?_
                  refine g_iload G 7 dX10_fieldOf_51 rfl ?_
                  refine g_iconst G dX10_fieldOf_53 ?_
                  refine g_callV G [0, 1] [] 2 [] [.int (iI i), .int (iI j), .int (iI 1)] [] (c_X10_of E q0 q1 q2 q3 q4 q5 q6 q7 q8 q9 q10 q11 c0 la ch us g i j 1 (by first | assumption | omega) (by first | assumption | omega) (by first | assumption | omega)) dX10_fieldOf_54 gX10_fieldOf_X10_of ⟨rfl, ⟨rfl, rfl⟩, e_X10_of, ⟨Nat.le_of_ble_eq_true rfl, Nat.le_of_ble_eq_true rfl⟩, Nat.le_of_ble_eq_true rfl, Nat.le_of_ble_eq_true rfl, Nat.le_of_ble_eq_true rfl⟩ rfl rfl rfl rfl rfl (by decide +kernel) rfl (by decide +kernel) rfl (fun v9 w9 h9 => ?_)
                  obtain ⟨o6, rfl, rfl, rfl⟩ := h9
                  have b7 := hg (20 + 72 * i + 6 * j + 1)
                  refine ⟨[(q0, .inr (10, [.ref q1, .ref q2, .ref q3, .int (iI c0), .ref q4, .ref q5, .int (iI la), .ref q6, .ref q7, .ref q8, .ref q9, .ref q10, .ref q11, .int (iI ch), .int (iI us)])), (q1, ia E 5400 g)], ⟨rfl, rfl, rfl, rfl⟩, g_to 0 0 _ _ [.int (iI (g (20 + 72 * i + 6 * j + 1)))] rfl rfl rfl rfl rfl ?_⟩
                  refine g_iload_n G 2 dX10_fieldOf_57 rfl ?_
                  refine g_icmp_ne G 87 dX10_fieldOf_58 (by decide) (by omega) (by omega) (fun c58 => ?_) (fun c58 => ?_)
                  · refine g_iinc G 7 [(0, .ref q0), (1, .int (iI v)), (2, .int (iI x)), (3, .int (iI y)), (4, .int (iI f)), (5, .int (iI b)), (6, .int (iI i)), (7, .int (iI (j + 1)))] dX10_fieldOf_87 rfl (by decide) rfl rfl ?_
                    refine g_goto G 17 dX10_fieldOf_90 (by decide) ?_
                    exact ih17 (j + 1) (by first | assumption | omega) (by rw [nP_up _ _ hj.1, ho2]; exact if_neg (fun q => by omega)) (by omega)
                  · refine g_aload_n G 0 dX10_fieldOf_61 rfl ?_
                    refine g_iload G 6 dX10_fieldOf_62 rfl ?_
                    refine g_iload G 7 dX10_fieldOf_64 rfl ?_
                    refine g_iconst G dX10_fieldOf_66 ?_
                    refine g_callV G [0, 1] [] 2 [] [.int (iI i), .int (iI j), .int (iI 2)] [] (c_X10_of E q0 q1 q2 q3 q4 q5 q6 q7 q8 q9 q10 q11 c0 la ch us g i j 2 (by first | assumption | omega) (by first | assumption | omega) (by first | assumption | omega)) dX10_fieldOf_67 gX10_fieldOf_X10_of ⟨rfl, ⟨rfl, rfl⟩, e_X10_of, ⟨Nat.le_of_ble_eq_true rfl, Nat.le_of_ble_eq_true rfl⟩, Nat.le_of_ble_eq_true rfl, Nat.le_of_ble_eq_true rfl, Nat.le_of_ble_eq_true rfl⟩ rfl rfl rfl rfl rfl (by decide +kernel) rfl (by decide +kernel) rfl (fun v9 w9 h9 => ?_)
                    obtain ⟨o8, rfl, rfl, rfl⟩ := h9
                    have b9 := hg (20 + 72 * i + 6 * j + 2)
                    refine ⟨[(q0, .inr (10, [.ref q1, .ref q2, .ref q3, .int (iI c0), .ref q4, .ref q5, .int (iI la), .ref q6, .ref q7, .ref q8, .ref q9, .ref q10, .ref q11, .int (iI ch), .int (iI us)])), (q1, ia E 5400 g)], ⟨rfl, rfl, rfl, rfl⟩, g_to 0 0 _ _ [.int (iI (g (20 + 72 * i + 6 * j + 2)))] rfl rfl rfl rfl rfl ?_⟩
                    refine g_iload_n G 3 dX10_fieldOf_70 rfl ?_
                    refine g_icmp_ne G 87 dX10_fieldOf_71 (by decide) (by omega) (by omega) (fun c71 => ?_) (fun c71 => ?_)
                    · refine g_iinc G 7 [(0, .ref q0), (1, .int (iI v)), (2, .int (iI x)), (3, .int (iI y)), (4, .int (iI f)), (5, .int (iI b)), (6, .int (iI i)), (7, .int (iI (j + 1)))] dX10_fieldOf_87 rfl (by decide) rfl rfl ?_
                      refine g_goto G 17 dX10_fieldOf_90 (by decide) ?_
                      exact ih17 (j + 1) (by first | assumption | omega) (by rw [nP_up _ _ hj.1, ho2]; exact if_neg (fun q => by omega)) (by omega)
                    · have hm9 := hX (20 + 72 * i + 6 * j + (4 + f)) (by omega) (by omega)
                      have e9 : foI g v x y f b = g (20 + 72 * i + 6 * j + (4 + f)) := nR_exit (foS g v x y f) (fun r => g (10 + r)) b hi.1 (by omega) c32 hj.1 (by show j < g (10 + i); omega) (by rw [nP_up _ _ hj.1, ho, ho2]; exact if_pos ⟨rfl, c45, c58, c71⟩) (fun r p => if_neg (fun q => by omega))
                      refine g_aload_n G 0 dX10_fieldOf_74 rfl ?_
                      refine g_iload G 6 dX10_fieldOf_75 rfl ?_
                      refine g_iload G 7 dX10_fieldOf_77 rfl ?_
                      refine g_iconst G dX10_fieldOf_79 ?_
                      refine g_iload G 4 dX10_fieldOf_80 rfl ?_
                      refine g_iadd G dX10_fieldOf_82 ?_
                      refine g_callV G [0, 1] [] 2 [] [.int (iI i), .int (iI j), .int (iI (4 + f))] [] (c_X10_of E q0 q1 q2 q3 q4 q5 q6 q7 q8 q9 q10 q11 c0 la ch us g i j (4 + f) (by first | assumption | omega) (by first | assumption | omega) (by first | assumption | omega)) dX10_fieldOf_83 gX10_fieldOf_X10_of ⟨rfl, ⟨rfl, rfl⟩, e_X10_of, ⟨Nat.le_of_ble_eq_true rfl, Nat.le_of_ble_eq_true rfl⟩, Nat.le_of_ble_eq_true rfl, Nat.le_of_ble_eq_true rfl, Nat.le_of_ble_eq_true rfl⟩ rfl rfl rfl rfl rfl (by decide +kernel) rfl (by decide +kernel) rfl (fun v9 w9 h9 => ?_)
                      obtain ⟨o10, rfl, rfl, rfl⟩ := h9
                      have b11 := hg (20 + 72 * i + 6 * j + (4 + f))
                      refine ⟨[(q0, .inr (10, [.ref q1, .ref q2, .ref q3, .int (iI c0), .ref q4, .ref q5, .int (iI la), .ref q6, .ref q7, .ref q8, .ref q9, .ref q10, .ref q11, .int (iI ch), .int (iI us)])), (q1, ia E 5400 g)], ⟨rfl, rfl, rfl, rfl⟩, g_to 0 0 _ _ [.int (iI (g (20 + 72 * i + 6 * j + (4 + f))))] rfl rfl rfl rfl rfl ?_⟩
                      exact g_ret G (some (.int (iI (g (20 + 72 * i + 6 * j + (4 + f)))))) rfl dX10_fieldOf_86 (Nat.le_refl _) (Nat.le_refl _) ⟨(g (20 + 72 * i + 6 * j + (4 + f))), rfl, rfl, by rw [e9]⟩
        exact L17 ((g (10 + i) - 0 : Int).toNat + 1) 0 (by first | assumption | omega) (by rfl) (by omega)
  exact L3 ((g 0 - 0 : Int).toNat + 1) 0 (by first | assumption | omega) (by rfl) (by omega)
theorem f_X10_isTable_7 : Cond.fieldLink RX10 7 (TX10 0).1 (TX10 0).2.1 (TX10 0).2.2.1 ∈ wsX10_isTable := by decide +kernel
theorem i_X10_isTable_X10 : ∀ w ∈ wsX100, w ∈ wsX10_isTable := by decide +kernel
set_option maxRecDepth 100000 in
set_option maxHeartbeats 4000000 in
theorem c_X10_isTable (E : qE) (q0 : Nat) (q1 : Nat) (q2 : Nat) (q3 : Nat) (q4 : Nat) (q5 : Nat) (q6 : Nat) (q7 : Nat) (q8 : Nat) (q9 : Nat) (q10 : Nat) (q11 : Nat) (c0 : Int) (la : Int) (ch : Int) (us : Int) (g : Int → Int) (v : Int) (f : Int) (b : Int) (hG : AllOk g) (hv : -2147483648 ≤ v ∧ v < 2147483648) (hf : 0 ≤ f ∧ f < 2) (hb : -2147483648 ≤ b ∧ b < 2147483648) : Cn E yX10_isTable wsX10_isTable { frames := 1, cells := 0, slots := 0, locals := 23 } [.ref q0, .int (iI v), .int (iI f), .int (iI b)] [(q0, .inr (10, [.ref q1, .ref q2, .ref q3, .int (iI c0), .ref q4, .ref q5, .int (iI la), .ref q6, .ref q7, .ref q8, .ref q9, .ref q10, .ref q11, .int (iI ch), .int (iI us)])), (q1, ia E 5400 g)] (fun v9 w9 => ∃ (r : Int), v9 = some (.int (iI r)) ∧ w9 = [(q0, .inr (10, [.ref q1, .ref q2, .ref q3, .int (iI c0), .ref q4, .ref q5, .int (iI la), .ref q6, .ref q7, .ref q8, .ref q9, .ref q10, .ref q11, .int (iI ch), .int (iI us)])), (q1, ia E 5400 g)] ∧ r = (if tbI g v f b = 1 then 1 else 0)) 0 0 := by
  refine Cn.ofP (own := RX10) (cc := cX10_isTable) (maxL := 9) (ret := (some .boolean)) false [(0, .ref q0), (1, .int (iI v)), (2, .int (iI f)), (3, .int (iI b))] (by decide +kernel) rfl rfl (Nat.le_of_ble_eq_true rfl) rfl (fun h => nomatch h) (fun v w h => by obtain ⟨r, rfl, h9⟩ := h; exact ⟨_, rfl, by (refine iI_b01 ?_; first | rw [h9.2] | rw [h9.2.1]); split <;> simp⟩) ?_
  intro P G
  obtain ⟨hg, hg0, hgs⟩ := id hG
  refine g_iconst G dX10_isTable_0 ?_
  refine g_istore G [(0, .ref q0), (1, .int (iI v)), (2, .int (iI f)), (3, .int (iI b)), (4, .int (iI 0))] dX10_isTable_1 (by decide) rfl rfl ?_
  have L3 : ∀ (fuel : Nat), ∀ (i : Int), (0 ≤ i ∧ i ≤ g 0) → (nR (tbS g v f b) (fun r => g (10 + r)) b i.toNat 1 = 1) → (g 0 - i : Int).toNat < fuel → P 0 0 [(q0, .inr (10, [.ref q1, .ref q2, .ref q3, .int (iI c0), .ref q4, .ref q5, .int (iI la), .ref q6, .ref q7, .ref q8, .ref q9, .ref q10, .ref q11, .int (iI ch), .int (iI us)])), (q1, ia E 5400 g)] 3 [(0, .ref q0), (1, .int (iI v)), (2, .int (iI f)), (3, .int (iI b)), (4, .int (iI i))] [] := by
    intro fuel
    induction fuel with
    | zero => intro i hi ho hm; exact absurd hm (Nat.not_lt_zero _)
    | succ fuel ih3 =>
      intro i hi ho hm
      refine g_iload G 4 dX10_isTable_3 rfl ?_
      refine g_aload_n G 0 dX10_isTable_5 rfl ?_
      refine g_get G 0 0 dX10_isTable_6 i_X10_isTable_X10 f_X10_isTable_7 rfl rfl (by decide) rfl ?_
      refine g_iconst G dX10_isTable_9 ?_
      refine g_iald G 1 dX10_isTable_10 rfl (by omega) (by omega) (by decide) ?_
      have b1 := hg 0
      refine g_icmp_ge G 202 dX10_isTable_11 (by decide) (by omega) (by omega) (fun c11 => ?_) (fun c11 => ?_)
      · refine g_iconst G dX10_isTable_202 ?_
        exact g_ret G (some (.int (iI 1))) rfl dX10_isTable_203 (Nat.le_refl _) (Nat.le_refl _) ⟨1, rfl, rfl, by rw [if_pos]; unfold tbI; rw [(show g 0 = i by omega), ho]⟩
      · have hgi := hgs i hi.1 (by omega)
        refine g_iconst G dX10_isTable_14 ?_
        refine g_istore G [(0, .ref q0), (1, .int (iI v)), (2, .int (iI f)), (3, .int (iI b)), (4, .int (iI i)), (5, .int (iI 0))] dX10_isTable_15 (by decide) rfl rfl ?_
        have L17 : ∀ (fuel : Nat), ∀ (j : Int), (0 ≤ j ∧ j ≤ g (10 + i)) → (nP (tbS g v f b) i j.toNat 1 = 1) → (g (10 + i) - j : Int).toNat < fuel → P 0 0 [(q0, .inr (10, [.ref q1, .ref q2, .ref q3, .int (iI c0), .ref q4, .ref q5, .int (iI la), .ref q6, .ref q7, .ref q8, .ref q9, .ref q10, .ref q11, .int (iI ch), .int (iI us)])), (q1, ia E 5400 g)] 17 [(0, .ref q0), (1, .int (iI v)), (2, .int (iI f)), (3, .int (iI b)), (4, .int (iI i)), (5, .int (iI j))] [] := by
          intro fuel
          induction fuel with
          | zero => intro j hj ho2 hm; exact absurd hm (Nat.not_lt_zero _)
          | succ fuel ih17 =>
            intro j hj ho2 hm
            refine g_iload G 5 dX10_isTable_17 rfl ?_
            refine g_aload_n G 0 dX10_isTable_19 rfl ?_
            refine g_iload G 4 dX10_isTable_20 rfl ?_
            refine g_callV G [0, 1] [] 2 [] [.int (iI i)] [.int (iI j)] (c_X10_sizeOf E q0 q1 q2 q3 q4 q5 q6 q7 q8 q9 q10 q11 c0 la ch us g i (by first | assumption | omega)) dX10_isTable_22 gX10_isTable_X10_sizeOf ⟨rfl, ⟨rfl, rfl⟩, e_X10_sizeOf, ⟨Nat.le_of_ble_eq_true rfl, Nat.le_of_ble_eq_true rfl⟩, Nat.le_of_ble_eq_true rfl, Nat.le_of_ble_eq_true rfl, Nat.le_of_ble_eq_true rfl⟩ rfl rfl rfl rfl rfl (by decide +kernel) rfl (by decide +kernel) rfl (fun v9 w9 h9 => ?_)
            obtain ⟨o2, rfl, rfl, rfl⟩ := h9
            have b3 := hg (10 + i)
            refine ⟨[(q0, .inr (10, [.ref q1, .ref q2, .ref q3, .int (iI c0), .ref q4, .ref q5, .int (iI la), .ref q6, .ref q7, .ref q8, .ref q9, .ref q10, .ref q11, .int (iI ch), .int (iI us)])), (q1, ia E 5400 g)], ⟨rfl, rfl, rfl, rfl⟩, g_to 0 0 _ _ [.int (iI (g (10 + i))), .int (iI j)] rfl rfl rfl rfl rfl ?_⟩
            refine g_icmp_ge G 196 dX10_isTable_25 (by decide) (by omega) (by omega) (fun c25 => ?_) (fun c25 => ?_)
            · refine g_iinc G 4 [(0, .ref q0), (1, .int (iI v)), (2, .int (iI f)), (3, .int (iI b)), (4, .int (iI (i + 1))), (5, .int (iI j))] dX10_isTable_196 rfl (by decide) rfl rfl ?_
              refine g_goto G 3 dX10_isTable_199 (by decide) ?_
              refine g_lv G [0, 1, 2, 3, 4] (lv' := [(0, .ref q0), (1, .int (iI v)), (2, .int (iI f)), (3, .int (iI b)), (4, .int (iI (i + 1)))]) rfl ?_
              exact ih3 (i + 1) (by first | assumption | omega) (by rw [nR_up _ _ _ hi.1]; by_cases q : i = b; (rw [if_pos q]; exact ho); (rw [if_neg q, ho]; first | exact absurd c31 q | ((try dsimp only); rw [(show g (10 + i) = j by omega)]; exact ho2))) (by omega)
            · refine g_iload G 4 dX10_isTable_28 rfl ?_
              refine g_iload_n G 3 dX10_isTable_30 rfl ?_
              refine g_icmp_eq G 196 dX10_isTable_31 (by decide) (by omega) (by omega) (fun c31 => ?_) (fun c31 => ?_)
              · refine g_iinc G 4 [(0, .ref q0), (1, .int (iI v)), (2, .int (iI f)), (3, .int (iI b)), (4, .int (iI (i + 1))), (5, .int (iI j))] dX10_isTable_196 rfl (by decide) rfl rfl ?_
                refine g_goto G 3 dX10_isTable_199 (by decide) ?_
                refine g_lv G [0, 1, 2, 3, 4] (lv' := [(0, .ref q0), (1, .int (iI v)), (2, .int (iI f)), (3, .int (iI b)), (4, .int (iI (i + 1)))]) rfl ?_
                exact ih3 (i + 1) (by first | assumption | omega) (by rw [nR_up _ _ _ hi.1]; by_cases q : i = b; (rw [if_pos q]; exact ho); (rw [if_neg q, ho]; first | exact absurd c31 q | ((try dsimp only); rw [(show g (10 + i) = j by omega)]; exact ho2))) (by omega)
              · refine g_aload_n G 0 dX10_isTable_34 rfl ?_
                refine g_iload G 4 dX10_isTable_35 rfl ?_
                refine g_iload G 5 dX10_isTable_37 rfl ?_
                refine g_iconst G dX10_isTable_39 ?_
                refine g_callV G [0, 1] [] 2 [] [.int (iI i), .int (iI j), .int (iI 0)] [] (c_X10_of E q0 q1 q2 q3 q4 q5 q6 q7 q8 q9 q10 q11 c0 la ch us g i j 0 (by first | assumption | omega) (by first | assumption | omega) (by first | assumption | omega)) dX10_isTable_40 gX10_isTable_X10_of ⟨rfl, ⟨rfl, rfl⟩, e_X10_of, ⟨Nat.le_of_ble_eq_true rfl, Nat.le_of_ble_eq_true rfl⟩, Nat.le_of_ble_eq_true rfl, Nat.le_of_ble_eq_true rfl, Nat.le_of_ble_eq_true rfl⟩ rfl rfl rfl rfl rfl (by decide +kernel) rfl (by decide +kernel) rfl (fun v9 w9 h9 => ?_)
                obtain ⟨o4, rfl, rfl, rfl⟩ := h9
                have b5 := hg (20 + 72 * i + 6 * j + 0)
                refine ⟨[(q0, .inr (10, [.ref q1, .ref q2, .ref q3, .int (iI c0), .ref q4, .ref q5, .int (iI la), .ref q6, .ref q7, .ref q8, .ref q9, .ref q10, .ref q11, .int (iI ch), .int (iI us)])), (q1, ia E 5400 g)], ⟨rfl, rfl, rfl, rfl⟩, g_to 0 0 _ _ [.int (iI (g (20 + 72 * i + 6 * j + 0)))] rfl rfl rfl rfl rfl ?_⟩
                refine g_iload_n G 1 dX10_isTable_43 rfl ?_
                refine g_icmp_eq G 50 dX10_isTable_44 (by decide) (by omega) (by omega) (fun c44 => ?_) (fun c44 => ?_)
                · refine g_iconst G dX10_isTable_50 ?_
                  refine g_istore G [(0, .ref q0), (1, .int (iI v)), (2, .int (iI f)), (3, .int (iI b)), (4, .int (iI i)), (5, .int (iI j)), (6, .int (iI 0))] dX10_isTable_51 (by decide) rfl rfl ?_
                  have L53 : ∀ (fuel : Nat), ∀ (m : Int), (0 ≤ m ∧ m ≤ g 0) → (nR (tbS2 g v f i j) (fun r => g (10 + r)) b m.toNat 1 = 1) → (g 0 - m : Int).toNat < fuel → P 0 0 [(q0, .inr (10, [.ref q1, .ref q2, .ref q3, .int (iI c0), .ref q4, .ref q5, .int (iI la), .ref q6, .ref q7, .ref q8, .ref q9, .ref q10, .ref q11, .int (iI ch), .int (iI us)])), (q1, ia E 5400 g)] 53 [(0, .ref q0), (1, .int (iI v)), (2, .int (iI f)), (3, .int (iI b)), (4, .int (iI i)), (5, .int (iI j)), (6, .int (iI m))] [] := by
                    intro fuel
                    induction fuel with
                    | zero => intro m hm1 hq hm; exact absurd hm (Nat.not_lt_zero _)
                    | succ fuel ih53 =>
                      intro m hm1 hq hm
                      refine g_iload G 6 dX10_isTable_53 rfl ?_
                      refine g_aload_n G 0 dX10_isTable_55 rfl ?_
                      refine g_get G 0 0 dX10_isTable_56 i_X10_isTable_X10 f_X10_isTable_7 rfl rfl (by decide) rfl ?_
                      refine g_iconst G dX10_isTable_59 ?_
                      refine g_iald G 1 dX10_isTable_60 rfl (by omega) (by omega) (by decide) ?_
                      have b6 := hg 0
                      refine g_icmp_ge G 190 dX10_isTable_61 (by decide) (by omega) (by omega) (fun c61 => ?_) (fun c61 => ?_)
                      · refine g_iinc G 5 [(0, .ref q0), (1, .int (iI v)), (2, .int (iI f)), (3, .int (iI b)), (4, .int (iI i)), (5, .int (iI (j + 1))), (6, .int (iI m))] dX10_isTable_190 rfl (by decide) rfl rfl ?_
                        refine g_goto G 17 dX10_isTable_193 (by decide) ?_
                        refine g_lv G [0, 1, 2, 3, 4, 5] (lv' := [(0, .ref q0), (1, .int (iI v)), (2, .int (iI f)), (3, .int (iI b)), (4, .int (iI i)), (5, .int (iI (j + 1)))]) rfl ?_
                        exact ih17 (j + 1) (by first | assumption | omega) (by rw [nP_up _ _ hj.1, ho2]; first | exact if_neg (fun q => c44 q.2.1) | (refine if_neg (fun q => ?_); have q3 := q.2.2; rw [(show g 0 = m by omega), hq] at q3; exact absurd q3 (by decide))) (by omega)
                      · have hgm := hgs m hm1.1 (by omega)
                        refine g_iconst G dX10_isTable_64 ?_
                        refine g_istore G [(0, .ref q0), (1, .int (iI v)), (2, .int (iI f)), (3, .int (iI b)), (4, .int (iI i)), (5, .int (iI j)), (6, .int (iI m)), (7, .int (iI 0))] dX10_isTable_65 (by decide) rfl rfl ?_
                        have L67 : ∀ (fuel : Nat), ∀ (l : Int), (0 ≤ l ∧ l ≤ g (10 + m)) → (nP (tbS2 g v f i j) m l.toNat 1 = 1) → (g (10 + m) - l : Int).toNat < fuel → P 0 0 [(q0, .inr (10, [.ref q1, .ref q2, .ref q3, .int (iI c0), .ref q4, .ref q5, .int (iI la), .ref q6, .ref q7, .ref q8, .ref q9, .ref q10, .ref q11, .int (iI ch), .int (iI us)])), (q1, ia E 5400 g)] 67 [(0, .ref q0), (1, .int (iI v)), (2, .int (iI f)), (3, .int (iI b)), (4, .int (iI i)), (5, .int (iI j)), (6, .int (iI m)), (7, .int (iI l))] [] := by
                          intro fuel
                          induction fuel with
                          | zero => intro l hl1 hq2 hm; exact absurd hm (Nat.not_lt_zero _)
                          | succ fuel ih67 =>
                            intro l hl1 hq2 hm
                            refine g_iload G 7 dX10_isTable_67 rfl ?_
                            refine g_aload_n G 0 dX10_isTable_69 rfl ?_
                            refine g_iload G 6 dX10_isTable_70 rfl ?_
                            refine g_callV G [0, 1] [] 2 [] [.int (iI m)] [.int (iI l)] (c_X10_sizeOf E q0 q1 q2 q3 q4 q5 q6 q7 q8 q9 q10 q11 c0 la ch us g m (by first | assumption | omega)) dX10_isTable_72 gX10_isTable_X10_sizeOf ⟨rfl, ⟨rfl, rfl⟩, e_X10_sizeOf, ⟨Nat.le_of_ble_eq_true rfl, Nat.le_of_ble_eq_true rfl⟩, Nat.le_of_ble_eq_true rfl, Nat.le_of_ble_eq_true rfl, Nat.le_of_ble_eq_true rfl⟩ rfl rfl rfl rfl rfl (by decide +kernel) rfl (by decide +kernel) rfl (fun v9 w9 h9 => ?_)
                            obtain ⟨o7, rfl, rfl, rfl⟩ := h9
                            have b8 := hg (10 + m)
                            refine ⟨[(q0, .inr (10, [.ref q1, .ref q2, .ref q3, .int (iI c0), .ref q4, .ref q5, .int (iI la), .ref q6, .ref q7, .ref q8, .ref q9, .ref q10, .ref q11, .int (iI ch), .int (iI us)])), (q1, ia E 5400 g)], ⟨rfl, rfl, rfl, rfl⟩, g_to 0 0 _ _ [.int (iI (g (10 + m))), .int (iI l)] rfl rfl rfl rfl rfl ?_⟩
                            refine g_icmp_ge G 184 dX10_isTable_75 (by decide) (by omega) (by omega) (fun c75 => ?_) (fun c75 => ?_)
                            · refine g_iinc G 6 [(0, .ref q0), (1, .int (iI v)), (2, .int (iI f)), (3, .int (iI b)), (4, .int (iI i)), (5, .int (iI j)), (6, .int (iI (m + 1))), (7, .int (iI l))] dX10_isTable_184 rfl (by decide) rfl rfl ?_
                              refine g_goto G 53 dX10_isTable_187 (by decide) ?_
                              refine g_lv G [0, 1, 2, 3, 4, 5, 6] (lv' := [(0, .ref q0), (1, .int (iI v)), (2, .int (iI f)), (3, .int (iI b)), (4, .int (iI i)), (5, .int (iI j)), (6, .int (iI (m + 1)))]) rfl ?_
                              exact ih53 (m + 1) (by first | assumption | omega) (by rw [nR_up _ _ _ hm1.1]; by_cases q : m = b; (rw [if_pos q]; exact hq); (rw [if_neg q, hq]; first | exact absurd c81 q | ((try dsimp only); rw [(show g (10 + m) = l by omega)]; exact hq2))) (by omega)
                            · refine g_iload G 6 dX10_isTable_78 rfl ?_
                              refine g_iload_n G 3 dX10_isTable_80 rfl ?_
                              refine g_icmp_eq G 184 dX10_isTable_81 (by decide) (by omega) (by omega) (fun c81 => ?_) (fun c81 => ?_)
                              · refine g_iinc G 6 [(0, .ref q0), (1, .int (iI v)), (2, .int (iI f)), (3, .int (iI b)), (4, .int (iI i)), (5, .int (iI j)), (6, .int (iI (m + 1))), (7, .int (iI l))] dX10_isTable_184 rfl (by decide) rfl rfl ?_
                                refine g_goto G 53 dX10_isTable_187 (by decide) ?_
                                refine g_lv G [0, 1, 2, 3, 4, 5, 6] (lv' := [(0, .ref q0), (1, .int (iI v)), (2, .int (iI f)), (3, .int (iI b)), (4, .int (iI i)), (5, .int (iI j)), (6, .int (iI (m + 1)))]) rfl ?_
                                exact ih53 (m + 1) (by first | assumption | omega) (by rw [nR_up _ _ _ hm1.1]; by_cases q : m = b; (rw [if_pos q]; exact hq); (rw [if_neg q, hq]; first | exact absurd c81 q | ((try dsimp only); rw [(show g (10 + m) = l by omega)]; exact hq2))) (by omega)
                              · refine g_aload_n G 0 dX10_isTable_84 rfl ?_
                                refine g_iload G 6 dX10_isTable_85 rfl ?_
                                refine g_iload G 7 dX10_isTable_87 rfl ?_
                                refine g_iconst G dX10_isTable_89 ?_
                                refine g_callV G [0, 1] [] 2 [] [.int (iI m), .int (iI l), .int (iI 0)] [] (c_X10_of E q0 q1 q2 q3 q4 q5 q6 q7 q8 q9 q10 q11 c0 la ch us g m l 0 (by first | assumption | omega) (by first | assumption | omega) (by first | assumption | omega)) dX10_isTable_90 gX10_isTable_X10_of ⟨rfl, ⟨rfl, rfl⟩, e_X10_of, ⟨Nat.le_of_ble_eq_true rfl, Nat.le_of_ble_eq_true rfl⟩, Nat.le_of_ble_eq_true rfl, Nat.le_of_ble_eq_true rfl, Nat.le_of_ble_eq_true rfl⟩ rfl rfl rfl rfl rfl (by decide +kernel) rfl (by decide +kernel) rfl (fun v9 w9 h9 => ?_)
                                obtain ⟨o9, rfl, rfl, rfl⟩ := h9
                                have b10 := hg (20 + 72 * m + 6 * l + 0)
                                refine ⟨[(q0, .inr (10, [.ref q1, .ref q2, .ref q3, .int (iI c0), .ref q4, .ref q5, .int (iI la), .ref q6, .ref q7, .ref q8, .ref q9, .ref q10, .ref q11, .int (iI ch), .int (iI us)])), (q1, ia E 5400 g)], ⟨rfl, rfl, rfl, rfl⟩, g_to 0 0 _ _ [.int (iI (g (20 + 72 * m + 6 * l + 0)))] rfl rfl rfl rfl rfl ?_⟩
                                refine g_iload_n G 1 dX10_isTable_93 rfl ?_
                                refine g_icmp_ne G 143 dX10_isTable_94 (by decide) (by omega) (by omega) (fun c94 => ?_) (fun c94 => ?_)
                                · refine g_iconst G dX10_isTable_143 ?_
                                  refine g_istore G [(0, .ref q0), (1, .int (iI v)), (2, .int (iI f)), (3, .int (iI b)), (4, .int (iI i)), (5, .int (iI j)), (6, .int (iI m)), (7, .int (iI l)), (8, .int (iI 0))] dX10_isTable_144 (by decide) rfl rfl ?_
                                  refine g_iload G 8 dX10_isTable_146 rfl ?_
                                  refine g_if_eq G 178 dX10_isTable_148 (by decide) (by omega) (fun c148 => ?_) (fun c148 => ?_)
                                  · refine g_iinc G 7 [(0, .ref q0), (1, .int (iI v)), (2, .int (iI f)), (3, .int (iI b)), (4, .int (iI i)), (5, .int (iI j)), (6, .int (iI m)), (7, .int (iI (l + 1))), (8, .int (iI 0))] dX10_isTable_178 rfl (by decide) rfl rfl ?_
                                    refine g_goto G 67 dX10_isTable_181 (by decide) ?_
                                    refine g_lv G [0, 1, 2, 3, 4, 5, 6, 7] (lv' := [(0, .ref q0), (1, .int (iI v)), (2, .int (iI f)), (3, .int (iI b)), (4, .int (iI i)), (5, .int (iI j)), (6, .int (iI m)), (7, .int (iI (l + 1)))]) rfl ?_
                                    exact ih67 (l + 1) (by first | assumption | omega) (by rw [nP_up _ _ hl1.1, hq2]; exact if_neg (fun q => by omega)) (by omega)
                                  · exfalso; omega
                                · refine g_aload_n G 0 dX10_isTable_97 rfl ?_
                                  refine g_iload G 6 dX10_isTable_98 rfl ?_
                                  refine g_iload G 7 dX10_isTable_100 rfl ?_
                                  refine g_iconst G dX10_isTable_102 ?_
                                  refine g_callV G [0, 1] [] 2 [] [.int (iI m), .int (iI l), .int (iI 1)] [] (c_X10_of E q0 q1 q2 q3 q4 q5 q6 q7 q8 q9 q10 q11 c0 la ch us g m l 1 (by first | assumption | omega) (by first | assumption | omega) (by first | assumption | omega)) dX10_isTable_103 gX10_isTable_X10_of ⟨rfl, ⟨rfl, rfl⟩, e_X10_of, ⟨Nat.le_of_ble_eq_true rfl, Nat.le_of_ble_eq_true rfl⟩, Nat.le_of_ble_eq_true rfl, Nat.le_of_ble_eq_true rfl, Nat.le_of_ble_eq_true rfl⟩ rfl rfl rfl rfl rfl (by decide +kernel) rfl (by decide +kernel) rfl (fun v9 w9 h9 => ?_)
                                  obtain ⟨o11, rfl, rfl, rfl⟩ := h9
                                  have b12 := hg (20 + 72 * m + 6 * l + 1)
                                  refine ⟨[(q0, .inr (10, [.ref q1, .ref q2, .ref q3, .int (iI c0), .ref q4, .ref q5, .int (iI la), .ref q6, .ref q7, .ref q8, .ref q9, .ref q10, .ref q11, .int (iI ch), .int (iI us)])), (q1, ia E 5400 g)], ⟨rfl, rfl, rfl, rfl⟩, g_to 0 0 _ _ [.int (iI (g (20 + 72 * m + 6 * l + 1)))] rfl rfl rfl rfl rfl ?_⟩
                                  refine g_aload_n G 0 dX10_isTable_106 rfl ?_
                                  refine g_iload G 4 dX10_isTable_107 rfl ?_
                                  refine g_iload G 5 dX10_isTable_109 rfl ?_
                                  refine g_iconst G dX10_isTable_111 ?_
                                  refine g_callV G [0, 1] [] 2 [] [.int (iI i), .int (iI j), .int (iI 1)] [.int (iI (g (20 + 72 * m + 6 * l + 1)))] (c_X10_of E q0 q1 q2 q3 q4 q5 q6 q7 q8 q9 q10 q11 c0 la ch us g i j 1 (by first | assumption | omega) (by first | assumption | omega) (by first | assumption | omega)) dX10_isTable_112 gX10_isTable_X10_of ⟨rfl, ⟨rfl, rfl⟩, e_X10_of, ⟨Nat.le_of_ble_eq_true rfl, Nat.le_of_ble_eq_true rfl⟩, Nat.le_of_ble_eq_true rfl, Nat.le_of_ble_eq_true rfl, Nat.le_of_ble_eq_true rfl⟩ rfl rfl rfl rfl rfl (by decide +kernel) rfl (by decide +kernel) rfl (fun v9 w9 h9 => ?_)
                                  obtain ⟨o13, rfl, rfl, rfl⟩ := h9
                                  have b14 := hg (20 + 72 * i + 6 * j + 1)
                                  refine ⟨[(q0, .inr (10, [.ref q1, .ref q2, .ref q3, .int (iI c0), .ref q4, .ref q5, .int (iI la), .ref q6, .ref q7, .ref q8, .ref q9, .ref q10, .ref q11, .int (iI ch), .int (iI us)])), (q1, ia E 5400 g)], ⟨rfl, rfl, rfl, rfl⟩, g_to 0 0 _ _ [.int (iI (g (20 + 72 * i + 6 * j + 1))), .int (iI (g (20 + 72 * m + 6 * l + 1)))] rfl rfl rfl rfl rfl ?_⟩
                                  refine g_icmp_ne G 143 dX10_isTable_115 (by decide) (by omega) (by omega) (fun c115 => ?_) (fun c115 => ?_)
                                  · refine g_iconst G dX10_isTable_143 ?_
                                    refine g_istore G [(0, .ref q0), (1, .int (iI v)), (2, .int (iI f)), (3, .int (iI b)), (4, .int (iI i)), (5, .int (iI j)), (6, .int (iI m)), (7, .int (iI l)), (8, .int (iI 0))] dX10_isTable_144 (by decide) rfl rfl ?_
                                    refine g_iload G 8 dX10_isTable_146 rfl ?_
                                    refine g_if_eq G 178 dX10_isTable_148 (by decide) (by omega) (fun c148 => ?_) (fun c148 => ?_)
                                    · refine g_iinc G 7 [(0, .ref q0), (1, .int (iI v)), (2, .int (iI f)), (3, .int (iI b)), (4, .int (iI i)), (5, .int (iI j)), (6, .int (iI m)), (7, .int (iI (l + 1))), (8, .int (iI 0))] dX10_isTable_178 rfl (by decide) rfl rfl ?_
                                      refine g_goto G 67 dX10_isTable_181 (by decide) ?_
                                      refine g_lv G [0, 1, 2, 3, 4, 5, 6, 7] (lv' := [(0, .ref q0), (1, .int (iI v)), (2, .int (iI f)), (3, .int (iI b)), (4, .int (iI i)), (5, .int (iI j)), (6, .int (iI m)), (7, .int (iI (l + 1)))]) rfl ?_
                                      exact ih67 (l + 1) (by first | assumption | omega) (by rw [nP_up _ _ hl1.1, hq2]; exact if_neg (fun q => by omega)) (by omega)
                                    · exfalso; omega
                                  · refine g_aload_n G 0 dX10_isTable_118 rfl ?_
                                    refine g_iload G 6 dX10_isTable_119 rfl ?_
                                    refine g_iload G 7 dX10_isTable_121 rfl ?_
                                    refine g_iconst G dX10_isTable_123 ?_
                                    refine g_callV G [0, 1] [] 2 [] [.int (iI m), .int (iI l), .int (iI 2)] [] (c_X10_of E q0 q1 q2 q3 q4 q5 q6 q7 q8 q9 q10 q11 c0 la ch us g m l 2 (by first | assumption | omega) (by first | assumption | omega) (by first | assumption | omega)) dX10_isTable_124 gX10_isTable_X10_of ⟨rfl, ⟨rfl, rfl⟩, e_X10_of, ⟨Nat.le_of_ble_eq_true rfl, Nat.le_of_ble_eq_true rfl⟩, Nat.le_of_ble_eq_true rfl, Nat.le_of_ble_eq_true rfl, Nat.le_of_ble_eq_true rfl⟩ rfl rfl rfl rfl rfl (by decide +kernel) rfl (by decide +kernel) rfl (fun v9 w9 h9 => ?_)
                                    obtain ⟨o15, rfl, rfl, rfl⟩ := h9
                                    have b16 := hg (20 + 72 * m + 6 * l + 2)
                                    refine ⟨[(q0, .inr (10, [.ref q1, .ref q2, .ref q3, .int (iI c0), .ref q4, .ref q5, .int (iI la), .ref q6, .ref q7, .ref q8, .ref q9, .ref q10, .ref q11, .int (iI ch), .int (iI us)])), (q1, ia E 5400 g)], ⟨rfl, rfl, rfl, rfl⟩, g_to 0 0 _ _ [.int (iI (g (20 + 72 * m + 6 * l + 2)))] rfl rfl rfl rfl rfl ?_⟩
                                    refine g_aload_n G 0 dX10_isTable_127 rfl ?_
                                    refine g_iload G 4 dX10_isTable_128 rfl ?_
                                    refine g_iload G 5 dX10_isTable_130 rfl ?_
                                    refine g_iconst G dX10_isTable_132 ?_
                                    refine g_callV G [0, 1] [] 2 [] [.int (iI i), .int (iI j), .int (iI 2)] [.int (iI (g (20 + 72 * m + 6 * l + 2)))] (c_X10_of E q0 q1 q2 q3 q4 q5 q6 q7 q8 q9 q10 q11 c0 la ch us g i j 2 (by first | assumption | omega) (by first | assumption | omega) (by first | assumption | omega)) dX10_isTable_133 gX10_isTable_X10_of ⟨rfl, ⟨rfl, rfl⟩, e_X10_of, ⟨Nat.le_of_ble_eq_true rfl, Nat.le_of_ble_eq_true rfl⟩, Nat.le_of_ble_eq_true rfl, Nat.le_of_ble_eq_true rfl, Nat.le_of_ble_eq_true rfl⟩ rfl rfl rfl rfl rfl (by decide +kernel) rfl (by decide +kernel) rfl (fun v9 w9 h9 => ?_)
                                    obtain ⟨o17, rfl, rfl, rfl⟩ := h9
                                    have b18 := hg (20 + 72 * i + 6 * j + 2)
                                    refine ⟨[(q0, .inr (10, [.ref q1, .ref q2, .ref q3, .int (iI c0), .ref q4, .ref q5, .int (iI la), .ref q6, .ref q7, .ref q8, .ref q9, .ref q10, .ref q11, .int (iI ch), .int (iI us)])), (q1, ia E 5400 g)], ⟨rfl, rfl, rfl, rfl⟩, g_to 0 0 _ _ [.int (iI (g (20 + 72 * i + 6 * j + 2))), .int (iI (g (20 + 72 * m + 6 * l + 2)))] rfl rfl rfl rfl rfl ?_⟩
                                    refine g_icmp_ne G 143 dX10_isTable_136 (by decide) (by omega) (by omega) (fun c136 => ?_) (fun c136 => ?_)
                                    · refine g_iconst G dX10_isTable_143 ?_
                                      refine g_istore G [(0, .ref q0), (1, .int (iI v)), (2, .int (iI f)), (3, .int (iI b)), (4, .int (iI i)), (5, .int (iI j)), (6, .int (iI m)), (7, .int (iI l)), (8, .int (iI 0))] dX10_isTable_144 (by decide) rfl rfl ?_
                                      refine g_iload G 8 dX10_isTable_146 rfl ?_
                                      refine g_if_eq G 178 dX10_isTable_148 (by decide) (by omega) (fun c148 => ?_) (fun c148 => ?_)
                                      · refine g_iinc G 7 [(0, .ref q0), (1, .int (iI v)), (2, .int (iI f)), (3, .int (iI b)), (4, .int (iI i)), (5, .int (iI j)), (6, .int (iI m)), (7, .int (iI (l + 1))), (8, .int (iI 0))] dX10_isTable_178 rfl (by decide) rfl rfl ?_
                                        refine g_goto G 67 dX10_isTable_181 (by decide) ?_
                                        refine g_lv G [0, 1, 2, 3, 4, 5, 6, 7] (lv' := [(0, .ref q0), (1, .int (iI v)), (2, .int (iI f)), (3, .int (iI b)), (4, .int (iI i)), (5, .int (iI j)), (6, .int (iI m)), (7, .int (iI (l + 1)))]) rfl ?_
                                        exact ih67 (l + 1) (by first | assumption | omega) (by rw [nP_up _ _ hl1.1, hq2]; exact if_neg (fun q => by omega)) (by omega)
                                      · exfalso; omega
                                    · refine g_iconst G dX10_isTable_139 ?_
                                      refine g_goto G 144 dX10_isTable_140 (by decide) ?_
                                      refine g_istore G [(0, .ref q0), (1, .int (iI v)), (2, .int (iI f)), (3, .int (iI b)), (4, .int (iI i)), (5, .int (iI j)), (6, .int (iI m)), (7, .int (iI l)), (8, .int (iI 1))] dX10_isTable_144 (by decide) rfl rfl ?_
                                      refine g_iload G 8 dX10_isTable_146 rfl ?_
                                      refine g_if_eq G 178 dX10_isTable_148 (by decide) (by omega) (fun c148 => ?_) (fun c148 => ?_)
                                      · exfalso; omega
                                      · refine g_aload_n G 0 dX10_isTable_151 rfl ?_
                                        refine g_iload G 6 dX10_isTable_152 rfl ?_
                                        refine g_iload G 7 dX10_isTable_154 rfl ?_
                                        refine g_iconst G dX10_isTable_156 ?_
                                        refine g_iload_n G 2 dX10_isTable_157 rfl ?_
                                        refine g_iadd G dX10_isTable_158 ?_
                                        refine g_callV G [0, 1] [] 2 [] [.int (iI m), .int (iI l), .int (iI (4 + f))] [] (c_X10_of E q0 q1 q2 q3 q4 q5 q6 q7 q8 q9 q10 q11 c0 la ch us g m l (4 + f) (by first | assumption | omega) (by first | assumption | omega) (by first | assumption | omega)) dX10_isTable_159 gX10_isTable_X10_of ⟨rfl, ⟨rfl, rfl⟩, e_X10_of, ⟨Nat.le_of_ble_eq_true rfl, Nat.le_of_ble_eq_true rfl⟩, Nat.le_of_ble_eq_true rfl, Nat.le_of_ble_eq_true rfl, Nat.le_of_ble_eq_true rfl⟩ rfl rfl rfl rfl rfl (by decide +kernel) rfl (by decide +kernel) rfl (fun v9 w9 h9 => ?_)
                                        obtain ⟨o19, rfl, rfl, rfl⟩ := h9
                                        have b20 := hg (20 + 72 * m + 6 * l + (4 + f))
                                        refine ⟨[(q0, .inr (10, [.ref q1, .ref q2, .ref q3, .int (iI c0), .ref q4, .ref q5, .int (iI la), .ref q6, .ref q7, .ref q8, .ref q9, .ref q10, .ref q11, .int (iI ch), .int (iI us)])), (q1, ia E 5400 g)], ⟨rfl, rfl, rfl, rfl⟩, g_to 0 0 _ _ [.int (iI (g (20 + 72 * m + 6 * l + (4 + f))))] rfl rfl rfl rfl rfl ?_⟩
                                        refine g_aload_n G 0 dX10_isTable_162 rfl ?_
                                        refine g_iload G 4 dX10_isTable_163 rfl ?_
                                        refine g_iload G 5 dX10_isTable_165 rfl ?_
                                        refine g_iconst G dX10_isTable_167 ?_
                                        refine g_iload_n G 2 dX10_isTable_168 rfl ?_
                                        refine g_iadd G dX10_isTable_169 ?_
                                        refine g_callV G [0, 1] [] 2 [] [.int (iI i), .int (iI j), .int (iI (4 + f))] [.int (iI (g (20 + 72 * m + 6 * l + (4 + f))))] (c_X10_of E q0 q1 q2 q3 q4 q5 q6 q7 q8 q9 q10 q11 c0 la ch us g i j (4 + f) (by first | assumption | omega) (by first | assumption | omega) (by first | assumption | omega)) dX10_isTable_170 gX10_isTable_X10_of ⟨rfl, ⟨rfl, rfl⟩, e_X10_of, ⟨Nat.le_of_ble_eq_true rfl, Nat.le_of_ble_eq_true rfl⟩, Nat.le_of_ble_eq_true rfl, Nat.le_of_ble_eq_true rfl, Nat.le_of_ble_eq_true rfl⟩ rfl rfl rfl rfl rfl (by decide +kernel) rfl (by decide +kernel) rfl (fun v9 w9 h9 => ?_)
                                        obtain ⟨o21, rfl, rfl, rfl⟩ := h9
                                        have b22 := hg (20 + 72 * i + 6 * j + (4 + f))
                                        refine ⟨[(q0, .inr (10, [.ref q1, .ref q2, .ref q3, .int (iI c0), .ref q4, .ref q5, .int (iI la), .ref q6, .ref q7, .ref q8, .ref q9, .ref q10, .ref q11, .int (iI ch), .int (iI us)])), (q1, ia E 5400 g)], ⟨rfl, rfl, rfl, rfl⟩, g_to 0 0 _ _ [.int (iI (g (20 + 72 * i + 6 * j + (4 + f)))), .int (iI (g (20 + 72 * m + 6 * l + (4 + f))))] rfl rfl rfl rfl rfl ?_⟩
                                        refine g_icmp_eq G 178 dX10_isTable_173 (by decide) (by omega) (by omega) (fun c173 => ?_) (fun c173 => ?_)
                                        · refine g_iinc G 7 [(0, .ref q0), (1, .int (iI v)), (2, .int (iI f)), (3, .int (iI b)), (4, .int (iI i)), (5, .int (iI j)), (6, .int (iI m)), (7, .int (iI (l + 1))), (8, .int (iI 1))] dX10_isTable_178 rfl (by decide) rfl rfl ?_
                                          refine g_goto G 67 dX10_isTable_181 (by decide) ?_
                                          refine g_lv G [0, 1, 2, 3, 4, 5, 6, 7] (lv' := [(0, .ref q0), (1, .int (iI v)), (2, .int (iI f)), (3, .int (iI b)), (4, .int (iI i)), (5, .int (iI j)), (6, .int (iI m)), (7, .int (iI (l + 1)))]) rfl ?_
                                          exact ih67 (l + 1) (by first | assumption | omega) (by rw [nP_up _ _ hl1.1, hq2]; exact if_neg (fun q => by omega)) (by omega)
                                        · have e9 : nR (tbS2 g v f i j) (fun r => g (10 + r)) b (g 0).toNat 1 = 0 := nR_exit (tbS2 g v f i j) (fun r => g (10 + r)) b hm1.1 (by omega) c81 hl1.1 (by show l < g (10 + m); omega) (by rw [nP_up _ _ hl1.1, hq, hq2]; exact if_pos ⟨rfl, c94, c115, c136, c173⟩) (fun r p => if_neg (fun q => by omega))
                                          have e8 : tbI g v f b = 0 := nR_exit (tbS g v f b) (fun r => g (10 + r)) b hi.1 (by omega) c31 hj.1 (by show j < g (10 + i); omega) (by rw [nP_up _ _ hj.1, ho, ho2]; exact if_pos ⟨rfl, c44, e9⟩) (fun r p => if_neg (fun q => by omega))
                                          refine g_iconst G dX10_isTable_176 ?_
                                          exact g_ret G (some (.int (iI 0))) rfl dX10_isTable_177 (Nat.le_refl _) (Nat.le_refl _) ⟨0, rfl, rfl, by rw [e8]; rfl⟩
                        exact L67 ((g (10 + m) - 0 : Int).toNat + 1) 0 (by first | assumption | omega) (by rfl) (by omega)
                  exact L53 ((g 0 - 0 : Int).toNat + 1) 0 (by first | assumption | omega) (by rfl) (by omega)
                · refine g_goto G 190 dX10_isTable_47 (by decide) ?_
                  refine g_iinc G 5 [(0, .ref q0), (1, .int (iI v)), (2, .int (iI f)), (3, .int (iI b)), (4, .int (iI i)), (5, .int (iI (j + 1)))] dX10_isTable_190 rfl (by decide) rfl rfl ?_
                  refine g_goto G 17 dX10_isTable_193 (by decide) ?_
                  exact ih17 (j + 1) (by first | assumption | omega) (by rw [nP_up _ _ hj.1, ho2]; first | exact if_neg (fun q => c44 q.2.1) | (refine if_neg (fun q => ?_); have q3 := q.2.2; rw [(show g 0 = m by omega), hq] at q3; exact absurd q3 (by decide))) (by omega)
        exact L17 ((g (10 + i) - 0 : Int).toNat + 1) 0 (by first | assumption | omega) (by rfl) (by omega)
  exact L3 ((g 0 - 0 : Int).toNat + 1) 0 (by first | assumption | omega) (by rfl) (by omega)
theorem f_X10_reckons_17 : Cond.fieldLink RX10 17 (TX10 2).1 (TX10 2).2.1 (TX10 2).2.2.1 ∈ wsX10_reckons := by decide +kernel
theorem i_X10_reckons_X10 : ∀ w ∈ wsX100, w ∈ wsX10_reckons := by decide +kernel
theorem e_X10_isThere : yX10_isThere.cls ≠ "java/lang/invoke/MethodHandle" ∧ yX10_isThere.cls ≠ "java/lang/invoke/VarHandle" ∧ (parseMethodDescriptor yX10_isThere.desc).map (fun d => d.parameters.length) = some 2 := by decide +kernel
theorem e_X10_isTable : yX10_isTable.cls ≠ "java/lang/invoke/MethodHandle" ∧ yX10_isTable.cls ≠ "java/lang/invoke/VarHandle" ∧ (parseMethodDescriptor yX10_isTable.desc).map (fun d => d.parameters.length) = some 3 := by decide +kernel
theorem e_X10_holds : yX10_holds.cls ≠ "java/lang/invoke/MethodHandle" ∧ yX10_holds.cls ≠ "java/lang/invoke/VarHandle" ∧ (parseMethodDescriptor yX10_holds.desc).map (fun d => d.parameters.length) = some 4 := by decide +kernel
theorem f_X10_reckons_77 : Cond.fieldLink RX10 77 (TX10 3).1 (TX10 3).2.1 (TX10 3).2.2.1 ∈ wsX10_reckons := by decide +kernel
set_option maxRecDepth 100000 in
set_option maxHeartbeats 4000000 in
theorem c_X10_reckons (E : qE) (q0 : Nat) (q1 : Nat) (q2 : Nat) (q3 : Nat) (q4 : Nat) (q5 : Nat) (q6 : Nat) (q7 : Nat) (q8 : Nat) (q9 : Nat) (q10 : Nat) (q11 : Nat) (c0 : Int) (la : Int) (ch : Int) (us : Int) (g : Int → Int) (u : Int → Int) (v : Int) (f : Int) (b : Int) (hG : AllOk g) (hX : ∀ i, 20 ≤ i → i < 596 → 0 ≤ g i ∧ g i < 100) (hv : 0 ≤ v ∧ v < 3) (hf : 0 ≤ f ∧ f < 2) (hb : -2147483648 ≤ b ∧ b < 2147483648) : Cn E yX10_reckons wsX10_reckons { frames := 4, cells := 0, slots := 0, locals := 99 } [.ref q0, .int (iI v), .int (iI f), .int (iI b)] [(q0, .inr (10, [.ref q1, .ref q2, .ref q3, .int (iI c0), .ref q4, .ref q5, .int (iI la), .ref q6, .ref q7, .ref q8, .ref q9, .ref q10, .ref q11, .int (iI ch), .int (iI us)])), (q1, ia E 5400 g), (q3, ia E 12 u)] (fun v9 w9 => ∃ (U : Int → Int) (c1 : Int), v9 = none ∧ w9 = [(q0, .inr (10, [.ref q1, .ref q2, .ref q3, .int (iI c1), .ref q4, .ref q5, .int (iI la), .ref q6, .ref q7, .ref q8, .ref q9, .ref q10, .ref q11, .int (iI ch), .int (iI us)])), (q1, ia E 5400 g), (q3, ia E 12 U)] ∧ (∀ j, U j = if j = 4 * v + 2 * f then (rkI g v f b).1 else if j = 4 * v + 2 * f + 1 then (rkI g v f b).2 else u j)) 0 0 := by
  refine Cn.ofP (own := RX10) (cc := cX10_reckons) (maxL := 6) (ret := none) false [(0, .ref q0), (1, .int (iI v)), (2, .int (iI f)), (3, .int (iI b))] (by decide +kernel) rfl rfl (Nat.le_of_ble_eq_true rfl) rfl (fun h => nomatch h) (fun v w h => by obtain ⟨U, c1, rfl, h9⟩ := h; exact (rfl : (none : Option FieldType) = none)) ?_
  intro P G
  obtain ⟨hg, hg0, hgs⟩ := id hG
  refine g_iconst G dX10_reckons_0 ?_
  refine g_iload_n G 1 dX10_reckons_1 rfl ?_
  refine g_imul G dX10_reckons_2 ?_
  refine g_iconst G dX10_reckons_3 ?_
  refine g_iload_n G 2 dX10_reckons_4 rfl ?_
  refine g_imul G dX10_reckons_5 ?_
  refine g_iadd G dX10_reckons_6 ?_
  refine g_istore G [(0, .ref q0), (1, .int (iI v)), (2, .int (iI f)), (3, .int (iI b)), (4, .int (iI ((4 * v) + (2 * f))))] dX10_reckons_7 (by decide) rfl rfl ?_
  refine g_aload_n G 0 dX10_reckons_9 rfl ?_
  refine g_get G 0 2 dX10_reckons_10 i_X10_reckons_X10 f_X10_reckons_17 rfl rfl (by decide) rfl ?_
  refine g_iload G 4 dX10_reckons_13 rfl ?_
  refine g_iconst G dX10_reckons_15 ?_
  refine g_iadd G dX10_reckons_16 ?_
  refine g_sipush G dX10_reckons_17 (by decide +kernel) ?_
  refine g_iast G 2 [(q0, .inr (10, [.ref q1, .ref q2, .ref q3, .int (iI c0), .ref q4, .ref q5, .int (iI la), .ref q6, .ref q7, .ref q8, .ref q9, .ref q10, .ref q11, .int (iI ch), .int (iI us)])), (q1, ia E 5400 g), (q3, ia E 12 (upI u (((4 * v) + (2 * f)) + 1) (-1000)))] dX10_reckons_20 rfl (by omega) (by omega) (by decide) rfl ?_
  refine g_aload_n G 0 dX10_reckons_21 rfl ?_
  refine g_get G 0 2 dX10_reckons_22 i_X10_reckons_X10 f_X10_reckons_17 rfl rfl (by decide) rfl ?_
  refine g_iload G 4 dX10_reckons_25 rfl ?_
  refine g_iconst G dX10_reckons_27 ?_
  refine g_iast G 2 [(q0, .inr (10, [.ref q1, .ref q2, .ref q3, .int (iI c0), .ref q4, .ref q5, .int (iI la), .ref q6, .ref q7, .ref q8, .ref q9, .ref q10, .ref q11, .int (iI ch), .int (iI us)])), (q1, ia E 5400 g), (q3, ia E 12 (upI (upI u (((4 * v) + (2 * f)) + 1) (-1000)) ((4 * v) + (2 * f)) (-1)))] dX10_reckons_28 rfl (by omega) (by omega) (by decide) rfl ?_
  refine g_aload_n G 0 dX10_reckons_29 rfl ?_
  refine g_iload_n G 1 dX10_reckons_30 rfl ?_
  refine g_iload_n G 3 dX10_reckons_31 rfl ?_
  refine g_callV G [0, 1] [2] 3 [(q3, ia E 12 (upI (upI u (((4 * v) + (2 * f)) + 1) (-1000)) ((4 * v) + (2 * f)) (-1)))] [.int (iI v), .int (iI b)] [] (c_X10_isThere E q0 q1 q2 q3 q4 q5 q6 q7 q8 q9 q10 q11 c0 la ch us g v b (by first | assumption | omega) (by first | assumption | omega) (by first | assumption | omega)) dX10_reckons_32 gX10_reckons_X10_isThere ⟨rfl, ⟨rfl, rfl⟩, e_X10_isThere, ⟨Nat.le_of_ble_eq_true rfl, Nat.le_of_ble_eq_true rfl⟩, Nat.le_of_ble_eq_true rfl, Nat.le_of_ble_eq_true rfl, Nat.le_of_ble_eq_true rfl⟩ rfl rfl rfl rfl rfl (by decide +kernel) rfl (by decide +kernel) rfl (fun v9 w9 h9 => ?_)
  obtain ⟨o1, rfl, rfl, rfl⟩ := h9
  refine ⟨[(q0, .inr (10, [.ref q1, .ref q2, .ref q3, .int (iI c0), .ref q4, .ref q5, .int (iI la), .ref q6, .ref q7, .ref q8, .ref q9, .ref q10, .ref q11, .int (iI ch), .int (iI us)])), (q1, ia E 5400 g), (q3, ia E 12 (upI (upI u (((4 * v) + (2 * f)) + 1) (-1000)) ((4 * v) + (2 * f)) (-1)))], ⟨rfl, rfl, rfl, rfl⟩, g_to 0 0 _ _ [.int (iI (if thI g v b = 1 then 1 else 0))] rfl rfl rfl rfl rfl ?_⟩
  refine g_ifb_ne G 39 dX10_reckons_35 (by decide) (fun c35 => ?_) (fun c35 => ?_)
  · refine g_aload_n G 0 dX10_reckons_39 rfl ?_
    refine g_get G 0 2 dX10_reckons_40 i_X10_reckons_X10 f_X10_reckons_17 rfl rfl (by decide) rfl ?_
    refine g_iload G 4 dX10_reckons_43 rfl ?_
    refine g_aload_n G 0 dX10_reckons_45 rfl ?_
    refine g_iload_n G 1 dX10_reckons_46 rfl ?_
    refine g_iload_n G 2 dX10_reckons_47 rfl ?_
    refine g_iload_n G 3 dX10_reckons_48 rfl ?_
    refine g_callV G [0, 1] [2] 3 [(q3, ia E 12 (upI (upI u (((4 * v) + (2 * f)) + 1) (-1000)) ((4 * v) + (2 * f)) (-1)))] [.int (iI v), .int (iI f), .int (iI b)] [.int (iI ((4 * v) + (2 * f))), .ref q3] (c_X10_isTable E q0 q1 q2 q3 q4 q5 q6 q7 q8 q9 q10 q11 c0 la ch us g v f b (by first | assumption | omega) (by first | assumption | omega) (by first | assumption | omega) (by first | assumption | omega)) dX10_reckons_49 gX10_reckons_X10_isTable ⟨rfl, ⟨rfl, rfl⟩, e_X10_isTable, ⟨Nat.le_of_ble_eq_true rfl, Nat.le_of_ble_eq_true rfl⟩, Nat.le_of_ble_eq_true rfl, Nat.le_of_ble_eq_true rfl, Nat.le_of_ble_eq_true rfl⟩ rfl rfl rfl rfl rfl (by decide +kernel) rfl (by decide +kernel) rfl (fun v9 w9 h9 => ?_)
    obtain ⟨o2, rfl, rfl, rfl⟩ := h9
    refine ⟨[(q0, .inr (10, [.ref q1, .ref q2, .ref q3, .int (iI c0), .ref q4, .ref q5, .int (iI la), .ref q6, .ref q7, .ref q8, .ref q9, .ref q10, .ref q11, .int (iI ch), .int (iI us)])), (q1, ia E 5400 g), (q3, ia E 12 (upI (upI u (((4 * v) + (2 * f)) + 1) (-1000)) ((4 * v) + (2 * f)) (-1)))], ⟨rfl, rfl, rfl, rfl⟩, g_to 0 0 _ _ [.int (iI (if tbI g v f b = 1 then 1 else 0)), .int (iI ((4 * v) + (2 * f))), .ref q3] rfl rfl rfl rfl rfl ?_⟩
    refine g_ifb_eq G 59 dX10_reckons_52 (by decide) (fun c52 => ?_) (fun c52 => ?_)
    · refine g_bipush G dX10_reckons_59 (by decide +kernel) ?_
      refine g_iast G 2 [(q0, .inr (10, [.ref q1, .ref q2, .ref q3, .int (iI c0), .ref q4, .ref q5, .int (iI la), .ref q6, .ref q7, .ref q8, .ref q9, .ref q10, .ref q11, .int (iI ch), .int (iI us)])), (q1, ia E 5400 g), (q3, ia E 12 (upI (upI (upI u (((4 * v) + (2 * f)) + 1) (-1000)) ((4 * v) + (2 * f)) (-1)) ((4 * v) + (2 * f)) 6))] dX10_reckons_61 rfl (by omega) (by omega) (by decide) rfl ?_
      have e8 : rkI g v f b = fkI g v f b 5 := if_pos c35
      refine g_iconst G dX10_reckons_62 ?_
      refine g_istore G [(0, .ref q0), (1, .int (iI v)), (2, .int (iI f)), (3, .int (iI b)), (4, .int (iI ((4 * v) + (2 * f)))), (5, .int (iI 4))] dX10_reckons_63 (by decide) rfl rfl ?_
      have L65 : ∀ (fuel : Nat), ∀ (i : Int) (U : Int → Int) (c1 : Int), (-1 ≤ i ∧ i ≤ 4) → ((∀ j, U j = if j = 4 * v + 2 * f then (fkI g v f b (4 - i).toNat).1 else if j = 4 * v + 2 * f + 1 then (fkI g v f b (4 - i).toNat).2 else u j)) → (i + 1 : Int).toNat < fuel → P 0 0 [(q0, .inr (10, [.ref q1, .ref q2, .ref q3, .int (iI c1), .ref q4, .ref q5, .int (iI la), .ref q6, .ref q7, .ref q8, .ref q9, .ref q10, .ref q11, .int (iI ch), .int (iI us)])), (q1, ia E 5400 g), (q3, ia E 12 U)] 65 [(0, .ref q0), (1, .int (iI v)), (2, .int (iI f)), (3, .int (iI b)), (4, .int (iI ((4 * v) + (2 * f)))), (5, .int (iI i))] [] := by
        intro fuel
        induction fuel with
        | zero => intro i U c1 hi hU hm; exact absurd hm (Nat.not_lt_zero _)
        | succ fuel ih65 =>
          intro i U c1 hi hU hm
          refine g_iload G 5 dX10_reckons_65 rfl ?_
          refine g_if_lt G 113 dX10_reckons_67 (by decide) (by omega) (fun c67 => ?_) (fun c67 => ?_)
          · exact g_ret G none rfl dX10_reckons_113 (Nat.le_refl _) (Nat.le_refl _) ⟨U, c1, rfl, rfl, by intro j; rw [e8]; have := hU j; rw [(show (4 - i).toNat = 5 by omega)] at this; exact this⟩
          · refine g_aload_n G 0 dX10_reckons_70 rfl ?_
            refine g_iload G 5 dX10_reckons_71 rfl ?_
            refine g_iload_n G 1 dX10_reckons_73 rfl ?_
            refine g_iload_n G 2 dX10_reckons_74 rfl ?_
            refine g_iload_n G 3 dX10_reckons_75 rfl ?_
            refine g_callV G [0, 1] [2] 3 [(q3, ia E 12 U)] [.int (iI i), .int (iI v), .int (iI f), .int (iI b)] [] (c_X10_holds E q0 q1 q2 q3 q4 q5 q6 q7 q8 q9 q10 q11 c1 la ch us g i v f b (by first | assumption | omega) (by first | assumption | omega) (by first | assumption | omega) (by first | assumption | omega) (by first | assumption | omega) (by first | assumption | omega)) dX10_reckons_76 gX10_reckons_X10_holds ⟨rfl, ⟨rfl, rfl⟩, e_X10_holds, ⟨Nat.le_of_ble_eq_true rfl, Nat.le_of_ble_eq_true rfl⟩, Nat.le_of_ble_eq_true rfl, Nat.le_of_ble_eq_true rfl, Nat.le_of_ble_eq_true rfl⟩ rfl rfl rfl rfl rfl (by decide +kernel) rfl (by decide +kernel) rfl (fun v9 w9 h9 => ?_)
            obtain ⟨hr, c2, rfl, rfl, hh⟩ := h9
            refine ⟨[(q0, .inr (10, [.ref q1, .ref q2, .ref q3, .int (iI c2), .ref q4, .ref q5, .int (iI la), .ref q6, .ref q7, .ref q8, .ref q9, .ref q10, .ref q11, .int (iI ch), .int (iI us)])), (q1, ia E 5400 g), (q3, ia E 12 U)], ⟨rfl, rfl, rfl, rfl⟩, g_to 0 0 _ _ [.int (iI hr)] rfl rfl rfl rfl rfl ?_⟩
            obtain ⟨ha1, ha2⟩ := hh
            have e7 := fkI_up g v f b (i := i) (by omega)
            refine g_if_ne G 85 dX10_reckons_79 (by decide) (by rw [ha2]; split <;> omega) (fun c79 => ?_) (fun c79 => ?_)
            · have hk9 : ¬ (hsT g i v f b = 1000 ∨ hsT g i v f b = 1001) := by intro q; rw [if_pos q] at ha2; exact c79 ha2
              have hc9 : c2 = hsT g i v f b := ha1 (by rw [ha2, if_neg hk9])
              rw [if_neg hk9] at e7
              refine g_aload_n G 0 dX10_reckons_85 rfl ?_
              refine g_get G 0 2 dX10_reckons_86 i_X10_reckons_X10 f_X10_reckons_17 rfl rfl (by decide) rfl ?_
              refine g_iload G 4 dX10_reckons_89 rfl ?_
              refine g_iload G 5 dX10_reckons_91 rfl ?_
              refine g_iast G 2 [(q0, .inr (10, [.ref q1, .ref q2, .ref q3, .int (iI c2), .ref q4, .ref q5, .int (iI la), .ref q6, .ref q7, .ref q8, .ref q9, .ref q10, .ref q11, .int (iI ch), .int (iI us)])), (q1, ia E 5400 g), (q3, ia E 12 (upI U ((4 * v) + (2 * f)) i))] dX10_reckons_93 rfl (by omega) (by omega) (by decide) rfl ?_
              refine g_aload_n G 0 dX10_reckons_94 rfl ?_
              refine g_get G 0 2 dX10_reckons_95 i_X10_reckons_X10 f_X10_reckons_17 rfl rfl (by decide) rfl ?_
              refine g_iload G 4 dX10_reckons_98 rfl ?_
              refine g_iconst G dX10_reckons_100 ?_
              refine g_iadd G dX10_reckons_101 ?_
              refine g_aload_n G 0 dX10_reckons_102 rfl ?_
              refine g_get G 0 3 dX10_reckons_103 i_X10_reckons_X10 f_X10_reckons_77 rfl rfl (by decide) rfl ?_
              refine g_iast G 2 [(q0, .inr (10, [.ref q1, .ref q2, .ref q3, .int (iI c2), .ref q4, .ref q5, .int (iI la), .ref q6, .ref q7, .ref q8, .ref q9, .ref q10, .ref q11, .int (iI ch), .int (iI us)])), (q1, ia E 5400 g), (q3, ia E 12 (upI (upI U ((4 * v) + (2 * f)) i) (((4 * v) + (2 * f)) + 1) c2))] dX10_reckons_106 rfl (by omega) (by omega) (by decide) rfl ?_
              refine g_iinc G 5 [(0, .ref q0), (1, .int (iI v)), (2, .int (iI f)), (3, .int (iI b)), (4, .int (iI ((4 * v) + (2 * f)))), (5, .int (iI (i + (-1))))] dX10_reckons_107 rfl (by decide) rfl rfl ?_
              refine g_goto G 65 dX10_reckons_110 (by decide) ?_
              exact ih65 (i + (-1)) (upI (upI U ((4 * v) + (2 * f)) i) (((4 * v) + (2 * f)) + 1) c2) c2 (by first | assumption | omega) (by intro j; rw [(show (4 - (i + -1)).toNat = (4 - i).toNat + 1 by omega), e7]; first | exact hU j | (have h5 := hU j; by_cases q1 : j = 4 * v + 2 * f; (rw [upI_ne _ _ (by omega), q1, upI_same, if_pos rfl]); (by_cases q2 : j = 4 * v + 2 * f + 1; (rw [q2, upI_same, if_neg (by omega), if_pos rfl, hc9]); (rw [upI_ne _ _ q2, upI_ne _ _ q1, h5, if_neg q1, if_neg q2, if_neg q1, if_neg q2])))) (by omega)
            · have hk9 : hsT g i v f b = 1000 ∨ hsT g i v f b = 1001 := by by_cases q : hsT g i v f b = 1000 ∨ hsT g i v f b = 1001; exact q; rw [if_neg q] at ha2; omega
              rw [if_pos hk9] at e7
              refine g_goto G 107 dX10_reckons_82 (by decide) ?_
              refine g_iinc G 5 [(0, .ref q0), (1, .int (iI v)), (2, .int (iI f)), (3, .int (iI b)), (4, .int (iI ((4 * v) + (2 * f)))), (5, .int (iI (i + (-1))))] dX10_reckons_107 rfl (by decide) rfl rfl ?_
              refine g_goto G 65 dX10_reckons_110 (by decide) ?_
              exact ih65 (i + (-1)) U c2 (by first | assumption | omega) (by intro j; rw [(show (4 - (i + -1)).toNat = (4 - i).toNat + 1 by omega), e7]; first | exact hU j | (have h5 := hU j; by_cases q1 : j = 4 * v + 2 * f; (rw [upI_ne _ _ (by omega), q1, upI_same, if_pos rfl]); (by_cases q2 : j = 4 * v + 2 * f + 1; (rw [q2, upI_same, if_neg (by omega), if_pos rfl, hc9]); (rw [upI_ne _ _ q2, upI_ne _ _ q1, h5, if_neg q1, if_neg q2, if_neg q1, if_neg q2])))) (by omega)
      exact L65 ((4 + 1 : Int).toNat + 1) 4 (upI (upI (upI u (((4 * v) + (2 * f)) + 1) (-1000)) ((4 * v) + (2 * f)) (-1)) ((4 * v) + (2 * f)) 6) c0 (by first | assumption | omega) (by intro j; show _ = if j = 4 * v + 2 * f then (if tbI g v f b = 1 then 5 else 6) else if j = 4 * v + 2 * f + 1 then -1000 else u j; simp only [upI_ap]; first | (rw [if_pos c52]; (repeat' split) <;> omega) | (rw [if_neg c52]; (repeat' split) <;> omega)) (by omega)
    · refine g_iconst G dX10_reckons_55 ?_
      refine g_goto G 61 dX10_reckons_56 (by decide) ?_
      refine g_iast G 2 [(q0, .inr (10, [.ref q1, .ref q2, .ref q3, .int (iI c0), .ref q4, .ref q5, .int (iI la), .ref q6, .ref q7, .ref q8, .ref q9, .ref q10, .ref q11, .int (iI ch), .int (iI us)])), (q1, ia E 5400 g), (q3, ia E 12 (upI (upI (upI u (((4 * v) + (2 * f)) + 1) (-1000)) ((4 * v) + (2 * f)) (-1)) ((4 * v) + (2 * f)) 5))] dX10_reckons_61 rfl (by omega) (by omega) (by decide) rfl ?_
      have e8 : rkI g v f b = fkI g v f b 5 := if_pos c35
      refine g_iconst G dX10_reckons_62 ?_
      refine g_istore G [(0, .ref q0), (1, .int (iI v)), (2, .int (iI f)), (3, .int (iI b)), (4, .int (iI ((4 * v) + (2 * f)))), (5, .int (iI 4))] dX10_reckons_63 (by decide) rfl rfl ?_
      have L65 : ∀ (fuel : Nat), ∀ (i : Int) (U : Int → Int) (c1 : Int), (-1 ≤ i ∧ i ≤ 4) → ((∀ j, U j = if j = 4 * v + 2 * f then (fkI g v f b (4 - i).toNat).1 else if j = 4 * v + 2 * f + 1 then (fkI g v f b (4 - i).toNat).2 else u j)) → (i + 1 : Int).toNat < fuel → P 0 0 [(q0, .inr (10, [.ref q1, .ref q2, .ref q3, .int (iI c1), .ref q4, .ref q5, .int (iI la), .ref q6, .ref q7, .ref q8, .ref q9, .ref q10, .ref q11, .int (iI ch), .int (iI us)])), (q1, ia E 5400 g), (q3, ia E 12 U)] 65 [(0, .ref q0), (1, .int (iI v)), (2, .int (iI f)), (3, .int (iI b)), (4, .int (iI ((4 * v) + (2 * f)))), (5, .int (iI i))] [] := by
        intro fuel
        induction fuel with
        | zero => intro i U c1 hi hU hm; exact absurd hm (Nat.not_lt_zero _)
        | succ fuel ih65 =>
          intro i U c1 hi hU hm
          refine g_iload G 5 dX10_reckons_65 rfl ?_
          refine g_if_lt G 113 dX10_reckons_67 (by decide) (by omega) (fun c67 => ?_) (fun c67 => ?_)
          · exact g_ret G none rfl dX10_reckons_113 (Nat.le_refl _) (Nat.le_refl _) ⟨U, c1, rfl, rfl, by intro j; rw [e8]; have := hU j; rw [(show (4 - i).toNat = 5 by omega)] at this; exact this⟩
          · refine g_aload_n G 0 dX10_reckons_70 rfl ?_
            refine g_iload G 5 dX10_reckons_71 rfl ?_
            refine g_iload_n G 1 dX10_reckons_73 rfl ?_
            refine g_iload_n G 2 dX10_reckons_74 rfl ?_
            refine g_iload_n G 3 dX10_reckons_75 rfl ?_
            refine g_callV G [0, 1] [2] 3 [(q3, ia E 12 U)] [.int (iI i), .int (iI v), .int (iI f), .int (iI b)] [] (c_X10_holds E q0 q1 q2 q3 q4 q5 q6 q7 q8 q9 q10 q11 c1 la ch us g i v f b (by first | assumption | omega) (by first | assumption | omega) (by first | assumption | omega) (by first | assumption | omega) (by first | assumption | omega) (by first | assumption | omega)) dX10_reckons_76 gX10_reckons_X10_holds ⟨rfl, ⟨rfl, rfl⟩, e_X10_holds, ⟨Nat.le_of_ble_eq_true rfl, Nat.le_of_ble_eq_true rfl⟩, Nat.le_of_ble_eq_true rfl, Nat.le_of_ble_eq_true rfl, Nat.le_of_ble_eq_true rfl⟩ rfl rfl rfl rfl rfl (by decide +kernel) rfl (by decide +kernel) rfl (fun v9 w9 h9 => ?_)
            obtain ⟨hr, c2, rfl, rfl, hh⟩ := h9
            refine ⟨[(q0, .inr (10, [.ref q1, .ref q2, .ref q3, .int (iI c2), .ref q4, .ref q5, .int (iI la), .ref q6, .ref q7, .ref q8, .ref q9, .ref q10, .ref q11, .int (iI ch), .int (iI us)])), (q1, ia E 5400 g), (q3, ia E 12 U)], ⟨rfl, rfl, rfl, rfl⟩, g_to 0 0 _ _ [.int (iI hr)] rfl rfl rfl rfl rfl ?_⟩
            obtain ⟨ha1, ha2⟩ := hh
            have e7 := fkI_up g v f b (i := i) (by omega)
            refine g_if_ne G 85 dX10_reckons_79 (by decide) (by rw [ha2]; split <;> omega) (fun c79 => ?_) (fun c79 => ?_)
            · have hk9 : ¬ (hsT g i v f b = 1000 ∨ hsT g i v f b = 1001) := by intro q; rw [if_pos q] at ha2; exact c79 ha2
              have hc9 : c2 = hsT g i v f b := ha1 (by rw [ha2, if_neg hk9])
              rw [if_neg hk9] at e7
              refine g_aload_n G 0 dX10_reckons_85 rfl ?_
              refine g_get G 0 2 dX10_reckons_86 i_X10_reckons_X10 f_X10_reckons_17 rfl rfl (by decide) rfl ?_
              refine g_iload G 4 dX10_reckons_89 rfl ?_
              refine g_iload G 5 dX10_reckons_91 rfl ?_
              refine g_iast G 2 [(q0, .inr (10, [.ref q1, .ref q2, .ref q3, .int (iI c2), .ref q4, .ref q5, .int (iI la), .ref q6, .ref q7, .ref q8, .ref q9, .ref q10, .ref q11, .int (iI ch), .int (iI us)])), (q1, ia E 5400 g), (q3, ia E 12 (upI U ((4 * v) + (2 * f)) i))] dX10_reckons_93 rfl (by omega) (by omega) (by decide) rfl ?_
              refine g_aload_n G 0 dX10_reckons_94 rfl ?_
              refine g_get G 0 2 dX10_reckons_95 i_X10_reckons_X10 f_X10_reckons_17 rfl rfl (by decide) rfl ?_
              refine g_iload G 4 dX10_reckons_98 rfl ?_
              refine g_iconst G dX10_reckons_100 ?_
              refine g_iadd G dX10_reckons_101 ?_
              refine g_aload_n G 0 dX10_reckons_102 rfl ?_
              refine g_get G 0 3 dX10_reckons_103 i_X10_reckons_X10 f_X10_reckons_77 rfl rfl (by decide) rfl ?_
              refine g_iast G 2 [(q0, .inr (10, [.ref q1, .ref q2, .ref q3, .int (iI c2), .ref q4, .ref q5, .int (iI la), .ref q6, .ref q7, .ref q8, .ref q9, .ref q10, .ref q11, .int (iI ch), .int (iI us)])), (q1, ia E 5400 g), (q3, ia E 12 (upI (upI U ((4 * v) + (2 * f)) i) (((4 * v) + (2 * f)) + 1) c2))] dX10_reckons_106 rfl (by omega) (by omega) (by decide) rfl ?_
              refine g_iinc G 5 [(0, .ref q0), (1, .int (iI v)), (2, .int (iI f)), (3, .int (iI b)), (4, .int (iI ((4 * v) + (2 * f)))), (5, .int (iI (i + (-1))))] dX10_reckons_107 rfl (by decide) rfl rfl ?_
              refine g_goto G 65 dX10_reckons_110 (by decide) ?_
              exact ih65 (i + (-1)) (upI (upI U ((4 * v) + (2 * f)) i) (((4 * v) + (2 * f)) + 1) c2) c2 (by first | assumption | omega) (by intro j; rw [(show (4 - (i + -1)).toNat = (4 - i).toNat + 1 by omega), e7]; first | exact hU j | (have h5 := hU j; by_cases q1 : j = 4 * v + 2 * f; (rw [upI_ne _ _ (by omega), q1, upI_same, if_pos rfl]); (by_cases q2 : j = 4 * v + 2 * f + 1; (rw [q2, upI_same, if_neg (by omega), if_pos rfl, hc9]); (rw [upI_ne _ _ q2, upI_ne _ _ q1, h5, if_neg q1, if_neg q2, if_neg q1, if_neg q2])))) (by omega)
            · have hk9 : hsT g i v f b = 1000 ∨ hsT g i v f b = 1001 := by by_cases q : hsT g i v f b = 1000 ∨ hsT g i v f b = 1001; exact q; rw [if_neg q] at ha2; omega
              rw [if_pos hk9] at e7
              refine g_goto G 107 dX10_reckons_82 (by decide) ?_
              refine g_iinc G 5 [(0, .ref q0), (1, .int (iI v)), (2, .int (iI f)), (3, .int (iI b)), (4, .int (iI ((4 * v) + (2 * f)))), (5, .int (iI (i + (-1))))] dX10_reckons_107 rfl (by decide) rfl rfl ?_
              refine g_goto G 65 dX10_reckons_110 (by decide) ?_
              exact ih65 (i + (-1)) U c2 (by first | assumption | omega) (by intro j; rw [(show (4 - (i + -1)).toNat = (4 - i).toNat + 1 by omega), e7]; first | exact hU j | (have h5 := hU j; by_cases q1 : j = 4 * v + 2 * f; (rw [upI_ne _ _ (by omega), q1, upI_same, if_pos rfl]); (by_cases q2 : j = 4 * v + 2 * f + 1; (rw [q2, upI_same, if_neg (by omega), if_pos rfl, hc9]); (rw [upI_ne _ _ q2, upI_ne _ _ q1, h5, if_neg q1, if_neg q2, if_neg q1, if_neg q2])))) (by omega)
      exact L65 ((4 + 1 : Int).toNat + 1) 4 (upI (upI (upI u (((4 * v) + (2 * f)) + 1) (-1000)) ((4 * v) + (2 * f)) (-1)) ((4 * v) + (2 * f)) 5) c0 (by first | assumption | omega) (by intro j; show _ = if j = 4 * v + 2 * f then (if tbI g v f b = 1 then 5 else 6) else if j = 4 * v + 2 * f + 1 then -1000 else u j; simp only [upI_ap]; first | (rw [if_pos c52]; (repeat' split) <;> omega) | (rw [if_neg c52]; (repeat' split) <;> omega)) (by omega)
  · have e9 : rkI g v f b = (-1, -1000) := if_neg c35
    exact g_ret G none rfl dX10_reckons_38 (Nat.le_refl _) (Nat.le_refl _) ⟨(upI (upI u (((4 * v) + (2 * f)) + 1) (-1000)) ((4 * v) + (2 * f)) (-1)), c0, rfl, rfl, by intro j; rw [e9]; simp only [upI_ap]⟩
