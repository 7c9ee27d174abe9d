def VbOk (g : Int → Int) : Prop := ∀ r p, 0 ≤ r → r < 8 → 0 ≤ p → p < 12 → 0 ≤ g (20 + 72 * r + 6 * p + 0) ∧ g (20 + 72 * r + 6 * p + 0) < 3
/-- the reference's machine by the rows but b: how many states, where it leads, what it tells -/
def MacR (g : Int → Int) (b r : Int) (lr lp : Int → Int) (la : Int) (t c : Int → Int) : Prop :=
  (la = 0 ∧ r = 0 ∧ ∀ j, 0 ≤ j ∧ j < 12 → t j = -1 ∧ c j = -1) ∨
  (0 < la ∧ (1 ≤ r ∧ r ≤ 4) ∧ BestP (tpP lp la) (tpV g lr lp la) (tpC g lr lp la) la.toNat r t c ∧ ∀ n, 1 ≤ n ∧ n < r → ∀ τ, ¬ SolP (tpP lp la) (tpV g lr lp la) (tpC g lr lp la) la.toNat n τ) ∨
  (0 < la ∧ r = -1 ∧ ∀ n, 1 ≤ n ∧ n ≤ 4 → ∀ τ, ¬ SolP (tpP lp la) (tpV g lr lp la) (tpC g lr lp la) la.toNat n τ)
theorem nP_inv {S : Type} {f : Int → Int → S → S} {Q : S → Prop} {r : Int} : ∀ (n : Nat) (s : S), Q s → (∀ p s, 0 ≤ p ∧ p < (n : Int) → Q s → Q (f r p s)) → Q (nP f r n s)
  | 0, _, h, _ => h
  | n + 1, s, h, hs => hs n _ (by omega) (nP_inv n s h (fun p s hp q => hs p s (by omega) q))
theorem nR_inv {S : Type} {f : Int → Int → S → S} {L : Int → Int} {b : Int} {Q : S → Prop} : ∀ (n : Nat) (s : S), Q s → (∀ r p s, 0 ≤ r ∧ r < (n : Int) → r ≠ b → 0 ≤ p ∧ p < L r → Q s → Q (f r p s)) → Q (nR f L b n s)
  | 0, _, h, _ => h
  | n + 1, s, h, hs => by
    have ih := nR_inv n s h (fun r p s hr hb hp q => hs r p s (by omega) hb hp q)
    show Q (if (n : Int) = b then nR f L b n s else nP f n (L n).toNat (nR f L b n s))
    split
    · exact ih
    · rename_i hb
      exact nP_inv _ _ ih (fun p s hp q => hs n p s (by omega) hb (by omega) q)
theorem ly_ok {g lr lp lr1 lp1 : Int → Int} {b la : Int} (hG : AllOk g) (hV : VbOk g) (h : lyI g b lr lp = (lr1, lp1, la)) : TpOk g lr1 lp1 la := by
  have key := nR_inv (f := lyS) (L := fun r => g (10 + r)) (b := b) (Q := fun S => 0 ≤ S.2.2 ∧ ∀ k, 0 ≤ k ∧ k < S.2.2 → (0 ≤ S.1 k ∧ S.1 k < 8) ∧ (0 ≤ S.2.1 k ∧ S.2.1 k < 12)) (g 0).toNat (lr, lp, 0) ⟨Int.le_refl _, fun k hk => by dsimp only at hk; omega⟩ (fun r p S hr _ hp hq => by
    obtain ⟨_, g0, gs⟩ := hG
    have e := gs r (by omega) (by omega)
    refine ⟨?_, fun k hk => ?_⟩
    · show 0 ≤ S.2.2 + 1
      omega
    · have hk2 : 0 ≤ k ∧ k < S.2.2 + 1 := hk
      show (0 ≤ upI S.1 S.2.2 r k ∧ upI S.1 S.2.2 r k < 8) ∧ 0 ≤ upI S.2.1 S.2.2 p k ∧ upI S.2.1 S.2.2 p k < 12
      (try dsimp only at hp)
      unfold upI
      by_cases z : k = S.2.2
      · rw [if_pos z, if_pos z]; omega
      · rw [if_neg z, if_neg z]; exact hq.2 k (by omega))
  have e2 : nR lyS (fun r => g (10 + r)) b (g 0).toNat (lr, lp, 0) = (lr1, lp1, la) := h
  rw [e2] at key
  intro k hk
  have a := key.2 k hk
  exact ⟨a.1, a.2, hV _ _ a.1.1 a.1.2 a.2.1 a.2.2⟩
theorem e_X10_lays : yX10_lays.cls ≠ "java/lang/invoke/MethodHandle" ∧ yX10_lays.cls ≠ "java/lang/invoke/VarHandle" ∧ (parseMethodDescriptor yX10_lays.desc).map (fun d => d.parameters.length) = some 1 := by decide +kernel
theorem f_X10_machine_96 : Cond.fieldLink RX10 96 (TX10 6).1 (TX10 6).2.1 (TX10 6).2.2.1 ∈ wsX10_machine := by decide +kernel
theorem i_X10_machine_X10 : ∀ w ∈ wsX100, w ∈ wsX10_machine := by decide +kernel
theorem e_X10_finds : yX10_finds.cls ≠ "java/lang/invoke/MethodHandle" ∧ yX10_finds.cls ≠ "java/lang/invoke/VarHandle" ∧ (parseMethodDescriptor yX10_finds.desc).map (fun d => d.parameters.length) = some 1 := by decide +kernel
theorem f_X10_machine_26 : Cond.fieldLink RX10 26 (TX10 7).1 (TX10 7).2.1 (TX10 7).2.2.1 ∈ wsX10_machine := by decide +kernel
theorem f_X10_machine_29 : Cond.fieldLink RX10 29 (TX10 8).1 (TX10 8).2.1 (TX10 8).2.2.1 ∈ wsX10_machine := by decide +kernel
set_option maxRecDepth 100000 in
set_option maxHeartbeats 4000000 in
theorem c_X10_machine (E : qE) (q0 : Nat) (q1 : Nat) (q2 : Nat) (q3 : Nat) (q4 : Nat) (q5 : Nat) (q6 : Nat) (q7 : Nat) (q8 : Nat) (q9 : Nat) (q10 : Nat) (q11 : Nat) (c0 : Int) (la : Int) (ch : Int) (us : Int) (g : Int → Int) (lr : Int → Int) (lp : Int → Int) (t : Int → Int) (c : Int → Int) (ac : Int → Int) (co : Int → Int) (cs : Int → Int) (ut : Int → Int) (b : Int) (hG : AllOk g) (hV : VbOk g) (hb : -2147483648 ≤ b ∧ b < 2147483648) (hc0 : ∀ i, -100000 ≤ c i ∧ c i ≤ 100000) : Cn E yX10_machine wsX10_machine { frames := 2, cells := 0, slots := 0, locals := 49 } [.ref q0, .int (iI b)] [(q0, .inr (10, [.ref q1, .ref q2, .ref q3, .int (iI c0), .ref q4, .ref q5, .int (iI la), .ref q6, .ref q7, .ref q8, .ref q9, .ref q10, .ref q11, .int (iI ch), .int (iI us)])), (q1, ia E 5400 g), (q4, ia E 96 lr), (q5, ia E 96 lp), (q6, ia E 12 t), (q7, ia E 12 c), (q8, ia E 12 ac), (q9, ia E 12 co), (q10, ia E 12 cs), (q11, ia E 12 ut)] (fun v9 w9 => ∃ (r : Int) (lr1 : Int → Int) (lp1 : Int → Int) (la1 : Int) (t1 : Int → Int) (c1 : Int → Int) (ac1 : Int → Int) (co1 : Int → Int) (cs1 : Int → Int) (ut1 : Int → Int) (h1 : Int) (u1 : Int), v9 = some (.int (iI r)) ∧ w9 = [(q0, .inr (10, [.ref q1, .ref q2, .ref q3, .int (iI c0), .ref q4, .ref q5, .int (iI la1), .ref q6, .ref q7, .ref q8, .ref q9, .ref q10, .ref q11, .int (iI h1), .int (iI u1)])), (q1, ia E 5400 g), (q4, ia E 96 lr1), (q5, ia E 96 lp1), (q6, ia E 12 t1), (q7, ia E 12 c1), (q8, ia E 12 ac1), (q9, ia E 12 co1), (q10, ia E 12 cs1), (q11, ia E 12 ut1)] ∧ (MacR g b r lr1 lp1 la1 t1 c1) ∧ (lyI g b lr lp = (lr1, lp1, la1)) ∧ (∀ i, -100000 ≤ c1 i ∧ c1 i ≤ 100000)) 0 0 := by
  refine Cn.ofP (own := RX10) (cc := cX10_machine) (maxL := 3) (ret := (some .int)) false [(0, .ref q0), (1, .int (iI b))] (by decide +kernel) rfl rfl (Nat.le_of_ble_eq_true rfl) rfl (fun h => nomatch h) (fun v w h => by obtain ⟨r, lr1, lp1, la1, t1, c1, ac1, co1, cs1, ut1, h1, u1, rfl, h9⟩ := h; exact ⟨_, rfl, rfl⟩) ?_
  intro P G
  obtain ⟨hg, hg0, hgs⟩ := id hG
  refine g_aload_n G 0 dX10_machine_0 rfl ?_
  refine g_iload_n G 1 dX10_machine_1 rfl ?_
  refine g_callV G [0, 1, 2, 3] [4, 5, 6, 7, 8, 9] 10 [(q6, ia E 12 t), (q7, ia E 12 c), (q8, ia E 12 ac), (q9, ia E 12 co), (q10, ia E 12 cs), (q11, ia E 12 ut)] [.int (iI b)] [] (c_X10_lays E q0 q1 q2 q3 q4 q5 q6 q7 q8 q9 q10 q11 c0 la ch us g lr lp b (by exact hG) (by first | assumption | omega)) dX10_machine_2 gX10_machine_X10_lays ⟨rfl, ⟨rfl, rfl⟩, e_X10_lays, ⟨Nat.le_of_ble_eq_true rfl, Nat.le_of_ble_eq_true rfl⟩, Nat.le_of_ble_eq_true rfl, Nat.le_of_ble_eq_true rfl, Nat.le_of_ble_eq_true rfl⟩ rfl rfl rfl rfl rfl (by decide +kernel) rfl (by decide +kernel) rfl (fun v9 w9 h9 => ?_)
  obtain ⟨lq, lo, lb, rfl, rfl, hl2, hn2⟩ := h9
  refine ⟨[(q0, .inr (10, [.ref q1, .ref q2, .ref q3, .int (iI c0), .ref q4, .ref q5, .int (iI lb), .ref q6, .ref q7, .ref q8, .ref q9, .ref q10, .ref q11, .int (iI ch), .int (iI us)])), (q1, ia E 5400 g), (q4, ia E 96 lq), (q5, ia E 96 lo), (q6, ia E 12 t), (q7, ia E 12 c), (q8, ia E 12 ac), (q9, ia E 12 co), (q10, ia E 12 cs), (q11, ia E 12 ut)], ⟨rfl, rfl, rfl, rfl⟩, g_to 0 0 _ _ [] rfl rfl rfl rfl rfl ?_⟩
  have hT := ly_ok hG hV hl2
  refine g_iconst G dX10_machine_5 ?_
  refine g_istore_n G [(0, .ref q0), (1, .int (iI b)), (2, .int (iI 0))] dX10_machine_6 (by decide) rfl rfl ?_
  have L7 : ∀ (fuel : Nat), ∀ (i : Int) (U : Int → Int) (W : Int → Int), (0 ≤ i ∧ i ≤ 12) → (U = fiI t i (-1)) → (W = fiI c i (-1)) → (12 - i : Int).toNat < fuel → P 0 0 [(q0, .inr (10, [.ref q1, .ref q2, .ref q3, .int (iI c0), .ref q4, .ref q5, .int (iI lb), .ref q6, .ref q7, .ref q8, .ref q9, .ref q10, .ref q11, .int (iI ch), .int (iI us)])), (q1, ia E 5400 g), (q4, ia E 96 lq), (q5, ia E 96 lo), (q6, ia E 12 U), (q7, ia E 12 W), (q8, ia E 12 ac), (q9, ia E 12 co), (q10, ia E 12 cs), (q11, ia E 12 ut)] 7 [(0, .ref q0), (1, .int (iI b)), (2, .int (iI i))] [] := by
    intro fuel
    induction fuel with
    | zero => intro i U W hi hU hW hm; exact absurd hm (Nat.not_lt_zero _)
    | succ fuel ih7 =>
      intro i U W hi hU hW hm
      refine g_iload_n G 2 dX10_machine_7 rfl ?_
      refine g_bipush G dX10_machine_8 (by decide +kernel) ?_
      refine g_icmp_ge G 33 dX10_machine_10 (by decide) (by omega) (by omega) (fun c10 => ?_) (fun c10 => ?_)
      · refine g_aload_n G 0 dX10_machine_33 rfl ?_
        refine g_get G 0 6 dX10_machine_34 i_X10_machine_X10 f_X10_machine_96 rfl rfl (by decide) rfl ?_
        refine g_if_ne G 42 dX10_machine_37 (by decide) (by omega) (fun c37 => ?_) (fun c37 => ?_)
        · have hla0 : 0 < lb := by omega
          refine g_iconst G dX10_machine_42 ?_
          refine g_istore_n G [(0, .ref q0), (1, .int (iI b)), (2, .int (iI 1))] dX10_machine_43 (by decide) rfl rfl ?_
          have L44 : ∀ (fuel : Nat), ∀ (x : Int) (t1 : Int → Int) (c1 : Int → Int) (ac1 : Int → Int) (co1 : Int → Int) (cs1 : Int → Int) (ut1 : Int → Int) (h1 : Int) (u1 : Int), (1 ≤ x ∧ x ≤ 5) → (∀ i, -100000 ≤ c1 i ∧ c1 i ≤ 100000) → (∀ n, 1 ≤ n ∧ n < x → ∀ τ, ¬ SolP (tpP lo lb) (tpV g lq lo lb) (tpC g lq lo lb) lb.toNat n τ) → (5 - x : Int).toNat < fuel → P 0 0 [(q0, .inr (10, [.ref q1, .ref q2, .ref q3, .int (iI c0), .ref q4, .ref q5, .int (iI lb), .ref q6, .ref q7, .ref q8, .ref q9, .ref q10, .ref q11, .int (iI h1), .int (iI u1)])), (q1, ia E 5400 g), (q4, ia E 96 lq), (q5, ia E 96 lo), (q6, ia E 12 t1), (q7, ia E 12 c1), (q8, ia E 12 ac1), (q9, ia E 12 co1), (q10, ia E 12 cs1), (q11, ia E 12 ut1)] 44 [(0, .ref q0), (1, .int (iI b)), (2, .int (iI x))] [] := by
            intro fuel
            induction fuel with
            | zero => intro x t1 c1 ac1 co1 cs1 ut1 h1 u1 hx hc hno hm; exact absurd hm (Nat.not_lt_zero _)
            | succ fuel ih44 =>
              intro x t1 c1 ac1 co1 cs1 ut1 h1 u1 hx hc hno hm
              refine g_iload_n G 2 dX10_machine_44 rfl ?_
              refine g_iconst G dX10_machine_45 ?_
              refine g_icmp_gt G 65 dX10_machine_46 (by decide) (by omega) (by omega) (fun c46 => ?_) (fun c46 => ?_)
              · refine g_iconst G dX10_machine_65 ?_
                exact g_ret G (some (.int (iI (-1)))) rfl dX10_machine_66 (Nat.le_refl _) (Nat.le_refl _) ⟨(-1), lq, lo, lb, t1, c1, ac1, co1, cs1, ut1, h1, u1, rfl, rfl, by exact Or.inr (Or.inr ⟨hla0, rfl, fun n hn => hno n (by omega)⟩), by exact hl2, by exact hc⟩
              · refine g_aload_n G 0 dX10_machine_49 rfl ?_
                refine g_iload_n G 2 dX10_machine_50 rfl ?_
                refine g_callV G [0, 1, 2, 3, 4, 5, 6, 7, 8, 9] [] 10 [] [.int (iI x)] [] (c_X10_finds E q0 q1 q2 q3 q4 q5 q6 q7 q8 q9 q10 q11 c0 lb h1 u1 g lq lo t1 c1 ac1 co1 cs1 ut1 x (by exact hG) (by omega) (by omega) (by exact hT) (by exact hc)) dX10_machine_51 gX10_machine_X10_finds ⟨rfl, ⟨rfl, rfl⟩, e_X10_finds, ⟨Nat.le_of_ble_eq_true rfl, Nat.le_of_ble_eq_true rfl⟩, Nat.le_of_ble_eq_true rfl, Nat.le_of_ble_eq_true rfl, Nat.le_of_ble_eq_true rfl⟩ rfl rfl rfl rfl rfl (by decide +kernel) rfl (by decide +kernel) rfl (fun v9 w9 h9 => ?_)
                obtain ⟨rr, t1_1, c1_2, ac1_3, co1_4, cs1_5, ut1_6, h1_7, u1_8, rfl, rfl, hr2, hc2⟩ := h9
                refine ⟨[(q0, .inr (10, [.ref q1, .ref q2, .ref q3, .int (iI c0), .ref q4, .ref q5, .int (iI lb), .ref q6, .ref q7, .ref q8, .ref q9, .ref q10, .ref q11, .int (iI h1_7), .int (iI u1_8)])), (q1, ia E 5400 g), (q4, ia E 96 lq), (q5, ia E 96 lo), (q6, ia E 12 t1_1), (q7, ia E 12 c1_2), (q8, ia E 12 ac1_3), (q9, ia E 12 co1_4), (q10, ia E 12 cs1_5), (q11, ia E 12 ut1_6)], ⟨rfl, rfl, rfl, rfl⟩, g_to 0 0 _ _ [.int (iI rr)] rfl rfl rfl rfl rfl ?_⟩
                refine g_if_eq G 59 dX10_machine_54 (by decide) (by rcases hr2 with q | q <;> omega) (fun c54 => ?_) (fun c54 => ?_)
                · refine g_iinc G 2 [(0, .ref q0), (1, .int (iI b)), (2, .int (iI (x + 1)))] dX10_machine_59 rfl (by decide) rfl rfl ?_
                  refine g_goto G 44 dX10_machine_62 (by decide) ?_
                  exact ih44 (x + 1) t1_1 c1_2 ac1_3 co1_4 cs1_5 ut1_6 h1_7 u1_8 (by first | assumption | omega) (by exact hc2) (by intro n hn; rcases (show n = x ∨ n < x by omega) with z | z; (subst z; rcases hr2 with q | q; (have q1 := q.1; omega); exact q.2); exact hno n (by omega)) (by omega)
                · refine g_iload_n G 2 dX10_machine_57 rfl ?_
                  exact g_ret G (some (.int (iI x))) rfl dX10_machine_58 (Nat.le_refl _) (Nat.le_refl _) ⟨x, lq, lo, lb, t1_1, c1_2, ac1_3, co1_4, cs1_5, ut1_6, h1_7, u1_8, rfl, rfl, by rcases hr2 with q | q; exact Or.inr (Or.inl ⟨hla0, by omega, q.2, hno⟩); (have q1 := q.1; omega), by exact hl2, by exact hc2⟩
          exact L44 ((5 - 1 : Int).toNat + 1) 1 U W ac co cs ut ch us (by first | assumption | omega) (by rw [hW]; intro j; have := hc0 j; unfold fiI; split <;> omega) (by intro n hn; omega) (by omega)
        · refine g_iconst G dX10_machine_40 ?_
          exact g_ret G (some (.int (iI 0))) rfl dX10_machine_41 (Nat.le_refl _) (Nat.le_refl _) ⟨0, lq, lo, lb, U, W, ac, co, cs, ut, ch, us, rfl, rfl, by exact Or.inl ⟨by omega, rfl, fun j hj => by rw [hU, hW]; unfold fiI; rw [if_pos (by omega), if_pos (by omega)]; exact ⟨rfl, rfl⟩⟩, by exact hl2, by rw [hW]; intro j; have := hc0 j; unfold fiI; split <;> omega⟩
      · refine g_aload_n G 0 dX10_machine_13 rfl ?_
        refine g_get G 0 7 dX10_machine_14 i_X10_machine_X10 f_X10_machine_26 rfl rfl (by decide) rfl ?_
        refine g_iload_n G 2 dX10_machine_17 rfl ?_
        refine g_iconst G dX10_machine_18 ?_
        refine g_iast G 4 [(q0, .inr (10, [.ref q1, .ref q2, .ref q3, .int (iI c0), .ref q4, .ref q5, .int (iI lb), .ref q6, .ref q7, .ref q8, .ref q9, .ref q10, .ref q11, .int (iI ch), .int (iI us)])), (q1, ia E 5400 g), (q4, ia E 96 lq), (q5, ia E 96 lo), (q6, ia E 12 (upI U i (-1))), (q7, ia E 12 W), (q8, ia E 12 ac), (q9, ia E 12 co), (q10, ia E 12 cs), (q11, ia E 12 ut)] dX10_machine_19 rfl (by omega) (by omega) (by decide) rfl ?_
        refine g_aload_n G 0 dX10_machine_20 rfl ?_
        refine g_get G 0 8 dX10_machine_21 i_X10_machine_X10 f_X10_machine_29 rfl rfl (by decide) rfl ?_
        refine g_iload_n G 2 dX10_machine_24 rfl ?_
        refine g_iconst G dX10_machine_25 ?_
        refine g_iast G 5 [(q0, .inr (10, [.ref q1, .ref q2, .ref q3, .int (iI c0), .ref q4, .ref q5, .int (iI lb), .ref q6, .ref q7, .ref q8, .ref q9, .ref q10, .ref q11, .int (iI ch), .int (iI us)])), (q1, ia E 5400 g), (q4, ia E 96 lq), (q5, ia E 96 lo), (q6, ia E 12 (upI U i (-1))), (q7, ia E 12 (upI W i (-1))), (q8, ia E 12 ac), (q9, ia E 12 co), (q10, ia E 12 cs), (q11, ia E 12 ut)] dX10_machine_26 rfl (by omega) (by omega) (by decide) rfl ?_
        refine g_iinc G 2 [(0, .ref q0), (1, .int (iI b)), (2, .int (iI (i + 1)))] dX10_machine_27 rfl (by decide) rfl rfl ?_
        refine g_goto G 7 dX10_machine_30 (by decide) ?_
        exact ih7 (i + 1) (upI U i (-1)) (upI W i (-1)) (by first | assumption | omega) (by rw [hU, fiI_up t (-1) hi.1]) (by rw [hW, fiI_up c (-1) hi.1]) (by omega)
  exact L7 ((12 - 0 : Int).toNat + 1) 0 t c (by first | assumption | omega) (by rw [fiI_0]) (by rw [fiI_0]) (by omega)
