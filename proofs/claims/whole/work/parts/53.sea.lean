theorem WkI.start {So : SoT} {ns : NsT} {pa vb cd F St Ph : Int → Int} {nd al : Int} (hS : TrS pa vb cd nd al So ns) (h0 : St 0 = 0) (h1 : Ph 0 = 0) : WkI So ns pa vb cd nd al (fun _ => -1) F St Ph 1 1 0 := by
  have a := hS.1
  refine ⟨⟨by omega, by omega, by decide⟩, fun m => Or.inl rfl, fun k k0 k1 => by omega, h0, fun k k0 k1 => ?_, fun m hm => absurd hm (by (try dsimp only); omega)⟩
  have e : k = 0 := by omega
  subst e
  unfold WkP
  rw [h1]
  exact ⟨fun i hi => absurd hi (bI_0 i), fun τ hτ _ => by rw [hS.2.2.1 τ hτ, h0]⟩
theorem WkR.won {So : SoT} {ns : NsT} {pa vb cd T F St Ph T1 F1 St1 Ph1 : Int → Int} {nd al f r : Int} (h : WkR So ns pa vb cd nd al T F St Ph f r T1 F1 St1 Ph1) (hr : r = -1) : ∃ cm dp, WkI So ns pa vb cd nd al T1 F1 St1 Ph1 nd cm dp := by
  rcases h with h | h
  · exact h.2
  · exact absurd hr h.1
theorem WkR.lost {So : SoT} {ns : NsT} {pa vb cd F St Ph T1 F1 St1 Ph1 : Int → Int} {nd al f r : Int} (h : WkR So ns pa vb cd nd al (fun _ => -1) F St Ph f r T1 F1 St1 Ph1) (hr : r ≠ -1) : (∀ τ, ¬ So τ) ∧ ∀ k, 0 ≤ k → k < f → St1 k = St k ∧ Ph1 k = Ph k := by
  rcases h with h | ⟨h1, h2, h3, h4, h5, h6⟩
  · exact absurd h.1 hr
  · exact ⟨fun τ hτ => h3 τ hτ (fun i hi => absurd (h2 i hi) (by (try dsimp only); omega)), h6⟩
section SE
variable {L V N pa vb cd cn : Int → Int} {e y nd : Int}
theorem SeI.fin {i q : Int} (h : SeI L V N e y i q pa vb cd cn nd) (hi : i = y ∨ q ≠ 0) : SeI L V N e y y q pa vb cd cn nd := by
  rcases h with h | h
  · rcases hi with z | z
    · rw [z] at h; exact Or.inl h
    · exact absurd h.1 z
  · exact Or.inr h
theorem SeI.pos (h : SeI L V N e y y 0 pa vb cd cn nd) (hn : 2 ≤ nd) : 0 < (tpF L V N e y.toNat).2.2.2 := by
  rcases h with ⟨_, no, h⟩ | h
  · have a : nd ≤ (tpF L V N e y.toNat).2.2.2 + 1 := h.1.2.2
    omega
  · have := h.1; omega
theorem SeI.trs (h : SeI L V N e y y 0 pa vb cd cn nd) (hV : ∀ i, 0 ≤ V i ∧ V i < 3) (hT : TOk pa vb cd cn nd) {x : Int} (hx : 1 ≤ x ∧ x ≤ 4) : ∃ ns : NsT, TrS pa vb cd nd x (SolP (tpF L V N e y.toNat).1 (tpF L V N e y.toNat).2.1 (tpF L V N e y.toNat).2.2.1 (tpF L V N e y.toNat).2.2.2.toNat x) ns := by
  rcases h with ⟨_, no, h⟩ | h
  · exact TreeI.trs h hT.2.2.2.2.1 hT.2.2.2.2.2 (fun i => tp_tv hV L e y.toNat i) hT.2.1 hx
  · have := h.1; omega
theorem SeI.best (h : SeI L V N e y y 0 pa vb cd cn nd) {x cm dp : Int} {ns : NsT} {T F St Ph t c : Int → Int} (hS : TrS pa vb cd nd x (SolP (tpF L V N e y.toNat).1 (tpF L V N e y.toNat).2.1 (tpF L V N e y.toNat).2.2.1 (tpF L V N e y.toNat).2.2.2.toNat x) ns) (hW : WkI (SolP (tpF L V N e y.toNat).1 (tpF L V N e y.toNat).2.1 (tpF L V N e y.toNat).2.2.1 (tpF L V N e y.toNat).2.2.2.toNat x) ns pa vb cd nd x T F St Ph nd cm dp) (h1 : ∀ j, 0 ≤ j ∧ j < 12 → t j = T j ∧ c j = if T j = -1 then -1 else cd (F j)) (hx : 1 ≤ x ∧ x ≤ 4) (hK : 0 < (tpF L V N e y.toNat).2.2.2) (hno : ∀ n, 1 ≤ n ∧ n < x → ∀ τ, ¬ SolP (tpF L V N e y.toNat).1 (tpF L V N e y.toNat).2.1 (tpF L V N e y.toNat).2.2.1 (tpF L V N e y.toNat).2.2.2.toNat n τ) : MacC L V N e y x t c := by
  rcases h with ⟨_, no, h⟩ | h
  · exact Or.inr (Or.inl ⟨hK, hx, ⟨T, fun m => cd (F m), TreeI.best h hS hW (fun m _ _ _ => rfl), h1⟩, hno⟩)
  · have := h.1; omega
theorem fi_all {t : Int → Int} : ∀ j : Int, 0 ≤ j ∧ j < 12 → fiI t 12 (-1) j = -1 := by
  intro j hj
  unfold fiI
  rw [if_pos (by omega)]
theorem SeI.mac0 {q z : Int} {t c : Int → Int} (h : SeI L V N e y y q pa vb cd cn nd) (hn : nd = 1) (h0 : 0 ≤ y) (hz : (nd = 1 ∧ z = 0) ∨ (nd ≠ 1 ∧ z = -1)) : MacC L V N e y z (fiI t 12 (-1)) (fiI c 12 (-1)) := by
  rcases h with ⟨_, no, h⟩ | h
  · refine Or.inl ⟨?_, by omega, fun j hj => ⟨fi_all j hj, fi_all j hj⟩⟩
    have a := h.1.1
    by_cases w : 0 < (tpF L V N e y.toNat).2.2.2
    · have b : 1 ≤ no 0 ∧ no 0 < nd := (h.2.1 0 (by omega) w).1
      omega
    · omega
  · have := h.2.1; omega
theorem SeI.macq {q z : Int} {t c : Int → Int} (h : SeI L V N e y y q pa vb cd cn nd) (hz : (nd = 1 ∧ z = 0) ∨ (nd ≠ 1 ∧ z = -1)) (hq : q ≠ 0) : MacC L V N e y z (fiI t 12 (-1)) (fiI c 12 (-1)) := by
  rcases h with h | ⟨_, h1, h2, h3⟩
  · exact absurd h.1 hq
  · exact Or.inr (Or.inr ⟨h2, by omega, fun n _ τ => h3 n τ, fun j hj => ⟨fi_all j hj, fi_all j hj⟩⟩)
theorem SeI.macn {z : Int} {t c : Int → Int} (hz : (nd = 1 ∧ z = 0) ∨ (nd ≠ 1 ∧ z = -1)) (hn : nd ≠ 1) (hK : 0 < (tpF L V N e y.toNat).2.2.2) (hno : ∀ n, 1 ≤ n ∧ n ≤ 4 → ∀ τ, ¬ SolP (tpF L V N e y.toNat).1 (tpF L V N e y.toNat).2.1 (tpF L V N e y.toNat).2.2.1 (tpF L V N e y.toNat).2.2.2.toNat n τ) : MacC L V N e y z (fiI t 12 (-1)) (fiI c 12 (-1)) :=
  Or.inr (Or.inr ⟨hK, by omega, hno, fun j hj => ⟨fi_all j hj, fi_all j hj⟩⟩)
end SE
set_option maxRecDepth 100000 in
set_option maxHeartbeats 4000000 in
theorem c_X2_hand_b (E : qE) (q0 : Nat) (q1 : Nat) (q2 : Nat) (q3 : Nat) (q4 : Nat) (q5 : Nat) (q6 : Nat) (q7 : Nat) (q8 : Nat) (pa : Int → Int) (vb : Int → Int) (cd : Int → Int) (cn : Int → Int) (sa : Int → Int) (ph : Int → Int) (tg : Int → Int) (fn : Int → Int) (nd : Int) (al : Int) (m0 : Nat) (m1 : Nat) (m2 : Nat) (t : Int → Int) (c : Int → Int) (z : Int) (hf : ∀ i, 0 ≤ i → i < 12 → tg i ≠ -1 → 0 ≤ fn i ∧ fn i < 97) (ht : ∀ i, -1 ≤ tg i ∧ tg i < 4) : Cn E yX2_hand wsX2_hand { frames := 2, cells := 0, slots := 0, locals := 44 } [.ref q0, .ref m0] [(q0, .inr (2, [.ref q1, .ref q2, .ref q3, .ref q4, .ref q5, .ref q6, .ref q7, .ref q8, .int (iI nd), .int (iI al)])), (q1, ia E 97 pa), (q2, ia E 97 vb), (q3, ia E 97 cd), (q4, ia E 291 cn), (q5, ia E 97 sa), (q6, ia E 97 ph), (q7, ia E 12 tg), (q8, ia E 12 fn), (m0, .inr (1, [.ref m1, .ref m2, .int (iI z)])), (m1, ia E 12 t), (m2, ia E 12 c)] (fun v9 w9 => ∃ (t1 : Int → Int) (c1 : Int → Int), v9 = none ∧ w9 = [(q0, .inr (2, [.ref q1, .ref q2, .ref q3, .ref q4, .ref q5, .ref q6, .ref q7, .ref q8, .int (iI nd), .int (iI al)])), (q1, ia E 97 pa), (q2, ia E 97 vb), (q3, ia E 97 cd), (q4, ia E 291 cn), (q5, ia E 97 sa), (q6, ia E 97 ph), (q7, ia E 12 tg), (q8, ia E 12 fn), (m0, .inr (1, [.ref m1, .ref m2, .int (iI al)])), (m1, ia E 12 t1), (m2, ia E 12 c1)] ∧ (∀ j, 0 ≤ j ∧ j < 12 → t1 j = tg j ∧ c1 j = if tg j = -1 then -1 else cd (fn j))) 0 0 := by
  refine Cn.ofP (own := RX2) (cc := cX2_hand) (maxL := 3) (ret := none) false [(0, .ref q0), (1, .ref m0)] (by decide +kernel) rfl rfl (Nat.le_of_ble_eq_true rfl) rfl (fun h => nomatch h) (fun v w h => by obtain ⟨t1, c1, rfl, h9⟩ := h; exact (rfl : (none : Option FieldType) = none)) ?_
  intro P G
  refine g_aload_n G 1 dX2_hand_0 rfl ?_
  refine g_aload_n G 0 dX2_hand_1 rfl ?_
  refine g_get G 0 9 dX2_hand_2 i_X2_hand_X2 f_X2_hand_59 rfl rfl (by decide) rfl ?_
  refine g_callV G [9, 10, 11] [0, 1, 2, 3, 4, 5, 6, 7, 8] 12 [(q0, .inr (2, [.ref q1, .ref q2, .ref q3, .ref q4, .ref q5, .ref q6, .ref q7, .ref q8, .int (iI nd), .int (iI al)])), (q1, ia E 97 pa), (q2, ia E 97 vb), (q3, ia E 97 cd), (q4, ia E 291 cn), (q5, ia E 97 sa), (q6, ia E 97 ph), (q7, ia E 12 tg), (q8, ia E 12 fn)] [.int (iI al)] [] (c_X1_clear E m0 m1 m2 t c z al ) dX2_hand_5 gX2_hand_X1_clear ⟨rfl, ⟨rfl, rfl⟩, e_X1_clear, ⟨Nat.le_of_ble_eq_true rfl, Nat.le_of_ble_eq_true rfl⟩, Nat.le_of_ble_eq_true rfl, Nat.le_of_ble_eq_true rfl, Nat.le_of_ble_eq_true rfl⟩ rfl rfl rfl rfl rfl (by decide +kernel) rfl (by decide +kernel) rfl (fun v9 w9 h9 => ?_)
  obtain ⟨rfl, rfl⟩ := h9
  refine ⟨[(q0, .inr (2, [.ref q1, .ref q2, .ref q3, .ref q4, .ref q5, .ref q6, .ref q7, .ref q8, .int (iI nd), .int (iI al)])), (q1, ia E 97 pa), (q2, ia E 97 vb), (q3, ia E 97 cd), (q4, ia E 291 cn), (q5, ia E 97 sa), (q6, ia E 97 ph), (q7, ia E 12 tg), (q8, ia E 12 fn), (m0, .inr (1, [.ref m1, .ref m2, .int (iI al)])), (m1, ia E 12 (fiI t 12 (-1))), (m2, ia E 12 (fiI c 12 (-1)))], ⟨rfl, rfl, rfl, rfl⟩, g_to 0 0 _ _ [] rfl rfl rfl rfl rfl ?_⟩
  refine g_iconst G dX2_hand_8 ?_
  refine g_istore_n G [(0, .ref q0), (1, .ref m0), (2, .int (iI 0))] dX2_hand_9 (by decide) rfl rfl ?_
  have L10 : ∀ (fuel : Nat), ∀ (i : Int) (U : Int → Int) (W : Int → Int), (0 ≤ i ∧ i ≤ 12) → (∀ j, 0 ≤ j ∧ j < 12 → U j = (if j < i then tg j else -1) ∧ W j = (if j < i ∧ tg j ≠ -1 then cd (fn j) else -1)) → (12 - i : Int).toNat < fuel → P 0 0 [(q0, .inr (2, [.ref q1, .ref q2, .ref q3, .ref q4, .ref q5, .ref q6, .ref q7, .ref q8, .int (iI nd), .int (iI al)])), (q1, ia E 97 pa), (q2, ia E 97 vb), (q3, ia E 97 cd), (q4, ia E 291 cn), (q5, ia E 97 sa), (q6, ia E 97 ph), (q7, ia E 12 tg), (q8, ia E 12 fn), (m0, .inr (1, [.ref m1, .ref m2, .int (iI al)])), (m1, ia E 12 U), (m2, ia E 12 W)] 10 [(0, .ref q0), (1, .ref m0), (2, .int (iI i))] [] := by
    intro fuel
    induction fuel with
    | zero => intro i U W hi hU hm; exact absurd hm (Nat.not_lt_zero _)
    | succ fuel ih10 =>
      intro i U W hi hU hm
      refine g_iload_n G 2 dX2_hand_10 rfl ?_
      refine g_bipush G dX2_hand_11 (by decide +kernel) ?_
      refine g_icmp_ge G 54 dX2_hand_13 (by decide) (by omega) (by omega) (fun c13 => ?_) (fun c13 => ?_)
      · exact g_ret G none rfl dX2_hand_54 (Nat.le_refl _) (Nat.le_refl _) ⟨U, W, rfl, rfl, by intro j hj; have h5 := hU j hj; rw [h5.1, h5.2, if_pos (by omega)]; refine ⟨rfl, ?_⟩; (repeat' split) <;> first | rfl | omega⟩
      · refine g_aload_n G 0 dX2_hand_16 rfl ?_
        refine g_get G 0 6 dX2_hand_17 i_X2_hand_X2 f_X2_hand_30 rfl rfl (by decide) rfl ?_
        refine g_iload_n G 2 dX2_hand_20 rfl ?_
        refine g_iald G 7 dX2_hand_21 rfl (by omega) (by omega) (by decide) ?_
        have b1 := ht i
        refine g_iconst G dX2_hand_22 ?_
        refine g_icmp_eq G 48 dX2_hand_23 (by decide) (by omega) (by omega) (fun c23 => ?_) (fun c23 => ?_)
        · refine g_iinc G 2 [(0, .ref q0), (1, .ref m0), (2, .int (iI (i + 1)))] dX2_hand_48 rfl (by decide) rfl rfl ?_
          refine g_goto G 10 dX2_hand_51 (by decide) ?_
          exact ih10 (i + 1) U W (by first | assumption | omega) (by intro j hj; have h5 := hU j hj; by_cases q : j = i; (subst q; first | (rw [upI_same, upI_same, if_pos (by omega), if_pos ⟨by omega, c23⟩]; exact ⟨rfl, rfl⟩) | (rw [h5.1, h5.2]; refine ⟨?_, ?_⟩ <;> ((repeat' split) <;> first | rfl | omega))); (first | (rw [upI_ne _ _ q, upI_ne _ _ q, h5.1, h5.2]; refine ⟨?_, ?_⟩ <;> ((repeat' split) <;> first | rfl | omega)) | (rw [h5.1, h5.2]; refine ⟨?_, ?_⟩ <;> ((repeat' split) <;> first | rfl | omega)))) (by omega)
        · have hfi := hf i hi.1 (by omega) c23
          refine g_aload_n G 1 dX2_hand_26 rfl ?_
          refine g_iload_n G 2 dX2_hand_27 rfl ?_
          refine g_aload_n G 0 dX2_hand_28 rfl ?_
          refine g_get G 0 6 dX2_hand_29 i_X2_hand_X2 f_X2_hand_30 rfl rfl (by decide) rfl ?_
          refine g_iload_n G 2 dX2_hand_32 rfl ?_
          refine g_iald G 7 dX2_hand_33 rfl (by omega) (by omega) (by decide) ?_
          have b2 := ht i
          refine g_aload_n G 0 dX2_hand_34 rfl ?_
          refine g_get G 0 2 dX2_hand_35 i_X2_hand_X2 f_X2_hand_18 rfl rfl (by decide) rfl ?_
          refine g_aload_n G 0 dX2_hand_38 rfl ?_
          refine g_get G 0 7 dX2_hand_39 i_X2_hand_X2 f_X2_hand_33 rfl rfl (by decide) rfl ?_
          refine g_iload_n G 2 dX2_hand_42 rfl ?_
          refine g_iald G 8 dX2_hand_43 rfl (by omega) (by omega) (by decide) ?_
          refine g_iald G 3 dX2_hand_44 rfl (by omega) (by omega) (by decide) ?_
          refine g_callV G [9, 10, 11] [0, 1, 2, 3, 4, 5, 6, 7, 8] 12 [(q0, .inr (2, [.ref q1, .ref q2, .ref q3, .ref q4, .ref q5, .ref q6, .ref q7, .ref q8, .int (iI nd), .int (iI al)])), (q1, ia E 97 pa), (q2, ia E 97 vb), (q3, ia E 97 cd), (q4, ia E 291 cn), (q5, ia E 97 sa), (q6, ia E 97 ph), (q7, ia E 12 tg), (q8, ia E 12 fn)] [.int (iI i), .int (iI (tg i)), .int (iI (cd (fn i)))] [] (c_X1_setMove E m0 m1 m2 U W al i (tg i) (cd (fn i)) (by first | assumption | omega)) dX2_hand_45 gX2_hand_X1_setMove ⟨rfl, ⟨rfl, rfl⟩, e_X1_setMove, ⟨Nat.le_of_ble_eq_true rfl, Nat.le_of_ble_eq_true rfl⟩, Nat.le_of_ble_eq_true rfl, Nat.le_of_ble_eq_true rfl, Nat.le_of_ble_eq_true rfl⟩ rfl rfl rfl rfl rfl (by decide +kernel) rfl (by decide +kernel) rfl (fun v9 w9 h9 => ?_)
          obtain ⟨rfl, rfl⟩ := h9
          refine ⟨[(q0, .inr (2, [.ref q1, .ref q2, .ref q3, .ref q4, .ref q5, .ref q6, .ref q7, .ref q8, .int (iI nd), .int (iI al)])), (q1, ia E 97 pa), (q2, ia E 97 vb), (q3, ia E 97 cd), (q4, ia E 291 cn), (q5, ia E 97 sa), (q6, ia E 97 ph), (q7, ia E 12 tg), (q8, ia E 12 fn), (m0, .inr (1, [.ref m1, .ref m2, .int (iI al)])), (m1, ia E 12 (upI U i (tg i))), (m2, ia E 12 (upI W i (cd (fn i))))], ⟨rfl, rfl, rfl, rfl⟩, g_to 0 0 _ _ [] rfl rfl rfl rfl rfl ?_⟩
          refine g_iinc G 2 [(0, .ref q0), (1, .ref m0), (2, .int (iI (i + 1)))] dX2_hand_48 rfl (by decide) rfl rfl ?_
          refine g_goto G 10 dX2_hand_51 (by decide) ?_
          exact ih10 (i + 1) (upI U i (tg i)) (upI W i (cd (fn i))) (by first | assumption | omega) (by intro j hj; have h5 := hU j hj; by_cases q : j = i; (subst q; first | (rw [upI_same, upI_same, if_pos (by omega), if_pos ⟨by omega, c23⟩]; exact ⟨rfl, rfl⟩) | (rw [h5.1, h5.2]; refine ⟨?_, ?_⟩ <;> ((repeat' split) <;> first | rfl | omega))); (first | (rw [upI_ne _ _ q, upI_ne _ _ q, h5.1, h5.2]; refine ⟨?_, ?_⟩ <;> ((repeat' split) <;> first | rfl | omega)) | (rw [h5.1, h5.2]; refine ⟨?_, ?_⟩ <;> ((repeat' split) <;> first | rfl | omega)))) (by omega)
  exact L10 ((12 - 0 : Int).toNat + 1) 0 (fiI t 12 (-1)) (fiI c 12 (-1)) (by first | assumption | omega) (by intro j hj; unfold fiI; rw [if_pos hj, if_pos hj, if_neg (by omega), if_neg (by omega)]; exact ⟨rfl, rfl⟩) (by omega)
theorem e_X2_startTree : yX2_startTree.cls ≠ "java/lang/invoke/MethodHandle" ∧ yX2_startTree.cls ≠ "java/lang/invoke/VarHandle" ∧ (parseMethodDescriptor yX2_startTree.desc).map (fun d => d.parameters.length) = some 0 := by decide +kernel
theorem f_X2_search_49 : Cond.fieldLink RX2 49 (TX2 8).1 (TX2 8).2.1 (TX2 8).2.2.1 ∈ wsX2_search := by decide +kernel
theorem i_X2_search_X2 : ∀ w ∈ wsX20, w ∈ wsX2_search := by decide +kernel
theorem f_X2_search_59 : Cond.fieldLink RX2 59 (TX2 9).1 (TX2 9).2.1 (TX2 9).2.2.1 ∈ wsX2_search := by decide +kernel
theorem f_X2_search_30 : Cond.fieldLink RX2 30 (TX2 6).1 (TX2 6).2.1 (TX2 6).2.2.1 ∈ wsX2_search := by decide +kernel
theorem e_X2_hand : yX2_hand.cls ≠ "java/lang/invoke/MethodHandle" ∧ yX2_hand.cls ≠ "java/lang/invoke/VarHandle" ∧ (parseMethodDescriptor yX2_hand.desc).map (fun d => d.parameters.length) = some 1 := by decide +kernel
theorem e_X2_plantRow : yX2_plantRow.cls ≠ "java/lang/invoke/MethodHandle" ∧ yX2_plantRow.cls ≠ "java/lang/invoke/VarHandle" ∧ (parseMethodDescriptor yX2_plantRow.desc).map (fun d => d.parameters.length) = some 2 := by decide +kernel
set_option maxRecDepth 100000 in
set_option maxHeartbeats 4000000 in
theorem c_X2_search (E : qE) (q0 : Nat) (q1 : Nat) (q2 : Nat) (q3 : Nat) (q4 : Nat) (q5 : Nat) (q6 : Nat) (q7 : Nat) (q8 : Nat) (pa : Int → Int) (vb : Int → Int) (cd : Int → Int) (cn : Int → Int) (sa : Int → Int) (ph : Int → Int) (tg : Int → Int) (fn : Int → Int) (nd : Int) (al : Int) (w0 : Nat) (w1 : Nat) (w2 : Nat) (w3 : Nat) (w4 : Nat) (L : Int → Int) (V : Int → Int) (A : Int → Int) (N : Int → Int) (y : Int) (m0 : Nat) (m1 : Nat) (m2 : Nat) (t : Int → Int) (c : Int → Int) (z : Int) (e : Int) (hR : RowsOk L V A N y) (hP : (∀ i, 0 ≤ pa i ∧ pa i < 97) ∧ (∀ i, 0 ≤ vb i ∧ vb i < 3) ∧ ∀ i, 0 ≤ cd i ∧ cd i < 4) (he : -2147483648 ≤ e ∧ e < 2147483648) : Cn E yX2_search wsX2_search { frames := 25, cells := 0, slots := 0, locals := 687 } [.ref q0, .ref w0, .int (iI e), .ref m0] [(q0, .inr (2, [.ref q1, .ref q2, .ref q3, .ref q4, .ref q5, .ref q6, .ref q7, .ref q8, .int (iI nd), .int (iI al)])), (q1, ia E 97 pa), (q2, ia E 97 vb), (q3, ia E 97 cd), (q4, ia E 291 cn), (q5, ia E 97 sa), (q6, ia E 97 ph), (q7, ia E 12 tg), (q8, ia E 12 fn), (w0, .inr (4, [.ref w1, .ref w2, .ref w3, .ref w4, .int (iI y)])), (w1, ia E 8 L), (w2, ia E 96 V), (w3, ia E 96 A), (w4, ia E 96 N), (m0, .inr (1, [.ref m1, .ref m2, .int (iI z)])), (m1, ia E 12 t), (m2, ia E 12 c)] (fun v9 w9 => ∃ (pa1 : Int → Int) (vb1 : Int → Int) (cd1 : Int → Int) (cn1 : Int → Int) (sa1 : Int → Int) (ph1 : Int → Int) (tg1 : Int → Int) (fn1 : Int → Int) (nd1 : Int) (al1 : Int) (t1 : Int → Int) (c1 : Int → Int) (z1 : Int), v9 = none ∧ w9 = [(q0, .inr (2, [.ref q1, .ref q2, .ref q3, .ref q4, .ref q5, .ref q6, .ref q7, .ref q8, .int (iI nd1), .int (iI al1)])), (q1, ia E 97 pa1), (q2, ia E 97 vb1), (q3, ia E 97 cd1), (q4, ia E 291 cn1), (q5, ia E 97 sa1), (q6, ia E 97 ph1), (q7, ia E 12 tg1), (q8, ia E 12 fn1), (w0, .inr (4, [.ref w1, .ref w2, .ref w3, .ref w4, .int (iI y)])), (w1, ia E 8 L), (w2, ia E 96 V), (w3, ia E 96 A), (w4, ia E 96 N), (m0, .inr (1, [.ref m1, .ref m2, .int (iI z1)])), (m1, ia E 12 t1), (m2, ia E 12 c1)] ∧ (MacC L V N e y z1 t1 c1) ∧ ((∀ i, 0 ≤ pa1 i ∧ pa1 i < 97) ∧ (∀ i, 0 ≤ vb1 i ∧ vb1 i < 3) ∧ ∀ i, 0 ≤ cd1 i ∧ cd1 i < 4)) 0 0 := by
  refine Cn.ofP (own := RX2) (cc := cX2_search) (maxL := 6) (ret := none) false [(0, .ref q0), (1, .ref w0), (2, .int (iI e)), (3, .ref m0)] (by decide +kernel) rfl rfl (Nat.le_of_ble_eq_true rfl) rfl (fun h => nomatch h) (fun v w h => by obtain ⟨pa1, vb1, cd1, cn1, sa1, ph1, tg1, fn1, nd1, al1, t1, c1, z1, rfl, h9⟩ := h; exact (rfl : (none : Option FieldType) = none)) ?_
  intro P G
  obtain ⟨hz0, hz1, hL, hV, hA, hN⟩ := id hR
  refine g_aload_n G 0 dX2_search_0 rfl ?_
  refine g_callV G [0, 1, 2, 3, 4, 5, 6, 7, 8] [9, 10, 11, 12, 13, 14, 15, 16] 17 [(w0, .inr (4, [.ref w1, .ref w2, .ref w3, .ref w4, .int (iI y)])), (w1, ia E 8 L), (w2, ia E 96 V), (w3, ia E 96 A), (w4, ia E 96 N), (m0, .inr (1, [.ref m1, .ref m2, .int (iI z)])), (m1, ia E 12 t), (m2, ia E 12 c)] [] [] (c_X2_startTree E q0 q1 q2 q3 q4 q5 q6 q7 q8 pa vb cd cn sa ph tg fn nd al ) dX2_search_1 gX2_search_X2_startTree ⟨rfl, ⟨rfl, rfl⟩, e_X2_startTree, ⟨Nat.le_of_ble_eq_true rfl, Nat.le_of_ble_eq_true rfl⟩, Nat.le_of_ble_eq_true rfl, Nat.le_of_ble_eq_true rfl, Nat.le_of_ble_eq_true rfl⟩ rfl rfl rfl rfl rfl (by decide +kernel) rfl (by decide +kernel) rfl (fun v9 w9 h9 => ?_)
  obtain ⟨rfl, rfl⟩ := h9
  refine ⟨[(q0, .inr (2, [.ref q1, .ref q2, .ref q3, .ref q4, .ref q5, .ref q6, .ref q7, .ref q8, .int (iI 1), .int (iI al)])), (q1, ia E 97 pa), (q2, ia E 97 vb), (q3, ia E 97 cd), (q4, ia E 291 (fiI cn 291 (-1))), (q5, ia E 97 (upI sa 0 0)), (q6, ia E 97 (upI ph 0 0)), (q7, ia E 12 tg), (q8, ia E 12 fn), (w0, .inr (4, [.ref w1, .ref w2, .ref w3, .ref w4, .int (iI y)])), (w1, ia E 8 L), (w2, ia E 96 V), (w3, ia E 96 A), (w4, ia E 96 N), (m0, .inr (1, [.ref m1, .ref m2, .int (iI z)])), (m1, ia E 12 t), (m2, ia E 12 c)], ⟨rfl, rfl, rfl, rfl⟩, g_to 0 0 _ _ [] rfl rfl rfl rfl rfl ?_⟩
  refine g_norm G 4 (fun _ => -1) [(q0, .inr (2, [.ref q1, .ref q2, .ref q3, .ref q4, .ref q5, .ref q6, .ref q7, .ref q8, .int (iI 1), .int (iI al)])), (q1, ia E 97 pa), (q2, ia E 97 vb), (q3, ia E 97 cd), (q4, ia E 291 (fun _ => -1)), (q5, ia E 97 (upI sa 0 0)), (q6, ia E 97 (upI ph 0 0)), (q7, ia E 12 tg), (q8, ia E 12 fn), (w0, .inr (4, [.ref w1, .ref w2, .ref w3, .ref w4, .int (iI y)])), (w1, ia E 8 L), (w2, ia E 96 V), (w3, ia E 96 A), (w4, ia E 96 N), (m0, .inr (1, [.ref m1, .ref m2, .int (iI z)])), (m1, ia E 12 t), (m2, ia E 12 c)] rfl (by intro j h0 h1; unfold fiI; rw [if_pos (by omega)]) rfl ?_
  refine g_iconst G dX2_search_4 ?_
  refine g_istore G [(0, .ref q0), (1, .ref w0), (2, .int (iI e)), (3, .ref m0), (4, .int (iI 0))] dX2_search_5 (by decide) rfl rfl ?_
  refine g_iconst G dX2_search_7 ?_
  refine g_istore G [(0, .ref q0), (1, .ref w0), (2, .int (iI e)), (3, .ref m0), (4, .int (iI 0)), (5, .int (iI 0))] dX2_search_8 (by decide) rfl rfl ?_
  have L10 : ∀ (fuel : Nat), ∀ (i : Int) (q : Int) (pa1 : Int → Int) (vb1 : Int → Int) (cd1 : Int → Int) (cn1 : Int → Int) (nd1 : Int), (0 ≤ i ∧ i ≤ y) → (q = 0 ∨ q = 1) → (TOk pa1 vb1 cd1 cn1 nd1) → (SeI L V N e y i q pa1 vb1 cd1 cn1 nd1) → (y - i : Int).toNat < fuel → P 0 0 [(q0, .inr (2, [.ref q1, .ref q2, .ref q3, .ref q4, .ref q5, .ref q6, .ref q7, .ref q8, .int (iI nd1), .int (iI al)])), (q1, ia E 97 pa1), (q2, ia E 97 vb1), (q3, ia E 97 cd1), (q4, ia E 291 cn1), (q5, ia E 97 (upI sa 0 0)), (q6, ia E 97 (upI ph 0 0)), (q7, ia E 12 tg), (q8, ia E 12 fn), (w0, .inr (4, [.ref w1, .ref w2, .ref w3, .ref w4, .int (iI y)])), (w1, ia E 8 L), (w2, ia E 96 V), (w3, ia E 96 A), (w4, ia E 96 N), (m0, .inr (1, [.ref m1, .ref m2, .int (iI z)])), (m1, ia E 12 t), (m2, ia E 12 c)] 10 [(0, .ref q0), (1, .ref w0), (2, .int (iI e)), (3, .ref m0), (4, .int (iI q)), (5, .int (iI i))] [] := by
    intro fuel
    induction fuel with
    | zero => intro i q pa1 vb1 cd1 cn1 nd1 hi hq hTk hSe hm; exact absurd hm (Nat.not_lt_zero _)
    | succ fuel ih10 =>
      intro i q pa1 vb1 cd1 cn1 nd1 hi hq hTk hSe hm
      refine g_iload G 5 dX2_search_10 rfl ?_
      refine g_aload_n G 1 dX2_search_12 rfl ?_
      refine g_callV G [9, 10, 11, 12, 13] [0, 1, 2, 3, 4, 5, 6, 7, 8, 14, 15, 16] 17 [(q0, .inr (2, [.ref q1, .ref q2, .ref q3, .ref q4, .ref q5, .ref q6, .ref q7, .ref q8, .int (iI nd1), .int (iI al)])), (q1, ia E 97 pa1), (q2, ia E 97 vb1), (q3, ia E 97 cd1), (q4, ia E 291 cn1), (q5, ia E 97 (upI sa 0 0)), (q6, ia E 97 (upI ph 0 0)), (q7, ia E 12 tg), (q8, ia E 12 fn), (m0, .inr (1, [.ref m1, .ref m2, .int (iI z)])), (m1, ia E 12 t), (m2, ia E 12 c)] [] [.int (iI i)] (c_X4_size E w0 w1 w2 w3 w4 L V A N y ) dX2_search_13 gX2_search_X4_size ⟨rfl, ⟨rfl, rfl⟩, e_X4_size, ⟨Nat.le_of_ble_eq_true rfl, Nat.le_of_ble_eq_true rfl⟩, Nat.le_of_ble_eq_true rfl, Nat.le_of_ble_eq_true rfl, Nat.le_of_ble_eq_true rfl⟩ rfl rfl rfl rfl rfl (by decide +kernel) rfl (by decide +kernel) rfl (fun v9 w9 h9 => ?_)
      obtain ⟨rfl, rfl⟩ := h9
      refine ⟨[(q0, .inr (2, [.ref q1, .ref q2, .ref q3, .ref q4, .ref q5, .ref q6, .ref q7, .ref q8, .int (iI nd1), .int (iI al)])), (q1, ia E 97 pa1), (q2, ia E 97 vb1), (q3, ia E 97 cd1), (q4, ia E 291 cn1), (q5, ia E 97 (upI sa 0 0)), (q6, ia E 97 (upI ph 0 0)), (q7, ia E 12 tg), (q8, ia E 12 fn), (w0, .inr (4, [.ref w1, .ref w2, .ref w3, .ref w4, .int (iI y)])), (w1, ia E 8 L), (w2, ia E 96 V), (w3, ia E 96 A), (w4, ia E 96 N), (m0, .inr (1, [.ref m1, .ref m2, .int (iI z)])), (m1, ia E 12 t), (m2, ia E 12 c)], ⟨rfl, rfl, rfl, rfl⟩, g_to 0 0 _ _ [.int (iI y), .int (iI i)] rfl rfl rfl rfl rfl ?_⟩
      refine g_icmp_ge G 53 dX2_search_16 (by decide) (by omega) (by omega) (fun c16 => ?_) (fun c16 => ?_)
      · have L70 : ∀ (z2 : Int), ((nd1 = 1 ∧ z2 = 0) ∨ (nd1 ≠ 1 ∧ z2 = -1)) → P 0 0 [(q0, .inr (2, [.ref q1, .ref q2, .ref q3, .ref q4, .ref q5, .ref q6, .ref q7, .ref q8, .int (iI nd1), .int (iI al)])), (q1, ia E 97 pa1), (q2, ia E 97 vb1), (q3, ia E 97 cd1), (q4, ia E 291 cn1), (q5, ia E 97 (upI sa 0 0)), (q6, ia E 97 (upI ph 0 0)), (q7, ia E 12 tg), (q8, ia E 12 fn), (w0, .inr (4, [.ref w1, .ref w2, .ref w3, .ref w4, .int (iI y)])), (w1, ia E 8 L), (w2, ia E 96 V), (w3, ia E 96 A), (w4, ia E 96 N), (m0, .inr (1, [.ref m1, .ref m2, .int (iI z2)])), (m1, ia E 12 (fiI t 12 (-1))), (m2, ia E 12 (fiI c 12 (-1)))] 70 [(0, .ref q0), (1, .ref w0), (2, .int (iI e)), (3, .ref m0), (4, .int (iI q)), (5, .int (iI i))] [] := by
          intro z2 hz
          have hn0 := hTk.1
          have hn1 := hTk.2.1
          have hS2 := SeI.fin hSe (by omega)
          refine g_aload_n G 0 dX2_search_70 rfl ?_
          refine g_get G 0 8 dX2_search_71 i_X2_search_X2 f_X2_search_49 rfl rfl (by decide) rfl ?_
          refine g_iconst G dX2_search_74 ?_
          refine g_icmp_eq G 83 dX2_search_75 (by decide) (by omega) (by omega) (fun c75 => ?_) (fun c75 => ?_)
          · exact g_ret G none rfl dX2_search_83 (Nat.le_refl _) (Nat.le_refl _) ⟨pa1, vb1, cd1, cn1, (upI sa 0 0), (upI ph 0 0), tg, fn, nd1, al, (fiI t 12 (-1)), (fiI c 12 (-1)), z2, rfl, rfl, by first | exact SeI.mac0 hS2 (by omega) (by omega) hz | exact SeI.macq hS2 hz (by omega), by exact ⟨hTk.2.2.2.1, hTk.2.2.2.2.1, hTk.2.2.2.2.2⟩⟩
          · refine g_iload G 4 dX2_search_78 rfl ?_
            refine g_if_eq G 84 dX2_search_80 (by decide) (by omega) (fun c80 => ?_) (fun c80 => ?_)
            · have hS3 : SeI L V N e y y 0 pa1 vb1 cd1 cn1 nd1 := by rw [(show (0 : Int) = q by omega)]; exact hS2
              have hK0 := SeI.pos hS3 (by omega)
              refine g_iconst G dX2_search_84 ?_
              refine g_istore G [(0, .ref q0), (1, .ref w0), (2, .int (iI e)), (3, .ref m0), (4, .int (iI q)), (5, .int (iI 1))] dX2_search_85 (by decide) rfl rfl ?_
              have L87 : ∀ (fuel : Nat), ∀ (x : Int) (al1 : Int) (tg1 : Int → Int) (fn1 : Int → Int) (sa1 : Int → Int) (ph1 : Int → Int), (1 ≤ x ∧ x ≤ 5) → (sa1 0 = 0 ∧ ph1 0 = 0) → (∀ n, 1 ≤ n ∧ n < x → ∀ τ, ¬ (SolP (tpF L V N e y.toNat).1 (tpF L V N e y.toNat).2.1 (tpF L V N e y.toNat).2.2.1 (tpF L V N e y.toNat).2.2.2.toNat n) τ) → (5 - x : Int).toNat < fuel → P 0 0 [(q0, .inr (2, [.ref q1, .ref q2, .ref q3, .ref q4, .ref q5, .ref q6, .ref q7, .ref q8, .int (iI nd1), .int (iI al1)])), (q1, ia E 97 pa1), (q2, ia E 97 vb1), (q3, ia E 97 cd1), (q4, ia E 291 cn1), (q5, ia E 97 sa1), (q6, ia E 97 ph1), (q7, ia E 12 tg1), (q8, ia E 12 fn1), (w0, .inr (4, [.ref w1, .ref w2, .ref w3, .ref w4, .int (iI y)])), (w1, ia E 8 L), (w2, ia E 96 V), (w3, ia E 96 A), (w4, ia E 96 N), (m0, .inr (1, [.ref m1, .ref m2, .int (iI z2)])), (m1, ia E 12 (fiI t 12 (-1))), (m2, ia E 12 (fiI c 12 (-1)))] 87 [(0, .ref q0), (1, .ref w0), (2, .int (iI e)), (3, .ref m0), (4, .int (iI q)), (5, .int (iI x))] [] := by
                intro fuel
                induction fuel with
                | zero => intro x al1 tg1 fn1 sa1 ph1 hx hs0 hno hm; exact absurd hm (Nat.not_lt_zero _)
                | succ fuel ih87 =>
                  intro x al1 tg1 fn1 sa1 ph1 hx hs0 hno hm
                  refine g_iload G 5 dX2_search_87 rfl ?_
                  refine g_iconst G dX2_search_89 ?_
                  refine g_icmp_gt G 130 dX2_search_90 (by decide) (by omega) (by omega) (fun c90 => ?_) (fun c90 => ?_)
                  · exact g_ret G none rfl dX2_search_130 (Nat.le_refl _) (Nat.le_refl _) ⟨pa1, vb1, cd1, cn1, sa1, ph1, tg1, fn1, nd1, al1, (fiI t 12 (-1)), (fiI c 12 (-1)), z2, rfl, rfl, by exact SeI.macn hz (by omega) hK0 (fun n hn => hno n (by omega)), by exact ⟨hTk.2.2.2.1, hTk.2.2.2.2.1, hTk.2.2.2.2.2⟩⟩
                  · refine g_aload_n G 0 dX2_search_93 rfl ?_
                    refine g_iload G 5 dX2_search_94 rfl ?_
                    refine g_put G 0 9 [(q0, .inr (2, [.ref q1, .ref q2, .ref q3, .ref q4, .ref q5, .ref q6, .ref q7, .ref q8, .int (iI nd1), .int (iI x)])), (q1, ia E 97 pa1), (q2, ia E 97 vb1), (q3, ia E 97 cd1), (q4, ia E 291 cn1), (q5, ia E 97 sa1), (q6, ia E 97 ph1), (q7, ia E 12 tg1), (q8, ia E 12 fn1), (w0, .inr (4, [.ref w1, .ref w2, .ref w3, .ref w4, .int (iI y)])), (w1, ia E 8 L), (w2, ia E 96 V), (w3, ia E 96 A), (w4, ia E 96 N), (m0, .inr (1, [.ref m1, .ref m2, .int (iI z2)])), (m1, ia E 12 (fiI t 12 (-1))), (m2, ia E 12 (fiI c 12 (-1)))] dX2_search_96 i_X2_search_X2 f_X2_search_59 tyX2_ok nmX2 rfl rfl (by decide) rfl rfl rfl rfl (Nat.le_of_ble_eq_true rfl) rfl ?_
                    refine g_aload_n G 0 dX2_search_99 rfl ?_
                    refine g_get G 0 6 dX2_search_100 i_X2_search_X2 f_X2_search_30 rfl rfl (by decide) rfl ?_
                    refine g_iconst G dX2_search_103 ?_
                    refine g_callS G [7] [0, 1, 2, 3, 4, 5, 6, 8, 9, 10, 11, 12, 13, 14, 15, 16] 17 [(q0, .inr (2, [.ref q1, .ref q2, .ref q3, .ref q4, .ref q5, .ref q6, .ref q7, .ref q8, .int (iI nd1), .int (iI x)])), (q1, ia E 97 pa1), (q2, ia E 97 vb1), (q3, ia E 97 cd1), (q4, ia E 291 cn1), (q5, ia E 97 sa1), (q6, ia E 97 ph1), (q8, ia E 12 fn1), (w0, .inr (4, [.ref w1, .ref w2, .ref w3, .ref w4, .int (iI y)])), (w1, ia E 8 L), (w2, ia E 96 V), (w3, ia E 96 A), (w4, ia E 96 N), (m0, .inr (1, [.ref m1, .ref m2, .int (iI z2)])), (m1, ia E 12 (fiI t 12 (-1))), (m2, ia E 12 (fiI c 12 (-1)))] [.ref q7, .int (iI (-1))] [] (c_J7_fill_53178 E q7 12 tg1 (-1) (by first | assumption | omega)) dX2_search_104 gX2_search_J7_fill_53178 ⟨rfl, ⟨rfl, rfl⟩, e_J7_fill_53178, ⟨Nat.le_of_ble_eq_true rfl, Nat.le_of_ble_eq_true rfl⟩, Nat.le_of_ble_eq_true rfl, Nat.le_of_ble_eq_true rfl, Nat.le_of_ble_eq_true rfl⟩ rfl (by decide +kernel) rfl (by decide +kernel) rfl (fun v9 w9 h9 => ?_)
                    obtain ⟨o1, rfl, rfl, rfl⟩ := h9
                    refine ⟨[(q0, .inr (2, [.ref q1, .ref q2, .ref q3, .ref q4, .ref q5, .ref q6, .ref q7, .ref q8, .int (iI nd1), .int (iI x)])), (q1, ia E 97 pa1), (q2, ia E 97 vb1), (q3, ia E 97 cd1), (q4, ia E 291 cn1), (q5, ia E 97 sa1), (q6, ia E 97 ph1), (q7, ia E 12 (fiI tg1 12 (-1))), (q8, ia E 12 fn1), (w0, .inr (4, [.ref w1, .ref w2, .ref w3, .ref w4, .int (iI y)])), (w1, ia E 8 L), (w2, ia E 96 V), (w3, ia E 96 A), (w4, ia E 96 N), (m0, .inr (1, [.ref m1, .ref m2, .int (iI z2)])), (m1, ia E 12 (fiI t 12 (-1))), (m2, ia E 12 (fiI c 12 (-1)))], ⟨rfl, rfl, rfl, rfl⟩, g_to 0 0 _ _ [] rfl rfl rfl rfl rfl ?_⟩
                    refine g_norm G 7 (fun _ => -1) [(q0, .inr (2, [.ref q1, .ref q2, .ref q3, .ref q4, .ref q5, .ref q6, .ref q7, .ref q8, .int (iI nd1), .int (iI x)])), (q1, ia E 97 pa1), (q2, ia E 97 vb1), (q3, ia E 97 cd1), (q4, ia E 291 cn1), (q5, ia E 97 sa1), (q6, ia E 97 ph1), (q7, ia E 12 (fun _ => -1)), (q8, ia E 12 fn1), (w0, .inr (4, [.ref w1, .ref w2, .ref w3, .ref w4, .int (iI y)])), (w1, ia E 8 L), (w2, ia E 96 V), (w3, ia E 96 A), (w4, ia E 96 N), (m0, .inr (1, [.ref m1, .ref m2, .int (iI z2)])), (m1, ia E 12 (fiI t 12 (-1))), (m2, ia E 12 (fiI c 12 (-1)))] rfl (by intro j h0 h1; unfold fiI; rw [if_pos (by omega)]) rfl ?_
                    obtain ⟨ns, hTr⟩ := SeI.trs hS3 hV hTk (show 1 ≤ x ∧ x ≤ 4 by omega)
                    refine g_aload_n G 0 dX2_search_107 rfl ?_
                    refine g_iconst G dX2_search_108 ?_
                    refine g_iconst G dX2_search_109 ?_
                    refine g_iconst G dX2_search_110 ?_
                    refine g_callV G [0, 1, 2, 3, 4, 5, 6, 7, 8] [9, 10, 11, 12, 13, 14, 15, 16] 17 [(w0, .inr (4, [.ref w1, .ref w2, .ref w3, .ref w4, .int (iI y)])), (w1, ia E 8 L), (w2, ia E 96 V), (w3, ia E 96 A), (w4, ia E 96 N), (m0, .inr (1, [.ref m1, .ref m2, .int (iI z2)])), (m1, ia E 12 (fiI t 12 (-1))), (m2, ia E 12 (fiI c 12 (-1)))] [.int (iI 1), .int (iI 1), .int (iI 0)] [] (c_X2_walk E 12 q0 q1 q2 q3 q4 q5 q6 q7 q8 pa1 vb1 cd1 cn1 sa1 ph1 (fun _ => -1) fn1 nd1 x 1 1 0 (SolP (tpF L V N e y.toNat).1 (tpF L V N e y.toNat).2.1 (tpF L V N e y.toNat).2.2.1 (tpF L V N e y.toNat).2.2.2.toNat x) ns (by exact hTr) (by exact WkI.start hTr hs0.1 hs0.2) (by omega)) dX2_search_111 gX2_search_X2_walk ⟨rfl, ⟨rfl, rfl⟩, e_X2_walk, ⟨Nat.le_of_ble_eq_true rfl, Nat.le_of_ble_eq_true rfl⟩, Nat.le_of_ble_eq_true rfl, Nat.le_of_ble_eq_true rfl, Nat.le_of_ble_eq_true rfl⟩ rfl rfl rfl rfl rfl (by decide +kernel) rfl (by decide +kernel) rfl (fun v9 w9 h9 => ?_)
                    obtain ⟨r2, sa2, ph2, tg2, fn2, rfl, rfl, hr2, hg2⟩ := h9
                    refine ⟨[(q0, .inr (2, [.ref q1, .ref q2, .ref q3, .ref q4, .ref q5, .ref q6, .ref q7, .ref q8, .int (iI nd1), .int (iI x)])), (q1, ia E 97 pa1), (q2, ia E 97 vb1), (q3, ia E 97 cd1), (q4, ia E 291 cn1), (q5, ia E 97 sa2), (q6, ia E 97 ph2), (q7, ia E 12 tg2), (q8, ia E 12 fn2), (w0, .inr (4, [.ref w1, .ref w2, .ref w3, .ref w4, .int (iI y)])), (w1, ia E 8 L), (w2, ia E 96 V), (w3, ia E 96 A), (w4, ia E 96 N), (m0, .inr (1, [.ref m1, .ref m2, .int (iI z2)])), (m1, ia E 12 (fiI t 12 (-1))), (m2, ia E 12 (fiI c 12 (-1)))], ⟨rfl, rfl, rfl, rfl⟩, g_to 0 0 _ _ [.int (iI r2)] rfl rfl rfl rfl rfl ?_⟩
                    refine g_iconst G dX2_search_114 ?_
                    refine g_icmp_ne G 124 dX2_search_115 (by decide) (by omega) (by omega) (fun c115 => ?_) (fun c115 => ?_)
                    · have hlo := WkR.lost hr2 c115
                      refine g_iinc G 5 [(0, .ref q0), (1, .ref w0), (2, .int (iI e)), (3, .ref m0), (4, .int (iI q)), (5, .int (iI (x + 1)))] dX2_search_124 rfl (by decide) rfl rfl ?_
                      refine g_goto G 87 dX2_search_127 (by decide) ?_
                      exact ih87 (x + 1) x tg2 fn2 sa2 ph2 (by first | assumption | omega) (by exact ⟨(hlo.2 0 (by omega) (by omega)).1.trans hs0.1, (hlo.2 0 (by omega) (by omega)).2.trans hs0.2⟩) (by intro n hn; rcases (show n = x ∨ n < x by omega) with w | w; (subst w; exact hlo.1); exact hno n (by omega)) (by omega)
                    · obtain ⟨cm2, dp2, hW2⟩ := WkR.won hr2 c115
                      have htb := WkI.bd hTr hW2
                      refine g_aload_n G 0 dX2_search_118 rfl ?_
                      refine g_aload_n G 3 dX2_search_119 rfl ?_
                      refine g_callV G [0, 1, 2, 3, 4, 5, 6, 7, 8, 14, 15, 16] [9, 10, 11, 12, 13] 17 [(w0, .inr (4, [.ref w1, .ref w2, .ref w3, .ref w4, .int (iI y)])), (w1, ia E 8 L), (w2, ia E 96 V), (w3, ia E 96 A), (w4, ia E 96 N)] [.ref m0] [] (c_X2_hand_b E q0 q1 q2 q3 q4 q5 q6 q7 q8 pa1 vb1 cd1 cn1 sa2 ph2 tg2 fn2 nd1 x m0 m1 m2 (fiI t 12 (-1)) (fiI c 12 (-1)) z2 (by intro i i0 i1 hi; have q := WkT.lt hW2.2.1 (m := i) (by have := htb i; omega); omega) (by exact htb)) dX2_search_120 gX2_search_X2_hand ⟨rfl, ⟨rfl, rfl⟩, e_X2_hand, ⟨Nat.le_of_ble_eq_true rfl, Nat.le_of_ble_eq_true rfl⟩, Nat.le_of_ble_eq_true rfl, Nat.le_of_ble_eq_true rfl, Nat.le_of_ble_eq_true rfl⟩ rfl rfl rfl rfl rfl (by decide +kernel) rfl (by decide +kernel) rfl (fun v9 w9 h9 => ?_)
                      obtain ⟨t3, c3, rfl, rfl, hh1⟩ := h9
                      refine ⟨[(q0, .inr (2, [.ref q1, .ref q2, .ref q3, .ref q4, .ref q5, .ref q6, .ref q7, .ref q8, .int (iI nd1), .int (iI x)])), (q1, ia E 97 pa1), (q2, ia E 97 vb1), (q3, ia E 97 cd1), (q4, ia E 291 cn1), (q5, ia E 97 sa2), (q6, ia E 97 ph2), (q7, ia E 12 tg2), (q8, ia E 12 fn2), (w0, .inr (4, [.ref w1, .ref w2, .ref w3, .ref w4, .int (iI y)])), (w1, ia E 8 L), (w2, ia E 96 V), (w3, ia E 96 A), (w4, ia E 96 N), (m0, .inr (1, [.ref m1, .ref m2, .int (iI x)])), (m1, ia E 12 t3), (m2, ia E 12 c3)], ⟨rfl, rfl, rfl, rfl⟩, g_to 0 0 _ _ [] rfl rfl rfl rfl rfl ?_⟩
                      exact g_ret G none rfl dX2_search_123 (Nat.le_refl _) (Nat.le_refl _) ⟨pa1, vb1, cd1, cn1, sa2, ph2, tg2, fn2, nd1, x, t3, c3, x, rfl, rfl, by exact SeI.best hS3 hTr hW2 hh1 (show 1 ≤ x ∧ x ≤ 4 by omega) hK0 hno, by exact ⟨hTk.2.2.2.1, hTk.2.2.2.2.1, hTk.2.2.2.2.2⟩⟩
              exact L87 ((5 - 1 : Int).toNat + 1) 1 al tg fn (upI sa 0 0) (upI ph 0 0) (by first | assumption | omega) (by exact ⟨upI_same _ _ _, upI_same _ _ _⟩) (by intro n hn; omega) (by omega)
            · exact g_ret G none rfl dX2_search_83 (Nat.le_refl _) (Nat.le_refl _) ⟨pa1, vb1, cd1, cn1, (upI sa 0 0), (upI ph 0 0), tg, fn, nd1, al, (fiI t 12 (-1)), (fiI c 12 (-1)), z2, rfl, rfl, by first | exact SeI.mac0 hS2 (by omega) (by omega) hz | exact SeI.macq hS2 hz (by omega), by exact ⟨hTk.2.2.2.1, hTk.2.2.2.2.1, hTk.2.2.2.2.2⟩⟩
        have hn9 := hTk.1
        have hn8 := hTk.2.1
        refine g_aload_n G 3 dX2_search_53 rfl ?_
        refine g_aload_n G 0 dX2_search_54 rfl ?_
        refine g_get G 0 8 dX2_search_55 i_X2_search_X2 f_X2_search_49 rfl rfl (by decide) rfl ?_
        refine g_iconst G dX2_search_58 ?_
        refine g_icmp_le G 66 dX2_search_59 (by decide) (by omega) (by omega) (fun c59 => ?_) (fun c59 => ?_)
        · refine g_iconst G dX2_search_66 ?_
          refine g_callV G [14, 15, 16] [0, 1, 2, 3, 4, 5, 6, 7, 8, 9, 10, 11, 12, 13] 17 [(q0, .inr (2, [.ref q1, .ref q2, .ref q3, .ref q4, .ref q5, .ref q6, .ref q7, .ref q8, .int (iI nd1), .int (iI al)])), (q1, ia E 97 pa1), (q2, ia E 97 vb1), (q3, ia E 97 cd1), (q4, ia E 291 cn1), (q5, ia E 97 (upI sa 0 0)), (q6, ia E 97 (upI ph 0 0)), (q7, ia E 12 tg), (q8, ia E 12 fn), (w0, .inr (4, [.ref w1, .ref w2, .ref w3, .ref w4, .int (iI y)])), (w1, ia E 8 L), (w2, ia E 96 V), (w3, ia E 96 A), (w4, ia E 96 N)] [.int (iI 0)] [] (c_X1_clear E m0 m1 m2 t c z 0 ) dX2_search_67 gX2_search_X1_clear ⟨rfl, ⟨rfl, rfl⟩, e_X1_clear, ⟨Nat.le_of_ble_eq_true rfl, Nat.le_of_ble_eq_true rfl⟩, Nat.le_of_ble_eq_true rfl, Nat.le_of_ble_eq_true rfl, Nat.le_of_ble_eq_true rfl⟩ rfl rfl rfl rfl rfl (by decide +kernel) rfl (by decide +kernel) rfl (fun v9 w9 h9 => ?_)
          obtain ⟨rfl, rfl⟩ := h9
          refine ⟨[(q0, .inr (2, [.ref q1, .ref q2, .ref q3, .ref q4, .ref q5, .ref q6, .ref q7, .ref q8, .int (iI nd1), .int (iI al)])), (q1, ia E 97 pa1), (q2, ia E 97 vb1), (q3, ia E 97 cd1), (q4, ia E 291 cn1), (q5, ia E 97 (upI sa 0 0)), (q6, ia E 97 (upI ph 0 0)), (q7, ia E 12 tg), (q8, ia E 12 fn), (w0, .inr (4, [.ref w1, .ref w2, .ref w3, .ref w4, .int (iI y)])), (w1, ia E 8 L), (w2, ia E 96 V), (w3, ia E 96 A), (w4, ia E 96 N), (m0, .inr (1, [.ref m1, .ref m2, .int (iI 0)])), (m1, ia E 12 (fiI t 12 (-1))), (m2, ia E 12 (fiI c 12 (-1)))], ⟨rfl, rfl, rfl, rfl⟩, g_to 0 0 _ _ [] rfl rfl rfl rfl rfl ?_⟩
          exact L70 0 (by omega)
        · refine g_iconst G dX2_search_62 ?_
          refine g_goto G 67 dX2_search_63 (by decide) ?_
          refine g_callV G [14, 15, 16] [0, 1, 2, 3, 4, 5, 6, 7, 8, 9, 10, 11, 12, 13] 17 [(q0, .inr (2, [.ref q1, .ref q2, .ref q3, .ref q4, .ref q5, .ref q6, .ref q7, .ref q8, .int (iI nd1), .int (iI al)])), (q1, ia E 97 pa1), (q2, ia E 97 vb1), (q3, ia E 97 cd1), (q4, ia E 291 cn1), (q5, ia E 97 (upI sa 0 0)), (q6, ia E 97 (upI ph 0 0)), (q7, ia E 12 tg), (q8, ia E 12 fn), (w0, .inr (4, [.ref w1, .ref w2, .ref w3, .ref w4, .int (iI y)])), (w1, ia E 8 L), (w2, ia E 96 V), (w3, ia E 96 A), (w4, ia E 96 N)] [.int (iI (-1))] [] (c_X1_clear E m0 m1 m2 t c z (-1) ) dX2_search_67 gX2_search_X1_clear ⟨rfl, ⟨rfl, rfl⟩, e_X1_clear, ⟨Nat.le_of_ble_eq_true rfl, Nat.le_of_ble_eq_true rfl⟩, Nat.le_of_ble_eq_true rfl, Nat.le_of_ble_eq_true rfl, Nat.le_of_ble_eq_true rfl⟩ rfl rfl rfl rfl rfl (by decide +kernel) rfl (by decide +kernel) rfl (fun v9 w9 h9 => ?_)
          obtain ⟨rfl, rfl⟩ := h9
          refine ⟨[(q0, .inr (2, [.ref q1, .ref q2, .ref q3, .ref q4, .ref q5, .ref q6, .ref q7, .ref q8, .int (iI nd1), .int (iI al)])), (q1, ia E 97 pa1), (q2, ia E 97 vb1), (q3, ia E 97 cd1), (q4, ia E 291 cn1), (q5, ia E 97 (upI sa 0 0)), (q6, ia E 97 (upI ph 0 0)), (q7, ia E 12 tg), (q8, ia E 12 fn), (w0, .inr (4, [.ref w1, .ref w2, .ref w3, .ref w4, .int (iI y)])), (w1, ia E 8 L), (w2, ia E 96 V), (w3, ia E 96 A), (w4, ia E 96 N), (m0, .inr (1, [.ref m1, .ref m2, .int (iI (-1))])), (m1, ia E 12 (fiI t 12 (-1))), (m2, ia E 12 (fiI c 12 (-1)))], ⟨rfl, rfl, rfl, rfl⟩, g_to 0 0 _ _ [] rfl rfl rfl rfl rfl ?_⟩
          exact L70 (-1) (by omega)
      · refine g_iload G 4 dX2_search_19 rfl ?_
        refine g_if_ne G 53 dX2_search_21 (by decide) (by omega) (fun c21 => ?_) (fun c21 => ?_)
        · have L70 : ∀ (z2 : Int), ((nd1 = 1 ∧ z2 = 0) ∨ (nd1 ≠ 1 ∧ z2 = -1)) → P 0 0 [(q0, .inr (2, [.ref q1, .ref q2, .ref q3, .ref q4, .ref q5, .ref q6, .ref q7, .ref q8, .int (iI nd1), .int (iI al)])), (q1, ia E 97 pa1), (q2, ia E 97 vb1), (q3, ia E 97 cd1), (q4, ia E 291 cn1), (q5, ia E 97 (upI sa 0 0)), (q6, ia E 97 (upI ph 0 0)), (q7, ia E 12 tg), (q8, ia E 12 fn), (w0, .inr (4, [.ref w1, .ref w2, .ref w3, .ref w4, .int (iI y)])), (w1, ia E 8 L), (w2, ia E 96 V), (w3, ia E 96 A), (w4, ia E 96 N), (m0, .inr (1, [.ref m1, .ref m2, .int (iI z2)])), (m1, ia E 12 (fiI t 12 (-1))), (m2, ia E 12 (fiI c 12 (-1)))] 70 [(0, .ref q0), (1, .ref w0), (2, .int (iI e)), (3, .ref m0), (4, .int (iI q)), (5, .int (iI i))] [] := by
            intro z2 hz
            have hn0 := hTk.1
            have hn1 := hTk.2.1
            have hS2 := SeI.fin hSe (by omega)
            refine g_aload_n G 0 dX2_search_70 rfl ?_
            refine g_get G 0 8 dX2_search_71 i_X2_search_X2 f_X2_search_49 rfl rfl (by decide) rfl ?_
            refine g_iconst G dX2_search_74 ?_
            refine g_icmp_eq G 83 dX2_search_75 (by decide) (by omega) (by omega) (fun c75 => ?_) (fun c75 => ?_)
            · exact g_ret G none rfl dX2_search_83 (Nat.le_refl _) (Nat.le_refl _) ⟨pa1, vb1, cd1, cn1, (upI sa 0 0), (upI ph 0 0), tg, fn, nd1, al, (fiI t 12 (-1)), (fiI c 12 (-1)), z2, rfl, rfl, by first | exact SeI.mac0 hS2 (by omega) (by omega) hz | exact SeI.macq hS2 hz (by omega), by exact ⟨hTk.2.2.2.1, hTk.2.2.2.2.1, hTk.2.2.2.2.2⟩⟩
            · refine g_iload G 4 dX2_search_78 rfl ?_
              refine g_if_eq G 84 dX2_search_80 (by decide) (by omega) (fun c80 => ?_) (fun c80 => ?_)
              · have hS3 : SeI L V N e y y 0 pa1 vb1 cd1 cn1 nd1 := by rw [(show (0 : Int) = q by omega)]; exact hS2
                have hK0 := SeI.pos hS3 (by omega)
                refine g_iconst G dX2_search_84 ?_
                refine g_istore G [(0, .ref q0), (1, .ref w0), (2, .int (iI e)), (3, .ref m0), (4, .int (iI q)), (5, .int (iI 1))] dX2_search_85 (by decide) rfl rfl ?_
                have L87 : ∀ (fuel : Nat), ∀ (x : Int) (al1 : Int) (tg1 : Int → Int) (fn1 : Int → Int) (sa1 : Int → Int) (ph1 : Int → Int), (1 ≤ x ∧ x ≤ 5) → (sa1 0 = 0 ∧ ph1 0 = 0) → (∀ n, 1 ≤ n ∧ n < x → ∀ τ, ¬ (SolP (tpF L V N e y.toNat).1 (tpF L V N e y.toNat).2.1 (tpF L V N e y.toNat).2.2.1 (tpF L V N e y.toNat).2.2.2.toNat n) τ) → (5 - x : Int).toNat < fuel → P 0 0 [(q0, .inr (2, [.ref q1, .ref q2, .ref q3, .ref q4, .ref q5, .ref q6, .ref q7, .ref q8, .int (iI nd1), .int (iI al1)])), (q1, ia E 97 pa1), (q2, ia E 97 vb1), (q3, ia E 97 cd1), (q4, ia E 291 cn1), (q5, ia E 97 sa1), (q6, ia E 97 ph1), (q7, ia E 12 tg1), (q8, ia E 12 fn1), (w0, .inr (4, [.ref w1, .ref w2, .ref w3, .ref w4, .int (iI y)])), (w1, ia E 8 L), (w2, ia E 96 V), (w3, ia E 96 A), (w4, ia E 96 N), (m0, .inr (1, [.ref m1, .ref m2, .int (iI z2)])), (m1, ia E 12 (fiI t 12 (-1))), (m2, ia E 12 (fiI c 12 (-1)))] 87 [(0, .ref q0), (1, .ref w0), (2, .int (iI e)), (3, .ref m0), (4, .int (iI q)), (5, .int (iI x))] [] := by
                  intro fuel
                  induction fuel with
                  | zero => intro x al1 tg1 fn1 sa1 ph1 hx hs0 hno hm; exact absurd hm (Nat.not_lt_zero _)
                  | succ fuel ih87 =>
                    intro x al1 tg1 fn1 sa1 ph1 hx hs0 hno hm
                    refine g_iload G 5 dX2_search_87 rfl ?_
                    refine g_iconst G dX2_search_89 ?_
                    refine g_icmp_gt G 130 dX2_search_90 (by decide) (by omega) (by omega) (fun c90 => ?_) (fun c90 => ?_)
                    · exact g_ret G none rfl dX2_search_130 (Nat.le_refl _) (Nat.le_refl _) ⟨pa1, vb1, cd1, cn1, sa1, ph1, tg1, fn1, nd1, al1, (fiI t 12 (-1)), (fiI c 12 (-1)), z2, rfl, rfl, by exact SeI.macn hz (by omega) hK0 (fun n hn => hno n (by omega)), by exact ⟨hTk.2.2.2.1, hTk.2.2.2.2.1, hTk.2.2.2.2.2⟩⟩
                    · refine g_aload_n G 0 dX2_search_93 rfl ?_
                      refine g_iload G 5 dX2_search_94 rfl ?_
                      refine g_put G 0 9 [(q0, .inr (2, [.ref q1, .ref q2, .ref q3, .ref q4, .ref q5, .ref q6, .ref q7, .ref q8, .int (iI nd1), .int (iI x)])), (q1, ia E 97 pa1), (q2, ia E 97 vb1), (q3, ia E 97 cd1), (q4, ia E 291 cn1), (q5, ia E 97 sa1), (q6, ia E 97 ph1), (q7, ia E 12 tg1), (q8, ia E 12 fn1), (w0, .inr (4, [.ref w1, .ref w2, .ref w3, .ref w4, .int (iI y)])), (w1, ia E 8 L), (w2, ia E 96 V), (w3, ia E 96 A), (w4, ia E 96 N), (m0, .inr (1, [.ref m1, .ref m2, .int (iI z2)])), (m1, ia E 12 (fiI t 12 (-1))), (m2, ia E 12 (fiI c 12 (-1)))] dX2_search_96 i_X2_search_X2 f_X2_search_59 tyX2_ok nmX2 rfl rfl (by decide) rfl rfl rfl rfl (Nat.le_of_ble_eq_true rfl) rfl ?_
                      refine g_aload_n G 0 dX2_search_99 rfl ?_
                      refine g_get G 0 6 dX2_search_100 i_X2_search_X2 f_X2_search_30 rfl rfl (by decide) rfl ?_
                      refine g_iconst G dX2_search_103 ?_
                      refine g_callS G [7] [0, 1, 2, 3, 4, 5, 6, 8, 9, 10, 11, 12, 13, 14, 15, 16] 17 [(q0, .inr (2, [.ref q1, .ref q2, .ref q3, .ref q4, .ref q5, .ref q6, .ref q7, .ref q8, .int (iI nd1), .int (iI x)])), (q1, ia E 97 pa1), (q2, ia E 97 vb1), (q3, ia E 97 cd1), (q4, ia E 291 cn1), (q5, ia E 97 sa1), (q6, ia E 97 ph1), (q8, ia E 12 fn1), (w0, .inr (4, [.ref w1, .ref w2, .ref w3, .ref w4, .int (iI y)])), (w1, ia E 8 L), (w2, ia E 96 V), (w3, ia E 96 A), (w4, ia E 96 N), (m0, .inr (1, [.ref m1, .ref m2, .int (iI z2)])), (m1, ia E 12 (fiI t 12 (-1))), (m2, ia E 12 (fiI c 12 (-1)))] [.ref q7, .int (iI (-1))] [] (c_J7_fill_53178 E q7 12 tg1 (-1) (by first | assumption | omega)) dX2_search_104 gX2_search_J7_fill_53178 ⟨rfl, ⟨rfl, rfl⟩, e_J7_fill_53178, ⟨Nat.le_of_ble_eq_true rfl, Nat.le_of_ble_eq_true rfl⟩, Nat.le_of_ble_eq_true rfl, Nat.le_of_ble_eq_true rfl, Nat.le_of_ble_eq_true rfl⟩ rfl (by decide +kernel) rfl (by decide +kernel) rfl (fun v9 w9 h9 => ?_)
                      obtain ⟨o2, rfl, rfl, rfl⟩ := h9
                      refine ⟨[(q0, .inr (2, [.ref q1, .ref q2, .ref q3, .ref q4, .ref q5, .ref q6, .ref q7, .ref q8, .int (iI nd1), .int (iI x)])), (q1, ia E 97 pa1), (q2, ia E 97 vb1), (q3, ia E 97 cd1), (q4, ia E 291 cn1), (q5, ia E 97 sa1), (q6, ia E 97 ph1), (q7, ia E 12 (fiI tg1 12 (-1))), (q8, ia E 12 fn1), (w0, .inr (4, [.ref w1, .ref w2, .ref w3, .ref w4, .int (iI y)])), (w1, ia E 8 L), (w2, ia E 96 V), (w3, ia E 96 A), (w4, ia E 96 N), (m0, .inr (1, [.ref m1, .ref m2, .int (iI z2)])), (m1, ia E 12 (fiI t 12 (-1))), (m2, ia E 12 (fiI c 12 (-1)))], ⟨rfl, rfl, rfl, rfl⟩, g_to 0 0 _ _ [] rfl rfl rfl rfl rfl ?_⟩
                      refine g_norm G 7 (fun _ => -1) [(q0, .inr (2, [.ref q1, .ref q2, .ref q3, .ref q4, .ref q5, .ref q6, .ref q7, .ref q8, .int (iI nd1), .int (iI x)])), (q1, ia E 97 pa1), (q2, ia E 97 vb1), (q3, ia E 97 cd1), (q4, ia E 291 cn1), (q5, ia E 97 sa1), (q6, ia E 97 ph1), (q7, ia E 12 (fun _ => -1)), (q8, ia E 12 fn1), (w0, .inr (4, [.ref w1, .ref w2, .ref w3, .ref w4, .int (iI y)])), (w1, ia E 8 L), (w2, ia E 96 V), (w3, ia E 96 A), (w4, ia E 96 N), (m0, .inr (1, [.ref m1, .ref m2, .int (iI z2)])), (m1, ia E 12 (fiI t 12 (-1))), (m2, ia E 12 (fiI c 12 (-1)))] rfl (by intro j h0 h1; unfold fiI; rw [if_pos (by omega)]) rfl ?_
                      obtain ⟨ns, hTr⟩ := SeI.trs hS3 hV hTk (show 1 ≤ x ∧ x ≤ 4 by omega)
                      refine g_aload_n G 0 dX2_search_107 rfl ?_
                      refine g_iconst G dX2_search_108 ?_
                      refine g_iconst G dX2_search_109 ?_
                      refine g_iconst G dX2_search_110 ?_
                      refine g_callV G [0, 1, 2, 3, 4, 5, 6, 7, 8] [9, 10, 11, 12, 13, 14, 15, 16] 17 [(w0, .inr (4, [.ref w1, .ref w2, .ref w3, .ref w4, .int (iI y)])), (w1, ia E 8 L), (w2, ia E 96 V), (w3, ia E 96 A), (w4, ia E 96 N), (m0, .inr (1, [.ref m1, .ref m2, .int (iI z2)])), (m1, ia E 12 (fiI t 12 (-1))), (m2, ia E 12 (fiI c 12 (-1)))] [.int (iI 1), .int (iI 1), .int (iI 0)] [] (c_X2_walk E 12 q0 q1 q2 q3 q4 q5 q6 q7 q8 pa1 vb1 cd1 cn1 sa1 ph1 (fun _ => -1) fn1 nd1 x 1 1 0 (SolP (tpF L V N e y.toNat).1 (tpF L V N e y.toNat).2.1 (tpF L V N e y.toNat).2.2.1 (tpF L V N e y.toNat).2.2.2.toNat x) ns (by exact hTr) (by exact WkI.start hTr hs0.1 hs0.2) (by omega)) dX2_search_111 gX2_search_X2_walk ⟨rfl, ⟨rfl, rfl⟩, e_X2_walk, ⟨Nat.le_of_ble_eq_true rfl, Nat.le_of_ble_eq_true rfl⟩, Nat.le_of_ble_eq_true rfl, Nat.le_of_ble_eq_true rfl, Nat.le_of_ble_eq_true rfl⟩ rfl rfl rfl rfl rfl (by decide +kernel) rfl (by decide +kernel) rfl (fun v9 w9 h9 => ?_)
                      obtain ⟨r2, sa2, ph2, tg2, fn2, rfl, rfl, hr2, hg2⟩ := h9
                      refine ⟨[(q0, .inr (2, [.ref q1, .ref q2, .ref q3, .ref q4, .ref q5, .ref q6, .ref q7, .ref q8, .int (iI nd1), .int (iI x)])), (q1, ia E 97 pa1), (q2, ia E 97 vb1), (q3, ia E 97 cd1), (q4, ia E 291 cn1), (q5, ia E 97 sa2), (q6, ia E 97 ph2), (q7, ia E 12 tg2), (q8, ia E 12 fn2), (w0, .inr (4, [.ref w1, .ref w2, .ref w3, .ref w4, .int (iI y)])), (w1, ia E 8 L), (w2, ia E 96 V), (w3, ia E 96 A), (w4, ia E 96 N), (m0, .inr (1, [.ref m1, .ref m2, .int (iI z2)])), (m1, ia E 12 (fiI t 12 (-1))), (m2, ia E 12 (fiI c 12 (-1)))], ⟨rfl, rfl, rfl, rfl⟩, g_to 0 0 _ _ [.int (iI r2)] rfl rfl rfl rfl rfl ?_⟩
                      refine g_iconst G dX2_search_114 ?_
                      refine g_icmp_ne G 124 dX2_search_115 (by decide) (by omega) (by omega) (fun c115 => ?_) (fun c115 => ?_)
                      · have hlo := WkR.lost hr2 c115
                        refine g_iinc G 5 [(0, .ref q0), (1, .ref w0), (2, .int (iI e)), (3, .ref m0), (4, .int (iI q)), (5, .int (iI (x + 1)))] dX2_search_124 rfl (by decide) rfl rfl ?_
                        refine g_goto G 87 dX2_search_127 (by decide) ?_
                        exact ih87 (x + 1) x tg2 fn2 sa2 ph2 (by first | assumption | omega) (by exact ⟨(hlo.2 0 (by omega) (by omega)).1.trans hs0.1, (hlo.2 0 (by omega) (by omega)).2.trans hs0.2⟩) (by intro n hn; rcases (show n = x ∨ n < x by omega) with w | w; (subst w; exact hlo.1); exact hno n (by omega)) (by omega)
                      · obtain ⟨cm2, dp2, hW2⟩ := WkR.won hr2 c115
                        have htb := WkI.bd hTr hW2
                        refine g_aload_n G 0 dX2_search_118 rfl ?_
                        refine g_aload_n G 3 dX2_search_119 rfl ?_
                        refine g_callV G [0, 1, 2, 3, 4, 5, 6, 7, 8, 14, 15, 16] [9, 10, 11, 12, 13] 17 [(w0, .inr (4, [.ref w1, .ref w2, .ref w3, .ref w4, .int (iI y)])), (w1, ia E 8 L), (w2, ia E 96 V), (w3, ia E 96 A), (w4, ia E 96 N)] [.ref m0] [] (c_X2_hand_b E q0 q1 q2 q3 q4 q5 q6 q7 q8 pa1 vb1 cd1 cn1 sa2 ph2 tg2 fn2 nd1 x m0 m1 m2 (fiI t 12 (-1)) (fiI c 12 (-1)) z2 (by intro i i0 i1 hi; have q := WkT.lt hW2.2.1 (m := i) (by have := htb i; omega); omega) (by exact htb)) dX2_search_120 gX2_search_X2_hand ⟨rfl, ⟨rfl, rfl⟩, e_X2_hand, ⟨Nat.le_of_ble_eq_true rfl, Nat.le_of_ble_eq_true rfl⟩, Nat.le_of_ble_eq_true rfl, Nat.le_of_ble_eq_true rfl, Nat.le_of_ble_eq_true rfl⟩ rfl rfl rfl rfl rfl (by decide +kernel) rfl (by decide +kernel) rfl (fun v9 w9 h9 => ?_)
                        obtain ⟨t3, c3, rfl, rfl, hh1⟩ := h9
                        refine ⟨[(q0, .inr (2, [.ref q1, .ref q2, .ref q3, .ref q4, .ref q5, .ref q6, .ref q7, .ref q8, .int (iI nd1), .int (iI x)])), (q1, ia E 97 pa1), (q2, ia E 97 vb1), (q3, ia E 97 cd1), (q4, ia E 291 cn1), (q5, ia E 97 sa2), (q6, ia E 97 ph2), (q7, ia E 12 tg2), (q8, ia E 12 fn2), (w0, .inr (4, [.ref w1, .ref w2, .ref w3, .ref w4, .int (iI y)])), (w1, ia E 8 L), (w2, ia E 96 V), (w3, ia E 96 A), (w4, ia E 96 N), (m0, .inr (1, [.ref m1, .ref m2, .int (iI x)])), (m1, ia E 12 t3), (m2, ia E 12 c3)], ⟨rfl, rfl, rfl, rfl⟩, g_to 0 0 _ _ [] rfl rfl rfl rfl rfl ?_⟩
                        exact g_ret G none rfl dX2_search_123 (Nat.le_refl _) (Nat.le_refl _) ⟨pa1, vb1, cd1, cn1, sa2, ph2, tg2, fn2, nd1, x, t3, c3, x, rfl, rfl, by exact SeI.best hS3 hTr hW2 hh1 (show 1 ≤ x ∧ x ≤ 4 by omega) hK0 hno, by exact ⟨hTk.2.2.2.1, hTk.2.2.2.2.1, hTk.2.2.2.2.2⟩⟩
                exact L87 ((5 - 1 : Int).toNat + 1) 1 al tg fn (upI sa 0 0) (upI ph 0 0) (by first | assumption | omega) (by exact ⟨upI_same _ _ _, upI_same _ _ _⟩) (by intro n hn; omega) (by omega)
              · exact g_ret G none rfl dX2_search_83 (Nat.le_refl _) (Nat.le_refl _) ⟨pa1, vb1, cd1, cn1, (upI sa 0 0), (upI ph 0 0), tg, fn, nd1, al, (fiI t 12 (-1)), (fiI c 12 (-1)), z2, rfl, rfl, by first | exact SeI.mac0 hS2 (by omega) (by omega) hz | exact SeI.macq hS2 hz (by omega), by exact ⟨hTk.2.2.2.1, hTk.2.2.2.2.1, hTk.2.2.2.2.2⟩⟩
          have hn9 := hTk.1
          have hn8 := hTk.2.1
          refine g_aload_n G 3 dX2_search_53 rfl ?_
          refine g_aload_n G 0 dX2_search_54 rfl ?_
          refine g_get G 0 8 dX2_search_55 i_X2_search_X2 f_X2_search_49 rfl rfl (by decide) rfl ?_
          refine g_iconst G dX2_search_58 ?_
          refine g_icmp_le G 66 dX2_search_59 (by decide) (by omega) (by omega) (fun c59 => ?_) (fun c59 => ?_)
          · refine g_iconst G dX2_search_66 ?_
            refine g_callV G [14, 15, 16] [0, 1, 2, 3, 4, 5, 6, 7, 8, 9, 10, 11, 12, 13] 17 [(q0, .inr (2, [.ref q1, .ref q2, .ref q3, .ref q4, .ref q5, .ref q6, .ref q7, .ref q8, .int (iI nd1), .int (iI al)])), (q1, ia E 97 pa1), (q2, ia E 97 vb1), (q3, ia E 97 cd1), (q4, ia E 291 cn1), (q5, ia E 97 (upI sa 0 0)), (q6, ia E 97 (upI ph 0 0)), (q7, ia E 12 tg), (q8, ia E 12 fn), (w0, .inr (4, [.ref w1, .ref w2, .ref w3, .ref w4, .int (iI y)])), (w1, ia E 8 L), (w2, ia E 96 V), (w3, ia E 96 A), (w4, ia E 96 N)] [.int (iI 0)] [] (c_X1_clear E m0 m1 m2 t c z 0 ) dX2_search_67 gX2_search_X1_clear ⟨rfl, ⟨rfl, rfl⟩, e_X1_clear, ⟨Nat.le_of_ble_eq_true rfl, Nat.le_of_ble_eq_true rfl⟩, Nat.le_of_ble_eq_true rfl, Nat.le_of_ble_eq_true rfl, Nat.le_of_ble_eq_true rfl⟩ rfl rfl rfl rfl rfl (by decide +kernel) rfl (by decide +kernel) rfl (fun v9 w9 h9 => ?_)
            obtain ⟨rfl, rfl⟩ := h9
            refine ⟨[(q0, .inr (2, [.ref q1, .ref q2, .ref q3, .ref q4, .ref q5, .ref q6, .ref q7, .ref q8, .int (iI nd1), .int (iI al)])), (q1, ia E 97 pa1), (q2, ia E 97 vb1), (q3, ia E 97 cd1), (q4, ia E 291 cn1), (q5, ia E 97 (upI sa 0 0)), (q6, ia E 97 (upI ph 0 0)), (q7, ia E 12 tg), (q8, ia E 12 fn), (w0, .inr (4, [.ref w1, .ref w2, .ref w3, .ref w4, .int (iI y)])), (w1, ia E 8 L), (w2, ia E 96 V), (w3, ia E 96 A), (w4, ia E 96 N), (m0, .inr (1, [.ref m1, .ref m2, .int (iI 0)])), (m1, ia E 12 (fiI t 12 (-1))), (m2, ia E 12 (fiI c 12 (-1)))], ⟨rfl, rfl, rfl, rfl⟩, g_to 0 0 _ _ [] rfl rfl rfl rfl rfl ?_⟩
            exact L70 0 (by omega)
          · refine g_iconst G dX2_search_62 ?_
            refine g_goto G 67 dX2_search_63 (by decide) ?_
            refine g_callV G [14, 15, 16] [0, 1, 2, 3, 4, 5, 6, 7, 8, 9, 10, 11, 12, 13] 17 [(q0, .inr (2, [.ref q1, .ref q2, .ref q3, .ref q4, .ref q5, .ref q6, .ref q7, .ref q8, .int (iI nd1), .int (iI al)])), (q1, ia E 97 pa1), (q2, ia E 97 vb1), (q3, ia E 97 cd1), (q4, ia E 291 cn1), (q5, ia E 97 (upI sa 0 0)), (q6, ia E 97 (upI ph 0 0)), (q7, ia E 12 tg), (q8, ia E 12 fn), (w0, .inr (4, [.ref w1, .ref w2, .ref w3, .ref w4, .int (iI y)])), (w1, ia E 8 L), (w2, ia E 96 V), (w3, ia E 96 A), (w4, ia E 96 N)] [.int (iI (-1))] [] (c_X1_clear E m0 m1 m2 t c z (-1) ) dX2_search_67 gX2_search_X1_clear ⟨rfl, ⟨rfl, rfl⟩, e_X1_clear, ⟨Nat.le_of_ble_eq_true rfl, Nat.le_of_ble_eq_true rfl⟩, Nat.le_of_ble_eq_true rfl, Nat.le_of_ble_eq_true rfl, Nat.le_of_ble_eq_true rfl⟩ rfl rfl rfl rfl rfl (by decide +kernel) rfl (by decide +kernel) rfl (fun v9 w9 h9 => ?_)
            obtain ⟨rfl, rfl⟩ := h9
            refine ⟨[(q0, .inr (2, [.ref q1, .ref q2, .ref q3, .ref q4, .ref q5, .ref q6, .ref q7, .ref q8, .int (iI nd1), .int (iI al)])), (q1, ia E 97 pa1), (q2, ia E 97 vb1), (q3, ia E 97 cd1), (q4, ia E 291 cn1), (q5, ia E 97 (upI sa 0 0)), (q6, ia E 97 (upI ph 0 0)), (q7, ia E 12 tg), (q8, ia E 12 fn), (w0, .inr (4, [.ref w1, .ref w2, .ref w3, .ref w4, .int (iI y)])), (w1, ia E 8 L), (w2, ia E 96 V), (w3, ia E 96 A), (w4, ia E 96 N), (m0, .inr (1, [.ref m1, .ref m2, .int (iI (-1))])), (m1, ia E 12 (fiI t 12 (-1))), (m2, ia E 12 (fiI c 12 (-1)))], ⟨rfl, rfl, rfl, rfl⟩, g_to 0 0 _ _ [] rfl rfl rfl rfl rfl ?_⟩
            exact L70 (-1) (by omega)
        · refine g_iload G 5 dX2_search_24 rfl ?_
          refine g_iload_n G 2 dX2_search_26 rfl ?_
          refine g_icmp_eq G 44 dX2_search_27 (by decide) (by omega) (by omega) (fun c27 => ?_) (fun c27 => ?_)
          · refine g_iconst G dX2_search_44 ?_
            refine g_istore G [(0, .ref q0), (1, .ref w0), (2, .int (iI e)), (3, .ref m0), (4, .int (iI 0)), (5, .int (iI i))] dX2_search_45 (by decide) rfl rfl ?_
            refine g_iinc G 5 [(0, .ref q0), (1, .ref w0), (2, .int (iI e)), (3, .ref m0), (4, .int (iI 0)), (5, .int (iI (i + 1)))] dX2_search_47 rfl (by decide) rfl rfl ?_
            refine g_goto G 10 dX2_search_50 (by decide) ?_
            exact ih10 (i + 1) 0 pa1 vb1 cd1 cn1 nd1 (by first | assumption | omega) (by first | assumption | omega) (by first | exact hk2 | exact hTk) (by first | exact (SeI.row hL hV (by rw [(show (0 : Int) = q by omega)]; exact hSe) ⟨hi.1, by omega⟩ hz1 c27 hp2).1 (by omega) | exact (SeI.row hL hV (by rw [(show (0 : Int) = q by omega)]; exact hSe) ⟨hi.1, by omega⟩ hz1 c27 hp2).2 (by omega) | exact SeI.skip (by rw [(show (0 : Int) = q by omega)]; exact hSe) hi.1 c27) (by omega)
          · refine g_aload_n G 0 dX2_search_30 rfl ?_
            refine g_aload_n G 1 dX2_search_31 rfl ?_
            refine g_iload G 5 dX2_search_32 rfl ?_
            refine g_callV G [0, 1, 2, 3, 4, 5, 6, 7, 8, 9, 10, 11, 12, 13] [14, 15, 16] 17 [(m0, .inr (1, [.ref m1, .ref m2, .int (iI z)])), (m1, ia E 12 t), (m2, ia E 12 c)] [.ref w0, .int (iI i)] [] (c_X2_plantRow E q0 q1 q2 q3 q4 q5 q6 q7 q8 pa1 vb1 cd1 cn1 (upI sa 0 0) (upI ph 0 0) tg fn nd1 al w0 w1 w2 w3 w4 L V A N y i (by exact hR) (by omega) (by exact hTk)) dX2_search_34 gX2_search_X2_plantRow ⟨rfl, ⟨rfl, rfl⟩, e_X2_plantRow, ⟨Nat.le_of_ble_eq_true rfl, Nat.le_of_ble_eq_true rfl⟩, Nat.le_of_ble_eq_true rfl, Nat.le_of_ble_eq_true rfl, Nat.le_of_ble_eq_true rfl⟩ rfl rfl rfl rfl rfl (by decide +kernel) rfl (by decide +kernel) rfl (fun v9 w9 h9 => ?_)
            obtain ⟨r2, pa2, vb2, cd2, cn2, nd2, rfl, rfl, hp2, hk2⟩ := h9
            refine ⟨[(q0, .inr (2, [.ref q1, .ref q2, .ref q3, .ref q4, .ref q5, .ref q6, .ref q7, .ref q8, .int (iI nd2), .int (iI al)])), (q1, ia E 97 pa2), (q2, ia E 97 vb2), (q3, ia E 97 cd2), (q4, ia E 291 cn2), (q5, ia E 97 (upI sa 0 0)), (q6, ia E 97 (upI ph 0 0)), (q7, ia E 12 tg), (q8, ia E 12 fn), (w0, .inr (4, [.ref w1, .ref w2, .ref w3, .ref w4, .int (iI y)])), (w1, ia E 8 L), (w2, ia E 96 V), (w3, ia E 96 A), (w4, ia E 96 N), (m0, .inr (1, [.ref m1, .ref m2, .int (iI z)])), (m1, ia E 12 t), (m2, ia E 12 c)], ⟨rfl, rfl, rfl, rfl⟩, g_to 0 0 _ _ [.int (iI r2)] rfl rfl rfl rfl rfl ?_⟩
            have hpr : r2 = 0 ∨ r2 = 1 := by rcases hp2 with q | q; exact Or.inr q.1; exact Or.inl q.1
            refine g_if_ne G 44 dX2_search_37 (by decide) (by omega) (fun c37 => ?_) (fun c37 => ?_)
            · refine g_iconst G dX2_search_44 ?_
              refine g_istore G [(0, .ref q0), (1, .ref w0), (2, .int (iI e)), (3, .ref m0), (4, .int (iI 0)), (5, .int (iI i))] dX2_search_45 (by decide) rfl rfl ?_
              refine g_iinc G 5 [(0, .ref q0), (1, .ref w0), (2, .int (iI e)), (3, .ref m0), (4, .int (iI 0)), (5, .int (iI (i + 1)))] dX2_search_47 rfl (by decide) rfl rfl ?_
              refine g_goto G 10 dX2_search_50 (by decide) ?_
              exact ih10 (i + 1) 0 pa2 vb2 cd2 cn2 nd2 (by first | assumption | omega) (by first | assumption | omega) (by first | exact hk2 | exact hTk) (by first | exact (SeI.row hL hV (by rw [(show (0 : Int) = q by omega)]; exact hSe) ⟨hi.1, by omega⟩ hz1 c27 hp2).1 (by omega) | exact (SeI.row hL hV (by rw [(show (0 : Int) = q by omega)]; exact hSe) ⟨hi.1, by omega⟩ hz1 c27 hp2).2 (by omega) | exact SeI.skip (by rw [(show (0 : Int) = q by omega)]; exact hSe) hi.1 c27) (by omega)
            · refine g_iconst G dX2_search_40 ?_
              refine g_goto G 45 dX2_search_41 (by decide) ?_
              refine g_istore G [(0, .ref q0), (1, .ref w0), (2, .int (iI e)), (3, .ref m0), (4, .int (iI 1)), (5, .int (iI i))] dX2_search_45 (by decide) rfl rfl ?_
              refine g_iinc G 5 [(0, .ref q0), (1, .ref w0), (2, .int (iI e)), (3, .ref m0), (4, .int (iI 1)), (5, .int (iI (i + 1)))] dX2_search_47 rfl (by decide) rfl rfl ?_
              refine g_goto G 10 dX2_search_50 (by decide) ?_
              exact ih10 (i + 1) 1 pa2 vb2 cd2 cn2 nd2 (by first | assumption | omega) (by first | assumption | omega) (by first | exact hk2 | exact hTk) (by first | exact (SeI.row hL hV (by rw [(show (0 : Int) = q by omega)]; exact hSe) ⟨hi.1, by omega⟩ hz1 c27 hp2).1 (by omega) | exact (SeI.row hL hV (by rw [(show (0 : Int) = q by omega)]; exact hSe) ⟨hi.1, by omega⟩ hz1 c27 hp2).2 (by omega) | exact SeI.skip (by rw [(show (0 : Int) = q by omega)]; exact hSe) hi.1 c27) (by omega)
  exact L10 ((y - 0 : Int).toNat + 1) 0 0 pa vb cd (fun _ => -1) 1 (by first | assumption | omega) (by first | assumption | omega) (by exact ⟨by omega, by omega, fun i => by (try dsimp only); omega, hP.1, hP.2.1, hP.2.2⟩) (by exact SeI.init e y) (by omega)
