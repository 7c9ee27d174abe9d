def lnC (S : LSt) : LSt := (fiI S.1 3 0, fiI S.2.1 100 (-1), S.2.2)
noncomputable def lnR (V A N L : Int → Int) (b : Int) : Nat → LSt → LSt
  | 0, S => S
  | n + 1, S => if (n : Int) = b then lnR V A N L b n S else nP (lrS V A N) n (L n).toNat (lnC (lnR V A N L b n S))
theorem lnR_up (V A N L : Int → Int) (b : Int) {i : Int} (h : 0 ≤ i) (S : LSt) : lnR V A N L b (i + 1).toNat S = if i = b then lnR V A N L b i.toNat S else nP (lrS V A N) i (L i).toNat (lnC (lnR V A N L b i.toNat S)) := by
  rw [(show (i + 1).toNat = i.toNat + 1 by omega)]
  show (if ((i.toNat : Nat) : Int) = b then _ else nP (lrS V A N) ((i.toNat : Nat) : Int) (L ((i.toNat : Nat) : Int)).toNat _) = _
  rw [(show ((i.toNat : Nat) : Int) = i by omega)]
theorem fill_ko {k o : Int → Int} (h : (∀ i, -1 ≤ k i ∧ k i ≤ 6) ∧ ∀ i, -1000 ≤ o i ∧ o i ≤ 1000) : (∀ i, -1 ≤ fiI k 6 (-1) i ∧ fiI k 6 (-1) i ≤ 6) ∧ ∀ i, -1000 ≤ fiI o 6 (-1000) i ∧ fiI o 6 (-1000) i ≤ 1000 := by
  refine ⟨fun i => ?_, fun i => ?_⟩
  · have := h.1 i; unfold fiI; split <;> omega
  · have := h.2 i; unfold fiI; split <;> omega
theorem LOk.fill {i : Int} {c b g t a d : Int → Int} {z : Int} (h : LOk i c b g t a d z) : LOk i c b (fiI g 30 1000) (fiI t 6 1000) a d z := by
  refine ⟨h.1, h.2.1, fun j => ?_, fun j => ?_, h.2.2.2.2⟩
  · have := h.2.2.1 j; unfold fiI; split <;> omega
  · have := h.2.2.2.1 j; unfold fiI; split <;> omega
theorem LOk.t {i : Int} {c b g t a d : Int → Int} {z : Int} (h : LOk i c b g t a d z) : ∀ j, -2147483648 ≤ t j ∧ t j < 2147483648 := h.2.2.2.1
theorem decS_0 {k k1 : Int → Int} {m x : Int} {p : Prop} [Decidable p] (h : k1 = if p then k else upI k m x) : ∀ j, k1 j = if j = m ∧ ¬ p then x else k j := by
  intro j
  rw [h]
  by_cases hp : p
  · rw [if_pos hp, if_neg (fun q => q.2 hp)]
  · rw [if_neg hp]
    unfold upI
    by_cases q : j = m
    · rw [if_pos q, if_pos ⟨q, hp⟩]
    · rw [if_neg q, if_neg (fun z => q z.1)]
theorem f_X5_learn_18 : Cond.fieldLink RX5 18 (TX5 1).1 (TX5 1).2.1 (TX5 1).2.2.1 ∈ wsX5_learn := by decide +kernel
theorem i_X5_learn_X5 : ∀ w ∈ wsX50, w ∈ wsX5_learn := by decide +kernel
theorem f_X5_learn_22 : Cond.fieldLink RX5 22 (TX5 2).1 (TX5 2).2.1 (TX5 2).2.2.1 ∈ wsX5_learn := by decide +kernel
theorem e_X6_clear : yX6_clear.cls ≠ "java/lang/invoke/MethodHandle" ∧ yX6_clear.cls ≠ "java/lang/invoke/VarHandle" ∧ (parseMethodDescriptor yX6_clear.desc).map (fun d => d.parameters.length) = some 0 := by decide +kernel
theorem e_X4_size : yX4_size.cls ≠ "java/lang/invoke/MethodHandle" ∧ yX4_size.cls ≠ "java/lang/invoke/VarHandle" ∧ (parseMethodDescriptor yX4_size.desc).map (fun d => d.parameters.length) = some 0 := by decide +kernel
theorem e_X5_decideRule : yX5_decideRule.cls ≠ "java/lang/invoke/MethodHandle" ∧ yX5_decideRule.cls ≠ "java/lang/invoke/VarHandle" ∧ (parseMethodDescriptor yX5_decideRule.desc).map (fun d => d.parameters.length) = some 3 := by decide +kernel
theorem e_X5_hearRow : yX5_hearRow.cls ≠ "java/lang/invoke/MethodHandle" ∧ yX5_hearRow.cls ≠ "java/lang/invoke/VarHandle" ∧ (parseMethodDescriptor yX5_hearRow.desc).map (fun d => d.parameters.length) = some 3 := by decide +kernel
set_option maxRecDepth 100000 in
set_option maxHeartbeats 4000000 in
theorem c_X5_learn (E : qE) (q0 : Nat) (q1 : Nat) (q2 : Nat) (p0 : Nat) (p1 : Nat) (p2 : Nat) (g : Int → Int) (t : Int → Int) (c : Int → Int) (b : Int → Int) (w0 : Nat) (w1 : Nat) (w2 : Nat) (w3 : Nat) (w4 : Nat) (L : Int → Int) (V : Int → Int) (A : Int → Int) (N : Int → Int) (y : Int) (u0 : Nat) (u1 : Nat) (u2 : Nat) (u3 : Nat) (u4 : Nat) (k : Int → Int) (o : Int → Int) (a : Int → Int) (d : Int → Int) (z : Int) (e : Int) (hR : RowsOk L V A N y) (hL0 : LOk 12 c b g t a d 0) (hko : (∀ i, -1 ≤ k i ∧ k i ≤ 6) ∧ ∀ i, -1000 ≤ o i ∧ o i ≤ 1000) (he : -2147483648 ≤ e ∧ e < 2147483648) : Cn E yX5_learn wsX5_learn { frames := 3, cells := 0, slots := 0, locals := 79 } [.ref q0, .ref w0, .int (iI e), .ref u0] [(q0, .inr (5, [.ref p0, .ref q1, .ref q2])), (q1, ia E 30 g), (q2, ia E 6 t), (p0, .inr (3, [.ref p1, .ref p2])), (p1, ia E 3 c), (p2, ia E 100 b), (w0, .inr (4, [.ref w1, .ref w2, .ref w3, .ref w4, .int (iI y)])), (w1, ia E 8 L), (w2, ia E 96 V), (w3, ia E 96 A), (w4, ia E 96 N), (u0, .inr (6, [.ref u1, .ref u2, .ref u3, .ref u4, .int (iI z)])), (u1, ia E 6 k), (u2, ia E 6 o), (u3, ia E 96 a), (u4, ia E 96 d)] (fun v9 w9 => ∃ (g1 : Int → Int) (t1 : Int → Int) (c1 : Int → Int) (b1 : Int → Int) (a1 : Int → Int) (d1 : Int → Int) (z1 : Int) (k1 : Int → Int) (o1 : Int → Int), v9 = none ∧ w9 = [(q0, .inr (5, [.ref p0, .ref q1, .ref q2])), (q1, ia E 30 g1), (q2, ia E 6 t1), (p0, .inr (3, [.ref p1, .ref p2])), (p1, ia E 3 c1), (p2, ia E 100 b1), (w0, .inr (4, [.ref w1, .ref w2, .ref w3, .ref w4, .int (iI y)])), (w1, ia E 8 L), (w2, ia E 96 V), (w3, ia E 96 A), (w4, ia E 96 N), (u0, .inr (6, [.ref u1, .ref u2, .ref u3, .ref u4, .int (iI z1)])), (u1, ia E 6 k1), (u2, ia E 6 o1), (u3, ia E 96 a1), (u4, ia E 96 d1)] ∧ (lnR V A N L e y.toNat (c, b, fiI g 30 (1000), fiI t 6 (1000), a, d, 0) = (c1, b1, g1, t1, a1, d1, z1)) ∧ (LOk 12 c1 b1 g1 t1 a1 d1 z1) ∧ (∀ v f, 0 ≤ v ∧ v < 3 → 0 ≤ f ∧ f < 2 → k1 (v * 2 + f) = (if g1 ((v * 2 + f) * 5) = 1000 then -1 else decK g1 t1 v f) ∧ o1 (v * 2 + f) = (if g1 ((v * 2 + f) * 5) = 1000 then -1000 else decO g1 v f))) 0 0 := by
  refine Cn.ofP (own := RX5) (cc := cX5_learn) (maxL := 6) (ret := none) false [(0, .ref q0), (1, .ref w0), (2, .int (iI e)), (3, .ref u0)] (by decide +kernel) rfl rfl (Nat.le_of_ble_eq_true rfl) rfl (fun h => nomatch h) (fun v w h => by obtain ⟨g1, t1, c1, b1, a1, d1, z1, k1, o1, rfl, h9⟩ := h; exact (rfl : (none : Option FieldType) = none)) ?_
  intro P G
  obtain ⟨hz0, hz1, hL, hV, hA, hN⟩ := id hR
  have hko2 := fill_ko hko
  have hL1 := LOk.fill hL0
  refine g_aload_n G 0 dX5_learn_0 rfl ?_
  refine g_get G 0 1 dX5_learn_1 i_X5_learn_X5 f_X5_learn_18 rfl rfl (by decide) rfl ?_
  refine g_sipush G dX5_learn_4 (by decide +kernel) ?_
  refine g_callS G [1] [0, 2, 3, 4, 5, 6, 7, 8, 9, 10, 11, 12, 13, 14, 15] 16 [(q0, .inr (5, [.ref p0, .ref q1, .ref q2])), (q2, ia E 6 t), (p0, .inr (3, [.ref p1, .ref p2])), (p1, ia E 3 c), (p2, ia E 100 b), (w0, .inr (4, [.ref w1, .ref w2, .ref w3, .ref w4, .int (iI y)])), (w1, ia E 8 L), (w2, ia E 96 V), (w3, ia E 96 A), (w4, ia E 96 N), (u0, .inr (6, [.ref u1, .ref u2, .ref u3, .ref u4, .int (iI z)])), (u1, ia E 6 k), (u2, ia E 6 o), (u3, ia E 96 a), (u4, ia E 96 d)] [.ref q1, .int (iI 1000)] [] (c_J7_fill_53178 E q1 30 g 1000 (by first | assumption | omega)) dX5_learn_7 gX5_learn_J7_fill_53178 ⟨rfl, ⟨rfl, rfl⟩, e_J7_fill_53178, ⟨Nat.le_of_ble_eq_true rfl, Nat.le_of_ble_eq_true rfl⟩, Nat.le_of_ble_eq_true rfl, Nat.le_of_ble_eq_true rfl, Nat.le_of_ble_eq_true rfl⟩ rfl (by decide +kernel) rfl (by decide +kernel) rfl (fun v9 w9 h9 => ?_)
  obtain ⟨o1, rfl, rfl, rfl⟩ := h9
  refine ⟨[(q0, .inr (5, [.ref p0, .ref q1, .ref q2])), (q1, ia E 30 (fiI g 30 1000)), (q2, ia E 6 t), (p0, .inr (3, [.ref p1, .ref p2])), (p1, ia E 3 c), (p2, ia E 100 b), (w0, .inr (4, [.ref w1, .ref w2, .ref w3, .ref w4, .int (iI y)])), (w1, ia E 8 L), (w2, ia E 96 V), (w3, ia E 96 A), (w4, ia E 96 N), (u0, .inr (6, [.ref u1, .ref u2, .ref u3, .ref u4, .int (iI z)])), (u1, ia E 6 k), (u2, ia E 6 o), (u3, ia E 96 a), (u4, ia E 96 d)], ⟨rfl, rfl, rfl, rfl⟩, g_to 0 0 _ _ [] rfl rfl rfl rfl rfl ?_⟩
  refine g_aload_n G 0 dX5_learn_10 rfl ?_
  refine g_get G 0 2 dX5_learn_11 i_X5_learn_X5 f_X5_learn_22 rfl rfl (by decide) rfl ?_
  refine g_sipush G dX5_learn_14 (by decide +kernel) ?_
  refine g_callS G [2] [0, 1, 3, 4, 5, 6, 7, 8, 9, 10, 11, 12, 13, 14, 15] 16 [(q0, .inr (5, [.ref p0, .ref q1, .ref q2])), (q1, ia E 30 (fiI g 30 1000)), (p0, .inr (3, [.ref p1, .ref p2])), (p1, ia E 3 c), (p2, ia E 100 b), (w0, .inr (4, [.ref w1, .ref w2, .ref w3, .ref w4, .int (iI y)])), (w1, ia E 8 L), (w2, ia E 96 V), (w3, ia E 96 A), (w4, ia E 96 N), (u0, .inr (6, [.ref u1, .ref u2, .ref u3, .ref u4, .int (iI z)])), (u1, ia E 6 k), (u2, ia E 6 o), (u3, ia E 96 a), (u4, ia E 96 d)] [.ref q2, .int (iI 1000)] [] (c_J7_fill_53178 E q2 6 t 1000 (by first | assumption | omega)) dX5_learn_17 gX5_learn_J7_fill_53178 ⟨rfl, ⟨rfl, rfl⟩, e_J7_fill_53178, ⟨Nat.le_of_ble_eq_true rfl, Nat.le_of_ble_eq_true rfl⟩, Nat.le_of_ble_eq_true rfl, Nat.le_of_ble_eq_true rfl, Nat.le_of_ble_eq_true rfl⟩ rfl (by decide +kernel) rfl (by decide +kernel) rfl (fun v9 w9 h9 => ?_)
  obtain ⟨o2, rfl, rfl, rfl⟩ := h9
  refine ⟨[(q0, .inr (5, [.ref p0, .ref q1, .ref q2])), (q1, ia E 30 (fiI g 30 1000)), (q2, ia E 6 (fiI t 6 1000)), (p0, .inr (3, [.ref p1, .ref p2])), (p1, ia E 3 c), (p2, ia E 100 b), (w0, .inr (4, [.ref w1, .ref w2, .ref w3, .ref w4, .int (iI y)])), (w1, ia E 8 L), (w2, ia E 96 V), (w3, ia E 96 A), (w4, ia E 96 N), (u0, .inr (6, [.ref u1, .ref u2, .ref u3, .ref u4, .int (iI z)])), (u1, ia E 6 k), (u2, ia E 6 o), (u3, ia E 96 a), (u4, ia E 96 d)], ⟨rfl, rfl, rfl, rfl⟩, g_to 0 0 _ _ [] rfl rfl rfl rfl rfl ?_⟩
  refine g_aload_n G 3 dX5_learn_20 rfl ?_
  refine g_callV G [11, 12, 13, 14, 15] [0, 1, 2, 3, 4, 5, 6, 7, 8, 9, 10] 16 [(q0, .inr (5, [.ref p0, .ref q1, .ref q2])), (q1, ia E 30 (fiI g 30 1000)), (q2, ia E 6 (fiI t 6 1000)), (p0, .inr (3, [.ref p1, .ref p2])), (p1, ia E 3 c), (p2, ia E 100 b), (w0, .inr (4, [.ref w1, .ref w2, .ref w3, .ref w4, .int (iI y)])), (w1, ia E 8 L), (w2, ia E 96 V), (w3, ia E 96 A), (w4, ia E 96 N)] [] [] (c_X6_clear E u0 u1 u2 u3 u4 k o a d z ) dX5_learn_21 gX5_learn_X6_clear ⟨rfl, ⟨rfl, rfl⟩, e_X6_clear, ⟨Nat.le_of_ble_eq_true rfl, Nat.le_of_ble_eq_true rfl⟩, Nat.le_of_ble_eq_true rfl, Nat.le_of_ble_eq_true rfl, Nat.le_of_ble_eq_true rfl⟩ rfl rfl rfl rfl rfl (by decide +kernel) rfl (by decide +kernel) rfl (fun v9 w9 h9 => ?_)
  obtain ⟨rfl, rfl⟩ := h9
  refine ⟨[(q0, .inr (5, [.ref p0, .ref q1, .ref q2])), (q1, ia E 30 (fiI g 30 1000)), (q2, ia E 6 (fiI t 6 1000)), (p0, .inr (3, [.ref p1, .ref p2])), (p1, ia E 3 c), (p2, ia E 100 b), (w0, .inr (4, [.ref w1, .ref w2, .ref w3, .ref w4, .int (iI y)])), (w1, ia E 8 L), (w2, ia E 96 V), (w3, ia E 96 A), (w4, ia E 96 N), (u0, .inr (6, [.ref u1, .ref u2, .ref u3, .ref u4, .int (iI 0)])), (u1, ia E 6 (fiI k 6 (-1))), (u2, ia E 6 (fiI o 6 (-1000))), (u3, ia E 96 a), (u4, ia E 96 d)], ⟨rfl, rfl, rfl, rfl⟩, g_to 0 0 _ _ [] rfl rfl rfl rfl rfl ?_⟩
  refine g_iconst G dX5_learn_24 ?_
  refine g_istore G [(0, .ref q0), (1, .ref w0), (2, .int (iI e)), (3, .ref u0), (4, .int (iI 0))] dX5_learn_25 (by decide) rfl rfl ?_
  have L27 : ∀ (fuel : Nat), ∀ (i : Int) (c1 : Int → Int) (b1 : Int → Int) (g1 : Int → Int) (t1 : Int → Int) (a1 : Int → Int) (d1 : Int → Int) (z1 : Int), (0 ≤ i ∧ i ≤ y) → (lnR V A N L e i.toNat (c, b, fiI g 30 (1000), fiI t 6 (1000), a, d, 0) = (c1, b1, g1, t1, a1, d1, z1)) → (LOk 12 c1 b1 g1 t1 a1 d1 z1) → (y - i : Int).toNat < fuel → P 0 0 [(q0, .inr (5, [.ref p0, .ref q1, .ref q2])), (q1, ia E 30 g1), (q2, ia E 6 t1), (p0, .inr (3, [.ref p1, .ref p2])), (p1, ia E 3 c1), (p2, ia E 100 b1), (w0, .inr (4, [.ref w1, .ref w2, .ref w3, .ref w4, .int (iI y)])), (w1, ia E 8 L), (w2, ia E 96 V), (w3, ia E 96 A), (w4, ia E 96 N), (u0, .inr (6, [.ref u1, .ref u2, .ref u3, .ref u4, .int (iI z1)])), (u1, ia E 6 (fiI k 6 (-1))), (u2, ia E 6 (fiI o 6 (-1000))), (u3, ia E 96 a1), (u4, ia E 96 d1)] 27 [(0, .ref q0), (1, .ref w0), (2, .int (iI e)), (3, .ref u0), (4, .int (iI i))] [] := by
    intro fuel
    induction fuel with
    | zero => intro i c1 b1 g1 t1 a1 d1 z1 hi hS hLk hm; exact absurd hm (Nat.not_lt_zero _)
    | succ fuel ih27 =>
      intro i c1 b1 g1 t1 a1 d1 z1 hi hS hLk hm
      refine g_iload G 4 dX5_learn_27 rfl ?_
      refine g_aload_n G 1 dX5_learn_29 rfl ?_
      refine g_callV G [6, 7, 8, 9, 10] [0, 1, 2, 3, 4, 5, 11, 12, 13, 14, 15] 16 [(q0, .inr (5, [.ref p0, .ref q1, .ref q2])), (q1, ia E 30 g1), (q2, ia E 6 t1), (p0, .inr (3, [.ref p1, .ref p2])), (p1, ia E 3 c1), (p2, ia E 100 b1), (u0, .inr (6, [.ref u1, .ref u2, .ref u3, .ref u4, .int (iI z1)])), (u1, ia E 6 (fiI k 6 (-1))), (u2, ia E 6 (fiI o 6 (-1000))), (u3, ia E 96 a1), (u4, ia E 96 d1)] [] [.int (iI i)] (c_X4_size E w0 w1 w2 w3 w4 L V A N y ) dX5_learn_30 gX5_learn_X4_size ⟨rfl, ⟨rfl, rfl⟩, e_X4_size, ⟨Nat.le_of_ble_eq_true rfl, Nat.le_of_ble_eq_true rfl⟩, Nat.le_of_ble_eq_true rfl, Nat.le_of_ble_eq_true rfl, Nat.le_of_ble_eq_true rfl⟩ rfl rfl rfl rfl rfl (by decide +kernel) rfl (by decide +kernel) rfl (fun v9 w9 h9 => ?_)
      obtain ⟨rfl, rfl⟩ := h9
      refine ⟨[(q0, .inr (5, [.ref p0, .ref q1, .ref q2])), (q1, ia E 30 g1), (q2, ia E 6 t1), (p0, .inr (3, [.ref p1, .ref p2])), (p1, ia E 3 c1), (p2, ia E 100 b1), (w0, .inr (4, [.ref w1, .ref w2, .ref w3, .ref w4, .int (iI y)])), (w1, ia E 8 L), (w2, ia E 96 V), (w3, ia E 96 A), (w4, ia E 96 N), (u0, .inr (6, [.ref u1, .ref u2, .ref u3, .ref u4, .int (iI z1)])), (u1, ia E 6 (fiI k 6 (-1))), (u2, ia E 6 (fiI o 6 (-1000))), (u3, ia E 96 a1), (u4, ia E 96 d1)], ⟨rfl, rfl, rfl, rfl⟩, g_to 0 0 _ _ [.int (iI y), .int (iI i)] rfl rfl rfl rfl rfl ?_⟩
      refine g_icmp_ge G 56 dX5_learn_33 (by decide) (by omega) (by omega) (fun c33 => ?_) (fun c33 => ?_)
      · refine g_iconst G dX5_learn_56 ?_
        refine g_istore G [(0, .ref q0), (1, .ref w0), (2, .int (iI e)), (3, .ref u0), (4, .int (iI 0))] dX5_learn_57 (by decide) rfl rfl ?_
        refine g_iload G 4 dX5_learn_59 rfl ?_
        refine g_iconst G dX5_learn_61 ?_
        refine g_icmp_ge G 95 dX5_learn_62 (by decide) (by omega) (by omega) (fun c62 => ?_) (fun c62 => ?_)
        · exfalso; omega
        · refine g_iconst G dX5_learn_65 ?_
          refine g_istore G [(0, .ref q0), (1, .ref w0), (2, .int (iI e)), (3, .ref u0), (4, .int (iI 0)), (5, .int (iI 0))] dX5_learn_66 (by decide) rfl rfl ?_
          refine g_iload G 5 dX5_learn_68 rfl ?_
          refine g_iconst G dX5_learn_70 ?_
          refine g_icmp_ge G 89 dX5_learn_71 (by decide) (by omega) (by omega) (fun c71 => ?_) (fun c71 => ?_)
          · exfalso; omega
          · refine g_aload_n G 0 dX5_learn_74 rfl ?_
            refine g_iload G 4 dX5_learn_75 rfl ?_
            refine g_iload G 5 dX5_learn_77 rfl ?_
            refine g_aload_n G 3 dX5_learn_79 rfl ?_
            refine g_callV G [0, 1, 2, 11, 12, 13, 14, 15] [3, 4, 5, 6, 7, 8, 9, 10] 16 [(p0, .inr (3, [.ref p1, .ref p2])), (p1, ia E 3 c1), (p2, ia E 100 b1), (w0, .inr (4, [.ref w1, .ref w2, .ref w3, .ref w4, .int (iI y)])), (w1, ia E 8 L), (w2, ia E 96 V), (w3, ia E 96 A), (w4, ia E 96 N)] [.int (iI 0), .int (iI 0), .ref u0] [] (c_X5_decideRule E q0 q1 q2 p0 g1 t1 u0 u1 u2 u3 u4 (fiI k 6 (-1)) (fiI o 6 (-1000)) a1 d1 z1 0 0 (by first | assumption | omega) (by first | assumption | omega) (by exact LOk.g hLk) (by exact LOk.t hLk)) dX5_learn_80 gX5_learn_X5_decideRule ⟨rfl, ⟨rfl, rfl⟩, e_X5_decideRule, ⟨Nat.le_of_ble_eq_true rfl, Nat.le_of_ble_eq_true rfl⟩, Nat.le_of_ble_eq_true rfl, Nat.le_of_ble_eq_true rfl, Nat.le_of_ble_eq_true rfl⟩ rfl rfl rfl rfl rfl (by decide +kernel) rfl (by decide +kernel) rfl (fun v9 w9 h9 => ?_)
            obtain ⟨k2_3, o2_4, rfl, rfl, hk2_5, ho2_6⟩ := h9
            refine ⟨[(q0, .inr (5, [.ref p0, .ref q1, .ref q2])), (q1, ia E 30 g1), (q2, ia E 6 t1), (p0, .inr (3, [.ref p1, .ref p2])), (p1, ia E 3 c1), (p2, ia E 100 b1), (w0, .inr (4, [.ref w1, .ref w2, .ref w3, .ref w4, .int (iI y)])), (w1, ia E 8 L), (w2, ia E 96 V), (w3, ia E 96 A), (w4, ia E 96 N), (u0, .inr (6, [.ref u1, .ref u2, .ref u3, .ref u4, .int (iI z1)])), (u1, ia E 6 k2_3), (u2, ia E 6 o2_4), (u3, ia E 96 a1), (u4, ia E 96 d1)], ⟨rfl, rfl, rfl, rfl⟩, g_to 0 0 _ _ [] rfl rfl rfl rfl rfl ?_⟩
            refine g_iinc G 5 [(0, .ref q0), (1, .ref w0), (2, .int (iI e)), (3, .ref u0), (4, .int (iI 0)), (5, .int (iI 1))] dX5_learn_83 rfl (by decide) rfl rfl ?_
            refine g_goto G 68 dX5_learn_86 (by decide) ?_
            refine g_iload G 5 dX5_learn_68 rfl ?_
            refine g_iconst G dX5_learn_70 ?_
            refine g_icmp_ge G 89 dX5_learn_71 (by decide) (by omega) (by omega) (fun c71_2 => ?_) (fun c71_2 => ?_)
            · exfalso; omega
            · refine g_aload_n G 0 dX5_learn_74 rfl ?_
              refine g_iload G 4 dX5_learn_75 rfl ?_
              refine g_iload G 5 dX5_learn_77 rfl ?_
              refine g_aload_n G 3 dX5_learn_79 rfl ?_
              refine g_callV G [0, 1, 2, 11, 12, 13, 14, 15] [3, 4, 5, 6, 7, 8, 9, 10] 16 [(p0, .inr (3, [.ref p1, .ref p2])), (p1, ia E 3 c1), (p2, ia E 100 b1), (w0, .inr (4, [.ref w1, .ref w2, .ref w3, .ref w4, .int (iI y)])), (w1, ia E 8 L), (w2, ia E 96 V), (w3, ia E 96 A), (w4, ia E 96 N)] [.int (iI 0), .int (iI 1), .ref u0] [] (c_X5_decideRule E q0 q1 q2 p0 g1 t1 u0 u1 u2 u3 u4 k2_3 o2_4 a1 d1 z1 0 1 (by first | assumption | omega) (by first | assumption | omega) (by exact LOk.g hLk) (by exact LOk.t hLk)) dX5_learn_80 gX5_learn_X5_decideRule ⟨rfl, ⟨rfl, rfl⟩, e_X5_decideRule, ⟨Nat.le_of_ble_eq_true rfl, Nat.le_of_ble_eq_true rfl⟩, Nat.le_of_ble_eq_true rfl, Nat.le_of_ble_eq_true rfl, Nat.le_of_ble_eq_true rfl⟩ rfl rfl rfl rfl rfl (by decide +kernel) rfl (by decide +kernel) rfl (fun v9 w9 h9 => ?_)
              obtain ⟨k2_7, o2_8, rfl, rfl, hk2_9, ho2_10⟩ := h9
              refine ⟨[(q0, .inr (5, [.ref p0, .ref q1, .ref q2])), (q1, ia E 30 g1), (q2, ia E 6 t1), (p0, .inr (3, [.ref p1, .ref p2])), (p1, ia E 3 c1), (p2, ia E 100 b1), (w0, .inr (4, [.ref w1, .ref w2, .ref w3, .ref w4, .int (iI y)])), (w1, ia E 8 L), (w2, ia E 96 V), (w3, ia E 96 A), (w4, ia E 96 N), (u0, .inr (6, [.ref u1, .ref u2, .ref u3, .ref u4, .int (iI z1)])), (u1, ia E 6 k2_7), (u2, ia E 6 o2_8), (u3, ia E 96 a1), (u4, ia E 96 d1)], ⟨rfl, rfl, rfl, rfl⟩, g_to 0 0 _ _ [] rfl rfl rfl rfl rfl ?_⟩
              refine g_iinc G 5 [(0, .ref q0), (1, .ref w0), (2, .int (iI e)), (3, .ref u0), (4, .int (iI 0)), (5, .int (iI 2))] dX5_learn_83 rfl (by decide) rfl rfl ?_
              refine g_goto G 68 dX5_learn_86 (by decide) ?_
              refine g_iload G 5 dX5_learn_68 rfl ?_
              refine g_iconst G dX5_learn_70 ?_
              refine g_icmp_ge G 89 dX5_learn_71 (by decide) (by omega) (by omega) (fun c71_3 => ?_) (fun c71_3 => ?_)
              · refine g_iinc G 4 [(0, .ref q0), (1, .ref w0), (2, .int (iI e)), (3, .ref u0), (4, .int (iI 1)), (5, .int (iI 2))] dX5_learn_89 rfl (by decide) rfl rfl ?_
                refine g_goto G 59 dX5_learn_92 (by decide) ?_
                refine g_iload G 4 dX5_learn_59 rfl ?_
                refine g_iconst G dX5_learn_61 ?_
                refine g_icmp_ge G 95 dX5_learn_62 (by decide) (by omega) (by omega) (fun c62_2 => ?_) (fun c62_2 => ?_)
                · exfalso; omega
                · refine g_iconst G dX5_learn_65 ?_
                  refine g_istore G [(0, .ref q0), (1, .ref w0), (2, .int (iI e)), (3, .ref u0), (4, .int (iI 1)), (5, .int (iI 0))] dX5_learn_66 (by decide) rfl rfl ?_
                  refine g_iload G 5 dX5_learn_68 rfl ?_
                  refine g_iconst G dX5_learn_70 ?_
                  refine g_icmp_ge G 89 dX5_learn_71 (by decide) (by omega) (by omega) (fun c71_4 => ?_) (fun c71_4 => ?_)
                  · exfalso; omega
                  · refine g_aload_n G 0 dX5_learn_74 rfl ?_
                    refine g_iload G 4 dX5_learn_75 rfl ?_
                    refine g_iload G 5 dX5_learn_77 rfl ?_
                    refine g_aload_n G 3 dX5_learn_79 rfl ?_
                    refine g_callV G [0, 1, 2, 11, 12, 13, 14, 15] [3, 4, 5, 6, 7, 8, 9, 10] 16 [(p0, .inr (3, [.ref p1, .ref p2])), (p1, ia E 3 c1), (p2, ia E 100 b1), (w0, .inr (4, [.ref w1, .ref w2, .ref w3, .ref w4, .int (iI y)])), (w1, ia E 8 L), (w2, ia E 96 V), (w3, ia E 96 A), (w4, ia E 96 N)] [.int (iI 1), .int (iI 0), .ref u0] [] (c_X5_decideRule E q0 q1 q2 p0 g1 t1 u0 u1 u2 u3 u4 k2_7 o2_8 a1 d1 z1 1 0 (by first | assumption | omega) (by first | assumption | omega) (by exact LOk.g hLk) (by exact LOk.t hLk)) dX5_learn_80 gX5_learn_X5_decideRule ⟨rfl, ⟨rfl, rfl⟩, e_X5_decideRule, ⟨Nat.le_of_ble_eq_true rfl, Nat.le_of_ble_eq_true rfl⟩, Nat.le_of_ble_eq_true rfl, Nat.le_of_ble_eq_true rfl, Nat.le_of_ble_eq_true rfl⟩ rfl rfl rfl rfl rfl (by decide +kernel) rfl (by decide +kernel) rfl (fun v9 w9 h9 => ?_)
                    obtain ⟨k2_11, o2_12, rfl, rfl, hk2_13, ho2_14⟩ := h9
                    refine ⟨[(q0, .inr (5, [.ref p0, .ref q1, .ref q2])), (q1, ia E 30 g1), (q2, ia E 6 t1), (p0, .inr (3, [.ref p1, .ref p2])), (p1, ia E 3 c1), (p2, ia E 100 b1), (w0, .inr (4, [.ref w1, .ref w2, .ref w3, .ref w4, .int (iI y)])), (w1, ia E 8 L), (w2, ia E 96 V), (w3, ia E 96 A), (w4, ia E 96 N), (u0, .inr (6, [.ref u1, .ref u2, .ref u3, .ref u4, .int (iI z1)])), (u1, ia E 6 k2_11), (u2, ia E 6 o2_12), (u3, ia E 96 a1), (u4, ia E 96 d1)], ⟨rfl, rfl, rfl, rfl⟩, g_to 0 0 _ _ [] rfl rfl rfl rfl rfl ?_⟩
                    refine g_iinc G 5 [(0, .ref q0), (1, .ref w0), (2, .int (iI e)), (3, .ref u0), (4, .int (iI 1)), (5, .int (iI 1))] dX5_learn_83 rfl (by decide) rfl rfl ?_
                    refine g_goto G 68 dX5_learn_86 (by decide) ?_
                    refine g_iload G 5 dX5_learn_68 rfl ?_
                    refine g_iconst G dX5_learn_70 ?_
                    refine g_icmp_ge G 89 dX5_learn_71 (by decide) (by omega) (by omega) (fun c71_5 => ?_) (fun c71_5 => ?_)
                    · exfalso; omega
                    · refine g_aload_n G 0 dX5_learn_74 rfl ?_
                      refine g_iload G 4 dX5_learn_75 rfl ?_
                      refine g_iload G 5 dX5_learn_77 rfl ?_
                      refine g_aload_n G 3 dX5_learn_79 rfl ?_
                      refine g_callV G [0, 1, 2, 11, 12, 13, 14, 15] [3, 4, 5, 6, 7, 8, 9, 10] 16 [(p0, .inr (3, [.ref p1, .ref p2])), (p1, ia E 3 c1), (p2, ia E 100 b1), (w0, .inr (4, [.ref w1, .ref w2, .ref w3, .ref w4, .int (iI y)])), (w1, ia E 8 L), (w2, ia E 96 V), (w3, ia E 96 A), (w4, ia E 96 N)] [.int (iI 1), .int (iI 1), .ref u0] [] (c_X5_decideRule E q0 q1 q2 p0 g1 t1 u0 u1 u2 u3 u4 k2_11 o2_12 a1 d1 z1 1 1 (by first | assumption | omega) (by first | assumption | omega) (by exact LOk.g hLk) (by exact LOk.t hLk)) dX5_learn_80 gX5_learn_X5_decideRule ⟨rfl, ⟨rfl, rfl⟩, e_X5_decideRule, ⟨Nat.le_of_ble_eq_true rfl, Nat.le_of_ble_eq_true rfl⟩, Nat.le_of_ble_eq_true rfl, Nat.le_of_ble_eq_true rfl, Nat.le_of_ble_eq_true rfl⟩ rfl rfl rfl rfl rfl (by decide +kernel) rfl (by decide +kernel) rfl (fun v9 w9 h9 => ?_)
                      obtain ⟨k2_15, o2_16, rfl, rfl, hk2_17, ho2_18⟩ := h9
                      refine ⟨[(q0, .inr (5, [.ref p0, .ref q1, .ref q2])), (q1, ia E 30 g1), (q2, ia E 6 t1), (p0, .inr (3, [.ref p1, .ref p2])), (p1, ia E 3 c1), (p2, ia E 100 b1), (w0, .inr (4, [.ref w1, .ref w2, .ref w3, .ref w4, .int (iI y)])), (w1, ia E 8 L), (w2, ia E 96 V), (w3, ia E 96 A), (w4, ia E 96 N), (u0, .inr (6, [.ref u1, .ref u2, .ref u3, .ref u4, .int (iI z1)])), (u1, ia E 6 k2_15), (u2, ia E 6 o2_16), (u3, ia E 96 a1), (u4, ia E 96 d1)], ⟨rfl, rfl, rfl, rfl⟩, g_to 0 0 _ _ [] rfl rfl rfl rfl rfl ?_⟩
                      refine g_iinc G 5 [(0, .ref q0), (1, .ref w0), (2, .int (iI e)), (3, .ref u0), (4, .int (iI 1)), (5, .int (iI 2))] dX5_learn_83 rfl (by decide) rfl rfl ?_
                      refine g_goto G 68 dX5_learn_86 (by decide) ?_
                      refine g_iload G 5 dX5_learn_68 rfl ?_
                      refine g_iconst G dX5_learn_70 ?_
                      refine g_icmp_ge G 89 dX5_learn_71 (by decide) (by omega) (by omega) (fun c71_6 => ?_) (fun c71_6 => ?_)
                      · refine g_iinc G 4 [(0, .ref q0), (1, .ref w0), (2, .int (iI e)), (3, .ref u0), (4, .int (iI 2)), (5, .int (iI 2))] dX5_learn_89 rfl (by decide) rfl rfl ?_
                        refine g_goto G 59 dX5_learn_92 (by decide) ?_
                        refine g_iload G 4 dX5_learn_59 rfl ?_
                        refine g_iconst G dX5_learn_61 ?_
                        refine g_icmp_ge G 95 dX5_learn_62 (by decide) (by omega) (by omega) (fun c62_3 => ?_) (fun c62_3 => ?_)
                        · exfalso; omega
                        · refine g_iconst G dX5_learn_65 ?_
                          refine g_istore G [(0, .ref q0), (1, .ref w0), (2, .int (iI e)), (3, .ref u0), (4, .int (iI 2)), (5, .int (iI 0))] dX5_learn_66 (by decide) rfl rfl ?_
                          refine g_iload G 5 dX5_learn_68 rfl ?_
                          refine g_iconst G dX5_learn_70 ?_
                          refine g_icmp_ge G 89 dX5_learn_71 (by decide) (by omega) (by omega) (fun c71_7 => ?_) (fun c71_7 => ?_)
                          · exfalso; omega
                          · refine g_aload_n G 0 dX5_learn_74 rfl ?_
                            refine g_iload G 4 dX5_learn_75 rfl ?_
                            refine g_iload G 5 dX5_learn_77 rfl ?_
                            refine g_aload_n G 3 dX5_learn_79 rfl ?_
                            refine g_callV G [0, 1, 2, 11, 12, 13, 14, 15] [3, 4, 5, 6, 7, 8, 9, 10] 16 [(p0, .inr (3, [.ref p1, .ref p2])), (p1, ia E 3 c1), (p2, ia E 100 b1), (w0, .inr (4, [.ref w1, .ref w2, .ref w3, .ref w4, .int (iI y)])), (w1, ia E 8 L), (w2, ia E 96 V), (w3, ia E 96 A), (w4, ia E 96 N)] [.int (iI 2), .int (iI 0), .ref u0] [] (c_X5_decideRule E q0 q1 q2 p0 g1 t1 u0 u1 u2 u3 u4 k2_15 o2_16 a1 d1 z1 2 0 (by first | assumption | omega) (by first | assumption | omega) (by exact LOk.g hLk) (by exact LOk.t hLk)) dX5_learn_80 gX5_learn_X5_decideRule ⟨rfl, ⟨rfl, rfl⟩, e_X5_decideRule, ⟨Nat.le_of_ble_eq_true rfl, Nat.le_of_ble_eq_true rfl⟩, Nat.le_of_ble_eq_true rfl, Nat.le_of_ble_eq_true rfl, Nat.le_of_ble_eq_true rfl⟩ rfl rfl rfl rfl rfl (by decide +kernel) rfl (by decide +kernel) rfl (fun v9 w9 h9 => ?_)
                            obtain ⟨k2_19, o2_20, rfl, rfl, hk2_21, ho2_22⟩ := h9
                            refine ⟨[(q0, .inr (5, [.ref p0, .ref q1, .ref q2])), (q1, ia E 30 g1), (q2, ia E 6 t1), (p0, .inr (3, [.ref p1, .ref p2])), (p1, ia E 3 c1), (p2, ia E 100 b1), (w0, .inr (4, [.ref w1, .ref w2, .ref w3, .ref w4, .int (iI y)])), (w1, ia E 8 L), (w2, ia E 96 V), (w3, ia E 96 A), (w4, ia E 96 N), (u0, .inr (6, [.ref u1, .ref u2, .ref u3, .ref u4, .int (iI z1)])), (u1, ia E 6 k2_19), (u2, ia E 6 o2_20), (u3, ia E 96 a1), (u4, ia E 96 d1)], ⟨rfl, rfl, rfl, rfl⟩, g_to 0 0 _ _ [] rfl rfl rfl rfl rfl ?_⟩
                            refine g_iinc G 5 [(0, .ref q0), (1, .ref w0), (2, .int (iI e)), (3, .ref u0), (4, .int (iI 2)), (5, .int (iI 1))] dX5_learn_83 rfl (by decide) rfl rfl ?_
                            refine g_goto G 68 dX5_learn_86 (by decide) ?_
                            refine g_iload G 5 dX5_learn_68 rfl ?_
                            refine g_iconst G dX5_learn_70 ?_
                            refine g_icmp_ge G 89 dX5_learn_71 (by decide) (by omega) (by omega) (fun c71_8 => ?_) (fun c71_8 => ?_)
                            · exfalso; omega
                            · refine g_aload_n G 0 dX5_learn_74 rfl ?_
                              refine g_iload G 4 dX5_learn_75 rfl ?_
                              refine g_iload G 5 dX5_learn_77 rfl ?_
                              refine g_aload_n G 3 dX5_learn_79 rfl ?_
                              refine g_callV G [0, 1, 2, 11, 12, 13, 14, 15] [3, 4, 5, 6, 7, 8, 9, 10] 16 [(p0, .inr (3, [.ref p1, .ref p2])), (p1, ia E 3 c1), (p2, ia E 100 b1), (w0, .inr (4, [.ref w1, .ref w2, .ref w3, .ref w4, .int (iI y)])), (w1, ia E 8 L), (w2, ia E 96 V), (w3, ia E 96 A), (w4, ia E 96 N)] [.int (iI 2), .int (iI 1), .ref u0] [] (c_X5_decideRule E q0 q1 q2 p0 g1 t1 u0 u1 u2 u3 u4 k2_19 o2_20 a1 d1 z1 2 1 (by first | assumption | omega) (by first | assumption | omega) (by exact LOk.g hLk) (by exact LOk.t hLk)) dX5_learn_80 gX5_learn_X5_decideRule ⟨rfl, ⟨rfl, rfl⟩, e_X5_decideRule, ⟨Nat.le_of_ble_eq_true rfl, Nat.le_of_ble_eq_true rfl⟩, Nat.le_of_ble_eq_true rfl, Nat.le_of_ble_eq_true rfl, Nat.le_of_ble_eq_true rfl⟩ rfl rfl rfl rfl rfl (by decide +kernel) rfl (by decide +kernel) rfl (fun v9 w9 h9 => ?_)
                              obtain ⟨k2_23, o2_24, rfl, rfl, hk2_25, ho2_26⟩ := h9
                              refine ⟨[(q0, .inr (5, [.ref p0, .ref q1, .ref q2])), (q1, ia E 30 g1), (q2, ia E 6 t1), (p0, .inr (3, [.ref p1, .ref p2])), (p1, ia E 3 c1), (p2, ia E 100 b1), (w0, .inr (4, [.ref w1, .ref w2, .ref w3, .ref w4, .int (iI y)])), (w1, ia E 8 L), (w2, ia E 96 V), (w3, ia E 96 A), (w4, ia E 96 N), (u0, .inr (6, [.ref u1, .ref u2, .ref u3, .ref u4, .int (iI z1)])), (u1, ia E 6 k2_23), (u2, ia E 6 o2_24), (u3, ia E 96 a1), (u4, ia E 96 d1)], ⟨rfl, rfl, rfl, rfl⟩, g_to 0 0 _ _ [] rfl rfl rfl rfl rfl ?_⟩
                              refine g_iinc G 5 [(0, .ref q0), (1, .ref w0), (2, .int (iI e)), (3, .ref u0), (4, .int (iI 2)), (5, .int (iI 2))] dX5_learn_83 rfl (by decide) rfl rfl ?_
                              refine g_goto G 68 dX5_learn_86 (by decide) ?_
                              refine g_iload G 5 dX5_learn_68 rfl ?_
                              refine g_iconst G dX5_learn_70 ?_
                              refine g_icmp_ge G 89 dX5_learn_71 (by decide) (by omega) (by omega) (fun c71_9 => ?_) (fun c71_9 => ?_)
                              · refine g_iinc G 4 [(0, .ref q0), (1, .ref w0), (2, .int (iI e)), (3, .ref u0), (4, .int (iI 3)), (5, .int (iI 2))] dX5_learn_89 rfl (by decide) rfl rfl ?_
                                refine g_goto G 59 dX5_learn_92 (by decide) ?_
                                refine g_iload G 4 dX5_learn_59 rfl ?_
                                refine g_iconst G dX5_learn_61 ?_
                                refine g_icmp_ge G 95 dX5_learn_62 (by decide) (by omega) (by omega) (fun c62_4 => ?_) (fun c62_4 => ?_)
                                · exact g_ret G none rfl dX5_learn_95 (Nat.le_refl _) (Nat.le_refl _) ⟨g1, t1, c1, b1, a1, d1, z1, k2_23, o2_24, rfl, rfl, by rw [(show y = i by omega)]; exact hS, by exact hLk, by intro v f hv hf; have khk2_5 := decS_0 hk2_5; have khk2_9 := decS_0 hk2_9; have khk2_13 := decS_0 hk2_13; have khk2_17 := decS_0 hk2_17; have khk2_21 := decS_0 hk2_21; have khk2_25 := decS_0 hk2_25; have kho2_6 := decS_0 ho2_6; have kho2_10 := decS_0 ho2_10; have kho2_14 := decS_0 ho2_14; have kho2_18 := decS_0 ho2_18; have kho2_22 := decS_0 ho2_22; have kho2_26 := decS_0 ho2_26; rcases (show v = 0 ∨ v = 1 ∨ v = 2 by omega) with rfl | rfl | rfl <;> rcases (show f = 0 ∨ f = 1 by omega) with rfl | rfl <;> (refine ⟨?_, ?_⟩ <;> simp only [khk2_5, khk2_9, khk2_13, khk2_17, khk2_21, khk2_25, kho2_6, kho2_10, kho2_14, kho2_18, kho2_22, kho2_26] <;> simp [fiI])⟩
                                · exfalso; omega
                              · exfalso; omega
                      · exfalso; omega
              · exfalso; omega
      · refine g_iload G 4 dX5_learn_36 rfl ?_
        refine g_iload_n G 2 dX5_learn_38 rfl ?_
        refine g_icmp_eq G 50 dX5_learn_39 (by decide) (by omega) (by omega) (fun c39 => ?_) (fun c39 => ?_)
        · refine g_iinc G 4 [(0, .ref q0), (1, .ref w0), (2, .int (iI e)), (3, .ref u0), (4, .int (iI (i + 1)))] dX5_learn_50 rfl (by decide) rfl rfl ?_
          refine g_goto G 27 dX5_learn_53 (by decide) ?_
          exact ih27 (i + 1) c1 b1 g1 t1 a1 d1 z1 (by first | assumption | omega) (by rw [lnR_up V A N L e hi.1]; first | (rw [if_neg c39, hS]; exact hS2) | (rw [if_pos c39]; exact hS)) (by first | exact hLk2 | exact hLk) (by omega)
        · refine g_aload_n G 0 dX5_learn_42 rfl ?_
          refine g_aload_n G 1 dX5_learn_43 rfl ?_
          refine g_iload G 4 dX5_learn_44 rfl ?_
          refine g_aload_n G 3 dX5_learn_46 rfl ?_
          refine g_callV G [0, 1, 2, 3, 4, 5, 6, 7, 8, 9, 10, 11, 12, 13, 14, 15] [] 16 [] [.ref w0, .int (iI i), .ref u0] [] (c_X5_hearRow E q0 q1 q2 p0 p1 p2 g1 t1 c1 b1 w0 w1 w2 w3 w4 L V A N y u0 u1 u2 u3 u4 (fiI k 6 (-1)) (fiI o 6 (-1000)) a1 d1 z1 i (by exact hR) (by exact hLk) (by exact hko2) (by first | assumption | omega)) dX5_learn_47 gX5_learn_X5_hearRow ⟨rfl, ⟨rfl, rfl⟩, e_X5_hearRow, ⟨Nat.le_of_ble_eq_true rfl, Nat.le_of_ble_eq_true rfl⟩, Nat.le_of_ble_eq_true rfl, Nat.le_of_ble_eq_true rfl, Nat.le_of_ble_eq_true rfl⟩ rfl rfl rfl rfl rfl (by decide +kernel) rfl (by decide +kernel) rfl (fun v9 w9 h9 => ?_)
          obtain ⟨g1_27, t1_28, c1_29, b1_30, a1_31, d1_32, z1_33, rfl, rfl, hS2, hLk2⟩ := h9
          refine ⟨[(q0, .inr (5, [.ref p0, .ref q1, .ref q2])), (q1, ia E 30 g1_27), (q2, ia E 6 t1_28), (p0, .inr (3, [.ref p1, .ref p2])), (p1, ia E 3 c1_29), (p2, ia E 100 b1_30), (w0, .inr (4, [.ref w1, .ref w2, .ref w3, .ref w4, .int (iI y)])), (w1, ia E 8 L), (w2, ia E 96 V), (w3, ia E 96 A), (w4, ia E 96 N), (u0, .inr (6, [.ref u1, .ref u2, .ref u3, .ref u4, .int (iI z1_33)])), (u1, ia E 6 (fiI k 6 (-1))), (u2, ia E 6 (fiI o 6 (-1000))), (u3, ia E 96 a1_31), (u4, ia E 96 d1_32)], ⟨rfl, rfl, rfl, rfl⟩, g_to 0 0 _ _ [] rfl rfl rfl rfl rfl ?_⟩
          refine g_iinc G 4 [(0, .ref q0), (1, .ref w0), (2, .int (iI e)), (3, .ref u0), (4, .int (iI (i + 1)))] dX5_learn_50 rfl (by decide) rfl rfl ?_
          refine g_goto G 27 dX5_learn_53 (by decide) ?_
          exact ih27 (i + 1) c1_29 b1_30 g1_27 t1_28 a1_31 d1_32 z1_33 (by first | assumption | omega) (by rw [lnR_up V A N L e hi.1]; first | (rw [if_neg c39, hS]; exact hS2) | (rw [if_pos c39]; exact hS)) (by first | exact hLk2 | exact hLk) (by omega)
  exact L27 ((y - 0 : Int).toNat + 1) 0 c b (fiI g 30 1000) (fiI t 6 1000) a d 0 (by first | assumption | omega) (by rfl) (by exact hL1) (by omega)
