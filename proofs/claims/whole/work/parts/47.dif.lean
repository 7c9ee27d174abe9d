theorem foI_bd {g : Int → Int} (hG : AllOk g) (hX : ∀ i, 20 ≤ i → i < 596 → 0 ≤ g i ∧ g i < 100) (v x y f b : Int) (hf : 0 ≤ f ∧ f < 2) : -1 ≤ foI g v x y f b ∧ foI g v x y f b < 100 := by
  refine nR_inv (Q := fun s : Int => -1 ≤ s ∧ s < 100) _ _ (by omega) (fun r p s hr _ hp q => ?_)
  have a0 := hG.2.1
  have a := hG.2.2 r (by omega) (by omega)
  have hp2 : 0 ≤ p ∧ p < g (10 + r) := hp
  have b := hX (20 + 72 * r + 6 * p + (4 + f)) (by omega) (by omega)
  unfold foS
  split <;> omega
/-- what a row's place holds against the stand-in in state z -/
def diI (g u t c : Int → Int) (x y z b : Int) : Int :=
  if t (3 * z + g (20 + 72 * x + 6 * y + 0)) < 0 then 0
  else if u (4 * g (20 + 72 * x + 6 * y + 0) + 2 * 0) = 5 ∧ foI g (g (20 + 72 * x + 6 * y + 0)) (g (20 + 72 * x + 6 * y + 1)) (g (20 + 72 * x + 6 * y + 2)) 0 b < 0 then 0
  else if u (4 * g (20 + 72 * x + 6 * y + 0) + 2 * 1) = 5 ∧ foI g (g (20 + 72 * x + 6 * y + 0)) (g (20 + 72 * x + 6 * y + 1)) (g (20 + 72 * x + 6 * y + 2)) 1 b < 0 then 0
  else if c (3 * z + g (20 + 72 * x + 6 * y + 0)) ≠ g (20 + 72 * x + 6 * y + 3) then 1
  else if u (4 * g (20 + 72 * x + 6 * y + 0) + 2 * 0) ≠ 6 ∧ mdI (u (4 * g (20 + 72 * x + 6 * y + 0) + 2 * 0)) (u (4 * g (20 + 72 * x + 6 * y + 0) + 2 * 0 + 1)) (g (20 + 72 * x + 6 * y + 1)) (g (20 + 72 * x + 6 * y + 2)) (ahI g x y) (ltI g x y y.toNat) (foI g (g (20 + 72 * x + 6 * y + 0)) (g (20 + 72 * x + 6 * y + 1)) (g (20 + 72 * x + 6 * y + 2)) 0 b) ≠ g (20 + 72 * x + 6 * y + (4 + 0)) then 2 + 0
  else if u (4 * g (20 + 72 * x + 6 * y + 0) + 2 * 1) ≠ 6 ∧ mdI (u (4 * g (20 + 72 * x + 6 * y + 0) + 2 * 1)) (u (4 * g (20 + 72 * x + 6 * y + 0) + 2 * 1 + 1)) (g (20 + 72 * x + 6 * y + 1)) (g (20 + 72 * x + 6 * y + 2)) (ahI g x y) (ltI g x y y.toNat) (foI g (g (20 + 72 * x + 6 * y + 0)) (g (20 + 72 * x + 6 * y + 1)) (g (20 + 72 * x + 6 * y + 2)) 1 b) ≠ g (20 + 72 * x + 6 * y + (4 + 1)) then 2 + 1
  else -1
/-- the first place of a row that differs: 4 p + d, or -1 -/
def pwI (g u t c : Int → Int) (x b : Int) : Nat → Int → Int → Int
  | 0, _, _ => -1
  | n + 1, p, z => if 0 ≤ diI g u t c x p z b then 4 * p + diI g u t c x p z b else pwI g u t c x b n (p + 1) (t (3 * z + g (20 + 72 * x + 6 * p + 0)))
theorem diI_bd (g u t c : Int → Int) (x y z b : Int) : -1 ≤ diI g u t c x y z b ∧ diI g u t c x y z b ≤ 3 := by
  unfold diI
  (repeat' split) <;> omega
theorem diI_to {g u t c : Int → Int} {x y z b : Int} (h : diI g u t c x y z b < 0) : 0 ≤ t (3 * z + g (20 + 72 * x + 6 * y + 0)) := by
  by_cases q : t (3 * z + g (20 + 72 * x + 6 * y + 0)) < 0
  · unfold diI at h; rw [if_pos q] at h; omega
  · omega
theorem pwI_up (g u t c : Int → Int) (x b : Int) {n p z : Int} (h : p < n) : pwI g u t c x b (n - p).toNat p z = if 0 ≤ diI g u t c x p z b then 4 * p + diI g u t c x p z b else pwI g u t c x b (n - (p + 1)).toNat (p + 1) (t (3 * z + g (20 + 72 * x + 6 * p + 0))) := by
  rw [(show (n - p).toNat = (n - (p + 1)).toNat + 1 by omega)]
  rfl
theorem f_X10_differs_26 : Cond.fieldLink RX10 26 (TX10 7).1 (TX10 7).2.1 (TX10 7).2.2.1 ∈ wsX10_differs := by decide +kernel
theorem i_X10_differs_X10 : ∀ w ∈ wsX100, w ∈ wsX10_differs := by decide +kernel
theorem f_X10_differs_29 : Cond.fieldLink RX10 29 (TX10 8).1 (TX10 8).2.1 (TX10 8).2.2.1 ∈ wsX10_differs := by decide +kernel
theorem f_X10_differs_17 : Cond.fieldLink RX10 17 (TX10 2).1 (TX10 2).2.1 (TX10 2).2.2.1 ∈ wsX10_differs := by decide +kernel
theorem e_X10_fieldOf : yX10_fieldOf.cls ≠ "java/lang/invoke/MethodHandle" ∧ yX10_fieldOf.cls ≠ "java/lang/invoke/VarHandle" ∧ (parseMethodDescriptor yX10_fieldOf.desc).map (fun d => d.parameters.length) = some 5 := by decide +kernel
set_option maxRecDepth 100000 in
set_option maxHeartbeats 4000000 in
theorem c_X10_differs (E : qE) (q0 : Nat) (q1 : Nat) (q2 : Nat) (q3 : Nat) (q4 : Nat) (q5 : Nat) (q6 : Nat) (q7 : Nat) (q8 : Nat) (q9 : Nat) (q10 : Nat) (q11 : Nat) (c0 : Int) (la : Int) (ch : Int) (us : Int) (g : Int → Int) (u : Int → Int) (t : Int → Int) (c : Int → Int) (x : Int) (y : Int) (z : Int) (b : Int) (hG : AllOk g) (hX : ∀ i, 20 ≤ i → i < 596 → 0 ≤ g i ∧ g i < 100) (hV : VbOk g) (hU : ∀ v f, 0 ≤ v ∧ v < 3 → 0 ≤ f ∧ f < 2 → (-1000 ≤ u (4 * v + 2 * f) ∧ u (4 * v + 2 * f) ≤ 1000) ∧ -1000 ≤ u (4 * v + 2 * f + 1) ∧ u (4 * v + 2 * f + 1) ≤ 1000) (hx : 0 ≤ x ∧ x < 8) (hy : 0 ≤ y ∧ y < 12) (hz : 0 ≤ z ∧ z < 4) (hb : -2147483648 ≤ b ∧ b < 2147483648) (ht : ∀ i, -1 ≤ t i ∧ t i < 4) (hc : ∀ i, -100000 ≤ c i ∧ c i ≤ 100000) : Cn E yX10_differs wsX10_differs { frames := 2, cells := 0, slots := 0, locals := 50 } [.ref q0, .int (iI x), .int (iI y), .int (iI z), .int (iI b)] [(q0, .inr (10, [.ref q1, .ref q2, .ref q3, .int (iI c0), .ref q4, .ref q5, .int (iI la), .ref q6, .ref q7, .ref q8, .ref q9, .ref q10, .ref q11, .int (iI ch), .int (iI us)])), (q1, ia E 5400 g), (q3, ia E 12 u), (q6, ia E 12 t), (q7, ia E 12 c)] (fun v9 w9 => ∃ (r : Int), v9 = some (.int (iI r)) ∧ w9 = [(q0, .inr (10, [.ref q1, .ref q2, .ref q3, .int (iI c0), .ref q4, .ref q5, .int (iI la), .ref q6, .ref q7, .ref q8, .ref q9, .ref q10, .ref q11, .int (iI ch), .int (iI us)])), (q1, ia E 5400 g), (q3, ia E 12 u), (q6, ia E 12 t), (q7, ia E 12 c)] ∧ r = (diI g u t c x y z b)) 0 0 := by
  refine Cn.ofP (own := RX10) (cc := cX10_differs) (maxL := 12) (ret := (some .int)) false [(0, .ref q0), (1, .int (iI x)), (2, .int (iI y)), (3, .int (iI z)), (4, .int (iI b))] (by decide +kernel) rfl rfl (Nat.le_of_ble_eq_true rfl) rfl (fun h => nomatch h) (fun v w h => by obtain ⟨r, rfl, h9⟩ := h; exact ⟨_, rfl, rfl⟩) ?_
  intro P G
  obtain ⟨hg, hg0, hgs⟩ := id hG
  have hvb := hV x y hx.1 hx.2 hy.1 hy.2
  have ha1 := hX (20 + 72 * x + 6 * y + 1) (by omega) (by omega)
  have hb1 := hX (20 + 72 * x + 6 * y + 2) (by omega) (by omega)
  have hf0 := foI_bd hG hX (g (20 + 72 * x + 6 * y + 0)) (g (20 + 72 * x + 6 * y + 1)) (g (20 + 72 * x + 6 * y + 2)) 0 b (by omega)
  have hf1 := foI_bd hG hX (g (20 + 72 * x + 6 * y + 0)) (g (20 + 72 * x + 6 * y + 1)) (g (20 + 72 * x + 6 * y + 2)) 1 b (by omega)
  have hu0 := hU (g (20 + 72 * x + 6 * y + 0)) 0 hvb (by omega)
  have hu1 := hU (g (20 + 72 * x + 6 * y + 0)) 1 hvb (by omega)
  have hah := ahI_bd g x y y.toNat
  have hah2 : 0 ≤ ahI g x y ∧ ahI g x y ≤ y.toNat := hah
  have hlt := ltI_bd2 hX y hx.1 hx.2 y.toNat (by omega)
  refine g_aload_n G 0 dX10_differs_0 rfl ?_
  refine g_iload_n G 1 dX10_differs_1 rfl ?_
  refine g_iload_n G 2 dX10_differs_2 rfl ?_
  refine g_iconst G dX10_differs_3 ?_
  refine g_callV G [0, 1] [2, 3, 4] 5 [(q3, ia E 12 u), (q6, ia E 12 t), (q7, ia E 12 c)] [.int (iI x), .int (iI y), .int (iI 0)] [] (c_X10_of E q0 q1 q2 q3 q4 q5 q6 q7 q8 q9 q10 q11 c0 la ch us g x y 0 (by first | assumption | omega) (by first | assumption | omega) (by first | assumption | omega)) dX10_differs_4 gX10_differs_X10_of ⟨rfl, ⟨rfl, rfl⟩, e_X10_of, ⟨Nat.le_of_ble_eq_true rfl, Nat.le_of_ble_eq_true rfl⟩, Nat.le_of_ble_eq_true rfl, Nat.le_of_ble_eq_true rfl, Nat.le_of_ble_eq_true rfl⟩ rfl rfl rfl rfl rfl (by decide +kernel) rfl (by decide +kernel) rfl (fun v9 w9 h9 => ?_)
  obtain ⟨o1, rfl, rfl, rfl⟩ := h9
  have b2 := hg (20 + 72 * x + 6 * y + 0)
  refine ⟨[(q0, .inr (10, [.ref q1, .ref q2, .ref q3, .int (iI c0), .ref q4, .ref q5, .int (iI la), .ref q6, .ref q7, .ref q8, .ref q9, .ref q10, .ref q11, .int (iI ch), .int (iI us)])), (q1, ia E 5400 g), (q3, ia E 12 u), (q6, ia E 12 t), (q7, ia E 12 c)], ⟨rfl, rfl, rfl, rfl⟩, g_to 0 0 _ _ [.int (iI (g (20 + 72 * x + 6 * y + 0)))] rfl rfl rfl rfl rfl ?_⟩
  refine g_istore G [(0, .ref q0), (1, .int (iI x)), (2, .int (iI y)), (3, .int (iI z)), (4, .int (iI b)), (5, .int (iI (g (20 + 72 * x + 6 * y + 0))))] dX10_differs_7 (by decide) rfl rfl ?_
  refine g_aload_n G 0 dX10_differs_9 rfl ?_
  refine g_iload_n G 1 dX10_differs_10 rfl ?_
  refine g_iload_n G 2 dX10_differs_11 rfl ?_
  refine g_iconst G dX10_differs_12 ?_
  refine g_callV G [0, 1] [2, 3, 4] 5 [(q3, ia E 12 u), (q6, ia E 12 t), (q7, ia E 12 c)] [.int (iI x), .int (iI y), .int (iI 1)] [] (c_X10_of E q0 q1 q2 q3 q4 q5 q6 q7 q8 q9 q10 q11 c0 la ch us g x y 1 (by first | assumption | omega) (by first | assumption | omega) (by first | assumption | omega)) dX10_differs_13 gX10_differs_X10_of ⟨rfl, ⟨rfl, rfl⟩, e_X10_of, ⟨Nat.le_of_ble_eq_true rfl, Nat.le_of_ble_eq_true rfl⟩, Nat.le_of_ble_eq_true rfl, Nat.le_of_ble_eq_true rfl, Nat.le_of_ble_eq_true rfl⟩ rfl rfl rfl rfl rfl (by decide +kernel) rfl (by decide +kernel) rfl (fun v9 w9 h9 => ?_)
  obtain ⟨o3, rfl, rfl, rfl⟩ := h9
  have b4 := hg (20 + 72 * x + 6 * y + 1)
  refine ⟨[(q0, .inr (10, [.ref q1, .ref q2, .ref q3, .int (iI c0), .ref q4, .ref q5, .int (iI la), .ref q6, .ref q7, .ref q8, .ref q9, .ref q10, .ref q11, .int (iI ch), .int (iI us)])), (q1, ia E 5400 g), (q3, ia E 12 u), (q6, ia E 12 t), (q7, ia E 12 c)], ⟨rfl, rfl, rfl, rfl⟩, g_to 0 0 _ _ [.int (iI (g (20 + 72 * x + 6 * y + 1)))] rfl rfl rfl rfl rfl ?_⟩
  refine g_istore G [(0, .ref q0), (1, .int (iI x)), (2, .int (iI y)), (3, .int (iI z)), (4, .int (iI b)), (5, .int (iI (g (20 + 72 * x + 6 * y + 0)))), (6, .int (iI (g (20 + 72 * x + 6 * y + 1))))] dX10_differs_16 (by decide) rfl rfl ?_
  refine g_aload_n G 0 dX10_differs_18 rfl ?_
  refine g_iload_n G 1 dX10_differs_19 rfl ?_
  refine g_iload_n G 2 dX10_differs_20 rfl ?_
  refine g_iconst G dX10_differs_21 ?_
  refine g_callV G [0, 1] [2, 3, 4] 5 [(q3, ia E 12 u), (q6, ia E 12 t), (q7, ia E 12 c)] [.int (iI x), .int (iI y), .int (iI 2)] [] (c_X10_of E q0 q1 q2 q3 q4 q5 q6 q7 q8 q9 q10 q11 c0 la ch us g x y 2 (by first | assumption | omega) (by first | assumption | omega) (by first | assumption | omega)) dX10_differs_22 gX10_differs_X10_of ⟨rfl, ⟨rfl, rfl⟩, e_X10_of, ⟨Nat.le_of_ble_eq_true rfl, Nat.le_of_ble_eq_true rfl⟩, Nat.le_of_ble_eq_true rfl, Nat.le_of_ble_eq_true rfl, Nat.le_of_ble_eq_true rfl⟩ rfl rfl rfl rfl rfl (by decide +kernel) rfl (by decide +kernel) rfl (fun v9 w9 h9 => ?_)
  obtain ⟨o5, rfl, rfl, rfl⟩ := h9
  have b6 := hg (20 + 72 * x + 6 * y + 2)
  refine ⟨[(q0, .inr (10, [.ref q1, .ref q2, .ref q3, .int (iI c0), .ref q4, .ref q5, .int (iI la), .ref q6, .ref q7, .ref q8, .ref q9, .ref q10, .ref q11, .int (iI ch), .int (iI us)])), (q1, ia E 5400 g), (q3, ia E 12 u), (q6, ia E 12 t), (q7, ia E 12 c)], ⟨rfl, rfl, rfl, rfl⟩, g_to 0 0 _ _ [.int (iI (g (20 + 72 * x + 6 * y + 2)))] rfl rfl rfl rfl rfl ?_⟩
  refine g_istore G [(0, .ref q0), (1, .int (iI x)), (2, .int (iI y)), (3, .int (iI z)), (4, .int (iI b)), (5, .int (iI (g (20 + 72 * x + 6 * y + 0)))), (6, .int (iI (g (20 + 72 * x + 6 * y + 1)))), (7, .int (iI (g (20 + 72 * x + 6 * y + 2))))] dX10_differs_25 (by decide) rfl rfl ?_
  refine g_iconst G dX10_differs_27 ?_
  refine g_iload_n G 3 dX10_differs_28 rfl ?_
  refine g_imul G dX10_differs_29 ?_
  refine g_iload G 5 dX10_differs_30 rfl ?_
  refine g_iadd G dX10_differs_32 ?_
  refine g_istore G [(0, .ref q0), (1, .int (iI x)), (2, .int (iI y)), (3, .int (iI z)), (4, .int (iI b)), (5, .int (iI (g (20 + 72 * x + 6 * y + 0)))), (6, .int (iI (g (20 + 72 * x + 6 * y + 1)))), (7, .int (iI (g (20 + 72 * x + 6 * y + 2)))), (8, .int (iI ((3 * z) + (g (20 + 72 * x + 6 * y + 0)))))] dX10_differs_33 (by decide) rfl rfl ?_
  refine g_aload_n G 0 dX10_differs_35 rfl ?_
  refine g_get G 0 7 dX10_differs_36 i_X10_differs_X10 f_X10_differs_26 rfl rfl (by decide) rfl ?_
  refine g_iload G 8 dX10_differs_39 rfl ?_
  refine g_iald G 3 dX10_differs_41 rfl (by omega) (by omega) (by decide) ?_
  have b7 := ht ((3 * z) + (g (20 + 72 * x + 6 * y + 0)))
  refine g_if_ge G 47 dX10_differs_42 (by decide) (by omega) (fun c42 => ?_) (fun c42 => ?_)
  · have L99 : (((u (4 * g (20 + 72 * x + 6 * y + 0) + 2 * 0) = 5 → 0 ≤ foI g (g (20 + 72 * x + 6 * y + 0)) (g (20 + 72 * x + 6 * y + 1)) (g (20 + 72 * x + 6 * y + 2)) 0 b) ∧ (u (4 * g (20 + 72 * x + 6 * y + 0) + 2 * 1) = 5 → 0 ≤ foI g (g (20 + 72 * x + 6 * y + 0)) (g (20 + 72 * x + 6 * y + 1)) (g (20 + 72 * x + 6 * y + 2)) 1 b))) → P 0 0 [(q0, .inr (10, [.ref q1, .ref q2, .ref q3, .int (iI c0), .ref q4, .ref q5, .int (iI la), .ref q6, .ref q7, .ref q8, .ref q9, .ref q10, .ref q11, .int (iI ch), .int (iI us)])), (q1, ia E 5400 g), (q3, ia E 12 u), (q6, ia E 12 t), (q7, ia E 12 c)] 99 [(0, .ref q0), (1, .int (iI x)), (2, .int (iI y)), (3, .int (iI z)), (4, .int (iI b)), (5, .int (iI (g (20 + 72 * x + 6 * y + 0)))), (6, .int (iI (g (20 + 72 * x + 6 * y + 1)))), (7, .int (iI (g (20 + 72 * x + 6 * y + 2)))), (8, .int (iI ((3 * z) + (g (20 + 72 * x + 6 * y + 0))))), (9, .int (iI 2))] [] := by
      intro  hk
      refine g_aload_n G 0 dX10_differs_99 rfl ?_
      refine g_get G 0 8 dX10_differs_100 i_X10_differs_X10 f_X10_differs_29 rfl rfl (by decide) rfl ?_
      refine g_iload G 8 dX10_differs_103 rfl ?_
      refine g_iald G 4 dX10_differs_105 rfl (by omega) (by omega) (by decide) ?_
      have b8 := hc ((3 * z) + (g (20 + 72 * x + 6 * y + 0)))
      refine g_aload_n G 0 dX10_differs_106 rfl ?_
      refine g_iload_n G 1 dX10_differs_107 rfl ?_
      refine g_iload_n G 2 dX10_differs_108 rfl ?_
      refine g_iconst G dX10_differs_109 ?_
      refine g_callV G [0, 1] [2, 3, 4] 5 [(q3, ia E 12 u), (q6, ia E 12 t), (q7, ia E 12 c)] [.int (iI x), .int (iI y), .int (iI 3)] [.int (iI (c ((3 * z) + (g (20 + 72 * x + 6 * y + 0)))))] (c_X10_of E q0 q1 q2 q3 q4 q5 q6 q7 q8 q9 q10 q11 c0 la ch us g x y 3 (by first | assumption | omega) (by first | assumption | omega) (by first | assumption | omega)) dX10_differs_110 gX10_differs_X10_of ⟨rfl, ⟨rfl, rfl⟩, e_X10_of, ⟨Nat.le_of_ble_eq_true rfl, Nat.le_of_ble_eq_true rfl⟩, Nat.le_of_ble_eq_true rfl, Nat.le_of_ble_eq_true rfl, Nat.le_of_ble_eq_true rfl⟩ rfl rfl rfl rfl rfl (by decide +kernel) rfl (by decide +kernel) rfl (fun v9 w9 h9 => ?_)
      obtain ⟨o9, rfl, rfl, rfl⟩ := h9
      have b10 := hg (20 + 72 * x + 6 * y + 3)
      refine ⟨[(q0, .inr (10, [.ref q1, .ref q2, .ref q3, .int (iI c0), .ref q4, .ref q5, .int (iI la), .ref q6, .ref q7, .ref q8, .ref q9, .ref q10, .ref q11, .int (iI ch), .int (iI us)])), (q1, ia E 5400 g), (q3, ia E 12 u), (q6, ia E 12 t), (q7, ia E 12 c)], ⟨rfl, rfl, rfl, rfl⟩, g_to 0 0 _ _ [.int (iI (g (20 + 72 * x + 6 * y + 3))), .int (iI (c ((3 * z) + (g (20 + 72 * x + 6 * y + 0)))))] rfl rfl rfl rfl rfl ?_⟩
      refine g_icmp_eq G 118 dX10_differs_113 (by decide) (by omega) (by omega) (fun c113 => ?_) (fun c113 => ?_)
      · refine g_iconst G dX10_differs_118 ?_
        refine g_istore G [(0, .ref q0), (1, .int (iI x)), (2, .int (iI y)), (3, .int (iI z)), (4, .int (iI b)), (5, .int (iI (g (20 + 72 * x + 6 * y + 0)))), (6, .int (iI (g (20 + 72 * x + 6 * y + 1)))), (7, .int (iI (g (20 + 72 * x + 6 * y + 2)))), (8, .int (iI ((3 * z) + (g (20 + 72 * x + 6 * y + 0))))), (9, .int (iI 0))] dX10_differs_119 (by decide) rfl rfl ?_
        refine g_iload G 9 dX10_differs_121 rfl ?_
        refine g_iconst G dX10_differs_123 ?_
        refine g_icmp_ge G 229 dX10_differs_124 (by decide) (by omega) (by omega) (fun c124 => ?_) (fun c124 => ?_)
        · exfalso; omega
        · refine g_aload_n G 0 dX10_differs_127 rfl ?_
          refine g_get G 0 2 dX10_differs_128 i_X10_differs_X10 f_X10_differs_17 rfl rfl (by decide) rfl ?_
          refine g_iconst G dX10_differs_131 ?_
          refine g_iload G 5 dX10_differs_132 rfl ?_
          refine g_imul G dX10_differs_134 ?_
          refine g_iconst G dX10_differs_135 ?_
          refine g_iload G 9 dX10_differs_136 rfl ?_
          refine g_imul G dX10_differs_138 ?_
          refine g_iadd G dX10_differs_139 ?_
          refine g_iald G 2 dX10_differs_140 rfl (by omega) (by omega) (by decide) ?_
          refine g_istore G [(0, .ref q0), (1, .int (iI x)), (2, .int (iI y)), (3, .int (iI z)), (4, .int (iI b)), (5, .int (iI (g (20 + 72 * x + 6 * y + 0)))), (6, .int (iI (g (20 + 72 * x + 6 * y + 1)))), (7, .int (iI (g (20 + 72 * x + 6 * y + 2)))), (8, .int (iI ((3 * z) + (g (20 + 72 * x + 6 * y + 0))))), (9, .int (iI 0)), (10, .int (iI (u ((4 * (g (20 + 72 * x + 6 * y + 0))) + (2 * 0)))))] dX10_differs_141 (by decide) rfl rfl ?_
          refine g_iload G 10 dX10_differs_143 rfl ?_
          refine g_aload_n G 0 dX10_differs_145 rfl ?_
          refine g_get G 0 2 dX10_differs_146 i_X10_differs_X10 f_X10_differs_17 rfl rfl (by decide) rfl ?_
          refine g_iconst G dX10_differs_149 ?_
          refine g_iload G 5 dX10_differs_150 rfl ?_
          refine g_imul G dX10_differs_152 ?_
          refine g_iconst G dX10_differs_153 ?_
          refine g_iload G 9 dX10_differs_154 rfl ?_
          refine g_imul G dX10_differs_156 ?_
          refine g_iadd G dX10_differs_157 ?_
          refine g_iconst G dX10_differs_158 ?_
          refine g_iadd G dX10_differs_159 ?_
          refine g_iald G 2 dX10_differs_160 rfl (by omega) (by omega) (by decide) ?_
          refine g_iload G 6 dX10_differs_161 rfl ?_
          refine g_iload G 7 dX10_differs_163 rfl ?_
          refine g_aload_n G 0 dX10_differs_165 rfl ?_
          refine g_iload_n G 1 dX10_differs_166 rfl ?_
          refine g_iload_n G 2 dX10_differs_167 rfl ?_
          refine g_callV G [0, 1] [2, 3, 4] 5 [(q3, ia E 12 u), (q6, ia E 12 t), (q7, ia E 12 c)] [.int (iI x), .int (iI y)] [.int (iI (g (20 + 72 * x + 6 * y + 2))), .int (iI (g (20 + 72 * x + 6 * y + 1))), .int (iI (u (((4 * (g (20 + 72 * x + 6 * y + 0))) + (2 * 0)) + 1))), .int (iI (u ((4 * (g (20 + 72 * x + 6 * y + 0))) + (2 * 0))))] (c_X10_ahead E q0 q1 q2 q3 q4 q5 q6 q7 q8 q9 q10 q11 c0 la ch us g x y (by exact hG) (by first | assumption | omega) (by first | assumption | omega)) dX10_differs_168 gX10_differs_X10_ahead ⟨rfl, ⟨rfl, rfl⟩, e_X10_ahead, ⟨Nat.le_of_ble_eq_true rfl, Nat.le_of_ble_eq_true rfl⟩, Nat.le_of_ble_eq_true rfl, Nat.le_of_ble_eq_true rfl, Nat.le_of_ble_eq_true rfl⟩ rfl rfl rfl rfl rfl (by decide +kernel) rfl (by decide +kernel) rfl (fun v9 w9 h9 => ?_)
          obtain ⟨o11, rfl, rfl, rfl⟩ := h9
          refine ⟨[(q0, .inr (10, [.ref q1, .ref q2, .ref q3, .int (iI c0), .ref q4, .ref q5, .int (iI la), .ref q6, .ref q7, .ref q8, .ref q9, .ref q10, .ref q11, .int (iI ch), .int (iI us)])), (q1, ia E 5400 g), (q3, ia E 12 u), (q6, ia E 12 t), (q7, ia E 12 c)], ⟨rfl, rfl, rfl, rfl⟩, g_to 0 0 _ _ [.int (iI (ahI g x y)), .int (iI (g (20 + 72 * x + 6 * y + 2))), .int (iI (g (20 + 72 * x + 6 * y + 1))), .int (iI (u (((4 * (g (20 + 72 * x + 6 * y + 0))) + (2 * 0)) + 1))), .int (iI (u ((4 * (g (20 + 72 * x + 6 * y + 0))) + (2 * 0))))] rfl rfl rfl rfl rfl ?_⟩
          refine g_aload_n G 0 dX10_differs_171 rfl ?_
          refine g_iload_n G 1 dX10_differs_172 rfl ?_
          refine g_iload_n G 2 dX10_differs_173 rfl ?_
          refine g_callV G [0, 1] [2, 3, 4] 5 [(q3, ia E 12 u), (q6, ia E 12 t), (q7, ia E 12 c)] [.int (iI x), .int (iI y)] [.int (iI (ahI g x y)), .int (iI (g (20 + 72 * x + 6 * y + 2))), .int (iI (g (20 + 72 * x + 6 * y + 1))), .int (iI (u (((4 * (g (20 + 72 * x + 6 * y + 0))) + (2 * 0)) + 1))), .int (iI (u ((4 * (g (20 + 72 * x + 6 * y + 0))) + (2 * 0))))] (c_X10_latest E q0 q1 q2 q3 q4 q5 q6 q7 q8 q9 q10 q11 c0 la ch us g x y (by exact hG) (by first | assumption | omega) (by first | assumption | omega)) dX10_differs_174 gX10_differs_X10_latest ⟨rfl, ⟨rfl, rfl⟩, e_X10_latest, ⟨Nat.le_of_ble_eq_true rfl, Nat.le_of_ble_eq_true rfl⟩, Nat.le_of_ble_eq_true rfl, Nat.le_of_ble_eq_true rfl, Nat.le_of_ble_eq_true rfl⟩ rfl rfl rfl rfl rfl (by decide +kernel) rfl (by decide +kernel) rfl (fun v9 w9 h9 => ?_)
          obtain ⟨o12, rfl, rfl, rfl⟩ := h9
          refine ⟨[(q0, .inr (10, [.ref q1, .ref q2, .ref q3, .int (iI c0), .ref q4, .ref q5, .int (iI la), .ref q6, .ref q7, .ref q8, .ref q9, .ref q10, .ref q11, .int (iI ch), .int (iI us)])), (q1, ia E 5400 g), (q3, ia E 12 u), (q6, ia E 12 t), (q7, ia E 12 c)], ⟨rfl, rfl, rfl, rfl⟩, g_to 0 0 _ _ [.int (iI (ltI g x y y.toNat)), .int (iI (ahI g x y)), .int (iI (g (20 + 72 * x + 6 * y + 2))), .int (iI (g (20 + 72 * x + 6 * y + 1))), .int (iI (u (((4 * (g (20 + 72 * x + 6 * y + 0))) + (2 * 0)) + 1))), .int (iI (u ((4 * (g (20 + 72 * x + 6 * y + 0))) + (2 * 0))))] rfl rfl rfl rfl rfl ?_⟩
          refine g_aload_n G 0 dX10_differs_177 rfl ?_
          refine g_iload G 5 dX10_differs_178 rfl ?_
          refine g_iload G 6 dX10_differs_180 rfl ?_
          refine g_iload G 7 dX10_differs_182 rfl ?_
          refine g_iload G 9 dX10_differs_184 rfl ?_
          refine g_iload G 4 dX10_differs_186 rfl ?_
          refine g_callV G [0, 1] [2, 3, 4] 5 [(q3, ia E 12 u), (q6, ia E 12 t), (q7, ia E 12 c)] [.int (iI (g (20 + 72 * x + 6 * y + 0))), .int (iI (g (20 + 72 * x + 6 * y + 1))), .int (iI (g (20 + 72 * x + 6 * y + 2))), .int (iI 0), .int (iI b)] [.int (iI (ltI g x y y.toNat)), .int (iI (ahI g x y)), .int (iI (g (20 + 72 * x + 6 * y + 2))), .int (iI (g (20 + 72 * x + 6 * y + 1))), .int (iI (u (((4 * (g (20 + 72 * x + 6 * y + 0))) + (2 * 0)) + 1))), .int (iI (u ((4 * (g (20 + 72 * x + 6 * y + 0))) + (2 * 0))))] (c_X10_fieldOf E q0 q1 q2 q3 q4 q5 q6 q7 q8 q9 q10 q11 c0 la ch us g (g (20 + 72 * x + 6 * y + 0)) (g (20 + 72 * x + 6 * y + 1)) (g (20 + 72 * x + 6 * y + 2)) 0 b (by exact hG) (by exact hX) (by first | assumption | omega) (by first | assumption | omega) (by first | assumption | omega) (by omega) (by first | assumption | omega)) dX10_differs_188 gX10_differs_X10_fieldOf ⟨rfl, ⟨rfl, rfl⟩, e_X10_fieldOf, ⟨Nat.le_of_ble_eq_true rfl, Nat.le_of_ble_eq_true rfl⟩, Nat.le_of_ble_eq_true rfl, Nat.le_of_ble_eq_true rfl, Nat.le_of_ble_eq_true rfl⟩ rfl rfl rfl rfl rfl (by decide +kernel) rfl (by decide +kernel) rfl (fun v9 w9 h9 => ?_)
          obtain ⟨o13, rfl, rfl, rfl⟩ := h9
          refine ⟨[(q0, .inr (10, [.ref q1, .ref q2, .ref q3, .int (iI c0), .ref q4, .ref q5, .int (iI la), .ref q6, .ref q7, .ref q8, .ref q9, .ref q10, .ref q11, .int (iI ch), .int (iI us)])), (q1, ia E 5400 g), (q3, ia E 12 u), (q6, ia E 12 t), (q7, ia E 12 c)], ⟨rfl, rfl, rfl, rfl⟩, g_to 0 0 _ _ [.int (iI (foI g (g (20 + 72 * x + 6 * y + 0)) (g (20 + 72 * x + 6 * y + 1)) (g (20 + 72 * x + 6 * y + 2)) 0 b)), .int (iI (ltI g x y y.toNat)), .int (iI (ahI g x y)), .int (iI (g (20 + 72 * x + 6 * y + 2))), .int (iI (g (20 + 72 * x + 6 * y + 1))), .int (iI (u (((4 * (g (20 + 72 * x + 6 * y + 0))) + (2 * 0)) + 1))), .int (iI (u ((4 * (g (20 + 72 * x + 6 * y + 0))) + (2 * 0))))] rfl rfl rfl rfl rfl ?_⟩
          refine g_callS G [] [0, 1, 2, 3, 4] 5 [(q0, .inr (10, [.ref q1, .ref q2, .ref q3, .int (iI c0), .ref q4, .ref q5, .int (iI la), .ref q6, .ref q7, .ref q8, .ref q9, .ref q10, .ref q11, .int (iI ch), .int (iI us)])), (q1, ia E 5400 g), (q3, ia E 12 u), (q6, ia E 12 t), (q7, ia E 12 c)] [.int (iI (u ((4 * (g (20 + 72 * x + 6 * y + 0))) + (2 * 0)))), .int (iI (u (((4 * (g (20 + 72 * x + 6 * y + 0))) + (2 * 0)) + 1))), .int (iI (g (20 + 72 * x + 6 * y + 1))), .int (iI (g (20 + 72 * x + 6 * y + 2))), .int (iI (ahI g x y)), .int (iI (ltI g x y y.toNat)), .int (iI (foI g (g (20 + 72 * x + 6 * y + 0)) (g (20 + 72 * x + 6 * y + 1)) (g (20 + 72 * x + 6 * y + 2)) 0 b))] [] (c_X10_made E (u ((4 * (g (20 + 72 * x + 6 * y + 0))) + (2 * 0))) (u (((4 * (g (20 + 72 * x + 6 * y + 0))) + (2 * 0)) + 1)) (g (20 + 72 * x + 6 * y + 1)) (g (20 + 72 * x + 6 * y + 2)) (ahI g x y) (ltI g x y y.toNat) (foI g (g (20 + 72 * x + 6 * y + 0)) (g (20 + 72 * x + 6 * y + 1)) (g (20 + 72 * x + 6 * y + 2)) 0 b) (by first | assumption | omega) (by first | assumption | omega)) dX10_differs_191 gX10_differs_X10_made ⟨rfl, ⟨rfl, rfl⟩, e_X10_made, ⟨Nat.le_of_ble_eq_true rfl, Nat.le_of_ble_eq_true rfl⟩, Nat.le_of_ble_eq_true rfl, Nat.le_of_ble_eq_true rfl, Nat.le_of_ble_eq_true rfl⟩ rfl (by decide +kernel) rfl (by decide +kernel) rfl (fun v9 w9 h9 => ?_)
          obtain ⟨o14, rfl, rfl, rfl⟩ := h9
          refine ⟨[(q0, .inr (10, [.ref q1, .ref q2, .ref q3, .int (iI c0), .ref q4, .ref q5, .int (iI la), .ref q6, .ref q7, .ref q8, .ref q9, .ref q10, .ref q11, .int (iI ch), .int (iI us)])), (q1, ia E 5400 g), (q3, ia E 12 u), (q6, ia E 12 t), (q7, ia E 12 c)], ⟨rfl, rfl, rfl, rfl⟩, g_to 0 0 _ _ [.int (iI (mdI (u ((4 * (g (20 + 72 * x + 6 * y + 0))) + (2 * 0))) (u (((4 * (g (20 + 72 * x + 6 * y + 0))) + (2 * 0)) + 1)) (g (20 + 72 * x + 6 * y + 1)) (g (20 + 72 * x + 6 * y + 2)) (ahI g x y) (ltI g x y y.toNat) (foI g (g (20 + 72 * x + 6 * y + 0)) (g (20 + 72 * x + 6 * y + 1)) (g (20 + 72 * x + 6 * y + 2)) 0 b)))] rfl rfl rfl rfl rfl ?_⟩
          refine g_istore G [(0, .ref q0), (1, .int (iI x)), (2, .int (iI y)), (3, .int (iI z)), (4, .int (iI b)), (5, .int (iI (g (20 + 72 * x + 6 * y + 0)))), (6, .int (iI (g (20 + 72 * x + 6 * y + 1)))), (7, .int (iI (g (20 + 72 * x + 6 * y + 2)))), (8, .int (iI ((3 * z) + (g (20 + 72 * x + 6 * y + 0))))), (9, .int (iI 0)), (10, .int (iI (u ((4 * (g (20 + 72 * x + 6 * y + 0))) + (2 * 0))))), (11, .int (iI (mdI (u ((4 * (g (20 + 72 * x + 6 * y + 0))) + (2 * 0))) (u (((4 * (g (20 + 72 * x + 6 * y + 0))) + (2 * 0)) + 1)) (g (20 + 72 * x + 6 * y + 1)) (g (20 + 72 * x + 6 * y + 2)) (ahI g x y) (ltI g x y y.toNat) (foI g (g (20 + 72 * x + 6 * y + 0)) (g (20 + 72 * x + 6 * y + 1)) (g (20 + 72 * x + 6 * y + 2)) 0 b))))] dX10_differs_194 (by decide) rfl rfl ?_
          have hmd := mdI_bd (x := (u ((4 * (g (20 + 72 * x + 6 * y + 0))) + (2 * 0)))) (y := u (4 * g (20 + 72 * x + 6 * y + 0) + 2 * 0 + 1)) (a := g (20 + 72 * x + 6 * y + 1)) (b := g (20 + 72 * x + 6 * y + 2)) (d := ahI g x y) (l := ltI g x y y.toNat) (t := foI g (g (20 + 72 * x + 6 * y + 0)) (g (20 + 72 * x + 6 * y + 1)) (g (20 + 72 * x + 6 * y + 2)) 0 b) (z := 1000) (by omega) (by omega) (by omega) (by omega) (by omega) (by omega) (by omega)
          refine g_iload G 10 dX10_differs_196 rfl ?_
          refine g_bipush G dX10_differs_198 (by decide +kernel) ?_
          refine g_icmp_eq G 223 dX10_differs_200 (by decide) (by omega) (by omega) (fun c200 => ?_) (fun c200 => ?_)
          · refine g_iinc G 9 [(0, .ref q0), (1, .int (iI x)), (2, .int (iI y)), (3, .int (iI z)), (4, .int (iI b)), (5, .int (iI (g (20 + 72 * x + 6 * y + 0)))), (6, .int (iI (g (20 + 72 * x + 6 * y + 1)))), (7, .int (iI (g (20 + 72 * x + 6 * y + 2)))), (8, .int (iI ((3 * z) + (g (20 + 72 * x + 6 * y + 0))))), (9, .int (iI 1)), (10, .int (iI (u ((4 * (g (20 + 72 * x + 6 * y + 0))) + (2 * 0))))), (11, .int (iI (mdI (u ((4 * (g (20 + 72 * x + 6 * y + 0))) + (2 * 0))) (u (((4 * (g (20 + 72 * x + 6 * y + 0))) + (2 * 0)) + 1)) (g (20 + 72 * x + 6 * y + 1)) (g (20 + 72 * x + 6 * y + 2)) (ahI g x y) (ltI g x y y.toNat) (foI g (g (20 + 72 * x + 6 * y + 0)) (g (20 + 72 * x + 6 * y + 1)) (g (20 + 72 * x + 6 * y + 2)) 0 b))))] dX10_differs_223 rfl (by decide) rfl rfl ?_
            refine g_goto G 121 dX10_differs_226 (by decide) ?_
            refine g_iload G 9 dX10_differs_121 rfl ?_
            refine g_iconst G dX10_differs_123 ?_
            refine g_icmp_ge G 229 dX10_differs_124 (by decide) (by omega) (by omega) (fun c124_2 => ?_) (fun c124_2 => ?_)
            · exfalso; omega
            · refine g_aload_n G 0 dX10_differs_127 rfl ?_
              refine g_get G 0 2 dX10_differs_128 i_X10_differs_X10 f_X10_differs_17 rfl rfl (by decide) rfl ?_
              refine g_iconst G dX10_differs_131 ?_
              refine g_iload G 5 dX10_differs_132 rfl ?_
              refine g_imul G dX10_differs_134 ?_
              refine g_iconst G dX10_differs_135 ?_
              refine g_iload G 9 dX10_differs_136 rfl ?_
              refine g_imul G dX10_differs_138 ?_
              refine g_iadd G dX10_differs_139 ?_
              refine g_iald G 2 dX10_differs_140 rfl (by omega) (by omega) (by decide) ?_
              refine g_istore G [(0, .ref q0), (1, .int (iI x)), (2, .int (iI y)), (3, .int (iI z)), (4, .int (iI b)), (5, .int (iI (g (20 + 72 * x + 6 * y + 0)))), (6, .int (iI (g (20 + 72 * x + 6 * y + 1)))), (7, .int (iI (g (20 + 72 * x + 6 * y + 2)))), (8, .int (iI ((3 * z) + (g (20 + 72 * x + 6 * y + 0))))), (9, .int (iI 1)), (10, .int (iI (u ((4 * (g (20 + 72 * x + 6 * y + 0))) + (2 * 1))))), (11, .int (iI (mdI (u ((4 * (g (20 + 72 * x + 6 * y + 0))) + (2 * 0))) (u (((4 * (g (20 + 72 * x + 6 * y + 0))) + (2 * 0)) + 1)) (g (20 + 72 * x + 6 * y + 1)) (g (20 + 72 * x + 6 * y + 2)) (ahI g x y) (ltI g x y y.toNat) (foI g (g (20 + 72 * x + 6 * y + 0)) (g (20 + 72 * x + 6 * y + 1)) (g (20 + 72 * x + 6 * y + 2)) 0 b))))] dX10_differs_141 (by decide) rfl rfl ?_
              refine g_iload G 10 dX10_differs_143 rfl ?_
              refine g_aload_n G 0 dX10_differs_145 rfl ?_
              refine g_get G 0 2 dX10_differs_146 i_X10_differs_X10 f_X10_differs_17 rfl rfl (by decide) rfl ?_
              refine g_iconst G dX10_differs_149 ?_
              refine g_iload G 5 dX10_differs_150 rfl ?_
              refine g_imul G dX10_differs_152 ?_
              refine g_iconst G dX10_differs_153 ?_
              refine g_iload G 9 dX10_differs_154 rfl ?_
              refine g_imul G dX10_differs_156 ?_
              refine g_iadd G dX10_differs_157 ?_
              refine g_iconst G dX10_differs_158 ?_
              refine g_iadd G dX10_differs_159 ?_
              refine g_iald G 2 dX10_differs_160 rfl (by omega) (by omega) (by decide) ?_
              refine g_iload G 6 dX10_differs_161 rfl ?_
              refine g_iload G 7 dX10_differs_163 rfl ?_
              refine g_aload_n G 0 dX10_differs_165 rfl ?_
              refine g_iload_n G 1 dX10_differs_166 rfl ?_
              refine g_iload_n G 2 dX10_differs_167 rfl ?_
              refine g_callV G [0, 1] [2, 3, 4] 5 [(q3, ia E 12 u), (q6, ia E 12 t), (q7, ia E 12 c)] [.int (iI x), .int (iI y)] [.int (iI (g (20 + 72 * x + 6 * y + 2))), .int (iI (g (20 + 72 * x + 6 * y + 1))), .int (iI (u (((4 * (g (20 + 72 * x + 6 * y + 0))) + (2 * 1)) + 1))), .int (iI (u ((4 * (g (20 + 72 * x + 6 * y + 0))) + (2 * 1))))] (c_X10_ahead E q0 q1 q2 q3 q4 q5 q6 q7 q8 q9 q10 q11 c0 la ch us g x y (by exact hG) (by first | assumption | omega) (by first | assumption | omega)) dX10_differs_168 gX10_differs_X10_ahead ⟨rfl, ⟨rfl, rfl⟩, e_X10_ahead, ⟨Nat.le_of_ble_eq_true rfl, Nat.le_of_ble_eq_true rfl⟩, Nat.le_of_ble_eq_true rfl, Nat.le_of_ble_eq_true rfl, Nat.le_of_ble_eq_true rfl⟩ rfl rfl rfl rfl rfl (by decide +kernel) rfl (by decide +kernel) rfl (fun v9 w9 h9 => ?_)
              obtain ⟨o15, rfl, rfl, rfl⟩ := h9
              refine ⟨[(q0, .inr (10, [.ref q1, .ref q2, .ref q3, .int (iI c0), .ref q4, .ref q5, .int (iI la), .ref q6, .ref q7, .ref q8, .ref q9, .ref q10, .ref q11, .int (iI ch), .int (iI us)])), (q1, ia E 5400 g), (q3, ia E 12 u), (q6, ia E 12 t), (q7, ia E 12 c)], ⟨rfl, rfl, rfl, rfl⟩, g_to 0 0 _ _ [.int (iI (ahI g x y)), .int (iI (g (20 + 72 * x + 6 * y + 2))), .int (iI (g (20 + 72 * x + 6 * y + 1))), .int (iI (u (((4 * (g (20 + 72 * x + 6 * y + 0))) + (2 * 1)) + 1))), .int (iI (u ((4 * (g (20 + 72 * x + 6 * y + 0))) + (2 * 1))))] rfl rfl rfl rfl rfl ?_⟩
              refine g_aload_n G 0 dX10_differs_171 rfl ?_
              refine g_iload_n G 1 dX10_differs_172 rfl ?_
              refine g_iload_n G 2 dX10_differs_173 rfl ?_
              refine g_callV G [0, 1] [2, 3, 4] 5 [(q3, ia E 12 u), (q6, ia E 12 t), (q7, ia E 12 c)] [.int (iI x), .int (iI y)] [.int (iI (ahI g x y)), .int (iI (g (20 + 72 * x + 6 * y + 2))), .int (iI (g (20 + 72 * x + 6 * y + 1))), .int (iI (u (((4 * (g (20 + 72 * x + 6 * y + 0))) + (2 * 1)) + 1))), .int (iI (u ((4 * (g (20 + 72 * x + 6 * y + 0))) + (2 * 1))))] (c_X10_latest E q0 q1 q2 q3 q4 q5 q6 q7 q8 q9 q10 q11 c0 la ch us g x y (by exact hG) (by first | assumption | omega) (by first | assumption | omega)) dX10_differs_174 gX10_differs_X10_latest ⟨rfl, ⟨rfl, rfl⟩, e_X10_latest, ⟨Nat.le_of_ble_eq_true rfl, Nat.le_of_ble_eq_true rfl⟩, Nat.le_of_ble_eq_true rfl, Nat.le_of_ble_eq_true rfl, Nat.le_of_ble_eq_true rfl⟩ rfl rfl rfl rfl rfl (by decide +kernel) rfl (by decide +kernel) rfl (fun v9 w9 h9 => ?_)
              obtain ⟨o16, rfl, rfl, rfl⟩ := h9
              refine ⟨[(q0, .inr (10, [.ref q1, .ref q2, .ref q3, .int (iI c0), .ref q4, .ref q5, .int (iI la), .ref q6, .ref q7, .ref q8, .ref q9, .ref q10, .ref q11, .int (iI ch), .int (iI us)])), (q1, ia E 5400 g), (q3, ia E 12 u), (q6, ia E 12 t), (q7, ia E 12 c)], ⟨rfl, rfl, rfl, rfl⟩, g_to 0 0 _ _ [.int (iI (ltI g x y y.toNat)), .int (iI (ahI g x y)), .int (iI (g (20 + 72 * x + 6 * y + 2))), .int (iI (g (20 + 72 * x + 6 * y + 1))), .int (iI (u (((4 * (g (20 + 72 * x + 6 * y + 0))) + (2 * 1)) + 1))), .int (iI (u ((4 * (g (20 + 72 * x + 6 * y + 0))) + (2 * 1))))] rfl rfl rfl rfl rfl ?_⟩
              refine g_aload_n G 0 dX10_differs_177 rfl ?_
              refine g_iload G 5 dX10_differs_178 rfl ?_
              refine g_iload G 6 dX10_differs_180 rfl ?_
              refine g_iload G 7 dX10_differs_182 rfl ?_
              refine g_iload G 9 dX10_differs_184 rfl ?_
              refine g_iload G 4 dX10_differs_186 rfl ?_
              refine g_callV G [0, 1] [2, 3, 4] 5 [(q3, ia E 12 u), (q6, ia E 12 t), (q7, ia E 12 c)] [.int (iI (g (20 + 72 * x + 6 * y + 0))), .int (iI (g (20 + 72 * x + 6 * y + 1))), .int (iI (g (20 + 72 * x + 6 * y + 2))), .int (iI 1), .int (iI b)] [.int (iI (ltI g x y y.toNat)), .int (iI (ahI g x y)), .int (iI (g (20 + 72 * x + 6 * y + 2))), .int (iI (g (20 + 72 * x + 6 * y + 1))), .int (iI (u (((4 * (g (20 + 72 * x + 6 * y + 0))) + (2 * 1)) + 1))), .int (iI (u ((4 * (g (20 + 72 * x + 6 * y + 0))) + (2 * 1))))] (c_X10_fieldOf E q0 q1 q2 q3 q4 q5 q6 q7 q8 q9 q10 q11 c0 la ch us g (g (20 + 72 * x + 6 * y + 0)) (g (20 + 72 * x + 6 * y + 1)) (g (20 + 72 * x + 6 * y + 2)) 1 b (by exact hG) (by exact hX) (by first | assumption | omega) (by first | assumption | omega) (by first | assumption | omega) (by omega) (by first | assumption | omega)) dX10_differs_188 gX10_differs_X10_fieldOf ⟨rfl, ⟨rfl, rfl⟩, e_X10_fieldOf, ⟨Nat.le_of_ble_eq_true rfl, Nat.le_of_ble_eq_true rfl⟩, Nat.le_of_ble_eq_true rfl, Nat.le_of_ble_eq_true rfl, Nat.le_of_ble_eq_true rfl⟩ rfl rfl rfl rfl rfl (by decide +kernel) rfl (by decide +kernel) rfl (fun v9 w9 h9 => ?_)
              obtain ⟨o17, rfl, rfl, rfl⟩ := h9
              refine ⟨[(q0, .inr (10, [.ref q1, .ref q2, .ref q3, .int (iI c0), .ref q4, .ref q5, .int (iI la), .ref q6, .ref q7, .ref q8, .ref q9, .ref q10, .ref q11, .int (iI ch), .int (iI us)])), (q1, ia E 5400 g), (q3, ia E 12 u), (q6, ia E 12 t), (q7, ia E 12 c)], ⟨rfl, rfl, rfl, rfl⟩, g_to 0 0 _ _ [.int (iI (foI g (g (20 + 72 * x + 6 * y + 0)) (g (20 + 72 * x + 6 * y + 1)) (g (20 + 72 * x + 6 * y + 2)) 1 b)), .int (iI (ltI g x y y.toNat)), .int (iI (ahI g x y)), .int (iI (g (20 + 72 * x + 6 * y + 2))), .int (iI (g (20 + 72 * x + 6 * y + 1))), .int (iI (u (((4 * (g (20 + 72 * x + 6 * y + 0))) + (2 * 1)) + 1))), .int (iI (u ((4 * (g (20 + 72 * x + 6 * y + 0))) + (2 * 1))))] rfl rfl rfl rfl rfl ?_⟩
              refine g_callS G [] [0, 1, 2, 3, 4] 5 [(q0, .inr (10, [.ref q1, .ref q2, .ref q3, .int (iI c0), .ref q4, .ref q5, .int (iI la), .ref q6, .ref q7, .ref q8, .ref q9, .ref q10, .ref q11, .int (iI ch), .int (iI us)])), (q1, ia E 5400 g), (q3, ia E 12 u), (q6, ia E 12 t), (q7, ia E 12 c)] [.int (iI (u ((4 * (g (20 + 72 * x + 6 * y + 0))) + (2 * 1)))), .int (iI (u (((4 * (g (20 + 72 * x + 6 * y + 0))) + (2 * 1)) + 1))), .int (iI (g (20 + 72 * x + 6 * y + 1))), .int (iI (g (20 + 72 * x + 6 * y + 2))), .int (iI (ahI g x y)), .int (iI (ltI g x y y.toNat)), .int (iI (foI g (g (20 + 72 * x + 6 * y + 0)) (g (20 + 72 * x + 6 * y + 1)) (g (20 + 72 * x + 6 * y + 2)) 1 b))] [] (c_X10_made E (u ((4 * (g (20 + 72 * x + 6 * y + 0))) + (2 * 1))) (u (((4 * (g (20 + 72 * x + 6 * y + 0))) + (2 * 1)) + 1)) (g (20 + 72 * x + 6 * y + 1)) (g (20 + 72 * x + 6 * y + 2)) (ahI g x y) (ltI g x y y.toNat) (foI g (g (20 + 72 * x + 6 * y + 0)) (g (20 + 72 * x + 6 * y + 1)) (g (20 + 72 * x + 6 * y + 2)) 1 b) (by first | assumption | omega) (by first | assumption | omega)) dX10_differs_191 gX10_differs_X10_made ⟨rfl, ⟨rfl, rfl⟩, e_X10_made, ⟨Nat.le_of_ble_eq_true rfl, Nat.le_of_ble_eq_true rfl⟩, Nat.le_of_ble_eq_true rfl, Nat.le_of_ble_eq_true rfl, Nat.le_of_ble_eq_true rfl⟩ rfl (by decide +kernel) rfl (by decide +kernel) rfl (fun v9 w9 h9 => ?_)
              obtain ⟨o18, rfl, rfl, rfl⟩ := h9
              refine ⟨[(q0, .inr (10, [.ref q1, .ref q2, .ref q3, .int (iI c0), .ref q4, .ref q5, .int (iI la), .ref q6, .ref q7, .ref q8, .ref q9, .ref q10, .ref q11, .int (iI ch), .int (iI us)])), (q1, ia E 5400 g), (q3, ia E 12 u), (q6, ia E 12 t), (q7, ia E 12 c)], ⟨rfl, rfl, rfl, rfl⟩, g_to 0 0 _ _ [.int (iI (mdI (u ((4 * (g (20 + 72 * x + 6 * y + 0))) + (2 * 1))) (u (((4 * (g (20 + 72 * x + 6 * y + 0))) + (2 * 1)) + 1)) (g (20 + 72 * x + 6 * y + 1)) (g (20 + 72 * x + 6 * y + 2)) (ahI g x y) (ltI g x y y.toNat) (foI g (g (20 + 72 * x + 6 * y + 0)) (g (20 + 72 * x + 6 * y + 1)) (g (20 + 72 * x + 6 * y + 2)) 1 b)))] rfl rfl rfl rfl rfl ?_⟩
              refine g_istore G [(0, .ref q0), (1, .int (iI x)), (2, .int (iI y)), (3, .int (iI z)), (4, .int (iI b)), (5, .int (iI (g (20 + 72 * x + 6 * y + 0)))), (6, .int (iI (g (20 + 72 * x + 6 * y + 1)))), (7, .int (iI (g (20 + 72 * x + 6 * y + 2)))), (8, .int (iI ((3 * z) + (g (20 + 72 * x + 6 * y + 0))))), (9, .int (iI 1)), (10, .int (iI (u ((4 * (g (20 + 72 * x + 6 * y + 0))) + (2 * 1))))), (11, .int (iI (mdI (u ((4 * (g (20 + 72 * x + 6 * y + 0))) + (2 * 1))) (u (((4 * (g (20 + 72 * x + 6 * y + 0))) + (2 * 1)) + 1)) (g (20 + 72 * x + 6 * y + 1)) (g (20 + 72 * x + 6 * y + 2)) (ahI g x y) (ltI g x y y.toNat) (foI g (g (20 + 72 * x + 6 * y + 0)) (g (20 + 72 * x + 6 * y + 1)) (g (20 + 72 * x + 6 * y + 2)) 1 b))))] dX10_differs_194 (by decide) rfl rfl ?_
              have hmd := mdI_bd (x := (u ((4 * (g (20 + 72 * x + 6 * y + 0))) + (2 * 1)))) (y := u (4 * g (20 + 72 * x + 6 * y + 0) + 2 * 1 + 1)) (a := g (20 + 72 * x + 6 * y + 1)) (b := g (20 + 72 * x + 6 * y + 2)) (d := ahI g x y) (l := ltI g x y y.toNat) (t := foI g (g (20 + 72 * x + 6 * y + 0)) (g (20 + 72 * x + 6 * y + 1)) (g (20 + 72 * x + 6 * y + 2)) 1 b) (z := 1000) (by omega) (by omega) (by omega) (by omega) (by omega) (by omega) (by omega)
              refine g_iload G 10 dX10_differs_196 rfl ?_
              refine g_bipush G dX10_differs_198 (by decide +kernel) ?_
              refine g_icmp_eq G 223 dX10_differs_200 (by decide) (by omega) (by omega) (fun c200_2 => ?_) (fun c200_2 => ?_)
              · refine g_iinc G 9 [(0, .ref q0), (1, .int (iI x)), (2, .int (iI y)), (3, .int (iI z)), (4, .int (iI b)), (5, .int (iI (g (20 + 72 * x + 6 * y + 0)))), (6, .int (iI (g (20 + 72 * x + 6 * y + 1)))), (7, .int (iI (g (20 + 72 * x + 6 * y + 2)))), (8, .int (iI ((3 * z) + (g (20 + 72 * x + 6 * y + 0))))), (9, .int (iI 2)), (10, .int (iI (u ((4 * (g (20 + 72 * x + 6 * y + 0))) + (2 * 1))))), (11, .int (iI (mdI (u ((4 * (g (20 + 72 * x + 6 * y + 0))) + (2 * 1))) (u (((4 * (g (20 + 72 * x + 6 * y + 0))) + (2 * 1)) + 1)) (g (20 + 72 * x + 6 * y + 1)) (g (20 + 72 * x + 6 * y + 2)) (ahI g x y) (ltI g x y y.toNat) (foI g (g (20 + 72 * x + 6 * y + 0)) (g (20 + 72 * x + 6 * y + 1)) (g (20 + 72 * x + 6 * y + 2)) 1 b))))] dX10_differs_223 rfl (by decide) rfl rfl ?_
                refine g_goto G 121 dX10_differs_226 (by decide) ?_
                refine g_iload G 9 dX10_differs_121 rfl ?_
                refine g_iconst G dX10_differs_123 ?_
                refine g_icmp_ge G 229 dX10_differs_124 (by decide) (by omega) (by omega) (fun c124_3 => ?_) (fun c124_3 => ?_)
                · refine g_iconst G dX10_differs_229 ?_
                  exact g_ret G (some (.int (iI (-1)))) rfl dX10_differs_230 (Nat.le_refl _) (Nat.le_refl _) ⟨(-1), rfl, rfl, by unfold diI; (repeat' split) <;> first | rfl | omega⟩
                · exfalso; omega
              · refine g_iload G 11 dX10_differs_203 rfl ?_
                refine g_aload_n G 0 dX10_differs_205 rfl ?_
                refine g_iload_n G 1 dX10_differs_206 rfl ?_
                refine g_iload_n G 2 dX10_differs_207 rfl ?_
                refine g_iconst G dX10_differs_208 ?_
                refine g_iload G 9 dX10_differs_209 rfl ?_
                refine g_iadd G dX10_differs_211 ?_
                refine g_callV G [0, 1] [2, 3, 4] 5 [(q3, ia E 12 u), (q6, ia E 12 t), (q7, ia E 12 c)] [.int (iI x), .int (iI y), .int (iI (4 + 1))] [.int (iI (mdI (u ((4 * (g (20 + 72 * x + 6 * y + 0))) + (2 * 1))) (u (((4 * (g (20 + 72 * x + 6 * y + 0))) + (2 * 1)) + 1)) (g (20 + 72 * x + 6 * y + 1)) (g (20 + 72 * x + 6 * y + 2)) (ahI g x y) (ltI g x y y.toNat) (foI g (g (20 + 72 * x + 6 * y + 0)) (g (20 + 72 * x + 6 * y + 1)) (g (20 + 72 * x + 6 * y + 2)) 1 b)))] (c_X10_of E q0 q1 q2 q3 q4 q5 q6 q7 q8 q9 q10 q11 c0 la ch us g x y (4 + 1) (by first | assumption | omega) (by first | assumption | omega) (by first | assumption | omega)) dX10_differs_212 gX10_differs_X10_of ⟨rfl, ⟨rfl, rfl⟩, e_X10_of, ⟨Nat.le_of_ble_eq_true rfl, Nat.le_of_ble_eq_true rfl⟩, Nat.le_of_ble_eq_true rfl, Nat.le_of_ble_eq_true rfl, Nat.le_of_ble_eq_true rfl⟩ rfl rfl rfl rfl rfl (by decide +kernel) rfl (by decide +kernel) rfl (fun v9 w9 h9 => ?_)
                obtain ⟨o19, rfl, rfl, rfl⟩ := h9
                have b20 := hg (20 + 72 * x + 6 * y + (4 + 1))
                refine ⟨[(q0, .inr (10, [.ref q1, .ref q2, .ref q3, .int (iI c0), .ref q4, .ref q5, .int (iI la), .ref q6, .ref q7, .ref q8, .ref q9, .ref q10, .ref q11, .int (iI ch), .int (iI us)])), (q1, ia E 5400 g), (q3, ia E 12 u), (q6, ia E 12 t), (q7, ia E 12 c)], ⟨rfl, rfl, rfl, rfl⟩, g_to 0 0 _ _ [.int (iI (g (20 + 72 * x + 6 * y + (4 + 1)))), .int (iI (mdI (u ((4 * (g (20 + 72 * x + 6 * y + 0))) + (2 * 1))) (u (((4 * (g (20 + 72 * x + 6 * y + 0))) + (2 * 1)) + 1)) (g (20 + 72 * x + 6 * y + 1)) (g (20 + 72 * x + 6 * y + 2)) (ahI g x y) (ltI g x y y.toNat) (foI g (g (20 + 72 * x + 6 * y + 0)) (g (20 + 72 * x + 6 * y + 1)) (g (20 + 72 * x + 6 * y + 2)) 1 b)))] rfl rfl rfl rfl rfl ?_⟩
                refine g_icmp_eq G 223 dX10_differs_215 (by decide) (by omega) (by omega) (fun c215 => ?_) (fun c215 => ?_)
                · refine g_iinc G 9 [(0, .ref q0), (1, .int (iI x)), (2, .int (iI y)), (3, .int (iI z)), (4, .int (iI b)), (5, .int (iI (g (20 + 72 * x + 6 * y + 0)))), (6, .int (iI (g (20 + 72 * x + 6 * y + 1)))), (7, .int (iI (g (20 + 72 * x + 6 * y + 2)))), (8, .int (iI ((3 * z) + (g (20 + 72 * x + 6 * y + 0))))), (9, .int (iI 2)), (10, .int (iI (u ((4 * (g (20 + 72 * x + 6 * y + 0))) + (2 * 1))))), (11, .int (iI (mdI (u ((4 * (g (20 + 72 * x + 6 * y + 0))) + (2 * 1))) (u (((4 * (g (20 + 72 * x + 6 * y + 0))) + (2 * 1)) + 1)) (g (20 + 72 * x + 6 * y + 1)) (g (20 + 72 * x + 6 * y + 2)) (ahI g x y) (ltI g x y y.toNat) (foI g (g (20 + 72 * x + 6 * y + 0)) (g (20 + 72 * x + 6 * y + 1)) (g (20 + 72 * x + 6 * y + 2)) 1 b))))] dX10_differs_223 rfl (by decide) rfl rfl ?_
                  refine g_goto G 121 dX10_differs_226 (by decide) ?_
                  refine g_iload G 9 dX10_differs_121 rfl ?_
                  refine g_iconst G dX10_differs_123 ?_
                  refine g_icmp_ge G 229 dX10_differs_124 (by decide) (by omega) (by omega) (fun c124_3 => ?_) (fun c124_3 => ?_)
                  · refine g_iconst G dX10_differs_229 ?_
                    exact g_ret G (some (.int (iI (-1)))) rfl dX10_differs_230 (Nat.le_refl _) (Nat.le_refl _) ⟨(-1), rfl, rfl, by unfold diI; (repeat' split) <;> first | rfl | omega⟩
                  · exfalso; omega
                · refine g_iconst G dX10_differs_218 ?_
                  refine g_iload G 9 dX10_differs_219 rfl ?_
                  refine g_iadd G dX10_differs_221 ?_
                  exact g_ret G (some (.int (iI (2 + 1)))) rfl dX10_differs_222 (Nat.le_refl _) (Nat.le_refl _) ⟨(2 + 1), rfl, rfl, by unfold diI; (repeat' split) <;> first | rfl | omega⟩
          · refine g_iload G 11 dX10_differs_203 rfl ?_
            refine g_aload_n G 0 dX10_differs_205 rfl ?_
            refine g_iload_n G 1 dX10_differs_206 rfl ?_
            refine g_iload_n G 2 dX10_differs_207 rfl ?_
            refine g_iconst G dX10_differs_208 ?_
            refine g_iload G 9 dX10_differs_209 rfl ?_
            refine g_iadd G dX10_differs_211 ?_
            refine g_callV G [0, 1] [2, 3, 4] 5 [(q3, ia E 12 u), (q6, ia E 12 t), (q7, ia E 12 c)] [.int (iI x), .int (iI y), .int (iI (4 + 0))] [.int (iI (mdI (u ((4 * (g (20 + 72 * x + 6 * y + 0))) + (2 * 0))) (u (((4 * (g (20 + 72 * x + 6 * y + 0))) + (2 * 0)) + 1)) (g (20 + 72 * x + 6 * y + 1)) (g (20 + 72 * x + 6 * y + 2)) (ahI g x y) (ltI g x y y.toNat) (foI g (g (20 + 72 * x + 6 * y + 0)) (g (20 + 72 * x + 6 * y + 1)) (g (20 + 72 * x + 6 * y + 2)) 0 b)))] (c_X10_of E q0 q1 q2 q3 q4 q5 q6 q7 q8 q9 q10 q11 c0 la ch us g x y (4 + 0) (by first | assumption | omega) (by first | assumption | omega) (by first | assumption | omega)) dX10_differs_212 gX10_differs_X10_of ⟨rfl, ⟨rfl, rfl⟩, e_X10_of, ⟨Nat.le_of_ble_eq_true rfl, Nat.le_of_ble_eq_true rfl⟩, Nat.le_of_ble_eq_true rfl, Nat.le_of_ble_eq_true rfl, Nat.le_of_ble_eq_true rfl⟩ rfl rfl rfl rfl rfl (by decide +kernel) rfl (by decide +kernel) rfl (fun v9 w9 h9 => ?_)
            obtain ⟨o21, rfl, rfl, rfl⟩ := h9
            have b22 := hg (20 + 72 * x + 6 * y + (4 + 0))
            refine ⟨[(q0, .inr (10, [.ref q1, .ref q2, .ref q3, .int (iI c0), .ref q4, .ref q5, .int (iI la), .ref q6, .ref q7, .ref q8, .ref q9, .ref q10, .ref q11, .int (iI ch), .int (iI us)])), (q1, ia E 5400 g), (q3, ia E 12 u), (q6, ia E 12 t), (q7, ia E 12 c)], ⟨rfl, rfl, rfl, rfl⟩, g_to 0 0 _ _ [.int (iI (g (20 + 72 * x + 6 * y + (4 + 0)))), .int (iI (mdI (u ((4 * (g (20 + 72 * x + 6 * y + 0))) + (2 * 0))) (u (((4 * (g (20 + 72 * x + 6 * y + 0))) + (2 * 0)) + 1)) (g (20 + 72 * x + 6 * y + 1)) (g (20 + 72 * x + 6 * y + 2)) (ahI g x y) (ltI g x y y.toNat) (foI g (g (20 + 72 * x + 6 * y + 0)) (g (20 + 72 * x + 6 * y + 1)) (g (20 + 72 * x + 6 * y + 2)) 0 b)))] rfl rfl rfl rfl rfl ?_⟩
            refine g_icmp_eq G 223 dX10_differs_215 (by decide) (by omega) (by omega) (fun c215 => ?_) (fun c215 => ?_)
            · refine g_iinc G 9 [(0, .ref q0), (1, .int (iI x)), (2, .int (iI y)), (3, .int (iI z)), (4, .int (iI b)), (5, .int (iI (g (20 + 72 * x + 6 * y + 0)))), (6, .int (iI (g (20 + 72 * x + 6 * y + 1)))), (7, .int (iI (g (20 + 72 * x + 6 * y + 2)))), (8, .int (iI ((3 * z) + (g (20 + 72 * x + 6 * y + 0))))), (9, .int (iI 1)), (10, .int (iI (u ((4 * (g (20 + 72 * x + 6 * y + 0))) + (2 * 0))))), (11, .int (iI (mdI (u ((4 * (g (20 + 72 * x + 6 * y + 0))) + (2 * 0))) (u (((4 * (g (20 + 72 * x + 6 * y + 0))) + (2 * 0)) + 1)) (g (20 + 72 * x + 6 * y + 1)) (g (20 + 72 * x + 6 * y + 2)) (ahI g x y) (ltI g x y y.toNat) (foI g (g (20 + 72 * x + 6 * y + 0)) (g (20 + 72 * x + 6 * y + 1)) (g (20 + 72 * x + 6 * y + 2)) 0 b))))] dX10_differs_223 rfl (by decide) rfl rfl ?_
              refine g_goto G 121 dX10_differs_226 (by decide) ?_
              refine g_iload G 9 dX10_differs_121 rfl ?_
              refine g_iconst G dX10_differs_123 ?_
              refine g_icmp_ge G 229 dX10_differs_124 (by decide) (by omega) (by omega) (fun c124_2 => ?_) (fun c124_2 => ?_)
              · exfalso; omega
              · refine g_aload_n G 0 dX10_differs_127 rfl ?_
                refine g_get G 0 2 dX10_differs_128 i_X10_differs_X10 f_X10_differs_17 rfl rfl (by decide) rfl ?_
                refine g_iconst G dX10_differs_131 ?_
                refine g_iload G 5 dX10_differs_132 rfl ?_
                refine g_imul G dX10_differs_134 ?_
                refine g_iconst G dX10_differs_135 ?_
                refine g_iload G 9 dX10_differs_136 rfl ?_
                refine g_imul G dX10_differs_138 ?_
                refine g_iadd G dX10_differs_139 ?_
                refine g_iald G 2 dX10_differs_140 rfl (by omega) (by omega) (by decide) ?_
                refine g_istore G [(0, .ref q0), (1, .int (iI x)), (2, .int (iI y)), (3, .int (iI z)), (4, .int (iI b)), (5, .int (iI (g (20 + 72 * x + 6 * y + 0)))), (6, .int (iI (g (20 + 72 * x + 6 * y + 1)))), (7, .int (iI (g (20 + 72 * x + 6 * y + 2)))), (8, .int (iI ((3 * z) + (g (20 + 72 * x + 6 * y + 0))))), (9, .int (iI 1)), (10, .int (iI (u ((4 * (g (20 + 72 * x + 6 * y + 0))) + (2 * 1))))), (11, .int (iI (mdI (u ((4 * (g (20 + 72 * x + 6 * y + 0))) + (2 * 0))) (u (((4 * (g (20 + 72 * x + 6 * y + 0))) + (2 * 0)) + 1)) (g (20 + 72 * x + 6 * y + 1)) (g (20 + 72 * x + 6 * y + 2)) (ahI g x y) (ltI g x y y.toNat) (foI g (g (20 + 72 * x + 6 * y + 0)) (g (20 + 72 * x + 6 * y + 1)) (g (20 + 72 * x + 6 * y + 2)) 0 b))))] dX10_differs_141 (by decide) rfl rfl ?_
                refine g_iload G 10 dX10_differs_143 rfl ?_
                refine g_aload_n G 0 dX10_differs_145 rfl ?_
                refine g_get G 0 2 dX10_differs_146 i_X10_differs_X10 f_X10_differs_17 rfl rfl (by decide) rfl ?_
                refine g_iconst G dX10_differs_149 ?_
                refine g_iload G 5 dX10_differs_150 rfl ?_
                refine g_imul G dX10_differs_152 ?_
                refine g_iconst G dX10_differs_153 ?_
                refine g_iload G 9 dX10_differs_154 rfl ?_
                refine g_imul G dX10_differs_156 ?_
                refine g_iadd G dX10_differs_157 ?_
                refine g_iconst G dX10_differs_158 ?_
                refine g_iadd G dX10_differs_159 ?_
                refine g_iald G 2 dX10_differs_160 rfl (by omega) (by omega) (by decide) ?_
                refine g_iload G 6 dX10_differs_161 rfl ?_
                refine g_iload G 7 dX10_differs_163 rfl ?_
                refine g_aload_n G 0 dX10_differs_165 rfl ?_
                refine g_iload_n G 1 dX10_differs_166 rfl ?_
                refine g_iload_n G 2 dX10_differs_167 rfl ?_
                refine g_callV G [0, 1] [2, 3, 4] 5 [(q3, ia E 12 u), (q6, ia E 12 t), (q7, ia E 12 c)] [.int (iI x), .int (iI y)] [.int (iI (g (20 + 72 * x + 6 * y + 2))), .int (iI (g (20 + 72 * x + 6 * y + 1))), .int (iI (u (((4 * (g (20 + 72 * x + 6 * y + 0))) + (2 * 1)) + 1))), .int (iI (u ((4 * (g (20 + 72 * x + 6 * y + 0))) + (2 * 1))))] (c_X10_ahead E q0 q1 q2 q3 q4 q5 q6 q7 q8 q9 q10 q11 c0 la ch us g x y (by exact hG) (by first | assumption | omega) (by first | assumption | omega)) dX10_differs_168 gX10_differs_X10_ahead ⟨rfl, ⟨rfl, rfl⟩, e_X10_ahead, ⟨Nat.le_of_ble_eq_true rfl, Nat.le_of_ble_eq_true rfl⟩, Nat.le_of_ble_eq_true rfl, Nat.le_of_ble_eq_true rfl, Nat.le_of_ble_eq_true rfl⟩ rfl rfl rfl rfl rfl (by decide +kernel) rfl (by decide +kernel) rfl (fun v9 w9 h9 => ?_)
                obtain ⟨o23, rfl, rfl, rfl⟩ := h9
                refine ⟨[(q0, .inr (10, [.ref q1, .ref q2, .ref q3, .int (iI c0), .ref q4, .ref q5, .int (iI la), .ref q6, .ref q7, .ref q8, .ref q9, .ref q10, .ref q11, .int (iI ch), .int (iI us)])), (q1, ia E 5400 g), (q3, ia E 12 u), (q6, ia E 12 t), (q7, ia E 12 c)], ⟨rfl, rfl, rfl, rfl⟩, g_to 0 0 _ _ [.int (iI (ahI g x y)), .int (iI (g (20 + 72 * x + 6 * y + 2))), .int (iI (g (20 + 72 * x + 6 * y + 1))), .int (iI (u (((4 * (g (20 + 72 * x + 6 * y + 0))) + (2 * 1)) + 1))), .int (iI (u ((4 * (g (20 + 72 * x + 6 * y + 0))) + (2 * 1))))] rfl rfl rfl rfl rfl ?_⟩
                refine g_aload_n G 0 dX10_differs_171 rfl ?_
                refine g_iload_n G 1 dX10_differs_172 rfl ?_
                refine g_iload_n G 2 dX10_differs_173 rfl ?_
                refine g_callV G [0, 1] [2, 3, 4] 5 [(q3, ia E 12 u), (q6, ia E 12 t), (q7, ia E 12 c)] [.int (iI x), .int (iI y)] [.int (iI (ahI g x y)), .int (iI (g (20 + 72 * x + 6 * y + 2))), .int (iI (g (20 + 72 * x + 6 * y + 1))), .int (iI (u (((4 * (g (20 + 72 * x + 6 * y + 0))) + (2 * 1)) + 1))), .int (iI (u ((4 * (g (20 + 72 * x + 6 * y + 0))) + (2 * 1))))] (c_X10_latest E q0 q1 q2 q3 q4 q5 q6 q7 q8 q9 q10 q11 c0 la ch us g x y (by exact hG) (by first | assumption | omega) (by first | assumption | omega)) dX10_differs_174 gX10_differs_X10_latest ⟨rfl, ⟨rfl, rfl⟩, e_X10_latest, ⟨Nat.le_of_ble_eq_true rfl, Nat.le_of_ble_eq_true rfl⟩, Nat.le_of_ble_eq_true rfl, Nat.le_of_ble_eq_true rfl, Nat.le_of_ble_eq_true rfl⟩ rfl rfl rfl rfl rfl (by decide +kernel) rfl (by decide +kernel) rfl (fun v9 w9 h9 => ?_)
                obtain ⟨o24, rfl, rfl, rfl⟩ := h9
                refine ⟨[(q0, .inr (10, [.ref q1, .ref q2, .ref q3, .int (iI c0), .ref q4, .ref q5, .int (iI la), .ref q6, .ref q7, .ref q8, .ref q9, .ref q10, .ref q11, .int (iI ch), .int (iI us)])), (q1, ia E 5400 g), (q3, ia E 12 u), (q6, ia E 12 t), (q7, ia E 12 c)], ⟨rfl, rfl, rfl, rfl⟩, g_to 0 0 _ _ [.int (iI (ltI g x y y.toNat)), .int (iI (ahI g x y)), .int (iI (g (20 + 72 * x + 6 * y + 2))), .int (iI (g (20 + 72 * x + 6 * y + 1))), .int (iI (u (((4 * (g (20 + 72 * x + 6 * y + 0))) + (2 * 1)) + 1))), .int (iI (u ((4 * (g (20 + 72 * x + 6 * y + 0))) + (2 * 1))))] rfl rfl rfl rfl rfl ?_⟩
                refine g_aload_n G 0 dX10_differs_177 rfl ?_
                refine g_iload G 5 dX10_differs_178 rfl ?_
                refine g_iload G 6 dX10_differs_180 rfl ?_
                refine g_iload G 7 dX10_differs_182 rfl ?_
                refine g_iload G 9 dX10_differs_184 rfl ?_
                refine g_iload G 4 dX10_differs_186 rfl ?_
                refine g_callV G [0, 1] [2, 3, 4] 5 [(q3, ia E 12 u), (q6, ia E 12 t), (q7, ia E 12 c)] [.int (iI (g (20 + 72 * x + 6 * y + 0))), .int (iI (g (20 + 72 * x + 6 * y + 1))), .int (iI (g (20 + 72 * x + 6 * y + 2))), .int (iI 1), .int (iI b)] [.int (iI (ltI g x y y.toNat)), .int (iI (ahI g x y)), .int (iI (g (20 + 72 * x + 6 * y + 2))), .int (iI (g (20 + 72 * x + 6 * y + 1))), .int (iI (u (((4 * (g (20 + 72 * x + 6 * y + 0))) + (2 * 1)) + 1))), .int (iI (u ((4 * (g (20 + 72 * x + 6 * y + 0))) + (2 * 1))))] (c_X10_fieldOf E q0 q1 q2 q3 q4 q5 q6 q7 q8 q9 q10 q11 c0 la ch us g (g (20 + 72 * x + 6 * y + 0)) (g (20 + 72 * x + 6 * y + 1)) (g (20 + 72 * x + 6 * y + 2)) 1 b (by exact hG) (by exact hX) (by first | assumption | omega) (by first | assumption | omega) (by first | assumption | omega) (by omega) (by first | assumption | omega)) dX10_differs_188 gX10_differs_X10_fieldOf ⟨rfl, ⟨rfl, rfl⟩, e_X10_fieldOf, ⟨Nat.le_of_ble_eq_true rfl, Nat.le_of_ble_eq_true rfl⟩, Nat.le_of_ble_eq_true rfl, Nat.le_of_ble_eq_true rfl, Nat.le_of_ble_eq_true rfl⟩ rfl rfl rfl rfl rfl (by decide +kernel) rfl (by decide +kernel) rfl (fun v9 w9 h9 => ?_)
                obtain ⟨o25, rfl, rfl, rfl⟩ := h9
                refine ⟨[(q0, .inr (10, [.ref q1, .ref q2, .ref q3, .int (iI c0), .ref q4, .ref q5, .int (iI la), .ref q6, .ref q7, .ref q8, .ref q9, .ref q10, .ref q11, .int (iI ch), .int (iI us)])), (q1, ia E 5400 g), (q3, ia E 12 u), (q6, ia E 12 t), (q7, ia E 12 c)], ⟨rfl, rfl, rfl, rfl⟩, g_to 0 0 _ _ [.int (iI (foI g (g (20 + 72 * x + 6 * y + 0)) (g (20 + 72 * x + 6 * y + 1)) (g (20 + 72 * x + 6 * y + 2)) 1 b)), .int (iI (ltI g x y y.toNat)), .int (iI (ahI g x y)), .int (iI (g (20 + 72 * x + 6 * y + 2))), .int (iI (g (20 + 72 * x + 6 * y + 1))), .int (iI (u (((4 * (g (20 + 72 * x + 6 * y + 0))) + (2 * 1)) + 1))), .int (iI (u ((4 * (g (20 + 72 * x + 6 * y + 0))) + (2 * 1))))] rfl rfl rfl rfl rfl ?_⟩
                refine g_callS G [] [0, 1, 2, 3, 4] 5 [(q0, .inr (10, [.ref q1, .ref q2, .ref q3, .int (iI c0), .ref q4, .ref q5, .int (iI la), .ref q6, .ref q7, .ref q8, .ref q9, .ref q10, .ref q11, .int (iI ch), .int (iI us)])), (q1, ia E 5400 g), (q3, ia E 12 u), (q6, ia E 12 t), (q7, ia E 12 c)] [.int (iI (u ((4 * (g (20 + 72 * x + 6 * y + 0))) + (2 * 1)))), .int (iI (u (((4 * (g (20 + 72 * x + 6 * y + 0))) + (2 * 1)) + 1))), .int (iI (g (20 + 72 * x + 6 * y + 1))), .int (iI (g (20 + 72 * x + 6 * y + 2))), .int (iI (ahI g x y)), .int (iI (ltI g x y y.toNat)), .int (iI (foI g (g (20 + 72 * x + 6 * y + 0)) (g (20 + 72 * x + 6 * y + 1)) (g (20 + 72 * x + 6 * y + 2)) 1 b))] [] (c_X10_made E (u ((4 * (g (20 + 72 * x + 6 * y + 0))) + (2 * 1))) (u (((4 * (g (20 + 72 * x + 6 * y + 0))) + (2 * 1)) + 1)) (g (20 + 72 * x + 6 * y + 1)) (g (20 + 72 * x + 6 * y + 2)) (ahI g x y) (ltI g x y y.toNat) (foI g (g (20 + 72 * x + 6 * y + 0)) (g (20 + 72 * x + 6 * y + 1)) (g (20 + 72 * x + 6 * y + 2)) 1 b) (by first | assumption | omega) (by first | assumption | omega)) dX10_differs_191 gX10_differs_X10_made ⟨rfl, ⟨rfl, rfl⟩, e_X10_made, ⟨Nat.le_of_ble_eq_true rfl, Nat.le_of_ble_eq_true rfl⟩, Nat.le_of_ble_eq_true rfl, Nat.le_of_ble_eq_true rfl, Nat.le_of_ble_eq_true rfl⟩ rfl (by decide +kernel) rfl (by decide +kernel) rfl (fun v9 w9 h9 => ?_)
                obtain ⟨o26, rfl, rfl, rfl⟩ := h9
                refine ⟨[(q0, .inr (10, [.ref q1, .ref q2, .ref q3, .int (iI c0), .ref q4, .ref q5, .int (iI la), .ref q6, .ref q7, .ref q8, .ref q9, .ref q10, .ref q11, .int (iI ch), .int (iI us)])), (q1, ia E 5400 g), (q3, ia E 12 u), (q6, ia E 12 t), (q7, ia E 12 c)], ⟨rfl, rfl, rfl, rfl⟩, g_to 0 0 _ _ [.int (iI (mdI (u ((4 * (g (20 + 72 * x + 6 * y + 0))) + (2 * 1))) (u (((4 * (g (20 + 72 * x + 6 * y + 0))) + (2 * 1)) + 1)) (g (20 + 72 * x + 6 * y + 1)) (g (20 + 72 * x + 6 * y + 2)) (ahI g x y) (ltI g x y y.toNat) (foI g (g (20 + 72 * x + 6 * y + 0)) (g (20 + 72 * x + 6 * y + 1)) (g (20 + 72 * x + 6 * y + 2)) 1 b)))] rfl rfl rfl rfl rfl ?_⟩
                refine g_istore G [(0, .ref q0), (1, .int (iI x)), (2, .int (iI y)), (3, .int (iI z)), (4, .int (iI b)), (5, .int (iI (g (20 + 72 * x + 6 * y + 0)))), (6, .int (iI (g (20 + 72 * x + 6 * y + 1)))), (7, .int (iI (g (20 + 72 * x + 6 * y + 2)))), (8, .int (iI ((3 * z) + (g (20 + 72 * x + 6 * y + 0))))), (9, .int (iI 1)), (10, .int (iI (u ((4 * (g (20 + 72 * x + 6 * y + 0))) + (2 * 1))))), (11, .int (iI (mdI (u ((4 * (g (20 + 72 * x + 6 * y + 0))) + (2 * 1))) (u (((4 * (g (20 + 72 * x + 6 * y + 0))) + (2 * 1)) + 1)) (g (20 + 72 * x + 6 * y + 1)) (g (20 + 72 * x + 6 * y + 2)) (ahI g x y) (ltI g x y y.toNat) (foI g (g (20 + 72 * x + 6 * y + 0)) (g (20 + 72 * x + 6 * y + 1)) (g (20 + 72 * x + 6 * y + 2)) 1 b))))] dX10_differs_194 (by decide) rfl rfl ?_
                have hmd := mdI_bd (x := (u ((4 * (g (20 + 72 * x + 6 * y + 0))) + (2 * 1)))) (y := u (4 * g (20 + 72 * x + 6 * y + 0) + 2 * 1 + 1)) (a := g (20 + 72 * x + 6 * y + 1)) (b := g (20 + 72 * x + 6 * y + 2)) (d := ahI g x y) (l := ltI g x y y.toNat) (t := foI g (g (20 + 72 * x + 6 * y + 0)) (g (20 + 72 * x + 6 * y + 1)) (g (20 + 72 * x + 6 * y + 2)) 1 b) (z := 1000) (by omega) (by omega) (by omega) (by omega) (by omega) (by omega) (by omega)
                refine g_iload G 10 dX10_differs_196 rfl ?_
                refine g_bipush G dX10_differs_198 (by decide +kernel) ?_
                refine g_icmp_eq G 223 dX10_differs_200 (by decide) (by omega) (by omega) (fun c200_2 => ?_) (fun c200_2 => ?_)
                · refine g_iinc G 9 [(0, .ref q0), (1, .int (iI x)), (2, .int (iI y)), (3, .int (iI z)), (4, .int (iI b)), (5, .int (iI (g (20 + 72 * x + 6 * y + 0)))), (6, .int (iI (g (20 + 72 * x + 6 * y + 1)))), (7, .int (iI (g (20 + 72 * x + 6 * y + 2)))), (8, .int (iI ((3 * z) + (g (20 + 72 * x + 6 * y + 0))))), (9, .int (iI 2)), (10, .int (iI (u ((4 * (g (20 + 72 * x + 6 * y + 0))) + (2 * 1))))), (11, .int (iI (mdI (u ((4 * (g (20 + 72 * x + 6 * y + 0))) + (2 * 1))) (u (((4 * (g (20 + 72 * x + 6 * y + 0))) + (2 * 1)) + 1)) (g (20 + 72 * x + 6 * y + 1)) (g (20 + 72 * x + 6 * y + 2)) (ahI g x y) (ltI g x y y.toNat) (foI g (g (20 + 72 * x + 6 * y + 0)) (g (20 + 72 * x + 6 * y + 1)) (g (20 + 72 * x + 6 * y + 2)) 1 b))))] dX10_differs_223 rfl (by decide) rfl rfl ?_
                  refine g_goto G 121 dX10_differs_226 (by decide) ?_
                  refine g_iload G 9 dX10_differs_121 rfl ?_
                  refine g_iconst G dX10_differs_123 ?_
                  refine g_icmp_ge G 229 dX10_differs_124 (by decide) (by omega) (by omega) (fun c124_3 => ?_) (fun c124_3 => ?_)
                  · refine g_iconst G dX10_differs_229 ?_
                    exact g_ret G (some (.int (iI (-1)))) rfl dX10_differs_230 (Nat.le_refl _) (Nat.le_refl _) ⟨(-1), rfl, rfl, by unfold diI; (repeat' split) <;> first | rfl | omega⟩
                  · exfalso; omega
                · refine g_iload G 11 dX10_differs_203 rfl ?_
                  refine g_aload_n G 0 dX10_differs_205 rfl ?_
                  refine g_iload_n G 1 dX10_differs_206 rfl ?_
                  refine g_iload_n G 2 dX10_differs_207 rfl ?_
                  refine g_iconst G dX10_differs_208 ?_
                  refine g_iload G 9 dX10_differs_209 rfl ?_
                  refine g_iadd G dX10_differs_211 ?_
                  refine g_callV G [0, 1] [2, 3, 4] 5 [(q3, ia E 12 u), (q6, ia E 12 t), (q7, ia E 12 c)] [.int (iI x), .int (iI y), .int (iI (4 + 1))] [.int (iI (mdI (u ((4 * (g (20 + 72 * x + 6 * y + 0))) + (2 * 1))) (u (((4 * (g (20 + 72 * x + 6 * y + 0))) + (2 * 1)) + 1)) (g (20 + 72 * x + 6 * y + 1)) (g (20 + 72 * x + 6 * y + 2)) (ahI g x y) (ltI g x y y.toNat) (foI g (g (20 + 72 * x + 6 * y + 0)) (g (20 + 72 * x + 6 * y + 1)) (g (20 + 72 * x + 6 * y + 2)) 1 b)))] (c_X10_of E q0 q1 q2 q3 q4 q5 q6 q7 q8 q9 q10 q11 c0 la ch us g x y (4 + 1) (by first | assumption | omega) (by first | assumption | omega) (by first | assumption | omega)) dX10_differs_212 gX10_differs_X10_of ⟨rfl, ⟨rfl, rfl⟩, e_X10_of, ⟨Nat.le_of_ble_eq_true rfl, Nat.le_of_ble_eq_true rfl⟩, Nat.le_of_ble_eq_true rfl, Nat.le_of_ble_eq_true rfl, Nat.le_of_ble_eq_true rfl⟩ rfl rfl rfl rfl rfl (by decide +kernel) rfl (by decide +kernel) rfl (fun v9 w9 h9 => ?_)
                  obtain ⟨o27, rfl, rfl, rfl⟩ := h9
                  have b28 := hg (20 + 72 * x + 6 * y + (4 + 1))
                  refine ⟨[(q0, .inr (10, [.ref q1, .ref q2, .ref q3, .int (iI c0), .ref q4, .ref q5, .int (iI la), .ref q6, .ref q7, .ref q8, .ref q9, .ref q10, .ref q11, .int (iI ch), .int (iI us)])), (q1, ia E 5400 g), (q3, ia E 12 u), (q6, ia E 12 t), (q7, ia E 12 c)], ⟨rfl, rfl, rfl, rfl⟩, g_to 0 0 _ _ [.int (iI (g (20 + 72 * x + 6 * y + (4 + 1)))), .int (iI (mdI (u ((4 * (g (20 + 72 * x + 6 * y + 0))) + (2 * 1))) (u (((4 * (g (20 + 72 * x + 6 * y + 0))) + (2 * 1)) + 1)) (g (20 + 72 * x + 6 * y + 1)) (g (20 + 72 * x + 6 * y + 2)) (ahI g x y) (ltI g x y y.toNat) (foI g (g (20 + 72 * x + 6 * y + 0)) (g (20 + 72 * x + 6 * y + 1)) (g (20 + 72 * x + 6 * y + 2)) 1 b)))] rfl rfl rfl rfl rfl ?_⟩
                  refine g_icmp_eq G 223 dX10_differs_215 (by decide) (by omega) (by omega) (fun c215_2 => ?_) (fun c215_2 => ?_)
                  · refine g_iinc G 9 [(0, .ref q0), (1, .int (iI x)), (2, .int (iI y)), (3, .int (iI z)), (4, .int (iI b)), (5, .int (iI (g (20 + 72 * x + 6 * y + 0)))), (6, .int (iI (g (20 + 72 * x + 6 * y + 1)))), (7, .int (iI (g (20 + 72 * x + 6 * y + 2)))), (8, .int (iI ((3 * z) + (g (20 + 72 * x + 6 * y + 0))))), (9, .int (iI 2)), (10, .int (iI (u ((4 * (g (20 + 72 * x + 6 * y + 0))) + (2 * 1))))), (11, .int (iI (mdI (u ((4 * (g (20 + 72 * x + 6 * y + 0))) + (2 * 1))) (u (((4 * (g (20 + 72 * x + 6 * y + 0))) + (2 * 1)) + 1)) (g (20 + 72 * x + 6 * y + 1)) (g (20 + 72 * x + 6 * y + 2)) (ahI g x y) (ltI g x y y.toNat) (foI g (g (20 + 72 * x + 6 * y + 0)) (g (20 + 72 * x + 6 * y + 1)) (g (20 + 72 * x + 6 * y + 2)) 1 b))))] dX10_differs_223 rfl (by decide) rfl rfl ?_
                    refine g_goto G 121 dX10_differs_226 (by decide) ?_
                    refine g_iload G 9 dX10_differs_121 rfl ?_
                    refine g_iconst G dX10_differs_123 ?_
                    refine g_icmp_ge G 229 dX10_differs_124 (by decide) (by omega) (by omega) (fun c124_3 => ?_) (fun c124_3 => ?_)
                    · refine g_iconst G dX10_differs_229 ?_
                      exact g_ret G (some (.int (iI (-1)))) rfl dX10_differs_230 (Nat.le_refl _) (Nat.le_refl _) ⟨(-1), rfl, rfl, by unfold diI; (repeat' split) <;> first | rfl | omega⟩
                    · exfalso; omega
                  · refine g_iconst G dX10_differs_218 ?_
                    refine g_iload G 9 dX10_differs_219 rfl ?_
                    refine g_iadd G dX10_differs_221 ?_
                    exact g_ret G (some (.int (iI (2 + 1)))) rfl dX10_differs_222 (Nat.le_refl _) (Nat.le_refl _) ⟨(2 + 1), rfl, rfl, by unfold diI; (repeat' split) <;> first | rfl | omega⟩
            · refine g_iconst G dX10_differs_218 ?_
              refine g_iload G 9 dX10_differs_219 rfl ?_
              refine g_iadd G dX10_differs_221 ?_
              exact g_ret G (some (.int (iI (2 + 0)))) rfl dX10_differs_222 (Nat.le_refl _) (Nat.le_refl _) ⟨(2 + 0), rfl, rfl, by unfold diI; (repeat' split) <;> first | rfl | omega⟩
      · refine g_iconst G dX10_differs_116 ?_
        exact g_ret G (some (.int (iI 1))) rfl dX10_differs_117 (Nat.le_refl _) (Nat.le_refl _) ⟨1, rfl, rfl, by unfold diI; (repeat' split) <;> first | rfl | omega⟩
    refine g_iconst G dX10_differs_47 ?_
    refine g_istore G [(0, .ref q0), (1, .int (iI x)), (2, .int (iI y)), (3, .int (iI z)), (4, .int (iI b)), (5, .int (iI (g (20 + 72 * x + 6 * y + 0)))), (6, .int (iI (g (20 + 72 * x + 6 * y + 1)))), (7, .int (iI (g (20 + 72 * x + 6 * y + 2)))), (8, .int (iI ((3 * z) + (g (20 + 72 * x + 6 * y + 0))))), (9, .int (iI 0))] dX10_differs_48 (by decide) rfl rfl ?_
    refine g_iload G 9 dX10_differs_50 rfl ?_
    refine g_iconst G dX10_differs_52 ?_
    refine g_icmp_ge G 99 dX10_differs_53 (by decide) (by omega) (by omega) (fun c53 => ?_) (fun c53 => ?_)
    · exfalso; omega
    · refine g_aload_n G 0 dX10_differs_56 rfl ?_
      refine g_get G 0 2 dX10_differs_57 i_X10_differs_X10 f_X10_differs_17 rfl rfl (by decide) rfl ?_
      refine g_iconst G dX10_differs_60 ?_
      refine g_iload G 5 dX10_differs_61 rfl ?_
      refine g_imul G dX10_differs_63 ?_
      refine g_iconst G dX10_differs_64 ?_
      refine g_iload G 9 dX10_differs_65 rfl ?_
      refine g_imul G dX10_differs_67 ?_
      refine g_iadd G dX10_differs_68 ?_
      refine g_iald G 2 dX10_differs_69 rfl (by omega) (by omega) (by decide) ?_
      refine g_iconst G dX10_differs_70 ?_
      refine g_icmp_ne G 93 dX10_differs_71 (by decide) (by omega) (by omega) (fun c71 => ?_) (fun c71 => ?_)
      · refine g_iinc G 9 [(0, .ref q0), (1, .int (iI x)), (2, .int (iI y)), (3, .int (iI z)), (4, .int (iI b)), (5, .int (iI (g (20 + 72 * x + 6 * y + 0)))), (6, .int (iI (g (20 + 72 * x + 6 * y + 1)))), (7, .int (iI (g (20 + 72 * x + 6 * y + 2)))), (8, .int (iI ((3 * z) + (g (20 + 72 * x + 6 * y + 0))))), (9, .int (iI 1))] dX10_differs_93 rfl (by decide) rfl rfl ?_
        refine g_goto G 50 dX10_differs_96 (by decide) ?_
        refine g_iload G 9 dX10_differs_50 rfl ?_
        refine g_iconst G dX10_differs_52 ?_
        refine g_icmp_ge G 99 dX10_differs_53 (by decide) (by omega) (by omega) (fun c53_2 => ?_) (fun c53_2 => ?_)
        · exfalso; omega
        · refine g_aload_n G 0 dX10_differs_56 rfl ?_
          refine g_get G 0 2 dX10_differs_57 i_X10_differs_X10 f_X10_differs_17 rfl rfl (by decide) rfl ?_
          refine g_iconst G dX10_differs_60 ?_
          refine g_iload G 5 dX10_differs_61 rfl ?_
          refine g_imul G dX10_differs_63 ?_
          refine g_iconst G dX10_differs_64 ?_
          refine g_iload G 9 dX10_differs_65 rfl ?_
          refine g_imul G dX10_differs_67 ?_
          refine g_iadd G dX10_differs_68 ?_
          refine g_iald G 2 dX10_differs_69 rfl (by omega) (by omega) (by decide) ?_
          refine g_iconst G dX10_differs_70 ?_
          refine g_icmp_ne G 93 dX10_differs_71 (by decide) (by omega) (by omega) (fun c71_2 => ?_) (fun c71_2 => ?_)
          · refine g_iinc G 9 [(0, .ref q0), (1, .int (iI x)), (2, .int (iI y)), (3, .int (iI z)), (4, .int (iI b)), (5, .int (iI (g (20 + 72 * x + 6 * y + 0)))), (6, .int (iI (g (20 + 72 * x + 6 * y + 1)))), (7, .int (iI (g (20 + 72 * x + 6 * y + 2)))), (8, .int (iI ((3 * z) + (g (20 + 72 * x + 6 * y + 0))))), (9, .int (iI 2))] dX10_differs_93 rfl (by decide) rfl rfl ?_
            refine g_goto G 50 dX10_differs_96 (by decide) ?_
            refine g_iload G 9 dX10_differs_50 rfl ?_
            refine g_iconst G dX10_differs_52 ?_
            refine g_icmp_ge G 99 dX10_differs_53 (by decide) (by omega) (by omega) (fun c53_3 => ?_) (fun c53_3 => ?_)
            · exact L99  (by omega)
            · exfalso; omega
          · refine g_aload_n G 0 dX10_differs_74 rfl ?_
            refine g_iload G 5 dX10_differs_75 rfl ?_
            refine g_iload G 6 dX10_differs_77 rfl ?_
            refine g_iload G 7 dX10_differs_79 rfl ?_
            refine g_iload G 9 dX10_differs_81 rfl ?_
            refine g_iload G 4 dX10_differs_83 rfl ?_
            refine g_callV G [0, 1] [2, 3, 4] 5 [(q3, ia E 12 u), (q6, ia E 12 t), (q7, ia E 12 c)] [.int (iI (g (20 + 72 * x + 6 * y + 0))), .int (iI (g (20 + 72 * x + 6 * y + 1))), .int (iI (g (20 + 72 * x + 6 * y + 2))), .int (iI 1), .int (iI b)] [] (c_X10_fieldOf E q0 q1 q2 q3 q4 q5 q6 q7 q8 q9 q10 q11 c0 la ch us g (g (20 + 72 * x + 6 * y + 0)) (g (20 + 72 * x + 6 * y + 1)) (g (20 + 72 * x + 6 * y + 2)) 1 b (by exact hG) (by exact hX) (by first | assumption | omega) (by first | assumption | omega) (by first | assumption | omega) (by omega) (by first | assumption | omega)) dX10_differs_85 gX10_differs_X10_fieldOf ⟨rfl, ⟨rfl, rfl⟩, e_X10_fieldOf, ⟨Nat.le_of_ble_eq_true rfl, Nat.le_of_ble_eq_true rfl⟩, Nat.le_of_ble_eq_true rfl, Nat.le_of_ble_eq_true rfl, Nat.le_of_ble_eq_true rfl⟩ rfl rfl rfl rfl rfl (by decide +kernel) rfl (by decide +kernel) rfl (fun v9 w9 h9 => ?_)
            obtain ⟨o29, rfl, rfl, rfl⟩ := h9
            refine ⟨[(q0, .inr (10, [.ref q1, .ref q2, .ref q3, .int (iI c0), .ref q4, .ref q5, .int (iI la), .ref q6, .ref q7, .ref q8, .ref q9, .ref q10, .ref q11, .int (iI ch), .int (iI us)])), (q1, ia E 5400 g), (q3, ia E 12 u), (q6, ia E 12 t), (q7, ia E 12 c)], ⟨rfl, rfl, rfl, rfl⟩, g_to 0 0 _ _ [.int (iI (foI g (g (20 + 72 * x + 6 * y + 0)) (g (20 + 72 * x + 6 * y + 1)) (g (20 + 72 * x + 6 * y + 2)) 1 b))] rfl rfl rfl rfl rfl ?_⟩
            refine g_if_ge G 93 dX10_differs_88 (by decide) (by omega) (fun c88 => ?_) (fun c88 => ?_)
            · refine g_iinc G 9 [(0, .ref q0), (1, .int (iI x)), (2, .int (iI y)), (3, .int (iI z)), (4, .int (iI b)), (5, .int (iI (g (20 + 72 * x + 6 * y + 0)))), (6, .int (iI (g (20 + 72 * x + 6 * y + 1)))), (7, .int (iI (g (20 + 72 * x + 6 * y + 2)))), (8, .int (iI ((3 * z) + (g (20 + 72 * x + 6 * y + 0))))), (9, .int (iI 2))] dX10_differs_93 rfl (by decide) rfl rfl ?_
              refine g_goto G 50 dX10_differs_96 (by decide) ?_
              refine g_iload G 9 dX10_differs_50 rfl ?_
              refine g_iconst G dX10_differs_52 ?_
              refine g_icmp_ge G 99 dX10_differs_53 (by decide) (by omega) (by omega) (fun c53_3 => ?_) (fun c53_3 => ?_)
              · exact L99  (by omega)
              · exfalso; omega
            · refine g_iconst G dX10_differs_91 ?_
              exact g_ret G (some (.int (iI 0))) rfl dX10_differs_92 (Nat.le_refl _) (Nat.le_refl _) ⟨0, rfl, rfl, by unfold diI; (repeat' split) <;> first | rfl | omega⟩
      · refine g_aload_n G 0 dX10_differs_74 rfl ?_
        refine g_iload G 5 dX10_differs_75 rfl ?_
        refine g_iload G 6 dX10_differs_77 rfl ?_
        refine g_iload G 7 dX10_differs_79 rfl ?_
        refine g_iload G 9 dX10_differs_81 rfl ?_
        refine g_iload G 4 dX10_differs_83 rfl ?_
        refine g_callV G [0, 1] [2, 3, 4] 5 [(q3, ia E 12 u), (q6, ia E 12 t), (q7, ia E 12 c)] [.int (iI (g (20 + 72 * x + 6 * y + 0))), .int (iI (g (20 + 72 * x + 6 * y + 1))), .int (iI (g (20 + 72 * x + 6 * y + 2))), .int (iI 0), .int (iI b)] [] (c_X10_fieldOf E q0 q1 q2 q3 q4 q5 q6 q7 q8 q9 q10 q11 c0 la ch us g (g (20 + 72 * x + 6 * y + 0)) (g (20 + 72 * x + 6 * y + 1)) (g (20 + 72 * x + 6 * y + 2)) 0 b (by exact hG) (by exact hX) (by first | assumption | omega) (by first | assumption | omega) (by first | assumption | omega) (by omega) (by first | assumption | omega)) dX10_differs_85 gX10_differs_X10_fieldOf ⟨rfl, ⟨rfl, rfl⟩, e_X10_fieldOf, ⟨Nat.le_of_ble_eq_true rfl, Nat.le_of_ble_eq_true rfl⟩, Nat.le_of_ble_eq_true rfl, Nat.le_of_ble_eq_true rfl, Nat.le_of_ble_eq_true rfl⟩ rfl rfl rfl rfl rfl (by decide +kernel) rfl (by decide +kernel) rfl (fun v9 w9 h9 => ?_)
        obtain ⟨o30, rfl, rfl, rfl⟩ := h9
        refine ⟨[(q0, .inr (10, [.ref q1, .ref q2, .ref q3, .int (iI c0), .ref q4, .ref q5, .int (iI la), .ref q6, .ref q7, .ref q8, .ref q9, .ref q10, .ref q11, .int (iI ch), .int (iI us)])), (q1, ia E 5400 g), (q3, ia E 12 u), (q6, ia E 12 t), (q7, ia E 12 c)], ⟨rfl, rfl, rfl, rfl⟩, g_to 0 0 _ _ [.int (iI (foI g (g (20 + 72 * x + 6 * y + 0)) (g (20 + 72 * x + 6 * y + 1)) (g (20 + 72 * x + 6 * y + 2)) 0 b))] rfl rfl rfl rfl rfl ?_⟩
        refine g_if_ge G 93 dX10_differs_88 (by decide) (by omega) (fun c88 => ?_) (fun c88 => ?_)
        · refine g_iinc G 9 [(0, .ref q0), (1, .int (iI x)), (2, .int (iI y)), (3, .int (iI z)), (4, .int (iI b)), (5, .int (iI (g (20 + 72 * x + 6 * y + 0)))), (6, .int (iI (g (20 + 72 * x + 6 * y + 1)))), (7, .int (iI (g (20 + 72 * x + 6 * y + 2)))), (8, .int (iI ((3 * z) + (g (20 + 72 * x + 6 * y + 0))))), (9, .int (iI 1))] dX10_differs_93 rfl (by decide) rfl rfl ?_
          refine g_goto G 50 dX10_differs_96 (by decide) ?_
          refine g_iload G 9 dX10_differs_50 rfl ?_
          refine g_iconst G dX10_differs_52 ?_
          refine g_icmp_ge G 99 dX10_differs_53 (by decide) (by omega) (by omega) (fun c53_2 => ?_) (fun c53_2 => ?_)
          · exfalso; omega
          · refine g_aload_n G 0 dX10_differs_56 rfl ?_
            refine g_get G 0 2 dX10_differs_57 i_X10_differs_X10 f_X10_differs_17 rfl rfl (by decide) rfl ?_
            refine g_iconst G dX10_differs_60 ?_
            refine g_iload G 5 dX10_differs_61 rfl ?_
            refine g_imul G dX10_differs_63 ?_
            refine g_iconst G dX10_differs_64 ?_
            refine g_iload G 9 dX10_differs_65 rfl ?_
            refine g_imul G dX10_differs_67 ?_
            refine g_iadd G dX10_differs_68 ?_
            refine g_iald G 2 dX10_differs_69 rfl (by omega) (by omega) (by decide) ?_
            refine g_iconst G dX10_differs_70 ?_
            refine g_icmp_ne G 93 dX10_differs_71 (by decide) (by omega) (by omega) (fun c71_2 => ?_) (fun c71_2 => ?_)
            · refine g_iinc G 9 [(0, .ref q0), (1, .int (iI x)), (2, .int (iI y)), (3, .int (iI z)), (4, .int (iI b)), (5, .int (iI (g (20 + 72 * x + 6 * y + 0)))), (6, .int (iI (g (20 + 72 * x + 6 * y + 1)))), (7, .int (iI (g (20 + 72 * x + 6 * y + 2)))), (8, .int (iI ((3 * z) + (g (20 + 72 * x + 6 * y + 0))))), (9, .int (iI 2))] dX10_differs_93 rfl (by decide) rfl rfl ?_
              refine g_goto G 50 dX10_differs_96 (by decide) ?_
              refine g_iload G 9 dX10_differs_50 rfl ?_
              refine g_iconst G dX10_differs_52 ?_
              refine g_icmp_ge G 99 dX10_differs_53 (by decide) (by omega) (by omega) (fun c53_3 => ?_) (fun c53_3 => ?_)
              · exact L99  (by omega)
              · exfalso; omega
            · refine g_aload_n G 0 dX10_differs_74 rfl ?_
              refine g_iload G 5 dX10_differs_75 rfl ?_
              refine g_iload G 6 dX10_differs_77 rfl ?_
              refine g_iload G 7 dX10_differs_79 rfl ?_
              refine g_iload G 9 dX10_differs_81 rfl ?_
              refine g_iload G 4 dX10_differs_83 rfl ?_
              refine g_callV G [0, 1] [2, 3, 4] 5 [(q3, ia E 12 u), (q6, ia E 12 t), (q7, ia E 12 c)] [.int (iI (g (20 + 72 * x + 6 * y + 0))), .int (iI (g (20 + 72 * x + 6 * y + 1))), .int (iI (g (20 + 72 * x + 6 * y + 2))), .int (iI 1), .int (iI b)] [] (c_X10_fieldOf E q0 q1 q2 q3 q4 q5 q6 q7 q8 q9 q10 q11 c0 la ch us g (g (20 + 72 * x + 6 * y + 0)) (g (20 + 72 * x + 6 * y + 1)) (g (20 + 72 * x + 6 * y + 2)) 1 b (by exact hG) (by exact hX) (by first | assumption | omega) (by first | assumption | omega) (by first | assumption | omega) (by omega) (by first | assumption | omega)) dX10_differs_85 gX10_differs_X10_fieldOf ⟨rfl, ⟨rfl, rfl⟩, e_X10_fieldOf, ⟨Nat.le_of_ble_eq_true rfl, Nat.le_of_ble_eq_true rfl⟩, Nat.le_of_ble_eq_true rfl, Nat.le_of_ble_eq_true rfl, Nat.le_of_ble_eq_true rfl⟩ rfl rfl rfl rfl rfl (by decide +kernel) rfl (by decide +kernel) rfl (fun v9 w9 h9 => ?_)
              obtain ⟨o31, rfl, rfl, rfl⟩ := h9
              refine ⟨[(q0, .inr (10, [.ref q1, .ref q2, .ref q3, .int (iI c0), .ref q4, .ref q5, .int (iI la), .ref q6, .ref q7, .ref q8, .ref q9, .ref q10, .ref q11, .int (iI ch), .int (iI us)])), (q1, ia E 5400 g), (q3, ia E 12 u), (q6, ia E 12 t), (q7, ia E 12 c)], ⟨rfl, rfl, rfl, rfl⟩, g_to 0 0 _ _ [.int (iI (foI g (g (20 + 72 * x + 6 * y + 0)) (g (20 + 72 * x + 6 * y + 1)) (g (20 + 72 * x + 6 * y + 2)) 1 b))] rfl rfl rfl rfl rfl ?_⟩
              refine g_if_ge G 93 dX10_differs_88 (by decide) (by omega) (fun c88_2 => ?_) (fun c88_2 => ?_)
              · refine g_iinc G 9 [(0, .ref q0), (1, .int (iI x)), (2, .int (iI y)), (3, .int (iI z)), (4, .int (iI b)), (5, .int (iI (g (20 + 72 * x + 6 * y + 0)))), (6, .int (iI (g (20 + 72 * x + 6 * y + 1)))), (7, .int (iI (g (20 + 72 * x + 6 * y + 2)))), (8, .int (iI ((3 * z) + (g (20 + 72 * x + 6 * y + 0))))), (9, .int (iI 2))] dX10_differs_93 rfl (by decide) rfl rfl ?_
                refine g_goto G 50 dX10_differs_96 (by decide) ?_
                refine g_iload G 9 dX10_differs_50 rfl ?_
                refine g_iconst G dX10_differs_52 ?_
                refine g_icmp_ge G 99 dX10_differs_53 (by decide) (by omega) (by omega) (fun c53_3 => ?_) (fun c53_3 => ?_)
                · exact L99  (by omega)
                · exfalso; omega
              · refine g_iconst G dX10_differs_91 ?_
                exact g_ret G (some (.int (iI 0))) rfl dX10_differs_92 (Nat.le_refl _) (Nat.le_refl _) ⟨0, rfl, rfl, by unfold diI; (repeat' split) <;> first | rfl | omega⟩
        · refine g_iconst G dX10_differs_91 ?_
          exact g_ret G (some (.int (iI 0))) rfl dX10_differs_92 (Nat.le_refl _) (Nat.le_refl _) ⟨0, rfl, rfl, by unfold diI; (repeat' split) <;> first | rfl | omega⟩
  · refine g_iconst G dX10_differs_45 ?_
    exact g_ret G (some (.int (iI 0))) rfl dX10_differs_46 (Nat.le_refl _) (Nat.le_refl _) ⟨0, rfl, rfl, by unfold diI; (repeat' split) <;> first | rfl | omega⟩
