def RowsOk (L V A N : Int → Int) (z : Int) : Prop := 0 ≤ z ∧ z ≤ 8 ∧ (∀ i, 0 ≤ L i ∧ L i ≤ 12) ∧ (∀ i, 0 ≤ V i ∧ V i < 3) ∧ (∀ i, 0 ≤ A i ∧ A i < 10000) ∧ (∀ i, 0 ≤ N i ∧ N i < 40000)
def fldI (x y : Int) : Int := if y = 0 then x / 100 % 100 else x % 100
def pick3 (x a b c : Int) : Int := if x = 0 then a else if x = 1 then b else if x = 2 then c else -1
def fiI (V : Int → Int) (i v : Int) : Int → Int := fun j => if 0 ≤ j ∧ j < i then v else V j
theorem fiI_0 (V : Int → Int) (v : Int) : fiI V 0 v = V := by
  funext j; unfold fiI; rw [if_neg (by omega)]
theorem fiI_up (V : Int → Int) {i : Int} (v : Int) (h : 0 ≤ i) : upI (fiI V i v) i v = fiI V (i + 1) v := by
  funext j
  unfold upI fiI
  by_cases h1 : j = i
  · rw [if_pos h1, if_pos (by omega)]
  · rw [if_neg h1]
    by_cases h2 : 0 ≤ j ∧ j < i
    · rw [if_pos h2, if_pos (by omega)]
    · rw [if_neg h2, if_neg (by omega)]
def sumI (f : Int → Int) : Nat → Int
  | 0 => 0
  | n + 1 => sumI f n + f n
theorem sumI_up (f : Int → Int) {i : Int} (h : 0 ≤ i) : sumI f (i + 1).toNat = sumI f i.toNat + f i := by
  rw [(show (i + 1).toNat = i.toNat + 1 by omega)]
  show sumI f i.toNat + f ((i.toNat : Nat) : Int) = _
  rw [(show ((i.toNat : Nat) : Int) = i by omega)]
noncomputable def qpl (dv dc : Int → Prop) : Nat → Int → Int
  | 0, _ => -1
  | n + 1, p => @ite Int (dv p) (Classical.propDecidable _) (-1) (@ite Int (dc p) (Classical.propDecidable _) p (qpl dv dc n (p + 1)))
theorem qpl_v (dv dc : Int → Prop) {p m : Int} (h : p < m) (h1 : dv p) : qpl dv dc (m - p).toNat p = -1 := by
  rw [(show (m - p).toNat = (m - p - 1).toNat + 1 by omega)]
  unfold qpl
  exact if_pos h1
theorem qpl_c (dv dc : Int → Prop) {p m : Int} (h : p < m) (h1 : ¬ dv p) (h2 : dc p) : qpl dv dc (m - p).toNat p = p := by
  rw [(show (m - p).toNat = (m - p - 1).toNat + 1 by omega)]
  unfold qpl
  rw [if_neg h1, if_pos h2]
theorem qpl_go (dv dc : Int → Prop) {p m : Int} (h : p < m) (h1 : ¬ dv p) (h2 : ¬ dc p) : qpl dv dc (m - p).toNat p = qpl dv dc (m - (p + 1)).toNat (p + 1) := by
  rw [(show (m - p).toNat = (m - (p + 1)).toNat + 1 by omega)]
  conv => lhs; unfold qpl
  rw [if_neg h1, if_neg h2]
set_option maxRecDepth 100000 in
set_option maxHeartbeats 4000000 in
theorem c_X9_within (E : qE) (x : Int) (y : Int) (hx : -2147483648 ≤ x ∧ x < 2147483648) (hy : -2147483648 ≤ y ∧ y < 2147483648) : Cn E yX9_within wsX9_within { frames := 0, cells := 0, slots := 0, locals := 0 } [.int (iI x), .int (iI y)] [] (fun v9 w9 => ∃ (r : Int), v9 = some (.int (iI r)) ∧ w9 = [] ∧ r = (if 0 ≤ x ∧ x < y then 1 else 0)) 0 0 := by
  refine Cn.ofP (own := RX9) (cc := cX9_within) (maxL := 2) (ret := (some .boolean)) false [(0, .int (iI x)), (1, .int (iI y))] (by decide +kernel) rfl rfl (Nat.le_of_ble_eq_true rfl) rfl (fun h => nomatch h) (fun v w h => by obtain ⟨r, rfl, h9⟩ := h; exact ⟨_, rfl, by (refine iI_b01 ?_; first | rw [h9.2] | rw [h9.2.1]); split <;> simp⟩) ?_
  intro P G
  refine g_iload_n G 0 dX9_within_0 rfl ?_
  refine g_if_lt G 13 dX9_within_1 (by decide) (by omega) (fun c1 => ?_) (fun c1 => ?_)
  · refine g_iconst G dX9_within_13 ?_
    exact g_ret G (some (.int (iI 0))) rfl dX9_within_14 (Nat.le_refl _) (Nat.le_refl _) ⟨0, rfl, rfl, by first | rfl | omega | (split <;> omega)⟩
  · refine g_iload_n G 0 dX9_within_4 rfl ?_
    refine g_iload_n G 1 dX9_within_5 rfl ?_
    refine g_icmp_ge G 13 dX9_within_6 (by decide) (by omega) (by omega) (fun c6 => ?_) (fun c6 => ?_)
    · refine g_iconst G dX9_within_13 ?_
      exact g_ret G (some (.int (iI 0))) rfl dX9_within_14 (Nat.le_refl _) (Nat.le_refl _) ⟨0, rfl, rfl, by first | rfl | omega | (split <;> omega)⟩
    · refine g_iconst G dX9_within_9 ?_
      refine g_goto G 14 dX9_within_10 (by decide) ?_
      exact g_ret G (some (.int (iI 1))) rfl dX9_within_14 (Nat.le_refl _) (Nat.le_refl _) ⟨1, rfl, rfl, by first | rfl | omega | (split <;> omega)⟩
set_option maxRecDepth 100000 in
set_option maxHeartbeats 4000000 in
theorem c_X9_codeOf (E : qE) (x : Int) (hx : 0 ≤ x ∧ x < 2147483648) : Cn E yX9_codeOf wsX9_codeOf { frames := 0, cells := 0, slots := 0, locals := 0 } [.int (iI x)] [] (fun v9 w9 => ∃ (r : Int), v9 = some (.int (iI r)) ∧ w9 = [] ∧ r = (x / 10000)) 0 0 := by
  refine Cn.ofP (own := RX9) (cc := cX9_codeOf) (maxL := 1) (ret := (some .int)) false [(0, .int (iI x))] (by decide +kernel) rfl rfl (Nat.le_of_ble_eq_true rfl) rfl (fun h => nomatch h) (fun v w h => by obtain ⟨r, rfl, h9⟩ := h; exact ⟨_, rfl, rfl⟩) ?_
  intro P G
  refine g_iload_n G 0 dX9_codeOf_0 rfl ?_
  refine g_sipush G dX9_codeOf_1 (by decide +kernel) ?_
  refine g_idiv G dX9_codeOf_4 (by omega) (by omega) (by omega) (by omega) ?_
  exact g_ret G (some (.int (iI (x / 10000)))) rfl dX9_codeOf_5 (Nat.le_refl _) (Nat.le_refl _) ⟨(x / 10000), rfl, rfl, by first | rfl | omega | (split <;> omega)⟩
set_option maxRecDepth 100000 in
set_option maxHeartbeats 4000000 in
theorem c_X9_fieldOf (E : qE) (x : Int) (y : Int) (hx : 0 ≤ x ∧ x < 2147483648) (hy : 0 ≤ y ∧ y < 2) : Cn E yX9_fieldOf wsX9_fieldOf { frames := 0, cells := 0, slots := 0, locals := 0 } [.int (iI x), .int (iI y)] [] (fun v9 w9 => ∃ (r : Int), v9 = some (.int (iI r)) ∧ w9 = [] ∧ r = (fldI x y)) 0 0 := by
  refine Cn.ofP (own := RX9) (cc := cX9_fieldOf) (maxL := 2) (ret := (some .int)) false [(0, .int (iI x)), (1, .int (iI y))] (by decide +kernel) rfl rfl (Nat.le_of_ble_eq_true rfl) rfl (fun h => nomatch h) (fun v w h => by obtain ⟨r, rfl, h9⟩ := h; exact ⟨_, rfl, rfl⟩) ?_
  intro P G
  refine g_iload_n G 1 dX9_fieldOf_0 rfl ?_
  refine g_if_ne G 14 dX9_fieldOf_1 (by decide) (by omega) (fun c1 => ?_) (fun c1 => ?_)
  · refine g_iload_n G 0 dX9_fieldOf_14 rfl ?_
    refine g_bipush G dX9_fieldOf_15 (by decide +kernel) ?_
    refine g_irem G dX9_fieldOf_17 (by omega) (by omega) (by omega) (by omega) ?_
    exact g_ret G (some (.int (iI (x % 100)))) rfl dX9_fieldOf_18 (Nat.le_refl _) (Nat.le_refl _) ⟨(x % 100), rfl, rfl, by first | (unfold fldI; rw [if_pos (by omega)]; done) | (unfold fldI; rw [if_neg (by omega)]; done)⟩
  · refine g_iload_n G 0 dX9_fieldOf_4 rfl ?_
    refine g_bipush G dX9_fieldOf_5 (by decide +kernel) ?_
    refine g_idiv G dX9_fieldOf_7 (by omega) (by omega) (by omega) (by omega) ?_
    refine g_bipush G dX9_fieldOf_8 (by decide +kernel) ?_
    refine g_irem G dX9_fieldOf_10 (by omega) (by omega) (by omega) (by omega) ?_
    refine g_goto G 18 dX9_fieldOf_11 (by decide) ?_
    exact g_ret G (some (.int (iI ((x / 100) % 100)))) rfl dX9_fieldOf_18 (Nat.le_refl _) (Nat.le_refl _) ⟨((x / 100) % 100), rfl, rfl, by first | (unfold fldI; rw [if_pos (by omega)]; done) | (unfold fldI; rw [if_neg (by omega)]; done)⟩
set_option maxRecDepth 100000 in
set_option maxHeartbeats 4000000 in
theorem c_X9_pickOfThree (E : qE) (x : Int) (a : Int) (b : Int) (c : Int) (hx : -2147483648 ≤ x ∧ x < 2147483648) : Cn E yX9_pickOfThree wsX9_pickOfThree { frames := 0, cells := 0, slots := 0, locals := 0 } [.int (iI x), .int (iI a), .int (iI b), .int (iI c)] [] (fun v9 w9 => ∃ (r : Int), v9 = some (.int (iI r)) ∧ w9 = [] ∧ r = (pick3 x a b c)) 0 0 := by
  refine Cn.ofP (own := RX9) (cc := cX9_pickOfThree) (maxL := 4) (ret := (some .int)) false [(0, .int (iI x)), (1, .int (iI a)), (2, .int (iI b)), (3, .int (iI c))] (by decide +kernel) rfl rfl (Nat.le_of_ble_eq_true rfl) rfl (fun h => nomatch h) (fun v w h => by obtain ⟨r, rfl, h9⟩ := h; exact ⟨_, rfl, rfl⟩) ?_
  intro P G
  refine g_iload_n G 0 dX9_pickOfThree_0 rfl ?_
  rcases (show x = 0 ∨ x = 1 ∨ x = 2 ∨ (x < 0 ∨ 2 < x) by omega) with c1 | c1 | c1 | c1
  · refine g_tsIn G (0) (27) 28 dX9_pickOfThree_1 c1 (by decide) (by decide) (by decide) rfl (by decide) ?_
    refine g_iload_n G 1 dX9_pickOfThree_28 rfl ?_
    exact g_ret G (some (.int (iI a))) rfl dX9_pickOfThree_29 (Nat.le_refl _) (Nat.le_refl _) ⟨a, rfl, rfl, by unfold pick3; first | (rw [if_pos c1]; done) | (rw [if_neg (by omega), if_pos c1]; done) | (rw [if_neg (by omega), if_neg (by omega), if_pos c1]; done) | (rw [if_neg (by omega), if_neg (by omega), if_neg (by omega)])⟩
  · refine g_tsIn G (1) (29) 30 dX9_pickOfThree_1 c1 (by decide) (by decide) (by decide) rfl (by decide) ?_
    refine g_iload_n G 2 dX9_pickOfThree_30 rfl ?_
    exact g_ret G (some (.int (iI b))) rfl dX9_pickOfThree_31 (Nat.le_refl _) (Nat.le_refl _) ⟨b, rfl, rfl, by unfold pick3; first | (rw [if_pos c1]; done) | (rw [if_neg (by omega), if_pos c1]; done) | (rw [if_neg (by omega), if_neg (by omega), if_pos c1]; done) | (rw [if_neg (by omega), if_neg (by omega), if_neg (by omega)])⟩
  · refine g_tsIn G (2) (31) 32 dX9_pickOfThree_1 c1 (by decide) (by decide) (by decide) rfl (by decide) ?_
    refine g_iload_n G 3 dX9_pickOfThree_32 rfl ?_
    exact g_ret G (some (.int (iI c))) rfl dX9_pickOfThree_33 (Nat.le_refl _) (Nat.le_refl _) ⟨c, rfl, rfl, by unfold pick3; first | (rw [if_pos c1]; done) | (rw [if_neg (by omega), if_pos c1]; done) | (rw [if_neg (by omega), if_neg (by omega), if_pos c1]; done) | (rw [if_neg (by omega), if_neg (by omega), if_neg (by omega)])⟩
  · refine g_tsOut G 34 dX9_pickOfThree_1 (by omega) c1 (by decide) ?_
    refine g_iconst G dX9_pickOfThree_34 ?_
    exact g_ret G (some (.int (iI (-1)))) rfl dX9_pickOfThree_35 (Nat.le_refl _) (Nat.le_refl _) ⟨(-1), rfl, rfl, by unfold pick3; first | (rw [if_pos c1]; done) | (rw [if_neg (by omega), if_pos c1]; done) | (rw [if_neg (by omega), if_neg (by omega), if_pos c1]; done) | (rw [if_neg (by omega), if_neg (by omega), if_neg (by omega)])⟩
set_option maxRecDepth 100000 in
set_option maxHeartbeats 4000000 in
theorem c_J7_fill_53178 (E : qE) (q0 : Nat) (n : Nat) (V : Int → Int) (v : Int) (hn : (n : Int) < 2147483648) : Cn E yJ7_fill_53178 wsJ7_fill_53178 { frames := 0, cells := 0, slots := 0, locals := 0 } [.ref q0, .int (iI v)] [(q0, ia E n V)] (fun v9 w9 => ∃ (V' : Int → Int), v9 = none ∧ w9 = [(q0, ia E n V')] ∧ V' = (fiI V n v)) 0 0 := by
  refine Cn.ofP (own := RJ7) (cc := cJ7_fill_53178) (maxL := 4) (ret := none) false [(0, .ref q0), (1, .int (iI v))] (by decide +kernel) rfl rfl (Nat.le_of_ble_eq_true rfl) rfl (fun h => nomatch h) (fun v w h => by obtain ⟨V', rfl, h9⟩ := h; exact (rfl : (none : Option FieldType) = none)) ?_
  intro P G
  refine g_iconst G dJ7_fill_53178_0 ?_
  refine g_istore_n G [(0, .ref q0), (1, .int (iI v)), (2, .int (iI 0))] dJ7_fill_53178_1 (by decide) rfl rfl ?_
  refine g_aload_n G 0 dJ7_fill_53178_2 rfl ?_
  refine g_alen G 0 dJ7_fill_53178_3 rfl ?_
  refine g_istore_n G [(0, .ref q0), (1, .int (iI v)), (2, .int (iI 0)), (3, .int (iI n))] dJ7_fill_53178_4 (by decide) rfl rfl ?_
  have L5 : ∀ (fuel : Nat), ∀ (i : Int) (U : Int → Int), (0 ≤ i ∧ i ≤ n) → (U = fiI V i v) → (n - i : Int).toNat < fuel → P 0 0 [(q0, ia E n U)] 5 [(0, .ref q0), (1, .int (iI v)), (2, .int (iI i)), (3, .int (iI n))] [] := by
    intro fuel
    induction fuel with
    | zero => intro i U hi hU hm; exact absurd hm (Nat.not_lt_zero _)
    | succ fuel ih5 =>
      intro i U hi hU hm
      refine g_iload_n G 2 dJ7_fill_53178_5 rfl ?_
      refine g_iload_n G 3 dJ7_fill_53178_6 rfl ?_
      refine g_icmp_ge G 20 dJ7_fill_53178_7 (by decide) (by omega) (by omega) (fun c7 => ?_) (fun c7 => ?_)
      · exact g_ret G none rfl dJ7_fill_53178_20 (Nat.le_refl _) (Nat.le_refl _) ⟨U, rfl, rfl, by rw [hU, (show i = n by omega)]⟩
      · refine g_aload_n G 0 dJ7_fill_53178_10 rfl ?_
        refine g_iload_n G 2 dJ7_fill_53178_11 rfl ?_
        refine g_iload_n G 1 dJ7_fill_53178_12 rfl ?_
        refine g_iast G 0 [(q0, ia E n (upI U i v))] dJ7_fill_53178_13 rfl (by omega) (by omega) (by omega) rfl ?_
        refine g_iinc G 2 [(0, .ref q0), (1, .int (iI v)), (2, .int (iI (i + 1))), (3, .int (iI n))] dJ7_fill_53178_14 rfl (by decide) rfl rfl ?_
        refine g_goto G 5 dJ7_fill_53178_17 (by decide) ?_
        exact ih5 (i + 1) (upI U i v) (by first | assumption | omega) (by rw [hU, fiI_up V v hi.1]) (by omega)
  exact L5 ((n - 0 : Int).toNat + 1) 0 V (by first | assumption | omega) (by rw [fiI_0]) (by omega)
theorem f_X4_has_24 : Cond.fieldLink RX4 24 (TX4 4).1 (TX4 4).2.1 (TX4 4).2.2.1 ∈ wsX4_has := by decide +kernel
theorem i_X4_has_X4 : ∀ w ∈ wsX40, w ∈ wsX4_has := by decide +kernel
set_option maxRecDepth 100000 in
set_option maxHeartbeats 4000000 in
theorem c_X4_has (E : qE) (q0 : Nat) (q1 : Nat) (q2 : Nat) (q3 : Nat) (q4 : Nat) (L : Int → Int) (V : Int → Int) (A : Int → Int) (N : Int → Int) (z : Int) (x : Int) (hR : RowsOk L V A N z) (hx : -2147483648 ≤ x ∧ x < 2147483648) : Cn E yX4_has wsX4_has { frames := 0, cells := 0, slots := 0, locals := 0 } [.ref q0, .int (iI x)] [(q0, .inr (4, [.ref q1, .ref q2, .ref q3, .ref q4, .int (iI z)])), (q1, ia E 8 L), (q2, ia E 96 V), (q3, ia E 96 A), (q4, ia E 96 N)] (fun v9 w9 => ∃ (r : Int), v9 = some (.int (iI r)) ∧ w9 = [(q0, .inr (4, [.ref q1, .ref q2, .ref q3, .ref q4, .int (iI z)])), (q1, ia E 8 L), (q2, ia E 96 V), (q3, ia E 96 A), (q4, ia E 96 N)] ∧ r = (if 0 ≤ x ∧ x < z then 1 else 0)) 0 0 := by
  refine Cn.ofP (own := RX4) (cc := cX4_has) (maxL := 2) (ret := (some .boolean)) false [(0, .ref q0), (1, .int (iI x))] (by decide +kernel) rfl rfl (Nat.le_of_ble_eq_true rfl) rfl (fun h => nomatch h) (fun v w h => by obtain ⟨r, rfl, h9⟩ := h; exact ⟨_, rfl, by (refine iI_b01 ?_; first | rw [h9.2] | rw [h9.2.1]); split <;> simp⟩) ?_
  intro P G
  obtain ⟨hz0, hz1, hL, hV, hA, hN⟩ := id hR
  refine g_iload_n G 1 dX4_has_0 rfl ?_
  refine g_if_lt G 16 dX4_has_1 (by decide) (by omega) (fun c1 => ?_) (fun c1 => ?_)
  · refine g_iconst G dX4_has_16 ?_
    exact g_ret G (some (.int (iI 0))) rfl dX4_has_17 (Nat.le_refl _) (Nat.le_refl _) ⟨0, rfl, rfl, by first | rfl | omega | (split <;> omega)⟩
  · refine g_iload_n G 1 dX4_has_4 rfl ?_
    refine g_aload_n G 0 dX4_has_5 rfl ?_
    refine g_get G 0 4 dX4_has_6 i_X4_has_X4 f_X4_has_24 rfl rfl (by decide) rfl ?_
    refine g_icmp_ge G 16 dX4_has_9 (by decide) (by omega) (by omega) (fun c9 => ?_) (fun c9 => ?_)
    · refine g_iconst G dX4_has_16 ?_
      exact g_ret G (some (.int (iI 0))) rfl dX4_has_17 (Nat.le_refl _) (Nat.le_refl _) ⟨0, rfl, rfl, by first | rfl | omega | (split <;> omega)⟩
    · refine g_iconst G dX4_has_12 ?_
      refine g_goto G 17 dX4_has_13 (by decide) ?_
      exact g_ret G (some (.int (iI 1))) rfl dX4_has_17 (Nat.le_refl _) (Nat.le_refl _) ⟨1, rfl, rfl, by first | rfl | omega | (split <;> omega)⟩
theorem f_X4_size_24 : Cond.fieldLink RX4 24 (TX4 4).1 (TX4 4).2.1 (TX4 4).2.2.1 ∈ wsX4_size := by decide +kernel
theorem i_X4_size_X4 : ∀ w ∈ wsX40, w ∈ wsX4_size := by decide +kernel
set_option maxRecDepth 100000 in
set_option maxHeartbeats 4000000 in
theorem c_X4_size (E : qE) (q0 : Nat) (q1 : Nat) (q2 : Nat) (q3 : Nat) (q4 : Nat) (L : Int → Int) (V : Int → Int) (A : Int → Int) (N : Int → Int) (z : Int)  : Cn E yX4_size wsX4_size { frames := 0, cells := 0, slots := 0, locals := 0 } [.ref q0] [(q0, .inr (4, [.ref q1, .ref q2, .ref q3, .ref q4, .int (iI z)])), (q1, ia E 8 L), (q2, ia E 96 V), (q3, ia E 96 A), (q4, ia E 96 N)] (fun v9 w9 => v9 = some (.int (iI z)) ∧ w9 = [(q0, .inr (4, [.ref q1, .ref q2, .ref q3, .ref q4, .int (iI z)])), (q1, ia E 8 L), (q2, ia E 96 V), (q3, ia E 96 A), (q4, ia E 96 N)]) 0 0 := by
  refine Cn.ofP (own := RX4) (cc := cX4_size) (maxL := 1) (ret := (some .int)) false [(0, .ref q0)] (by decide +kernel) rfl rfl (Nat.le_of_ble_eq_true rfl) rfl (fun h => nomatch h) (fun v w h => by obtain ⟨rfl, h9⟩ := h; exact ⟨_, rfl, rfl⟩) ?_
  intro P G
  refine g_aload_n G 0 dX4_size_0 rfl ?_
  refine g_get G 0 4 dX4_size_1 i_X4_size_X4 f_X4_size_24 rfl rfl (by decide) rfl ?_
  exact g_ret G (some (.int (iI z))) rfl dX4_size_4 (Nat.le_refl _) (Nat.le_refl _) ⟨rfl, rfl⟩
theorem f_X4_length_24 : Cond.fieldLink RX4 24 (TX4 4).1 (TX4 4).2.1 (TX4 4).2.2.1 ∈ wsX4_length := by decide +kernel
theorem i_X4_length_X4 : ∀ w ∈ wsX40, w ∈ wsX4_length := by decide +kernel
theorem f_X4_length_9 : Cond.fieldLink RX4 9 (TX4 0).1 (TX4 0).2.1 (TX4 0).2.2.1 ∈ wsX4_length := by decide +kernel
set_option maxRecDepth 100000 in
set_option maxHeartbeats 4000000 in
theorem c_X4_length (E : qE) (q0 : Nat) (q1 : Nat) (q2 : Nat) (q3 : Nat) (q4 : Nat) (L : Int → Int) (V : Int → Int) (A : Int → Int) (N : Int → Int) (z : Int) (x : Int) (hR : RowsOk L V A N z) (hx : -2147483648 ≤ x ∧ x < 2147483648) : Cn E yX4_length wsX4_length { frames := 0, cells := 0, slots := 0, locals := 0 } [.ref q0, .int (iI x)] [(q0, .inr (4, [.ref q1, .ref q2, .ref q3, .ref q4, .int (iI z)])), (q1, ia E 8 L), (q2, ia E 96 V), (q3, ia E 96 A), (q4, ia E 96 N)] (fun v9 w9 => ∃ (r : Int), v9 = some (.int (iI r)) ∧ w9 = [(q0, .inr (4, [.ref q1, .ref q2, .ref q3, .ref q4, .int (iI z)])), (q1, ia E 8 L), (q2, ia E 96 V), (q3, ia E 96 A), (q4, ia E 96 N)] ∧ r = (if 0 ≤ x ∧ x < z then L x else 0)) 0 0 := by
  refine Cn.ofP (own := RX4) (cc := cX4_length) (maxL := 2) (ret := (some .int)) false [(0, .ref q0), (1, .int (iI x))] (by decide +kernel) rfl rfl (Nat.le_of_ble_eq_true rfl) rfl (fun h => nomatch h) (fun v w h => by obtain ⟨r, rfl, h9⟩ := h; exact ⟨_, rfl, rfl⟩) ?_
  intro P G
  obtain ⟨hz0, hz1, hL, hV, hA, hN⟩ := id hR
  refine g_iload_n G 1 dX4_length_0 rfl ?_
  refine g_if_lt G 21 dX4_length_1 (by decide) (by omega) (fun c1 => ?_) (fun c1 => ?_)
  · refine g_iconst G dX4_length_21 ?_
    exact g_ret G (some (.int (iI 0))) rfl dX4_length_22 (Nat.le_refl _) (Nat.le_refl _) ⟨0, rfl, rfl, by first | rfl | (rw [if_pos (by omega)]; done) | (rw [if_neg (by omega)]; done) | (rw [if_pos (by omega)]; omega) | (rw [if_neg (by omega)]; omega) | omega⟩
  · refine g_iload_n G 1 dX4_length_4 rfl ?_
    refine g_aload_n G 0 dX4_length_5 rfl ?_
    refine g_get G 0 4 dX4_length_6 i_X4_length_X4 f_X4_length_24 rfl rfl (by decide) rfl ?_
    refine g_icmp_ge G 21 dX4_length_9 (by decide) (by omega) (by omega) (fun c9 => ?_) (fun c9 => ?_)
    · refine g_iconst G dX4_length_21 ?_
      exact g_ret G (some (.int (iI 0))) rfl dX4_length_22 (Nat.le_refl _) (Nat.le_refl _) ⟨0, rfl, rfl, by first | rfl | (rw [if_pos (by omega)]; done) | (rw [if_neg (by omega)]; done) | (rw [if_pos (by omega)]; omega) | (rw [if_neg (by omega)]; omega) | omega⟩
    · refine g_aload_n G 0 dX4_length_12 rfl ?_
      refine g_get G 0 0 dX4_length_13 i_X4_length_X4 f_X4_length_9 rfl rfl (by decide) rfl ?_
      refine g_iload_n G 1 dX4_length_16 rfl ?_
      refine g_iald G 1 dX4_length_17 rfl (by omega) (by omega) (by decide) ?_
      have b1 := hL x
      refine g_goto G 22 dX4_length_18 (by decide) ?_
      exact g_ret G (some (.int (iI (L x)))) rfl dX4_length_22 (Nat.le_refl _) (Nat.le_refl _) ⟨(L x), rfl, rfl, by first | rfl | (rw [if_pos (by omega)]; done) | (rw [if_neg (by omega)]; done) | (rw [if_pos (by omega)]; omega) | (rw [if_neg (by omega)]; omega) | omega⟩
theorem f_X4_verbAt_15 : Cond.fieldLink RX4 15 (TX4 1).1 (TX4 1).2.1 (TX4 1).2.2.1 ∈ wsX4_verbAt := by decide +kernel
theorem i_X4_verbAt_X4 : ∀ w ∈ wsX40, w ∈ wsX4_verbAt := by decide +kernel
set_option maxRecDepth 100000 in
set_option maxHeartbeats 4000000 in
theorem c_X4_verbAt (E : qE) (q0 : Nat) (q1 : Nat) (q2 : Nat) (q3 : Nat) (q4 : Nat) (L : Int → Int) (V : Int → Int) (A : Int → Int) (N : Int → Int) (z : Int) (x : Int) (y : Int) (h : 0 ≤ x * 12 + y ∧ x * 12 + y < 96) : Cn E yX4_verbAt wsX4_verbAt { frames := 0, cells := 0, slots := 0, locals := 0 } [.ref q0, .int (iI x), .int (iI y)] [(q0, .inr (4, [.ref q1, .ref q2, .ref q3, .ref q4, .int (iI z)])), (q1, ia E 8 L), (q2, ia E 96 V), (q3, ia E 96 A), (q4, ia E 96 N)] (fun v9 w9 => ∃ (r : Int), v9 = some (.int (iI r)) ∧ w9 = [(q0, .inr (4, [.ref q1, .ref q2, .ref q3, .ref q4, .int (iI z)])), (q1, ia E 8 L), (q2, ia E 96 V), (q3, ia E 96 A), (q4, ia E 96 N)] ∧ r = (V (x * 12 + y))) 0 0 := by
  refine Cn.ofP (own := RX4) (cc := cX4_verbAt) (maxL := 3) (ret := (some .int)) false [(0, .ref q0), (1, .int (iI x)), (2, .int (iI y))] (by decide +kernel) rfl rfl (Nat.le_of_ble_eq_true rfl) rfl (fun h => nomatch h) (fun v w h => by obtain ⟨r, rfl, h9⟩ := h; exact ⟨_, rfl, rfl⟩) ?_
  intro P G
  refine g_aload_n G 0 dX4_verbAt_0 rfl ?_
  refine g_get G 0 1 dX4_verbAt_1 i_X4_verbAt_X4 f_X4_verbAt_15 rfl rfl (by decide) rfl ?_
  refine g_iload_n G 1 dX4_verbAt_4 rfl ?_
  refine g_bipush G dX4_verbAt_5 (by decide +kernel) ?_
  refine g_imul G dX4_verbAt_7 ?_
  refine g_iload_n G 2 dX4_verbAt_8 rfl ?_
  refine g_iadd G dX4_verbAt_9 ?_
  refine g_iald G 2 dX4_verbAt_10 rfl (by omega) (by omega) (by decide) ?_
  exact g_ret G (some (.int (iI (V ((x * 12) + y))))) rfl dX4_verbAt_11 (Nat.le_refl _) (Nat.le_refl _) ⟨(V ((x * 12) + y)), rfl, rfl, by first | rfl | omega | (split <;> omega)⟩
theorem f_X4_askAt_18 : Cond.fieldLink RX4 18 (TX4 2).1 (TX4 2).2.1 (TX4 2).2.2.1 ∈ wsX4_askAt := by decide +kernel
theorem i_X4_askAt_X4 : ∀ w ∈ wsX40, w ∈ wsX4_askAt := by decide +kernel
set_option maxRecDepth 100000 in
set_option maxHeartbeats 4000000 in
theorem c_X4_askAt (E : qE) (q0 : Nat) (q1 : Nat) (q2 : Nat) (q3 : Nat) (q4 : Nat) (L : Int → Int) (V : Int → Int) (A : Int → Int) (N : Int → Int) (z : Int) (x : Int) (y : Int) (h : 0 ≤ x * 12 + y ∧ x * 12 + y < 96) : Cn E yX4_askAt wsX4_askAt { frames := 0, cells := 0, slots := 0, locals := 0 } [.ref q0, .int (iI x), .int (iI y)] [(q0, .inr (4, [.ref q1, .ref q2, .ref q3, .ref q4, .int (iI z)])), (q1, ia E 8 L), (q2, ia E 96 V), (q3, ia E 96 A), (q4, ia E 96 N)] (fun v9 w9 => ∃ (r : Int), v9 = some (.int (iI r)) ∧ w9 = [(q0, .inr (4, [.ref q1, .ref q2, .ref q3, .ref q4, .int (iI z)])), (q1, ia E 8 L), (q2, ia E 96 V), (q3, ia E 96 A), (q4, ia E 96 N)] ∧ r = (A (x * 12 + y))) 0 0 := by
  refine Cn.ofP (own := RX4) (cc := cX4_askAt) (maxL := 3) (ret := (some .int)) false [(0, .ref q0), (1, .int (iI x)), (2, .int (iI y))] (by decide +kernel) rfl rfl (Nat.le_of_ble_eq_true rfl) rfl (fun h => nomatch h) (fun v w h => by obtain ⟨r, rfl, h9⟩ := h; exact ⟨_, rfl, rfl⟩) ?_
  intro P G
  refine g_aload_n G 0 dX4_askAt_0 rfl ?_
  refine g_get G 0 2 dX4_askAt_1 i_X4_askAt_X4 f_X4_askAt_18 rfl rfl (by decide) rfl ?_
  refine g_iload_n G 1 dX4_askAt_4 rfl ?_
  refine g_bipush G dX4_askAt_5 (by decide +kernel) ?_
  refine g_imul G dX4_askAt_7 ?_
  refine g_iload_n G 2 dX4_askAt_8 rfl ?_
  refine g_iadd G dX4_askAt_9 ?_
  refine g_iald G 3 dX4_askAt_10 rfl (by omega) (by omega) (by decide) ?_
  exact g_ret G (some (.int (iI (A ((x * 12) + y))))) rfl dX4_askAt_11 (Nat.le_refl _) (Nat.le_refl _) ⟨(A ((x * 12) + y)), rfl, rfl, by first | rfl | omega | (split <;> omega)⟩
theorem f_X4_answerAt_21 : Cond.fieldLink RX4 21 (TX4 3).1 (TX4 3).2.1 (TX4 3).2.2.1 ∈ wsX4_answerAt := by decide +kernel
theorem i_X4_answerAt_X4 : ∀ w ∈ wsX40, w ∈ wsX4_answerAt := by decide +kernel
set_option maxRecDepth 100000 in
set_option maxHeartbeats 4000000 in
theorem c_X4_answerAt (E : qE) (q0 : Nat) (q1 : Nat) (q2 : Nat) (q3 : Nat) (q4 : Nat) (L : Int → Int) (V : Int → Int) (A : Int → Int) (N : Int → Int) (z : Int) (x : Int) (y : Int) (h : 0 ≤ x * 12 + y ∧ x * 12 + y < 96) : Cn E yX4_answerAt wsX4_answerAt { frames := 0, cells := 0, slots := 0, locals := 0 } [.ref q0, .int (iI x), .int (iI y)] [(q0, .inr (4, [.ref q1, .ref q2, .ref q3, .ref q4, .int (iI z)])), (q1, ia E 8 L), (q2, ia E 96 V), (q3, ia E 96 A), (q4, ia E 96 N)] (fun v9 w9 => ∃ (r : Int), v9 = some (.int (iI r)) ∧ w9 = [(q0, .inr (4, [.ref q1, .ref q2, .ref q3, .ref q4, .int (iI z)])), (q1, ia E 8 L), (q2, ia E 96 V), (q3, ia E 96 A), (q4, ia E 96 N)] ∧ r = (N (x * 12 + y))) 0 0 := by
  refine Cn.ofP (own := RX4) (cc := cX4_answerAt) (maxL := 3) (ret := (some .int)) false [(0, .ref q0), (1, .int (iI x)), (2, .int (iI y))] (by decide +kernel) rfl rfl (Nat.le_of_ble_eq_true rfl) rfl (fun h => nomatch h) (fun v w h => by obtain ⟨r, rfl, h9⟩ := h; exact ⟨_, rfl, rfl⟩) ?_
  intro P G
  refine g_aload_n G 0 dX4_answerAt_0 rfl ?_
  refine g_get G 0 3 dX4_answerAt_1 i_X4_answerAt_X4 f_X4_answerAt_21 rfl rfl (by decide) rfl ?_
  refine g_iload_n G 1 dX4_answerAt_4 rfl ?_
  refine g_bipush G dX4_answerAt_5 (by decide +kernel) ?_
  refine g_imul G dX4_answerAt_7 ?_
  refine g_iload_n G 2 dX4_answerAt_8 rfl ?_
  refine g_iadd G dX4_answerAt_9 ?_
  refine g_iald G 4 dX4_answerAt_10 rfl (by omega) (by omega) (by decide) ?_
  exact g_ret G (some (.int (iI (N ((x * 12) + y))))) rfl dX4_answerAt_11 (Nat.le_refl _) (Nat.le_refl _) ⟨(N ((x * 12) + y)), rfl, rfl, by first | rfl | omega | (split <;> omega)⟩
theorem f_X4_open_24 : Cond.fieldLink RX4 24 (TX4 4).1 (TX4 4).2.1 (TX4 4).2.2.1 ∈ wsX4_open := by decide +kernel
theorem i_X4_open_X4 : ∀ w ∈ wsX40, w ∈ wsX4_open := by decide +kernel
theorem f_X4_open_9 : Cond.fieldLink RX4 9 (TX4 0).1 (TX4 0).2.1 (TX4 0).2.2.1 ∈ wsX4_open := by decide +kernel
set_option maxRecDepth 100000 in
set_option maxHeartbeats 4000000 in
theorem c_X4_open (E : qE) (q0 : Nat) (q1 : Nat) (q2 : Nat) (q3 : Nat) (q4 : Nat) (L : Int → Int) (V : Int → Int) (A : Int → Int) (N : Int → Int) (z : Int) (hR : RowsOk L V A N z) : Cn E yX4_open wsX4_open { frames := 0, cells := 0, slots := 0, locals := 0 } [.ref q0] [(q0, .inr (4, [.ref q1, .ref q2, .ref q3, .ref q4, .int (iI z)])), (q1, ia E 8 L), (q2, ia E 96 V), (q3, ia E 96 A), (q4, ia E 96 N)] (fun v9 w9 => ∃ (r : Int) (L' : Int → Int) (z' : Int), v9 = some (.int (iI r)) ∧ w9 = [(q0, .inr (4, [.ref q1, .ref q2, .ref q3, .ref q4, .int (iI z')])), (q1, ia E 8 L'), (q2, ia E 96 V), (q3, ia E 96 A), (q4, ia E 96 N)] ∧ r = (if 8 ≤ z then -1 else z) ∧ L' = (if 8 ≤ z then L else upI L z 0) ∧ z' = (if 8 ≤ z then z else z + 1)) 0 0 := by
  refine Cn.ofP (own := RX4) (cc := cX4_open) (maxL := 1) (ret := (some .int)) false [(0, .ref q0)] (by decide +kernel) rfl rfl (Nat.le_of_ble_eq_true rfl) rfl (fun h => nomatch h) (fun v w h => by obtain ⟨r, L', z', rfl, h9⟩ := h; exact ⟨_, rfl, rfl⟩) ?_
  intro P G
  obtain ⟨hz0, hz1, hL, hV, hA, hN⟩ := id hR
  refine g_aload_n G 0 dX4_open_0 rfl ?_
  refine g_get G 0 4 dX4_open_1 i_X4_open_X4 f_X4_open_24 rfl rfl (by decide) rfl ?_
  refine g_bipush G dX4_open_4 (by decide +kernel) ?_
  refine g_icmp_lt G 11 dX4_open_6 (by decide) (by omega) (by omega) (fun c6 => ?_) (fun c6 => ?_)
  · refine g_aload_n G 0 dX4_open_11 rfl ?_
    refine g_get G 0 0 dX4_open_12 i_X4_open_X4 f_X4_open_9 rfl rfl (by decide) rfl ?_
    refine g_aload_n G 0 dX4_open_15 rfl ?_
    refine g_get G 0 4 dX4_open_16 i_X4_open_X4 f_X4_open_24 rfl rfl (by decide) rfl ?_
    refine g_iconst G dX4_open_19 ?_
    refine g_iast G 1 [(q0, .inr (4, [.ref q1, .ref q2, .ref q3, .ref q4, .int (iI z)])), (q1, ia E 8 (upI L z 0)), (q2, ia E 96 V), (q3, ia E 96 A), (q4, ia E 96 N)] dX4_open_20 rfl (by omega) (by omega) (by decide) rfl ?_
    refine g_aload_n G 0 dX4_open_21 rfl ?_
    refine g_dup G dX4_open_22 rfl ?_
    refine g_get G 0 4 dX4_open_23 i_X4_open_X4 f_X4_open_24 rfl rfl (by decide) rfl ?_
    refine g_iconst G dX4_open_26 ?_
    refine g_iadd G dX4_open_27 ?_
    refine g_put G 0 4 [(q0, .inr (4, [.ref q1, .ref q2, .ref q3, .ref q4, .int (iI (z + 1))])), (q1, ia E 8 (upI L z 0)), (q2, ia E 96 V), (q3, ia E 96 A), (q4, ia E 96 N)] dX4_open_28 i_X4_open_X4 f_X4_open_24 tyX4_ok nmX4 rfl rfl (by decide) rfl rfl rfl rfl (Nat.le_of_ble_eq_true rfl) rfl ?_
    refine g_aload_n G 0 dX4_open_31 rfl ?_
    refine g_get G 0 4 dX4_open_32 i_X4_open_X4 f_X4_open_24 rfl rfl (by decide) rfl ?_
    refine g_iconst G dX4_open_35 ?_
    refine g_isub G dX4_open_36 ?_
    exact g_ret G (some (.int (iI ((z + 1) - 1)))) rfl dX4_open_37 (Nat.le_refl _) (Nat.le_refl _) ⟨((z + 1) - 1), (upI L z 0), (z + 1), rfl, rfl, by first | rfl | (rw [if_pos (by omega)]; done) | (rw [if_neg (by omega)]; done) | (rw [if_pos (by omega)]; omega) | (rw [if_neg (by omega)]; omega) | omega, by first | rfl | (rw [if_pos (by omega)]; done) | (rw [if_neg (by omega)]; done) | (rw [if_pos (by omega)]; omega) | (rw [if_neg (by omega)]; omega) | omega, by first | rfl | (rw [if_pos (by omega)]; done) | (rw [if_neg (by omega)]; done) | (rw [if_pos (by omega)]; omega) | (rw [if_neg (by omega)]; omega) | omega⟩
  · refine g_iconst G dX4_open_9 ?_
    exact g_ret G (some (.int (iI (-1)))) rfl dX4_open_10 (Nat.le_refl _) (Nat.le_refl _) ⟨(-1), L, z, rfl, rfl, by first | rfl | (rw [if_pos (by omega)]; done) | (rw [if_neg (by omega)]; done) | (rw [if_pos (by omega)]; omega) | (rw [if_neg (by omega)]; omega) | omega, by first | rfl | (rw [if_pos (by omega)]; done) | (rw [if_neg (by omega)]; done) | (rw [if_pos (by omega)]; omega) | (rw [if_neg (by omega)]; omega) | omega, by first | rfl | (rw [if_pos (by omega)]; done) | (rw [if_neg (by omega)]; done) | (rw [if_pos (by omega)]; omega) | (rw [if_neg (by omega)]; omega) | omega⟩
theorem e_X4_has : yX4_has.cls ≠ "java/lang/invoke/MethodHandle" ∧ yX4_has.cls ≠ "java/lang/invoke/VarHandle" ∧ (parseMethodDescriptor yX4_has.desc).map (fun d => d.parameters.length) = some 1 := by decide +kernel
theorem f_X4_append_9 : Cond.fieldLink RX4 9 (TX4 0).1 (TX4 0).2.1 (TX4 0).2.2.1 ∈ wsX4_append := by decide +kernel
theorem i_X4_append_X4 : ∀ w ∈ wsX40, w ∈ wsX4_append := by decide +kernel
theorem f_X4_append_15 : Cond.fieldLink RX4 15 (TX4 1).1 (TX4 1).2.1 (TX4 1).2.2.1 ∈ wsX4_append := by decide +kernel
theorem f_X4_append_18 : Cond.fieldLink RX4 18 (TX4 2).1 (TX4 2).2.1 (TX4 2).2.2.1 ∈ wsX4_append := by decide +kernel
theorem f_X4_append_21 : Cond.fieldLink RX4 21 (TX4 3).1 (TX4 3).2.1 (TX4 3).2.2.1 ∈ wsX4_append := by decide +kernel
set_option maxRecDepth 100000 in
set_option maxHeartbeats 4000000 in
theorem c_X4_append (E : qE) (q0 : Nat) (q1 : Nat) (q2 : Nat) (q3 : Nat) (q4 : Nat) (L : Int → Int) (V : Int → Int) (A : Int → Int) (N : Int → Int) (z : Int) (x : Int) (y : Int) (a : Int) (b : Int) (hR : RowsOk L V A N z) (hx : -2147483648 ≤ x ∧ x < 2147483648) : Cn E yX4_append wsX4_append { frames := 1, cells := 0, slots := 0, locals := 21 } [.ref q0, .int (iI x), .int (iI y), .int (iI a), .int (iI b)] [(q0, .inr (4, [.ref q1, .ref q2, .ref q3, .ref q4, .int (iI z)])), (q1, ia E 8 L), (q2, ia E 96 V), (q3, ia E 96 A), (q4, ia E 96 N)] (fun v9 w9 => ∃ (r : Int) (L' : Int → Int) (V' : Int → Int) (A' : Int → Int) (N' : Int → Int), v9 = some (.int (iI r)) ∧ w9 = [(q0, .inr (4, [.ref q1, .ref q2, .ref q3, .ref q4, .int (iI z)])), (q1, ia E 8 L'), (q2, ia E 96 V'), (q3, ia E 96 A'), (q4, ia E 96 N')] ∧ r = (if 0 ≤ x ∧ x < z ∧ L x < 12 then L x else -1) ∧ L' = (if 0 ≤ x ∧ x < z ∧ L x < 12 then upI L x (L x + 1) else L) ∧ V' = (if 0 ≤ x ∧ x < z ∧ L x < 12 then upI V (x * 12 + L x) y else V) ∧ A' = (if 0 ≤ x ∧ x < z ∧ L x < 12 then upI A (x * 12 + L x) a else A) ∧ N' = (if 0 ≤ x ∧ x < z ∧ L x < 12 then upI N (x * 12 + L x) b else N)) 0 0 := by
  refine Cn.ofP (own := RX4) (cc := cX4_append) (maxL := 7) (ret := (some .int)) false [(0, .ref q0), (1, .int (iI x)), (2, .int (iI y)), (3, .int (iI a)), (4, .int (iI b))] (by decide +kernel) rfl rfl (Nat.le_of_ble_eq_true rfl) rfl (fun h => nomatch h) (fun v w h => by obtain ⟨r, L', V', A', N', rfl, h9⟩ := h; exact ⟨_, rfl, rfl⟩) ?_
  intro P G
  obtain ⟨hz0, hz1, hL, hV, hA, hN⟩ := id hR
  refine g_aload_n G 0 dX4_append_0 rfl ?_
  refine g_iload_n G 1 dX4_append_1 rfl ?_
  refine g_callV G [0, 1, 2, 3, 4] [] 5 [] [.int (iI x)] [] (c_X4_has E q0 q1 q2 q3 q4 L V A N z x (by first | assumption | omega) (by first | assumption | omega)) dX4_append_2 gX4_append_X4_has ⟨rfl, ⟨rfl, rfl⟩, e_X4_has, ⟨Nat.le_of_ble_eq_true rfl, Nat.le_of_ble_eq_true rfl⟩, Nat.le_of_ble_eq_true rfl, Nat.le_of_ble_eq_true rfl, Nat.le_of_ble_eq_true rfl⟩ rfl rfl rfl rfl rfl (by decide +kernel) rfl (by decide +kernel) rfl (fun v9 w9 h9 => ?_)
  obtain ⟨o1, rfl, rfl, rfl⟩ := h9
  refine ⟨[(q0, .inr (4, [.ref q1, .ref q2, .ref q3, .ref q4, .int (iI z)])), (q1, ia E 8 L), (q2, ia E 96 V), (q3, ia E 96 A), (q4, ia E 96 N)], ⟨rfl, rfl, rfl, rfl⟩, g_to 0 0 _ _ [.int (iI (if 0 ≤ x ∧ x < z then 1 else 0))] rfl rfl rfl rfl rfl ?_⟩
  refine g_ifb_eq G 19 dX4_append_5 (by decide) (fun c5 => ?_) (fun c5 => ?_)
  · have hL9 := hL x
    refine g_iconst G dX4_append_19 ?_
    exact g_ret G (some (.int (iI (-1)))) rfl dX4_append_20 (Nat.le_refl _) (Nat.le_refl _) ⟨(-1), L, V, A, N, rfl, rfl, by first | (rw [if_pos (by omega)]; done) | (rw [if_neg (by omega)]; done), by first | (rw [if_pos (by omega)]; done) | (rw [if_neg (by omega)]; done), by first | (rw [if_pos (by omega)]; done) | (rw [if_neg (by omega)]; done), by first | (rw [if_pos (by omega)]; done) | (rw [if_neg (by omega)]; done), by first | (rw [if_pos (by omega)]; done) | (rw [if_neg (by omega)]; done)⟩
  · have hx1 := c5
    refine g_aload_n G 0 dX4_append_8 rfl ?_
    refine g_get G 0 0 dX4_append_9 i_X4_append_X4 f_X4_append_9 rfl rfl (by decide) rfl ?_
    refine g_iload_n G 1 dX4_append_12 rfl ?_
    refine g_iald G 1 dX4_append_13 rfl (by omega) (by omega) (by decide) ?_
    have b2 := hL x
    refine g_bipush G dX4_append_14 (by decide +kernel) ?_
    refine g_icmp_lt G 21 dX4_append_16 (by decide) (by omega) (by omega) (fun c16 => ?_) (fun c16 => ?_)
    · refine g_aload_n G 0 dX4_append_21 rfl ?_
      refine g_get G 0 0 dX4_append_22 i_X4_append_X4 f_X4_append_9 rfl rfl (by decide) rfl ?_
      refine g_iload_n G 1 dX4_append_25 rfl ?_
      refine g_iald G 1 dX4_append_26 rfl (by omega) (by omega) (by decide) ?_
      have b3 := hL x
      refine g_istore G [(0, .ref q0), (1, .int (iI x)), (2, .int (iI y)), (3, .int (iI a)), (4, .int (iI b)), (5, .int (iI (L x)))] dX4_append_27 (by decide) rfl rfl ?_
      refine g_iload_n G 1 dX4_append_29 rfl ?_
      refine g_bipush G dX4_append_30 (by decide +kernel) ?_
      refine g_imul G dX4_append_32 ?_
      refine g_iload G 5 dX4_append_33 rfl ?_
      refine g_iadd G dX4_append_35 ?_
      refine g_istore G [(0, .ref q0), (1, .int (iI x)), (2, .int (iI y)), (3, .int (iI a)), (4, .int (iI b)), (5, .int (iI (L x))), (6, .int (iI ((x * 12) + (L x))))] dX4_append_36 (by decide) rfl rfl ?_
      refine g_aload_n G 0 dX4_append_38 rfl ?_
      refine g_get G 0 1 dX4_append_39 i_X4_append_X4 f_X4_append_15 rfl rfl (by decide) rfl ?_
      refine g_iload G 6 dX4_append_42 rfl ?_
      refine g_iload_n G 2 dX4_append_44 rfl ?_
      refine g_iast G 2 [(q0, .inr (4, [.ref q1, .ref q2, .ref q3, .ref q4, .int (iI z)])), (q1, ia E 8 L), (q2, ia E 96 (upI V ((x * 12) + (L x)) y)), (q3, ia E 96 A), (q4, ia E 96 N)] dX4_append_45 rfl (by omega) (by omega) (by decide) rfl ?_
      refine g_aload_n G 0 dX4_append_46 rfl ?_
      refine g_get G 0 2 dX4_append_47 i_X4_append_X4 f_X4_append_18 rfl rfl (by decide) rfl ?_
      refine g_iload G 6 dX4_append_50 rfl ?_
      refine g_iload_n G 3 dX4_append_52 rfl ?_
      refine g_iast G 3 [(q0, .inr (4, [.ref q1, .ref q2, .ref q3, .ref q4, .int (iI z)])), (q1, ia E 8 L), (q2, ia E 96 (upI V ((x * 12) + (L x)) y)), (q3, ia E 96 (upI A ((x * 12) + (L x)) a)), (q4, ia E 96 N)] dX4_append_53 rfl (by omega) (by omega) (by decide) rfl ?_
      refine g_aload_n G 0 dX4_append_54 rfl ?_
      refine g_get G 0 3 dX4_append_55 i_X4_append_X4 f_X4_append_21 rfl rfl (by decide) rfl ?_
      refine g_iload G 6 dX4_append_58 rfl ?_
      refine g_iload G 4 dX4_append_60 rfl ?_
      refine g_iast G 4 [(q0, .inr (4, [.ref q1, .ref q2, .ref q3, .ref q4, .int (iI z)])), (q1, ia E 8 L), (q2, ia E 96 (upI V ((x * 12) + (L x)) y)), (q3, ia E 96 (upI A ((x * 12) + (L x)) a)), (q4, ia E 96 (upI N ((x * 12) + (L x)) b))] dX4_append_62 rfl (by omega) (by omega) (by decide) rfl ?_
      refine g_aload_n G 0 dX4_append_63 rfl ?_
      refine g_get G 0 0 dX4_append_64 i_X4_append_X4 f_X4_append_9 rfl rfl (by decide) rfl ?_
      refine g_iload_n G 1 dX4_append_67 rfl ?_
      refine g_dup2 G dX4_append_68 rfl rfl ?_
      refine g_iald G 1 dX4_append_69 rfl (by omega) (by omega) (by decide) ?_
      have b4 := hL x
      refine g_iconst G dX4_append_70 ?_
      refine g_iadd G dX4_append_71 ?_
      refine g_iast G 1 [(q0, .inr (4, [.ref q1, .ref q2, .ref q3, .ref q4, .int (iI z)])), (q1, ia E 8 (upI L x ((L x) + 1))), (q2, ia E 96 (upI V ((x * 12) + (L x)) y)), (q3, ia E 96 (upI A ((x * 12) + (L x)) a)), (q4, ia E 96 (upI N ((x * 12) + (L x)) b))] dX4_append_72 rfl (by omega) (by omega) (by decide) rfl ?_
      refine g_iload G 5 dX4_append_73 rfl ?_
      exact g_ret G (some (.int (iI (L x)))) rfl dX4_append_75 (Nat.le_refl _) (Nat.le_refl _) ⟨(L x), (upI L x ((L x) + 1)), (upI V ((x * 12) + (L x)) y), (upI A ((x * 12) + (L x)) a), (upI N ((x * 12) + (L x)) b), rfl, rfl, by first | (rw [if_pos (by omega)]; done) | (rw [if_neg (by omega)]; done), by first | (rw [if_pos (by omega)]; done) | (rw [if_neg (by omega)]; done), by first | (rw [if_pos (by omega)]; done) | (rw [if_neg (by omega)]; done), by first | (rw [if_pos (by omega)]; done) | (rw [if_neg (by omega)]; done), by first | (rw [if_pos (by omega)]; done) | (rw [if_neg (by omega)]; done)⟩
    · have hL9 := hL x
      refine g_iconst G dX4_append_19 ?_
      exact g_ret G (some (.int (iI (-1)))) rfl dX4_append_20 (Nat.le_refl _) (Nat.le_refl _) ⟨(-1), L, V, A, N, rfl, rfl, by first | (rw [if_pos (by omega)]; done) | (rw [if_neg (by omega)]; done), by first | (rw [if_pos (by omega)]; done) | (rw [if_neg (by omega)]; done), by first | (rw [if_pos (by omega)]; done) | (rw [if_neg (by omega)]; done), by first | (rw [if_pos (by omega)]; done) | (rw [if_neg (by omega)]; done), by first | (rw [if_pos (by omega)]; done) | (rw [if_neg (by omega)]; done)⟩
theorem f_X4_shorten_9 : Cond.fieldLink RX4 9 (TX4 0).1 (TX4 0).2.1 (TX4 0).2.2.1 ∈ wsX4_shorten := by decide +kernel
theorem i_X4_shorten_X4 : ∀ w ∈ wsX40, w ∈ wsX4_shorten := by decide +kernel
set_option maxRecDepth 100000 in
set_option maxHeartbeats 4000000 in
theorem c_X4_shorten (E : qE) (q0 : Nat) (q1 : Nat) (q2 : Nat) (q3 : Nat) (q4 : Nat) (L : Int → Int) (V : Int → Int) (A : Int → Int) (N : Int → Int) (z : Int) (x : Int) (y : Int) (hR : RowsOk L V A N z) (hx : -2147483648 ≤ x ∧ x < 2147483648) (hy : -2147483648 ≤ y ∧ y < 2147483648) : Cn E yX4_shorten wsX4_shorten { frames := 1, cells := 0, slots := 0, locals := 21 } [.ref q0, .int (iI x), .int (iI y)] [(q0, .inr (4, [.ref q1, .ref q2, .ref q3, .ref q4, .int (iI z)])), (q1, ia E 8 L), (q2, ia E 96 V), (q3, ia E 96 A), (q4, ia E 96 N)] (fun v9 w9 => ∃ (r : Int) (L' : Int → Int), v9 = some (.int (iI r)) ∧ w9 = [(q0, .inr (4, [.ref q1, .ref q2, .ref q3, .ref q4, .int (iI z)])), (q1, ia E 8 L'), (q2, ia E 96 V), (q3, ia E 96 A), (q4, ia E 96 N)] ∧ r = (if 0 ≤ x ∧ x < z ∧ 0 ≤ y ∧ y ≤ L x then 1 else 0) ∧ L' = (if 0 ≤ x ∧ x < z ∧ 0 ≤ y ∧ y ≤ L x then upI L x y else L)) 0 0 := by
  refine Cn.ofP (own := RX4) (cc := cX4_shorten) (maxL := 3) (ret := (some .boolean)) false [(0, .ref q0), (1, .int (iI x)), (2, .int (iI y))] (by decide +kernel) rfl rfl (Nat.le_of_ble_eq_true rfl) rfl (fun h => nomatch h) (fun v w h => by obtain ⟨r, L', rfl, h9⟩ := h; exact ⟨_, rfl, by (refine iI_b01 ?_; first | rw [h9.2] | rw [h9.2.1]); split <;> simp⟩) ?_
  intro P G
  obtain ⟨hz0, hz1, hL, hV, hA, hN⟩ := id hR
  refine g_aload_n G 0 dX4_shorten_0 rfl ?_
  refine g_iload_n G 1 dX4_shorten_1 rfl ?_
  refine g_callV G [0, 1, 2, 3, 4] [] 5 [] [.int (iI x)] [] (c_X4_has E q0 q1 q2 q3 q4 L V A N z x (by first | assumption | omega) (by first | assumption | omega)) dX4_shorten_2 gX4_shorten_X4_has ⟨rfl, ⟨rfl, rfl⟩, e_X4_has, ⟨Nat.le_of_ble_eq_true rfl, Nat.le_of_ble_eq_true rfl⟩, Nat.le_of_ble_eq_true rfl, Nat.le_of_ble_eq_true rfl, Nat.le_of_ble_eq_true rfl⟩ rfl rfl rfl rfl rfl (by decide +kernel) rfl (by decide +kernel) rfl (fun v9 w9 h9 => ?_)
  obtain ⟨o1, rfl, rfl, rfl⟩ := h9
  refine ⟨[(q0, .inr (4, [.ref q1, .ref q2, .ref q3, .ref q4, .int (iI z)])), (q1, ia E 8 L), (q2, ia E 96 V), (q3, ia E 96 A), (q4, ia E 96 N)], ⟨rfl, rfl, rfl, rfl⟩, g_to 0 0 _ _ [.int (iI (if 0 ≤ x ∧ x < z then 1 else 0))] rfl rfl rfl rfl rfl ?_⟩
  refine g_ifb_eq G 22 dX4_shorten_5 (by decide) (fun c5 => ?_) (fun c5 => ?_)
  · refine g_iconst G dX4_shorten_22 ?_
    exact g_ret G (some (.int (iI 0))) rfl dX4_shorten_23 (Nat.le_refl _) (Nat.le_refl _) ⟨0, L, rfl, rfl, by first | (rw [if_pos (by omega)]; done) | (rw [if_neg (by omega)]; done), by first | (rw [if_pos (by omega)]; done) | (rw [if_neg (by omega)]; done)⟩
  · have hx1 := c5
    refine g_iload_n G 2 dX4_shorten_8 rfl ?_
    refine g_if_lt G 22 dX4_shorten_9 (by decide) (by omega) (fun c9 => ?_) (fun c9 => ?_)
    · refine g_iconst G dX4_shorten_22 ?_
      exact g_ret G (some (.int (iI 0))) rfl dX4_shorten_23 (Nat.le_refl _) (Nat.le_refl _) ⟨0, L, rfl, rfl, by first | (rw [if_pos (by omega)]; done) | (rw [if_neg (by omega)]; done), by first | (rw [if_pos (by omega)]; done) | (rw [if_neg (by omega)]; done)⟩
    · refine g_iload_n G 2 dX4_shorten_12 rfl ?_
      refine g_aload_n G 0 dX4_shorten_13 rfl ?_
      refine g_get G 0 0 dX4_shorten_14 i_X4_shorten_X4 f_X4_shorten_9 rfl rfl (by decide) rfl ?_
      refine g_iload_n G 1 dX4_shorten_17 rfl ?_
      refine g_iald G 1 dX4_shorten_18 rfl (by omega) (by omega) (by decide) ?_
      have b2 := hL x
      refine g_icmp_le G 24 dX4_shorten_19 (by decide) (by omega) (by omega) (fun c19 => ?_) (fun c19 => ?_)
      · refine g_aload_n G 0 dX4_shorten_24 rfl ?_
        refine g_get G 0 0 dX4_shorten_25 i_X4_shorten_X4 f_X4_shorten_9 rfl rfl (by decide) rfl ?_
        refine g_iload_n G 1 dX4_shorten_28 rfl ?_
        refine g_iload_n G 2 dX4_shorten_29 rfl ?_
        refine g_iast G 1 [(q0, .inr (4, [.ref q1, .ref q2, .ref q3, .ref q4, .int (iI z)])), (q1, ia E 8 (upI L x y)), (q2, ia E 96 V), (q3, ia E 96 A), (q4, ia E 96 N)] dX4_shorten_30 rfl (by omega) (by omega) (by decide) rfl ?_
        refine g_iconst G dX4_shorten_31 ?_
        exact g_ret G (some (.int (iI 1))) rfl dX4_shorten_32 (Nat.le_refl _) (Nat.le_refl _) ⟨1, (upI L x y), rfl, rfl, by first | (rw [if_pos (by omega)]; done) | (rw [if_neg (by omega)]; done), by first | (rw [if_pos (by omega)]; done) | (rw [if_neg (by omega)]; done)⟩
      · refine g_iconst G dX4_shorten_22 ?_
        exact g_ret G (some (.int (iI 0))) rfl dX4_shorten_23 (Nat.le_refl _) (Nat.le_refl _) ⟨0, L, rfl, rfl, by first | (rw [if_pos (by omega)]; done) | (rw [if_neg (by omega)]; done), by first | (rw [if_pos (by omega)]; done) | (rw [if_neg (by omega)]; done)⟩
theorem f_X4_exchanges_24 : Cond.fieldLink RX4 24 (TX4 4).1 (TX4 4).2.1 (TX4 4).2.2.1 ∈ wsX4_exchanges := by decide +kernel
theorem i_X4_exchanges_X4 : ∀ w ∈ wsX40, w ∈ wsX4_exchanges := by decide +kernel
theorem f_X4_exchanges_9 : Cond.fieldLink RX4 9 (TX4 0).1 (TX4 0).2.1 (TX4 0).2.2.1 ∈ wsX4_exchanges := by decide +kernel
set_option maxRecDepth 100000 in
set_option maxHeartbeats 4000000 in
theorem c_X4_exchanges (E : qE) (q0 : Nat) (q1 : Nat) (q2 : Nat) (q3 : Nat) (q4 : Nat) (L : Int → Int) (V : Int → Int) (A : Int → Int) (N : Int → Int) (z : Int) (hR : RowsOk L V A N z) : Cn E yX4_exchanges wsX4_exchanges { frames := 0, cells := 0, slots := 0, locals := 0 } [.ref q0] [(q0, .inr (4, [.ref q1, .ref q2, .ref q3, .ref q4, .int (iI z)])), (q1, ia E 8 L), (q2, ia E 96 V), (q3, ia E 96 A), (q4, ia E 96 N)] (fun v9 w9 => ∃ (r : Int), v9 = some (.int (iI r)) ∧ w9 = [(q0, .inr (4, [.ref q1, .ref q2, .ref q3, .ref q4, .int (iI z)])), (q1, ia E 8 L), (q2, ia E 96 V), (q3, ia E 96 A), (q4, ia E 96 N)] ∧ r = (sumI L z.toNat)) 0 0 := by
  refine Cn.ofP (own := RX4) (cc := cX4_exchanges) (maxL := 3) (ret := (some .int)) false [(0, .ref q0)] (by decide +kernel) rfl rfl (Nat.le_of_ble_eq_true rfl) rfl (fun h => nomatch h) (fun v w h => by obtain ⟨r, rfl, h9⟩ := h; exact ⟨_, rfl, rfl⟩) ?_
  intro P G
  obtain ⟨hz0, hz1, hL, hV, hA, hN⟩ := id hR
  refine g_iconst G dX4_exchanges_0 ?_
  refine g_istore_n G [(0, .ref q0), (1, .int (iI 0))] dX4_exchanges_1 (by decide) rfl rfl ?_
  refine g_iconst G dX4_exchanges_2 ?_
  refine g_istore_n G [(0, .ref q0), (1, .int (iI 0)), (2, .int (iI 0))] dX4_exchanges_3 (by decide) rfl rfl ?_
  have L4 : ∀ (fuel : Nat), ∀ (i : Int) (t : Int), (0 ≤ i ∧ i ≤ z) → (t = sumI L i.toNat) → (z - i : Int).toNat < fuel → P 0 0 [(q0, .inr (4, [.ref q1, .ref q2, .ref q3, .ref q4, .int (iI z)])), (q1, ia E 8 L), (q2, ia E 96 V), (q3, ia E 96 A), (q4, ia E 96 N)] 4 [(0, .ref q0), (1, .int (iI t)), (2, .int (iI i))] [] := by
    intro fuel
    induction fuel with
    | zero => intro i t hi ht hm; exact absurd hm (Nat.not_lt_zero _)
    | succ fuel ih4 =>
      intro i t hi ht hm
      refine g_iload_n G 2 dX4_exchanges_4 rfl ?_
      refine g_aload_n G 0 dX4_exchanges_5 rfl ?_
      refine g_get G 0 4 dX4_exchanges_6 i_X4_exchanges_X4 f_X4_exchanges_24 rfl rfl (by decide) rfl ?_
      refine g_icmp_ge G 27 dX4_exchanges_9 (by decide) (by omega) (by omega) (fun c9 => ?_) (fun c9 => ?_)
      · refine g_iload_n G 1 dX4_exchanges_27 rfl ?_
        exact g_ret G (some (.int (iI t))) rfl dX4_exchanges_28 (Nat.le_refl _) (Nat.le_refl _) ⟨t, rfl, rfl, by rw [ht, (show i = z by omega)]⟩
      · refine g_iload_n G 1 dX4_exchanges_12 rfl ?_
        refine g_aload_n G 0 dX4_exchanges_13 rfl ?_
        refine g_get G 0 0 dX4_exchanges_14 i_X4_exchanges_X4 f_X4_exchanges_9 rfl rfl (by decide) rfl ?_
        refine g_iload_n G 2 dX4_exchanges_17 rfl ?_
        refine g_iald G 1 dX4_exchanges_18 rfl (by omega) (by omega) (by decide) ?_
        have b1 := hL i
        refine g_iadd G dX4_exchanges_19 ?_
        refine g_istore_n G [(0, .ref q0), (1, .int (iI (t + (L i)))), (2, .int (iI i))] dX4_exchanges_20 (by decide) rfl rfl ?_
        refine g_iinc G 2 [(0, .ref q0), (1, .int (iI (t + (L i)))), (2, .int (iI (i + 1)))] dX4_exchanges_21 rfl (by decide) rfl rfl ?_
        refine g_goto G 4 dX4_exchanges_24 (by decide) ?_
        exact ih4 (i + 1) (t + (L i)) (by first | assumption | omega) (by rw [sumI_up L hi.1, ht]) (by omega)
  exact L4 ((z - 0 : Int).toNat + 1) 0 0 (by first | assumption | omega) (by rfl) (by omega)
theorem f_X4_exchangesOf_24 : Cond.fieldLink RX4 24 (TX4 4).1 (TX4 4).2.1 (TX4 4).2.2.1 ∈ wsX4_exchangesOf := by decide +kernel
theorem i_X4_exchangesOf_X4 : ∀ w ∈ wsX40, w ∈ wsX4_exchangesOf := by decide +kernel
theorem f_X4_exchangesOf_9 : Cond.fieldLink RX4 9 (TX4 0).1 (TX4 0).2.1 (TX4 0).2.2.1 ∈ wsX4_exchangesOf := by decide +kernel
theorem e_X4_verbAt : yX4_verbAt.cls ≠ "java/lang/invoke/MethodHandle" ∧ yX4_verbAt.cls ≠ "java/lang/invoke/VarHandle" ∧ (parseMethodDescriptor yX4_verbAt.desc).map (fun d => d.parameters.length) = some 2 := by decide +kernel
set_option maxRecDepth 100000 in
set_option maxHeartbeats 4000000 in
theorem c_X4_exchangesOf (E : qE) (q0 : Nat) (q1 : Nat) (q2 : Nat) (q3 : Nat) (q4 : Nat) (L : Int → Int) (V : Int → Int) (A : Int → Int) (N : Int → Int) (z : Int) (x : Int) (hR : RowsOk L V A N z) (hx : -2147483648 ≤ x ∧ x < 2147483648) : Cn E yX4_exchangesOf wsX4_exchangesOf { frames := 1, cells := 0, slots := 0, locals := 22 } [.ref q0, .int (iI x)] [(q0, .inr (4, [.ref q1, .ref q2, .ref q3, .ref q4, .int (iI z)])), (q1, ia E 8 L), (q2, ia E 96 V), (q3, ia E 96 A), (q4, ia E 96 N)] (fun v9 w9 => ∃ (r : Int), v9 = some (.int (iI r)) ∧ w9 = [(q0, .inr (4, [.ref q1, .ref q2, .ref q3, .ref q4, .int (iI z)])), (q1, ia E 8 L), (q2, ia E 96 V), (q3, ia E 96 A), (q4, ia E 96 N)] ∧ r = (sumI (fun a => sumI (fun b => if V (a * 12 + b) = x then 1 else 0) (L a).toNat) z.toNat)) 0 0 := by
  refine Cn.ofP (own := RX4) (cc := cX4_exchangesOf) (maxL := 5) (ret := (some .int)) false [(0, .ref q0), (1, .int (iI x))] (by decide +kernel) rfl rfl (Nat.le_of_ble_eq_true rfl) rfl (fun h => nomatch h) (fun v w h => by obtain ⟨r, rfl, h9⟩ := h; exact ⟨_, rfl, rfl⟩) ?_
  intro P G
  obtain ⟨hz0, hz1, hL, hV, hA, hN⟩ := id hR
  refine g_iconst G dX4_exchangesOf_0 ?_
  refine g_istore_n G [(0, .ref q0), (1, .int (iI x)), (2, .int (iI 0))] dX4_exchangesOf_1 (by decide) rfl rfl ?_
  refine g_iconst G dX4_exchangesOf_2 ?_
  refine g_istore_n G [(0, .ref q0), (1, .int (iI x)), (2, .int (iI 0)), (3, .int (iI 0))] dX4_exchangesOf_3 (by decide) rfl rfl ?_
  have L4 : ∀ (fuel : Nat), ∀ (i : Int) (t : Int), (0 ≤ i ∧ i ≤ z) → (t = sumI (fun a => sumI (fun b => if V (a * 12 + b) = x then 1 else 0) (L a).toNat) i.toNat) → (z - i : Int).toNat < fuel → P 0 0 [(q0, .inr (4, [.ref q1, .ref q2, .ref q3, .ref q4, .int (iI z)])), (q1, ia E 8 L), (q2, ia E 96 V), (q3, ia E 96 A), (q4, ia E 96 N)] 4 [(0, .ref q0), (1, .int (iI x)), (2, .int (iI t)), (3, .int (iI i))] [] := by
    intro fuel
    induction fuel with
    | zero => intro i t hi ht hm; exact absurd hm (Nat.not_lt_zero _)
    | succ fuel ih4 =>
      intro i t hi ht hm
      refine g_iload_n G 3 dX4_exchangesOf_4 rfl ?_
      refine g_aload_n G 0 dX4_exchangesOf_5 rfl ?_
      refine g_get G 0 4 dX4_exchangesOf_6 i_X4_exchangesOf_X4 f_X4_exchangesOf_24 rfl rfl (by decide) rfl ?_
      refine g_icmp_ge G 57 dX4_exchangesOf_9 (by decide) (by omega) (by omega) (fun c9 => ?_) (fun c9 => ?_)
      · refine g_iload_n G 2 dX4_exchangesOf_57 rfl ?_
        exact g_ret G (some (.int (iI t))) rfl dX4_exchangesOf_58 (Nat.le_refl _) (Nat.le_refl _) ⟨t, rfl, rfl, by rw [ht, (show i = z by omega)]⟩
      · have hLi := hL i
        refine g_iconst G dX4_exchangesOf_12 ?_
        refine g_istore G [(0, .ref q0), (1, .int (iI x)), (2, .int (iI t)), (3, .int (iI i)), (4, .int (iI 0))] dX4_exchangesOf_13 (by decide) rfl rfl ?_
        have L15 : ∀ (fuel : Nat), ∀ (j : Int) (u : Int), (0 ≤ j ∧ j ≤ L i) → (u = t + sumI (fun b => if V (i * 12 + b) = x then 1 else 0) j.toNat) → (L i - j : Int).toNat < fuel → P 0 0 [(q0, .inr (4, [.ref q1, .ref q2, .ref q3, .ref q4, .int (iI z)])), (q1, ia E 8 L), (q2, ia E 96 V), (q3, ia E 96 A), (q4, ia E 96 N)] 15 [(0, .ref q0), (1, .int (iI x)), (2, .int (iI u)), (3, .int (iI i)), (4, .int (iI j))] [] := by
          intro fuel
          induction fuel with
          | zero => intro j u hj ht2 hm; exact absurd hm (Nat.not_lt_zero _)
          | succ fuel ih15 =>
            intro j u hj ht2 hm
            refine g_iload G 4 dX4_exchangesOf_15 rfl ?_
            refine g_aload_n G 0 dX4_exchangesOf_17 rfl ?_
            refine g_get G 0 0 dX4_exchangesOf_18 i_X4_exchangesOf_X4 f_X4_exchangesOf_9 rfl rfl (by decide) rfl ?_
            refine g_iload_n G 3 dX4_exchangesOf_21 rfl ?_
            refine g_iald G 1 dX4_exchangesOf_22 rfl (by omega) (by omega) (by decide) ?_
            have b1 := hL i
            refine g_icmp_ge G 51 dX4_exchangesOf_23 (by decide) (by omega) (by omega) (fun c23 => ?_) (fun c23 => ?_)
            · refine g_iinc G 3 [(0, .ref q0), (1, .int (iI x)), (2, .int (iI u)), (3, .int (iI (i + 1))), (4, .int (iI j))] dX4_exchangesOf_51 rfl (by decide) rfl rfl ?_
              refine g_goto G 4 dX4_exchangesOf_54 (by decide) ?_
              refine g_lv G [0, 1, 2, 3] (lv' := [(0, .ref q0), (1, .int (iI x)), (2, .int (iI u)), (3, .int (iI (i + 1)))]) rfl ?_
              exact ih4 (i + 1) u (by first | assumption | omega) (by rw [sumI_up _ hi.1, ht2, ht, (show j = L i by omega)]) (by omega)
            · refine g_iload_n G 2 dX4_exchangesOf_26 rfl ?_
              refine g_aload_n G 0 dX4_exchangesOf_27 rfl ?_
              refine g_iload_n G 3 dX4_exchangesOf_28 rfl ?_
              refine g_iload G 4 dX4_exchangesOf_29 rfl ?_
              refine g_callV G [0, 1, 2, 3, 4] [] 5 [] [.int (iI i), .int (iI j)] [.int (iI u)] (c_X4_verbAt E q0 q1 q2 q3 q4 L V A N z i j (by first | assumption | omega)) dX4_exchangesOf_31 gX4_exchangesOf_X4_verbAt ⟨rfl, ⟨rfl, rfl⟩, e_X4_verbAt, ⟨Nat.le_of_ble_eq_true rfl, Nat.le_of_ble_eq_true rfl⟩, Nat.le_of_ble_eq_true rfl, Nat.le_of_ble_eq_true rfl, Nat.le_of_ble_eq_true rfl⟩ rfl rfl rfl rfl rfl (by decide +kernel) rfl (by decide +kernel) rfl (fun v9 w9 h9 => ?_)
              obtain ⟨o2, rfl, rfl, rfl⟩ := h9
              have b3 := hV (i * 12 + j)
              refine ⟨[(q0, .inr (4, [.ref q1, .ref q2, .ref q3, .ref q4, .int (iI z)])), (q1, ia E 8 L), (q2, ia E 96 V), (q3, ia E 96 A), (q4, ia E 96 N)], ⟨rfl, rfl, rfl, rfl⟩, g_to 0 0 _ _ [.int (iI (V (i * 12 + j))), .int (iI u)] rfl rfl rfl rfl rfl ?_⟩
              refine g_iload_n G 1 dX4_exchangesOf_34 rfl ?_
              refine g_icmp_ne G 42 dX4_exchangesOf_35 (by decide) (by omega) (by omega) (fun c35 => ?_) (fun c35 => ?_)
              · refine g_iconst G dX4_exchangesOf_42 ?_
                refine g_iadd G dX4_exchangesOf_43 ?_
                refine g_istore_n G [(0, .ref q0), (1, .int (iI x)), (2, .int (iI (u + 0))), (3, .int (iI i)), (4, .int (iI j))] dX4_exchangesOf_44 (by decide) rfl rfl ?_
                refine g_iinc G 4 [(0, .ref q0), (1, .int (iI x)), (2, .int (iI (u + 0))), (3, .int (iI i)), (4, .int (iI (j + 1)))] dX4_exchangesOf_45 rfl (by decide) rfl rfl ?_
                refine g_goto G 15 dX4_exchangesOf_48 (by decide) ?_
                exact ih15 (j + 1) (u + 0) (by first | assumption | omega) (by rw [sumI_up _ hj.1, ht2]; (try dsimp only); first | (rw [if_pos c35]; omega) | (rw [if_neg c35]; omega)) (by omega)
              · refine g_iconst G dX4_exchangesOf_38 ?_
                refine g_goto G 43 dX4_exchangesOf_39 (by decide) ?_
                refine g_iadd G dX4_exchangesOf_43 ?_
                refine g_istore_n G [(0, .ref q0), (1, .int (iI x)), (2, .int (iI (u + 1))), (3, .int (iI i)), (4, .int (iI j))] dX4_exchangesOf_44 (by decide) rfl rfl ?_
                refine g_iinc G 4 [(0, .ref q0), (1, .int (iI x)), (2, .int (iI (u + 1))), (3, .int (iI i)), (4, .int (iI (j + 1)))] dX4_exchangesOf_45 rfl (by decide) rfl rfl ?_
                refine g_goto G 15 dX4_exchangesOf_48 (by decide) ?_
                exact ih15 (j + 1) (u + 1) (by first | assumption | omega) (by rw [sumI_up _ hj.1, ht2]; (try dsimp only); first | (rw [if_pos c35]; omega) | (rw [if_neg c35]; omega)) (by omega)
        exact L15 ((L i - 0 : Int).toNat + 1) 0 t (by first | assumption | omega) (by show _ = _ + 0; omega) (by omega)
  exact L4 ((z - 0 : Int).toNat + 1) 0 0 (by first | assumption | omega) (by rfl) (by omega)
theorem f_X4_quarrelPlace_9 : Cond.fieldLink RX4 9 (TX4 0).1 (TX4 0).2.1 (TX4 0).2.2.1 ∈ wsX4_quarrelPlace := by decide +kernel
theorem i_X4_quarrelPlace_X4 : ∀ w ∈ wsX40, w ∈ wsX4_quarrelPlace := by decide +kernel
theorem e_X4_answerAt : yX4_answerAt.cls ≠ "java/lang/invoke/MethodHandle" ∧ yX4_answerAt.cls ≠ "java/lang/invoke/VarHandle" ∧ (parseMethodDescriptor yX4_answerAt.desc).map (fun d => d.parameters.length) = some 2 := by decide +kernel
theorem e_X9_codeOf : yX9_codeOf.cls ≠ "java/lang/invoke/MethodHandle" ∧ yX9_codeOf.cls ≠ "java/lang/invoke/VarHandle" ∧ (parseMethodDescriptor yX9_codeOf.desc).map (fun d => d.parameters.length) = some 1 := by decide +kernel
set_option maxRecDepth 100000 in
set_option maxHeartbeats 4000000 in
theorem c_X4_quarrelPlace (E : qE) (q0 : Nat) (q1 : Nat) (q2 : Nat) (q3 : Nat) (q4 : Nat) (L : Int → Int) (V : Int → Int) (A : Int → Int) (N : Int → Int) (z : Int) (x : Int) (y : Int) (hR : RowsOk L V A N z) (hx : 0 ≤ x ∧ x < 8) (hy : 0 ≤ y ∧ y < 8) : Cn E yX4_quarrelPlace wsX4_quarrelPlace { frames := 1, cells := 0, slots := 0, locals := 22 } [.ref q0, .int (iI x), .int (iI y)] [(q0, .inr (4, [.ref q1, .ref q2, .ref q3, .ref q4, .int (iI z)])), (q1, ia E 8 L), (q2, ia E 96 V), (q3, ia E 96 A), (q4, ia E 96 N)] (fun v9 w9 => ∃ (r : Int), v9 = some (.int (iI r)) ∧ w9 = [(q0, .inr (4, [.ref q1, .ref q2, .ref q3, .ref q4, .int (iI z)])), (q1, ia E 8 L), (q2, ia E 96 V), (q3, ia E 96 A), (q4, ia E 96 N)] ∧ r = (qpl (fun p => V (x * 12 + p) ≠ V (y * 12 + p)) (fun p => N (x * 12 + p) / 10000 ≠ N (y * 12 + p) / 10000) (min (L x) (L y)).toNat 0)) 0 0 := by
  refine Cn.ofP (own := RX4) (cc := cX4_quarrelPlace) (maxL := 5) (ret := (some .int)) false [(0, .ref q0), (1, .int (iI x)), (2, .int (iI y))] (by decide +kernel) rfl rfl (Nat.le_of_ble_eq_true rfl) rfl (fun h => nomatch h) (fun v w h => by obtain ⟨r, rfl, h9⟩ := h; exact ⟨_, rfl, rfl⟩) ?_
  intro P G
  obtain ⟨hz0, hz1, hL, hV, hA, hN⟩ := id hR
  refine g_aload_n G 0 dX4_quarrelPlace_0 rfl ?_
  refine g_get G 0 0 dX4_quarrelPlace_1 i_X4_quarrelPlace_X4 f_X4_quarrelPlace_9 rfl rfl (by decide) rfl ?_
  refine g_iload_n G 1 dX4_quarrelPlace_4 rfl ?_
  refine g_iald G 1 dX4_quarrelPlace_5 rfl (by omega) (by omega) (by decide) ?_
  have b1 := hL x
  refine g_aload_n G 0 dX4_quarrelPlace_6 rfl ?_
  refine g_get G 0 0 dX4_quarrelPlace_7 i_X4_quarrelPlace_X4 f_X4_quarrelPlace_9 rfl rfl (by decide) rfl ?_
  refine g_iload_n G 2 dX4_quarrelPlace_10 rfl ?_
  refine g_iald G 1 dX4_quarrelPlace_11 rfl (by omega) (by omega) (by decide) ?_
  have b2 := hL y
  obtain ⟨m, hm⟩ : ∃ r : Int, ((L y) < (L x) → r = L y) ∧ ((L x) ≤ (L y) → r = L x) := by by_cases h : (L y) < (L x); exact ⟨L y, by omega⟩; exact ⟨L x, by omega⟩
  refine g_min G m dX4_quarrelPlace_12 (by decide +kernel) (by decide +kernel) (by decide +kernel) (by decide +kernel) (Nat.le_of_ble_eq_true rfl) (Nat.le_of_ble_eq_true rfl) (Nat.le_of_ble_eq_true rfl) (Nat.le_of_ble_eq_true rfl) (by omega) (by omega) hm ?_
  refine g_istore_n G [(0, .ref q0), (1, .int (iI x)), (2, .int (iI y)), (3, .int (iI m))] dX4_quarrelPlace_15 (by decide) rfl rfl ?_
  refine g_iconst G dX4_quarrelPlace_16 ?_
  refine g_istore G [(0, .ref q0), (1, .int (iI x)), (2, .int (iI y)), (3, .int (iI m)), (4, .int (iI 0))] dX4_quarrelPlace_17 (by decide) rfl rfl ?_
  have L19 : ∀ (fuel : Nat), ∀ (p : Int), (0 ≤ p ∧ p ≤ m) → (qpl (fun p => V (x * 12 + p) ≠ V (y * 12 + p)) (fun p => N (x * 12 + p) / 10000 ≠ N (y * 12 + p) / 10000) (min (L x) (L y)).toNat 0 = qpl (fun p => V (x * 12 + p) ≠ V (y * 12 + p)) (fun p => N (x * 12 + p) / 10000 ≠ N (y * 12 + p) / 10000) (m - p).toNat p) → (m - p : Int).toNat < fuel → P 0 0 [(q0, .inr (4, [.ref q1, .ref q2, .ref q3, .ref q4, .int (iI z)])), (q1, ia E 8 L), (q2, ia E 96 V), (q3, ia E 96 A), (q4, ia E 96 N)] 19 [(0, .ref q0), (1, .int (iI x)), (2, .int (iI y)), (3, .int (iI m)), (4, .int (iI p))] [] := by
    intro fuel
    induction fuel with
    | zero => intro p hp hq hm; exact absurd hm (Nat.not_lt_zero _)
    | succ fuel ih19 =>
      intro p hp hq hm
      refine g_iload G 4 dX4_quarrelPlace_19 rfl ?_
      refine g_iload_n G 3 dX4_quarrelPlace_21 rfl ?_
      refine g_icmp_ge G 76 dX4_quarrelPlace_22 (by decide) (by omega) (by omega) (fun c22 => ?_) (fun c22 => ?_)
      · refine g_iconst G dX4_quarrelPlace_76 ?_
        exact g_ret G (some (.int (iI (-1)))) rfl dX4_quarrelPlace_77 (Nat.le_refl _) (Nat.le_refl _) ⟨(-1), rfl, rfl, by rw [hq, (show (m - p).toNat = 0 by omega)]; rfl⟩
      · refine g_aload_n G 0 dX4_quarrelPlace_25 rfl ?_
        refine g_iload_n G 1 dX4_quarrelPlace_26 rfl ?_
        refine g_iload G 4 dX4_quarrelPlace_27 rfl ?_
        refine g_callV G [0, 1, 2, 3, 4] [] 5 [] [.int (iI x), .int (iI p)] [] (c_X4_verbAt E q0 q1 q2 q3 q4 L V A N z x p (by first | assumption | omega)) dX4_quarrelPlace_29 gX4_quarrelPlace_X4_verbAt ⟨rfl, ⟨rfl, rfl⟩, e_X4_verbAt, ⟨Nat.le_of_ble_eq_true rfl, Nat.le_of_ble_eq_true rfl⟩, Nat.le_of_ble_eq_true rfl, Nat.le_of_ble_eq_true rfl, Nat.le_of_ble_eq_true rfl⟩ rfl rfl rfl rfl rfl (by decide +kernel) rfl (by decide +kernel) rfl (fun v9 w9 h9 => ?_)
        obtain ⟨o3, rfl, rfl, rfl⟩ := h9
        have b4 := hV (x * 12 + p)
        refine ⟨[(q0, .inr (4, [.ref q1, .ref q2, .ref q3, .ref q4, .int (iI z)])), (q1, ia E 8 L), (q2, ia E 96 V), (q3, ia E 96 A), (q4, ia E 96 N)], ⟨rfl, rfl, rfl, rfl⟩, g_to 0 0 _ _ [.int (iI (V (x * 12 + p)))] rfl rfl rfl rfl rfl ?_⟩
        refine g_aload_n G 0 dX4_quarrelPlace_32 rfl ?_
        refine g_iload_n G 2 dX4_quarrelPlace_33 rfl ?_
        refine g_iload G 4 dX4_quarrelPlace_34 rfl ?_
        refine g_callV G [0, 1, 2, 3, 4] [] 5 [] [.int (iI y), .int (iI p)] [.int (iI (V (x * 12 + p)))] (c_X4_verbAt E q0 q1 q2 q3 q4 L V A N z y p (by first | assumption | omega)) dX4_quarrelPlace_36 gX4_quarrelPlace_X4_verbAt ⟨rfl, ⟨rfl, rfl⟩, e_X4_verbAt, ⟨Nat.le_of_ble_eq_true rfl, Nat.le_of_ble_eq_true rfl⟩, Nat.le_of_ble_eq_true rfl, Nat.le_of_ble_eq_true rfl, Nat.le_of_ble_eq_true rfl⟩ rfl rfl rfl rfl rfl (by decide +kernel) rfl (by decide +kernel) rfl (fun v9 w9 h9 => ?_)
        obtain ⟨o5, rfl, rfl, rfl⟩ := h9
        have b6 := hV (y * 12 + p)
        refine ⟨[(q0, .inr (4, [.ref q1, .ref q2, .ref q3, .ref q4, .int (iI z)])), (q1, ia E 8 L), (q2, ia E 96 V), (q3, ia E 96 A), (q4, ia E 96 N)], ⟨rfl, rfl, rfl, rfl⟩, g_to 0 0 _ _ [.int (iI (V (y * 12 + p))), .int (iI (V (x * 12 + p)))] rfl rfl rfl rfl rfl ?_⟩
        refine g_icmp_eq G 44 dX4_quarrelPlace_39 (by decide) (by omega) (by omega) (fun c39 => ?_) (fun c39 => ?_)
        · refine g_aload_n G 0 dX4_quarrelPlace_44 rfl ?_
          refine g_iload_n G 1 dX4_quarrelPlace_45 rfl ?_
          refine g_iload G 4 dX4_quarrelPlace_46 rfl ?_
          refine g_callV G [0, 1, 2, 3, 4] [] 5 [] [.int (iI x), .int (iI p)] [] (c_X4_answerAt E q0 q1 q2 q3 q4 L V A N z x p (by first | assumption | omega)) dX4_quarrelPlace_48 gX4_quarrelPlace_X4_answerAt ⟨rfl, ⟨rfl, rfl⟩, e_X4_answerAt, ⟨Nat.le_of_ble_eq_true rfl, Nat.le_of_ble_eq_true rfl⟩, Nat.le_of_ble_eq_true rfl, Nat.le_of_ble_eq_true rfl, Nat.le_of_ble_eq_true rfl⟩ rfl rfl rfl rfl rfl (by decide +kernel) rfl (by decide +kernel) rfl (fun v9 w9 h9 => ?_)
          obtain ⟨o7, rfl, rfl, rfl⟩ := h9
          have b8 := hN (x * 12 + p)
          refine ⟨[(q0, .inr (4, [.ref q1, .ref q2, .ref q3, .ref q4, .int (iI z)])), (q1, ia E 8 L), (q2, ia E 96 V), (q3, ia E 96 A), (q4, ia E 96 N)], ⟨rfl, rfl, rfl, rfl⟩, g_to 0 0 _ _ [.int (iI (N (x * 12 + p)))] rfl rfl rfl rfl rfl ?_⟩
          refine g_callSN (host := RX9) G [] [0, 1, 2, 3, 4] 5 [(q0, .inr (4, [.ref q1, .ref q2, .ref q3, .ref q4, .int (iI z)])), (q1, ia E 8 L), (q2, ia E 96 V), (q3, ia E 96 A), (q4, ia E 96 N)] [.int (iI (N (x * 12 + p)))] [] (c_X9_codeOf E (N (x * 12 + p)) (by first | assumption | omega)) dX4_quarrelPlace_51 gX4_quarrelPlace_X9_codeOf_n44 (by decide +kernel) (by decide +kernel) (by decide +kernel) ⟨rfl, ⟨rfl, rfl⟩, e_X9_codeOf, ⟨Nat.le_of_ble_eq_true rfl, Nat.le_of_ble_eq_true rfl⟩, Nat.le_of_ble_eq_true rfl, Nat.le_of_ble_eq_true rfl, Nat.le_of_ble_eq_true rfl⟩ rfl (by decide +kernel) rfl (by decide +kernel) rfl (fun v9 w9 h9 => ?_)
          obtain ⟨o9, rfl, rfl, rfl⟩ := h9
          refine ⟨[(q0, .inr (4, [.ref q1, .ref q2, .ref q3, .ref q4, .int (iI z)])), (q1, ia E 8 L), (q2, ia E 96 V), (q3, ia E 96 A), (q4, ia E 96 N)], ⟨rfl, rfl, rfl, rfl⟩, g_to 0 0 _ _ [.int (iI ((N (x * 12 + p)) / 10000))] rfl rfl rfl rfl rfl ?_⟩
          refine g_aload_n G 0 dX4_quarrelPlace_54 rfl ?_
          refine g_iload_n G 2 dX4_quarrelPlace_55 rfl ?_
          refine g_iload G 4 dX4_quarrelPlace_56 rfl ?_
          refine g_callV G [0, 1, 2, 3, 4] [] 5 [] [.int (iI y), .int (iI p)] [.int (iI ((N (x * 12 + p)) / 10000))] (c_X4_answerAt E q0 q1 q2 q3 q4 L V A N z y p (by first | assumption | omega)) dX4_quarrelPlace_58 gX4_quarrelPlace_X4_answerAt ⟨rfl, ⟨rfl, rfl⟩, e_X4_answerAt, ⟨Nat.le_of_ble_eq_true rfl, Nat.le_of_ble_eq_true rfl⟩, Nat.le_of_ble_eq_true rfl, Nat.le_of_ble_eq_true rfl, Nat.le_of_ble_eq_true rfl⟩ rfl rfl rfl rfl rfl (by decide +kernel) rfl (by decide +kernel) rfl (fun v9 w9 h9 => ?_)
          obtain ⟨o10, rfl, rfl, rfl⟩ := h9
          have b11 := hN (y * 12 + p)
          refine ⟨[(q0, .inr (4, [.ref q1, .ref q2, .ref q3, .ref q4, .int (iI z)])), (q1, ia E 8 L), (q2, ia E 96 V), (q3, ia E 96 A), (q4, ia E 96 N)], ⟨rfl, rfl, rfl, rfl⟩, g_to 0 0 _ _ [.int (iI (N (y * 12 + p))), .int (iI ((N (x * 12 + p)) / 10000))] rfl rfl rfl rfl rfl ?_⟩
          refine g_callSN (host := RX9) G [] [0, 1, 2, 3, 4] 5 [(q0, .inr (4, [.ref q1, .ref q2, .ref q3, .ref q4, .int (iI z)])), (q1, ia E 8 L), (q2, ia E 96 V), (q3, ia E 96 A), (q4, ia E 96 N)] [.int (iI (N (y * 12 + p)))] [.int (iI ((N (x * 12 + p)) / 10000))] (c_X9_codeOf E (N (y * 12 + p)) (by first | assumption | omega)) dX4_quarrelPlace_61 gX4_quarrelPlace_X9_codeOf_n44 (by decide +kernel) (by decide +kernel) (by decide +kernel) ⟨rfl, ⟨rfl, rfl⟩, e_X9_codeOf, ⟨Nat.le_of_ble_eq_true rfl, Nat.le_of_ble_eq_true rfl⟩, Nat.le_of_ble_eq_true rfl, Nat.le_of_ble_eq_true rfl, Nat.le_of_ble_eq_true rfl⟩ rfl (by decide +kernel) rfl (by decide +kernel) rfl (fun v9 w9 h9 => ?_)
          obtain ⟨o12, rfl, rfl, rfl⟩ := h9
          refine ⟨[(q0, .inr (4, [.ref q1, .ref q2, .ref q3, .ref q4, .int (iI z)])), (q1, ia E 8 L), (q2, ia E 96 V), (q3, ia E 96 A), (q4, ia E 96 N)], ⟨rfl, rfl, rfl, rfl⟩, g_to 0 0 _ _ [.int (iI ((N (y * 12 + p)) / 10000)), .int (iI ((N (x * 12 + p)) / 10000))] rfl rfl rfl rfl rfl ?_⟩
          refine g_icmp_eq G 70 dX4_quarrelPlace_64 (by decide) (by omega) (by omega) (fun c64 => ?_) (fun c64 => ?_)
          · refine g_iinc G 4 [(0, .ref q0), (1, .int (iI x)), (2, .int (iI y)), (3, .int (iI m)), (4, .int (iI (p + 1)))] dX4_quarrelPlace_70 rfl (by decide) rfl rfl ?_
            refine g_goto G 19 dX4_quarrelPlace_73 (by decide) ?_
            exact ih19 (p + 1) (by first | assumption | omega) (by rw [hq, qpl_go _ _ (show p < m by omega) (fun q => q c39) (fun q => q c64)]) (by omega)
          · refine g_iload G 4 dX4_quarrelPlace_67 rfl ?_
            exact g_ret G (some (.int (iI p))) rfl dX4_quarrelPlace_69 (Nat.le_refl _) (Nat.le_refl _) ⟨p, rfl, rfl, by rw [hq, qpl_c _ _ (show p < m by omega) (fun q => q c39) c64]⟩
        · refine g_iconst G dX4_quarrelPlace_42 ?_
          exact g_ret G (some (.int (iI (-1)))) rfl dX4_quarrelPlace_43 (Nat.le_refl _) (Nat.le_refl _) ⟨(-1), rfl, rfl, by rw [hq, qpl_v _ _ (show p < m by omega) c39]⟩
  exact L19 ((m - 0 : Int).toNat + 1) 0 (by first | assumption | omega) (by rw [(show min (L x) (L y) = m by omega), Int.sub_zero]) (by omega)
theorem f_X4_copy_9 : Cond.fieldLink RX4 9 (TX4 0).1 (TX4 0).2.1 (TX4 0).2.2.1 ∈ wsX4_copy := by decide +kernel
theorem i_X4_copy_X4 : ∀ w ∈ wsX40, w ∈ wsX4_copy := by decide +kernel
theorem f_X4_copy_15 : Cond.fieldLink RX4 15 (TX4 1).1 (TX4 1).2.1 (TX4 1).2.2.1 ∈ wsX4_copy := by decide +kernel
theorem f_X4_copy_18 : Cond.fieldLink RX4 18 (TX4 2).1 (TX4 2).2.1 (TX4 2).2.2.1 ∈ wsX4_copy := by decide +kernel
theorem f_X4_copy_21 : Cond.fieldLink RX4 21 (TX4 3).1 (TX4 3).2.1 (TX4 3).2.2.1 ∈ wsX4_copy := by decide +kernel
theorem f_X4_copy_24 : Cond.fieldLink RX4 24 (TX4 4).1 (TX4 4).2.1 (TX4 4).2.2.1 ∈ wsX4_copy := by decide +kernel
set_option maxRecDepth 100000 in
set_option maxHeartbeats 4000000 in
theorem c_X4_copy (E : qE) (q0 : Nat) (q1 : Nat) (q2 : Nat) (q3 : Nat) (q4 : Nat) (L : Int → Int) (V : Int → Int) (A : Int → Int) (N : Int → Int) (z : Int) (u0 : Nat) (u1 : Nat) (u2 : Nat) (u3 : Nat) (u4 : Nat) (L1 : Int → Int) (V1 : Int → Int) (A1 : Int → Int) (N1 : Int → Int) (z1 : Int)  : Cn E yX4_copy wsX4_copy { frames := 1, cells := 0, slots := 0, locals := 18 } [.ref q0, .ref u0] [(q0, .inr (4, [.ref q1, .ref q2, .ref q3, .ref q4, .int (iI z)])), (q1, ia E 8 L), (q2, ia E 96 V), (q3, ia E 96 A), (q4, ia E 96 N), (u0, .inr (4, [.ref u1, .ref u2, .ref u3, .ref u4, .int (iI z1)])), (u1, ia E 8 L1), (u2, ia E 96 V1), (u3, ia E 96 A1), (u4, ia E 96 N1)] (fun v9 w9 => v9 = none ∧ w9 = [(q0, .inr (4, [.ref q1, .ref q2, .ref q3, .ref q4, .int (iI z1)])), (q1, ia E 8 (cpI L1 L 8)), (q2, ia E 96 (cpI V1 V 96)), (q3, ia E 96 (cpI A1 A 96)), (q4, ia E 96 (cpI N1 N 96)), (u0, .inr (4, [.ref u1, .ref u2, .ref u3, .ref u4, .int (iI z1)])), (u1, ia E 8 L1), (u2, ia E 96 V1), (u3, ia E 96 A1), (u4, ia E 96 N1)]) 0 0 := by
  refine Cn.ofP (own := RX4) (cc := cX4_copy) (maxL := 2) (ret := none) false [(0, .ref q0), (1, .ref u0)] (by decide +kernel) rfl rfl (Nat.le_of_ble_eq_true rfl) rfl (fun h => nomatch h) (fun v w h => by obtain ⟨rfl, h9⟩ := h; exact (rfl : (none : Option FieldType) = none)) ?_
  intro P G
  refine g_aload_n G 1 dX4_copy_0 rfl ?_
  refine g_get G 5 0 dX4_copy_1 i_X4_copy_X4 f_X4_copy_9 rfl rfl (by decide) rfl ?_
  refine g_iconst G dX4_copy_4 ?_
  refine g_aload_n G 0 dX4_copy_5 rfl ?_
  refine g_get G 0 0 dX4_copy_6 i_X4_copy_X4 f_X4_copy_9 rfl rfl (by decide) rfl ?_
  refine g_iconst G dX4_copy_9 ?_
  refine g_bipush G dX4_copy_10 (by decide +kernel) ?_
  refine g_copy G 6 1 [(q0, .inr (4, [.ref q1, .ref q2, .ref q3, .ref q4, .int (iI z)])), (q1, ia E 8 (cpI L1 L 8)), (q2, ia E 96 V), (q3, ia E 96 A), (q4, ia E 96 N), (u0, .inr (4, [.ref u1, .ref u2, .ref u3, .ref u4, .int (iI z1)])), (u1, ia E 8 L1), (u2, ia E 96 V1), (u3, ia E 96 A1), (u4, ia E 96 N1)] dX4_copy_12 (by decide +kernel) (by decide +kernel) (by decide +kernel) (by decide +kernel) rfl rfl (by decide) (by decide) (by decide) (by decide) (Nat.le_of_ble_eq_true rfl) (Nat.le_of_ble_eq_true rfl) rfl ?_
  refine g_aload_n G 1 dX4_copy_15 rfl ?_
  refine g_get G 5 1 dX4_copy_16 i_X4_copy_X4 f_X4_copy_15 rfl rfl (by decide) rfl ?_
  refine g_iconst G dX4_copy_19 ?_
  refine g_aload_n G 0 dX4_copy_20 rfl ?_
  refine g_get G 0 1 dX4_copy_21 i_X4_copy_X4 f_X4_copy_15 rfl rfl (by decide) rfl ?_
  refine g_iconst G dX4_copy_24 ?_
  refine g_bipush G dX4_copy_25 (by decide +kernel) ?_
  refine g_copy G 7 2 [(q0, .inr (4, [.ref q1, .ref q2, .ref q3, .ref q4, .int (iI z)])), (q1, ia E 8 (cpI L1 L 8)), (q2, ia E 96 (cpI V1 V 96)), (q3, ia E 96 A), (q4, ia E 96 N), (u0, .inr (4, [.ref u1, .ref u2, .ref u3, .ref u4, .int (iI z1)])), (u1, ia E 8 L1), (u2, ia E 96 V1), (u3, ia E 96 A1), (u4, ia E 96 N1)] dX4_copy_27 (by decide +kernel) (by decide +kernel) (by decide +kernel) (by decide +kernel) rfl rfl (by decide) (by decide) (by decide) (by decide) (Nat.le_of_ble_eq_true rfl) (Nat.le_of_ble_eq_true rfl) rfl ?_
  refine g_aload_n G 1 dX4_copy_30 rfl ?_
  refine g_get G 5 2 dX4_copy_31 i_X4_copy_X4 f_X4_copy_18 rfl rfl (by decide) rfl ?_
  refine g_iconst G dX4_copy_34 ?_
  refine g_aload_n G 0 dX4_copy_35 rfl ?_
  refine g_get G 0 2 dX4_copy_36 i_X4_copy_X4 f_X4_copy_18 rfl rfl (by decide) rfl ?_
  refine g_iconst G dX4_copy_39 ?_
  refine g_bipush G dX4_copy_40 (by decide +kernel) ?_
  refine g_copy G 8 3 [(q0, .inr (4, [.ref q1, .ref q2, .ref q3, .ref q4, .int (iI z)])), (q1, ia E 8 (cpI L1 L 8)), (q2, ia E 96 (cpI V1 V 96)), (q3, ia E 96 (cpI A1 A 96)), (q4, ia E 96 N), (u0, .inr (4, [.ref u1, .ref u2, .ref u3, .ref u4, .int (iI z1)])), (u1, ia E 8 L1), (u2, ia E 96 V1), (u3, ia E 96 A1), (u4, ia E 96 N1)] dX4_copy_42 (by decide +kernel) (by decide +kernel) (by decide +kernel) (by decide +kernel) rfl rfl (by decide) (by decide) (by decide) (by decide) (Nat.le_of_ble_eq_true rfl) (Nat.le_of_ble_eq_true rfl) rfl ?_
  refine g_aload_n G 1 dX4_copy_45 rfl ?_
  refine g_get G 5 3 dX4_copy_46 i_X4_copy_X4 f_X4_copy_21 rfl rfl (by decide) rfl ?_
  refine g_iconst G dX4_copy_49 ?_
  refine g_aload_n G 0 dX4_copy_50 rfl ?_
  refine g_get G 0 3 dX4_copy_51 i_X4_copy_X4 f_X4_copy_21 rfl rfl (by decide) rfl ?_
  refine g_iconst G dX4_copy_54 ?_
  refine g_bipush G dX4_copy_55 (by decide +kernel) ?_
  refine g_copy G 9 4 [(q0, .inr (4, [.ref q1, .ref q2, .ref q3, .ref q4, .int (iI z)])), (q1, ia E 8 (cpI L1 L 8)), (q2, ia E 96 (cpI V1 V 96)), (q3, ia E 96 (cpI A1 A 96)), (q4, ia E 96 (cpI N1 N 96)), (u0, .inr (4, [.ref u1, .ref u2, .ref u3, .ref u4, .int (iI z1)])), (u1, ia E 8 L1), (u2, ia E 96 V1), (u3, ia E 96 A1), (u4, ia E 96 N1)] dX4_copy_57 (by decide +kernel) (by decide +kernel) (by decide +kernel) (by decide +kernel) rfl rfl (by decide) (by decide) (by decide) (by decide) (Nat.le_of_ble_eq_true rfl) (Nat.le_of_ble_eq_true rfl) rfl ?_
  refine g_aload_n G 0 dX4_copy_60 rfl ?_
  refine g_aload_n G 1 dX4_copy_61 rfl ?_
  refine g_get G 5 4 dX4_copy_62 i_X4_copy_X4 f_X4_copy_24 rfl rfl (by decide) rfl ?_
  refine g_put G 0 4 [(q0, .inr (4, [.ref q1, .ref q2, .ref q3, .ref q4, .int (iI z1)])), (q1, ia E 8 (cpI L1 L 8)), (q2, ia E 96 (cpI V1 V 96)), (q3, ia E 96 (cpI A1 A 96)), (q4, ia E 96 (cpI N1 N 96)), (u0, .inr (4, [.ref u1, .ref u2, .ref u3, .ref u4, .int (iI z1)])), (u1, ia E 8 L1), (u2, ia E 96 V1), (u3, ia E 96 A1), (u4, ia E 96 N1)] dX4_copy_65 i_X4_copy_X4 f_X4_copy_24 tyX4_ok nmX4 rfl rfl (by decide) rfl rfl rfl rfl (Nat.le_of_ble_eq_true rfl) rfl ?_
  exact g_ret G none rfl dX4_copy_68 (Nat.le_refl _) (Nat.le_refl _) ⟨rfl, rfl⟩
