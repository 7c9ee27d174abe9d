theorem ltI_bd {g : Int → Int} (hg : ∀ i, -100000 ≤ g i ∧ g i ≤ 100000) (x y : Int) : ∀ n : Nat, -100000 ≤ ltI g x y n ∧ ltI g x y n ≤ 100000
  | 0 => by show -100000 ≤ (-1 : Int) ∧ (-1 : Int) ≤ 100000; omega
  | n + 1 => by
    unfold ltI
    have h := ltI_bd hg x y n
    have h2 := hg (20 + 72 * x + 6 * n + 2)
    split <;> omega
def bsR (g : Int → Int) (v x y : Int) : Int := if v = 0 then 0 else if v = 1 then g (20 + 72 * x + 6 * y + 1) else if v = 2 then g (20 + 72 * x + 6 * y + 2) else if v = 3 then ahI g x y else if ltI g x y y.toNat < 0 then -1000 else ltI g x y y.toNat
/-- rows by rows, places by places, but one row: what is gathered -/
def nP {S : Type} (f : Int → Int → S → S) (r : Int) : Nat → S → S
  | 0, s => s
  | n + 1, s => f r n (nP f r n s)
def nR {S : Type} (f : Int → Int → S → S) (L : Int → Int) (b : Int) : Nat → S → S
  | 0, s => s
  | n + 1, s => if (n : Int) = b then nR f L b n s else nP f n (L n).toNat (nR f L b n s)
theorem nP_up {S : Type} (f : Int → Int → S → S) (r : Int) {j : Int} (h : 0 ≤ j) (s : S) : nP f r (j + 1).toNat s = f r j (nP f r j.toNat s) := by
  rw [(show (j + 1).toNat = j.toNat + 1 by omega)]
  show f r ((j.toNat : Nat) : Int) _ = _
  rw [(show ((j.toNat : Nat) : Int) = j by omega)]
theorem nR_up {S : Type} (f : Int → Int → S → S) (L : Int → Int) (b : Int) {i : Int} (h : 0 ≤ i) (s : S) : nR f L b (i + 1).toNat s = if i = b then nR f L b i.toNat s else nP f i (L i).toNat (nR f L b i.toNat s) := by
  rw [(show (i + 1).toNat = i.toNat + 1 by omega)]
  show (if ((i.toNat : Nat) : Int) = b then _ else nP f ((i.toNat : Nat) : Int) (L ((i.toNat : Nat) : Int)).toNat _) = _
  rw [(show ((i.toNat : Nat) : Int) = i by omega)]
theorem nP_abs {S : Type} (f : Int → Int → S → S) (r : Int) (m : S) (h : ∀ r p, f r p m = m) : ∀ n : Nat, nP f r n m = m
  | 0 => rfl
  | n + 1 => by show f r n (nP f r n m) = m; rw [nP_abs f r m h n, h]
theorem nP_abs2 {S : Type} (f : Int → Int → S → S) (r : Int) (m s : S) (h : ∀ r p, f r p m = m) {a : Nat} (ha : nP f r a s = m) : ∀ k : Nat, nP f r (a + k) s = m
  | 0 => ha
  | k + 1 => by show f r ((a + k : Nat) : Int) (nP f r (a + k) s) = m; rw [nP_abs2 f r m s h ha k, h]
theorem nR_abs2 {S : Type} (f : Int → Int → S → S) (L : Int → Int) (b : Int) (m s : S) (h : ∀ r p, f r p m = m) {a : Nat} (ha : nR f L b a s = m) : ∀ k : Nat, nR f L b (a + k) s = m
  | 0 => ha
  | k + 1 => by
    show (if ((a + k : Nat) : Int) = b then nR f L b (a + k) s else nP f ((a + k : Nat) : Int) (L ((a + k : Nat) : Int)).toNat (nR f L b (a + k) s)) = m
    rw [nR_abs2 f L b m s h ha k]
    split
    · rfl
    · exact nP_abs f _ m h _
/-- an early end: what absorbs all that follows -/
theorem nR_exit {S : Type} (f : Int → Int → S → S) (L : Int → Int) (b : Int) {i j z : Int} {m s0 : S} (hi : 0 ≤ i) (hz : i < z) (hb : i ≠ b) (hj : 0 ≤ j) (hl : j < L i) (hm : nP f i (j + 1).toNat (nR f L b i.toNat s0) = m) (h : ∀ r p, f r p m = m) : nR f L b z.toNat s0 = m := by
  have h1 : nR f L b (i + 1).toNat s0 = m := by
    rw [nR_up f L b hi, if_neg hb, (show (L i).toNat = (j + 1).toNat + (L i - j - 1).toNat by omega)]
    exact nP_abs2 f i m _ h hm _
  rw [(show z.toNat = (i + 1).toNat + (z - i - 1).toNat by omega)]
  exact nR_abs2 f L b m s0 h h1 _
def thI (g : Int → Int) (v b : Int) : Int := nR (fun r p s => if g (20 + 72 * r + 6 * p + 0) = v then 1 else s) (fun r => g (10 + r)) b (g 0).toNat 0
theorem e_X10_ahead : yX10_ahead.cls ≠ "java/lang/invoke/MethodHandle" ∧ yX10_ahead.cls ≠ "java/lang/invoke/VarHandle" ∧ (parseMethodDescriptor yX10_ahead.desc).map (fun d => d.parameters.length) = some 2 := by decide +kernel
theorem e_X10_latest : yX10_latest.cls ≠ "java/lang/invoke/MethodHandle" ∧ yX10_latest.cls ≠ "java/lang/invoke/VarHandle" ∧ (parseMethodDescriptor yX10_latest.desc).map (fun d => d.parameters.length) = some 2 := by decide +kernel
set_option maxRecDepth 100000 in
set_option maxHeartbeats 4000000 in
theorem c_X10_base (E : qE) (q0 : Nat) (q1 : Nat) (q2 : Nat) (q3 : Nat) (q4 : Nat) (q5 : Nat) (q6 : Nat) (q7 : Nat) (q8 : Nat) (q9 : Nat) (q10 : Nat) (q11 : Nat) (c0 : Int) (la : Int) (ch : Int) (us : Int) (g : Int → Int) (v : Int) (x : Int) (y : Int) (hG : AllOk g) (hv : 0 ≤ v ∧ v ≤ 4) (hx : 0 ≤ x ∧ x < 8) (hy : 0 ≤ y ∧ y < 12) : Cn E yX10_base wsX10_base { frames := 2, cells := 0, slots := 0, locals := 47 } [.ref q0, .int (iI v), .int (iI x), .int (iI y)] [(q0, .inr (10, [.ref q1, .ref q2, .ref q3, .int (iI c0), .ref q4, .ref q5, .int (iI la), .ref q6, .ref q7, .ref q8, .ref q9, .ref q10, .ref q11, .int (iI ch), .int (iI us)])), (q1, ia E 5400 g)] (fun v9 w9 => ∃ (r : Int), v9 = some (.int (iI r)) ∧ w9 = [(q0, .inr (10, [.ref q1, .ref q2, .ref q3, .int (iI c0), .ref q4, .ref q5, .int (iI la), .ref q6, .ref q7, .ref q8, .ref q9, .ref q10, .ref q11, .int (iI ch), .int (iI us)])), (q1, ia E 5400 g)] ∧ r = (bsR g v x y)) 0 0 := by
  refine Cn.ofP (own := RX10) (cc := cX10_base) (maxL := 4) (ret := (some .int)) false [(0, .ref q0), (1, .int (iI v)), (2, .int (iI x)), (3, .int (iI y))] (by decide +kernel) rfl rfl (Nat.le_of_ble_eq_true rfl) rfl (fun h => nomatch h) (fun v w h => by obtain ⟨r, rfl, h9⟩ := h; exact ⟨_, rfl, rfl⟩) ?_
  intro P G
  obtain ⟨hg, hg0, hgs⟩ := id hG
  refine g_iload_n G 1 dX10_base_0 rfl ?_
  rcases (show v = 0 ∨ v = 1 ∨ v = 2 ∨ v = 3 ∨ (v < 0 ∨ 3 < v) by omega) with c1 | c1 | c1 | c1 | c1
  · refine g_tsIn G (0) (31) 32 dX10_base_1 c1 (by decide) (by decide) (by decide) rfl (by decide) ?_
    refine g_iconst G dX10_base_32 ?_
    exact g_ret G (some (.int (iI 0))) rfl dX10_base_33 (Nat.le_refl _) (Nat.le_refl _) ⟨0, rfl, rfl, by unfold bsR; first | (rw [if_pos c1]; done) | (rw [if_neg (by omega), if_pos c1]; done) | (rw [if_neg (by omega), if_neg (by omega), if_pos c1]; done) | (rw [if_neg (by omega), if_neg (by omega), if_neg (by omega), if_pos c1]; done) | (rw [if_neg (by omega), if_neg (by omega), if_neg (by omega), if_neg (by omega), if_pos (by omega)]; done) | (rw [if_neg (by omega), if_neg (by omega), if_neg (by omega), if_neg (by omega), if_neg (by omega)])⟩
  · refine g_tsIn G (1) (33) 34 dX10_base_1 c1 (by decide) (by decide) (by decide) rfl (by decide) ?_
    refine g_aload_n G 0 dX10_base_34 rfl ?_
    refine g_iload_n G 2 dX10_base_35 rfl ?_
    refine g_iload_n G 3 dX10_base_36 rfl ?_
    refine g_iconst G dX10_base_37 ?_
    refine g_callV G [0, 1] [] 2 [] [.int (iI x), .int (iI y), .int (iI 1)] [] (c_X10_of E q0 q1 q2 q3 q4 q5 q6 q7 q8 q9 q10 q11 c0 la ch us g x y 1 (by first | assumption | omega) (by first | assumption | omega) (by first | assumption | omega)) dX10_base_38 gX10_base_X10_of ⟨rfl, ⟨rfl, rfl⟩, e_X10_of, ⟨Nat.le_of_ble_eq_true rfl, Nat.le_of_ble_eq_true rfl⟩, Nat.le_of_ble_eq_true rfl, Nat.le_of_ble_eq_true rfl, Nat.le_of_ble_eq_true rfl⟩ rfl rfl rfl rfl rfl (by decide +kernel) rfl (by decide +kernel) rfl (fun v9 w9 h9 => ?_)
    obtain ⟨o1, rfl, rfl, rfl⟩ := h9
    have b2 := hg (20 + 72 * x + 6 * y + 1)
    refine ⟨[(q0, .inr (10, [.ref q1, .ref q2, .ref q3, .int (iI c0), .ref q4, .ref q5, .int (iI la), .ref q6, .ref q7, .ref q8, .ref q9, .ref q10, .ref q11, .int (iI ch), .int (iI us)])), (q1, ia E 5400 g)], ⟨rfl, rfl, rfl, rfl⟩, g_to 0 0 _ _ [.int (iI (g (20 + 72 * x + 6 * y + 1)))] rfl rfl rfl rfl rfl ?_⟩
    exact g_ret G (some (.int (iI (g (20 + 72 * x + 6 * y + 1))))) rfl dX10_base_41 (Nat.le_refl _) (Nat.le_refl _) ⟨(g (20 + 72 * x + 6 * y + 1)), rfl, rfl, by unfold bsR; first | (rw [if_pos c1]; done) | (rw [if_neg (by omega), if_pos c1]; done) | (rw [if_neg (by omega), if_neg (by omega), if_pos c1]; done) | (rw [if_neg (by omega), if_neg (by omega), if_neg (by omega), if_pos c1]; done) | (rw [if_neg (by omega), if_neg (by omega), if_neg (by omega), if_neg (by omega), if_pos (by omega)]; done) | (rw [if_neg (by omega), if_neg (by omega), if_neg (by omega), if_neg (by omega), if_neg (by omega)])⟩
  · refine g_tsIn G (2) (41) 42 dX10_base_1 c1 (by decide) (by decide) (by decide) rfl (by decide) ?_
    refine g_aload_n G 0 dX10_base_42 rfl ?_
    refine g_iload_n G 2 dX10_base_43 rfl ?_
    refine g_iload_n G 3 dX10_base_44 rfl ?_
    refine g_iconst G dX10_base_45 ?_
    refine g_callV G [0, 1] [] 2 [] [.int (iI x), .int (iI y), .int (iI 2)] [] (c_X10_of E q0 q1 q2 q3 q4 q5 q6 q7 q8 q9 q10 q11 c0 la ch us g x y 2 (by first | assumption | omega) (by first | assumption | omega) (by first | assumption | omega)) dX10_base_46 gX10_base_X10_of ⟨rfl, ⟨rfl, rfl⟩, e_X10_of, ⟨Nat.le_of_ble_eq_true rfl, Nat.le_of_ble_eq_true rfl⟩, Nat.le_of_ble_eq_true rfl, Nat.le_of_ble_eq_true rfl, Nat.le_of_ble_eq_true rfl⟩ rfl rfl rfl rfl rfl (by decide +kernel) rfl (by decide +kernel) rfl (fun v9 w9 h9 => ?_)
    obtain ⟨o3, rfl, rfl, rfl⟩ := h9
    have b4 := hg (20 + 72 * x + 6 * y + 2)
    refine ⟨[(q0, .inr (10, [.ref q1, .ref q2, .ref q3, .int (iI c0), .ref q4, .ref q5, .int (iI la), .ref q6, .ref q7, .ref q8, .ref q9, .ref q10, .ref q11, .int (iI ch), .int (iI us)])), (q1, ia E 5400 g)], ⟨rfl, rfl, rfl, rfl⟩, g_to 0 0 _ _ [.int (iI (g (20 + 72 * x + 6 * y + 2)))] rfl rfl rfl rfl rfl ?_⟩
    exact g_ret G (some (.int (iI (g (20 + 72 * x + 6 * y + 2))))) rfl dX10_base_49 (Nat.le_refl _) (Nat.le_refl _) ⟨(g (20 + 72 * x + 6 * y + 2)), rfl, rfl, by unfold bsR; first | (rw [if_pos c1]; done) | (rw [if_neg (by omega), if_pos c1]; done) | (rw [if_neg (by omega), if_neg (by omega), if_pos c1]; done) | (rw [if_neg (by omega), if_neg (by omega), if_neg (by omega), if_pos c1]; done) | (rw [if_neg (by omega), if_neg (by omega), if_neg (by omega), if_neg (by omega), if_pos (by omega)]; done) | (rw [if_neg (by omega), if_neg (by omega), if_neg (by omega), if_neg (by omega), if_neg (by omega)])⟩
  · refine g_tsIn G (3) (49) 50 dX10_base_1 c1 (by decide) (by decide) (by decide) rfl (by decide) ?_
    refine g_aload_n G 0 dX10_base_50 rfl ?_
    refine g_iload_n G 2 dX10_base_51 rfl ?_
    refine g_iload_n G 3 dX10_base_52 rfl ?_
    refine g_callV G [0, 1] [] 2 [] [.int (iI x), .int (iI y)] [] (c_X10_ahead E q0 q1 q2 q3 q4 q5 q6 q7 q8 q9 q10 q11 c0 la ch us g x y (by first | assumption | omega) (by first | assumption | omega) (by first | assumption | omega)) dX10_base_53 gX10_base_X10_ahead ⟨rfl, ⟨rfl, rfl⟩, e_X10_ahead, ⟨Nat.le_of_ble_eq_true rfl, Nat.le_of_ble_eq_true rfl⟩, Nat.le_of_ble_eq_true rfl, Nat.le_of_ble_eq_true rfl, Nat.le_of_ble_eq_true rfl⟩ rfl rfl rfl rfl rfl (by decide +kernel) rfl (by decide +kernel) rfl (fun v9 w9 h9 => ?_)
    obtain ⟨o5, rfl, rfl, rfl⟩ := h9
    refine ⟨[(q0, .inr (10, [.ref q1, .ref q2, .ref q3, .int (iI c0), .ref q4, .ref q5, .int (iI la), .ref q6, .ref q7, .ref q8, .ref q9, .ref q10, .ref q11, .int (iI ch), .int (iI us)])), (q1, ia E 5400 g)], ⟨rfl, rfl, rfl, rfl⟩, g_to 0 0 _ _ [.int (iI (ahI g x y))] rfl rfl rfl rfl rfl ?_⟩
    exact g_ret G (some (.int (iI (ahI g x y)))) rfl dX10_base_56 (Nat.le_refl _) (Nat.le_refl _) ⟨(ahI g x y), rfl, rfl, by unfold bsR; first | (rw [if_pos c1]; done) | (rw [if_neg (by omega), if_pos c1]; done) | (rw [if_neg (by omega), if_neg (by omega), if_pos c1]; done) | (rw [if_neg (by omega), if_neg (by omega), if_neg (by omega), if_pos c1]; done) | (rw [if_neg (by omega), if_neg (by omega), if_neg (by omega), if_neg (by omega), if_pos (by omega)]; done) | (rw [if_neg (by omega), if_neg (by omega), if_neg (by omega), if_neg (by omega), if_neg (by omega)])⟩
  · refine g_tsOut G 57 dX10_base_1 (by omega) c1 (by decide) ?_
    have hlt := ltI_bd hg x y y.toNat
    refine g_aload_n G 0 dX10_base_57 rfl ?_
    refine g_iload_n G 2 dX10_base_58 rfl ?_
    refine g_iload_n G 3 dX10_base_59 rfl ?_
    refine g_callV G [0, 1] [] 2 [] [.int (iI x), .int (iI y)] [] (c_X10_latest E q0 q1 q2 q3 q4 q5 q6 q7 q8 q9 q10 q11 c0 la ch us g x y (by first | assumption | omega) (by first | assumption | omega) (by first | assumption | omega)) dX10_base_60 gX10_base_X10_latest ⟨rfl, ⟨rfl, rfl⟩, e_X10_latest, ⟨Nat.le_of_ble_eq_true rfl, Nat.le_of_ble_eq_true rfl⟩, Nat.le_of_ble_eq_true rfl, Nat.le_of_ble_eq_true rfl, Nat.le_of_ble_eq_true rfl⟩ rfl rfl rfl rfl rfl (by decide +kernel) rfl (by decide +kernel) rfl (fun v9 w9 h9 => ?_)
    obtain ⟨o6, rfl, rfl, rfl⟩ := h9
    refine ⟨[(q0, .inr (10, [.ref q1, .ref q2, .ref q3, .int (iI c0), .ref q4, .ref q5, .int (iI la), .ref q6, .ref q7, .ref q8, .ref q9, .ref q10, .ref q11, .int (iI ch), .int (iI us)])), (q1, ia E 5400 g)], ⟨rfl, rfl, rfl, rfl⟩, g_to 0 0 _ _ [.int (iI (ltI g x y y.toNat))] rfl rfl rfl rfl rfl ?_⟩
    refine g_if_ge G 72 dX10_base_63 (by decide) (by omega) (fun c63 => ?_) (fun c63 => ?_)
    · refine g_aload_n G 0 dX10_base_72 rfl ?_
      refine g_iload_n G 2 dX10_base_73 rfl ?_
      refine g_iload_n G 3 dX10_base_74 rfl ?_
      refine g_callV G [0, 1] [] 2 [] [.int (iI x), .int (iI y)] [] (c_X10_latest E q0 q1 q2 q3 q4 q5 q6 q7 q8 q9 q10 q11 c0 la ch us g x y (by first | assumption | omega) (by first | assumption | omega) (by first | assumption | omega)) dX10_base_75 gX10_base_X10_latest ⟨rfl, ⟨rfl, rfl⟩, e_X10_latest, ⟨Nat.le_of_ble_eq_true rfl, Nat.le_of_ble_eq_true rfl⟩, Nat.le_of_ble_eq_true rfl, Nat.le_of_ble_eq_true rfl, Nat.le_of_ble_eq_true rfl⟩ rfl rfl rfl rfl rfl (by decide +kernel) rfl (by decide +kernel) rfl (fun v9 w9 h9 => ?_)
      obtain ⟨o7, rfl, rfl, rfl⟩ := h9
      refine ⟨[(q0, .inr (10, [.ref q1, .ref q2, .ref q3, .int (iI c0), .ref q4, .ref q5, .int (iI la), .ref q6, .ref q7, .ref q8, .ref q9, .ref q10, .ref q11, .int (iI ch), .int (iI us)])), (q1, ia E 5400 g)], ⟨rfl, rfl, rfl, rfl⟩, g_to 0 0 _ _ [.int (iI (ltI g x y y.toNat))] rfl rfl rfl rfl rfl ?_⟩
      exact g_ret G (some (.int (iI (ltI g x y y.toNat)))) rfl dX10_base_78 (Nat.le_refl _) (Nat.le_refl _) ⟨(ltI g x y y.toNat), rfl, rfl, by unfold bsR; first | (rw [if_pos c1]; done) | (rw [if_neg (by omega), if_pos c1]; done) | (rw [if_neg (by omega), if_neg (by omega), if_pos c1]; done) | (rw [if_neg (by omega), if_neg (by omega), if_neg (by omega), if_pos c1]; done) | (rw [if_neg (by omega), if_neg (by omega), if_neg (by omega), if_neg (by omega), if_pos (by omega)]; done) | (rw [if_neg (by omega), if_neg (by omega), if_neg (by omega), if_neg (by omega), if_neg (by omega)])⟩
    · refine g_sipush G dX10_base_66 (by decide +kernel) ?_
      refine g_goto G 78 dX10_base_69 (by decide) ?_
      exact g_ret G (some (.int (iI (-1000)))) rfl dX10_base_78 (Nat.le_refl _) (Nat.le_refl _) ⟨(-1000), rfl, rfl, by unfold bsR; first | (rw [if_pos c1]; done) | (rw [if_neg (by omega), if_pos c1]; done) | (rw [if_neg (by omega), if_neg (by omega), if_pos c1]; done) | (rw [if_neg (by omega), if_neg (by omega), if_neg (by omega), if_pos c1]; done) | (rw [if_neg (by omega), if_neg (by omega), if_neg (by omega), if_neg (by omega), if_pos (by omega)]; done) | (rw [if_neg (by omega), if_neg (by omega), if_neg (by omega), if_neg (by omega), if_neg (by omega)])⟩
theorem f_X10_isThere_7 : Cond.fieldLink RX10 7 (TX10 0).1 (TX10 0).2.1 (TX10 0).2.2.1 ∈ wsX10_isThere := by decide +kernel
theorem i_X10_isThere_X10 : ∀ w ∈ wsX100, w ∈ wsX10_isThere := by decide +kernel
set_option maxRecDepth 100000 in
set_option maxHeartbeats 4000000 in
theorem c_X10_isThere (E : qE) (q0 : Nat) (q1 : Nat) (q2 : Nat) (q3 : Nat) (q4 : Nat) (q5 : Nat) (q6 : Nat) (q7 : Nat) (q8 : Nat) (q9 : Nat) (q10 : Nat) (q11 : Nat) (c0 : Int) (la : Int) (ch : Int) (us : Int) (g : Int → Int) (v : Int) (b : Int) (hG : AllOk g) (hv : -2147483648 ≤ v ∧ v < 2147483648) (hb : -2147483648 ≤ b ∧ b < 2147483648) : Cn E yX10_isThere wsX10_isThere { frames := 1, cells := 0, slots := 0, locals := 23 } [.ref q0, .int (iI v), .int (iI b)] [(q0, .inr (10, [.ref q1, .ref q2, .ref q3, .int (iI c0), .ref q4, .ref q5, .int (iI la), .ref q6, .ref q7, .ref q8, .ref q9, .ref q10, .ref q11, .int (iI ch), .int (iI us)])), (q1, ia E 5400 g)] (fun v9 w9 => ∃ (r : Int), v9 = some (.int (iI r)) ∧ w9 = [(q0, .inr (10, [.ref q1, .ref q2, .ref q3, .int (iI c0), .ref q4, .ref q5, .int (iI la), .ref q6, .ref q7, .ref q8, .ref q9, .ref q10, .ref q11, .int (iI ch), .int (iI us)])), (q1, ia E 5400 g)] ∧ r = (if thI g v b = 1 then 1 else 0)) 0 0 := by
  refine Cn.ofP (own := RX10) (cc := cX10_isThere) (maxL := 5) (ret := (some .boolean)) false [(0, .ref q0), (1, .int (iI v)), (2, .int (iI b))] (by decide +kernel) rfl rfl (Nat.le_of_ble_eq_true rfl) rfl (fun h => nomatch h) (fun v w h => by obtain ⟨r, rfl, h9⟩ := h; exact ⟨_, rfl, by (refine iI_b01 ?_; first | rw [h9.2] | rw [h9.2.1]); split <;> simp⟩) ?_
  intro P G
  obtain ⟨hg, hg0, hgs⟩ := id hG
  refine g_iconst G dX10_isThere_0 ?_
  refine g_istore_n G [(0, .ref q0), (1, .int (iI v)), (2, .int (iI b)), (3, .int (iI 0))] dX10_isThere_1 (by decide) rfl rfl ?_
  have L2 : ∀ (fuel : Nat), ∀ (i : Int), (0 ≤ i ∧ i ≤ g 0) → (nR (fun r p (s : Int) => if g (20 + 72 * r + 6 * p + 0) = v then 1 else s) (fun r => g (10 + r)) b i.toNat 0 = 0) → (g 0 - i : Int).toNat < fuel → P 0 0 [(q0, .inr (10, [.ref q1, .ref q2, .ref q3, .int (iI c0), .ref q4, .ref q5, .int (iI la), .ref q6, .ref q7, .ref q8, .ref q9, .ref q10, .ref q11, .int (iI ch), .int (iI us)])), (q1, ia E 5400 g)] 2 [(0, .ref q0), (1, .int (iI v)), (2, .int (iI b)), (3, .int (iI i))] [] := by
    intro fuel
    induction fuel with
    | zero => intro i hi ho hm; exact absurd hm (Nat.not_lt_zero _)
    | succ fuel ih2 =>
      intro i hi ho hm
      refine g_iload_n G 3 dX10_isThere_2 rfl ?_
      refine g_aload_n G 0 dX10_isThere_3 rfl ?_
      refine g_get G 0 0 dX10_isThere_4 i_X10_isThere_X10 f_X10_isThere_7 rfl rfl (by decide) rfl ?_
      refine g_iconst G dX10_isThere_7 ?_
      refine g_iald G 1 dX10_isThere_8 rfl (by omega) (by omega) (by decide) ?_
      have b1 := hg 0
      refine g_icmp_ge G 56 dX10_isThere_9 (by decide) (by omega) (by omega) (fun c9 => ?_) (fun c9 => ?_)
      · refine g_iconst G dX10_isThere_56 ?_
        exact g_ret G (some (.int (iI 0))) rfl dX10_isThere_57 (Nat.le_refl _) (Nat.le_refl _) ⟨0, rfl, rfl, by rw [if_neg]; unfold thI; rw [(show g 0 = i by omega), ho]; decide⟩
      · have hgi := hgs i hi.1 (by omega)
        refine g_iconst G dX10_isThere_12 ?_
        refine g_istore G [(0, .ref q0), (1, .int (iI v)), (2, .int (iI b)), (3, .int (iI i)), (4, .int (iI 0))] dX10_isThere_13 (by decide) rfl rfl ?_
        have L15 : ∀ (fuel : Nat), ∀ (j : Int), (0 ≤ j ∧ j ≤ g (10 + i)) → (nP (fun r p (s : Int) => if g (20 + 72 * r + 6 * p + 0) = v then 1 else s) i j.toNat 0 = 0) → (g (10 + i) - j : Int).toNat < fuel → P 0 0 [(q0, .inr (10, [.ref q1, .ref q2, .ref q3, .int (iI c0), .ref q4, .ref q5, .int (iI la), .ref q6, .ref q7, .ref q8, .ref q9, .ref q10, .ref q11, .int (iI ch), .int (iI us)])), (q1, ia E 5400 g)] 15 [(0, .ref q0), (1, .int (iI v)), (2, .int (iI b)), (3, .int (iI i)), (4, .int (iI j))] [] := by
          intro fuel
          induction fuel with
          | zero => intro j hj ho2 hm; exact absurd hm (Nat.not_lt_zero _)
          | succ fuel ih15 =>
            intro j hj ho2 hm
            refine g_iload G 4 dX10_isThere_15 rfl ?_
            refine g_aload_n G 0 dX10_isThere_17 rfl ?_
            refine g_iload_n G 3 dX10_isThere_18 rfl ?_
            refine g_callV G [0, 1] [] 2 [] [.int (iI i)] [.int (iI j)] (c_X10_sizeOf E q0 q1 q2 q3 q4 q5 q6 q7 q8 q9 q10 q11 c0 la ch us g i (by first | assumption | omega)) dX10_isThere_19 gX10_isThere_X10_sizeOf ⟨rfl, ⟨rfl, rfl⟩, e_X10_sizeOf, ⟨Nat.le_of_ble_eq_true rfl, Nat.le_of_ble_eq_true rfl⟩, Nat.le_of_ble_eq_true rfl, Nat.le_of_ble_eq_true rfl, Nat.le_of_ble_eq_true rfl⟩ rfl rfl rfl rfl rfl (by decide +kernel) rfl (by decide +kernel) rfl (fun v9 w9 h9 => ?_)
            obtain ⟨o2, rfl, rfl, rfl⟩ := h9
            have b3 := hg (10 + i)
            refine ⟨[(q0, .inr (10, [.ref q1, .ref q2, .ref q3, .int (iI c0), .ref q4, .ref q5, .int (iI la), .ref q6, .ref q7, .ref q8, .ref q9, .ref q10, .ref q11, .int (iI ch), .int (iI us)])), (q1, ia E 5400 g)], ⟨rfl, rfl, rfl, rfl⟩, g_to 0 0 _ _ [.int (iI (g (10 + i))), .int (iI j)] rfl rfl rfl rfl rfl ?_⟩
            refine g_icmp_ge G 50 dX10_isThere_22 (by decide) (by omega) (by omega) (fun c22 => ?_) (fun c22 => ?_)
            · refine g_iinc G 3 [(0, .ref q0), (1, .int (iI v)), (2, .int (iI b)), (3, .int (iI (i + 1))), (4, .int (iI j))] dX10_isThere_50 rfl (by decide) rfl rfl ?_
              refine g_goto G 2 dX10_isThere_53 (by decide) ?_
              refine g_lv G [0, 1, 2, 3] (lv' := [(0, .ref q0), (1, .int (iI v)), (2, .int (iI b)), (3, .int (iI (i + 1)))]) rfl ?_
              exact ih2 (i + 1) (by first | assumption | omega) (by rw [nR_up _ _ _ hi.1]; by_cases q : i = b; (rw [if_pos q]; exact ho); (rw [if_neg q, ho]; first | exact absurd c27 q | ((try dsimp only); rw [(show g (10 + i) = j by omega)]; exact ho2))) (by omega)
            · refine g_iload_n G 3 dX10_isThere_25 rfl ?_
              refine g_iload_n G 2 dX10_isThere_26 rfl ?_
              refine g_icmp_eq G 50 dX10_isThere_27 (by decide) (by omega) (by omega) (fun c27 => ?_) (fun c27 => ?_)
              · refine g_iinc G 3 [(0, .ref q0), (1, .int (iI v)), (2, .int (iI b)), (3, .int (iI (i + 1))), (4, .int (iI j))] dX10_isThere_50 rfl (by decide) rfl rfl ?_
                refine g_goto G 2 dX10_isThere_53 (by decide) ?_
                refine g_lv G [0, 1, 2, 3] (lv' := [(0, .ref q0), (1, .int (iI v)), (2, .int (iI b)), (3, .int (iI (i + 1)))]) rfl ?_
                exact ih2 (i + 1) (by first | assumption | omega) (by rw [nR_up _ _ _ hi.1]; by_cases q : i = b; (rw [if_pos q]; exact ho); (rw [if_neg q, ho]; first | exact absurd c27 q | ((try dsimp only); rw [(show g (10 + i) = j by omega)]; exact ho2))) (by omega)
              · refine g_aload_n G 0 dX10_isThere_30 rfl ?_
                refine g_iload_n G 3 dX10_isThere_31 rfl ?_
                refine g_iload G 4 dX10_isThere_32 rfl ?_
                refine g_iconst G dX10_isThere_34 ?_
                refine g_callV G [0, 1] [] 2 [] [.int (iI i), .int (iI j), .int (iI 0)] [] (c_X10_of E q0 q1 q2 q3 q4 q5 q6 q7 q8 q9 q10 q11 c0 la ch us g i j 0 (by first | assumption | omega) (by first | assumption | omega) (by first | assumption | omega)) dX10_isThere_35 gX10_isThere_X10_of ⟨rfl, ⟨rfl, rfl⟩, e_X10_of, ⟨Nat.le_of_ble_eq_true rfl, Nat.le_of_ble_eq_true rfl⟩, Nat.le_of_ble_eq_true rfl, Nat.le_of_ble_eq_true rfl, Nat.le_of_ble_eq_true rfl⟩ rfl rfl rfl rfl rfl (by decide +kernel) rfl (by decide +kernel) rfl (fun v9 w9 h9 => ?_)
                obtain ⟨o4, rfl, rfl, rfl⟩ := h9
                have b5 := hg (20 + 72 * i + 6 * j + 0)
                refine ⟨[(q0, .inr (10, [.ref q1, .ref q2, .ref q3, .int (iI c0), .ref q4, .ref q5, .int (iI la), .ref q6, .ref q7, .ref q8, .ref q9, .ref q10, .ref q11, .int (iI ch), .int (iI us)])), (q1, ia E 5400 g)], ⟨rfl, rfl, rfl, rfl⟩, g_to 0 0 _ _ [.int (iI (g (20 + 72 * i + 6 * j + 0)))] rfl rfl rfl rfl rfl ?_⟩
                refine g_iload_n G 1 dX10_isThere_38 rfl ?_
                refine g_icmp_ne G 44 dX10_isThere_39 (by decide) (by omega) (by omega) (fun c39 => ?_) (fun c39 => ?_)
                · refine g_iinc G 4 [(0, .ref q0), (1, .int (iI v)), (2, .int (iI b)), (3, .int (iI i)), (4, .int (iI (j + 1)))] dX10_isThere_44 rfl (by decide) rfl rfl ?_
                  refine g_goto G 15 dX10_isThere_47 (by decide) ?_
                  exact ih15 (j + 1) (by first | assumption | omega) (by rw [nP_up _ _ hj.1, ho2]; exact if_neg c39) (by omega)
                · have e9 : thI g v b = 1 := nR_exit (fun r p (s : Int) => if g (20 + 72 * r + 6 * p + 0) = v then 1 else s) (fun r => g (10 + r)) b hi.1 (by omega) c27 hj.1 (by show j < g (10 + i); omega) (by rw [nP_up _ _ hj.1]; exact if_pos c39) (fun r p => by show (if _ then (1 : Int) else 1) = 1; split <;> rfl)
                  refine g_iconst G dX10_isThere_42 ?_
                  exact g_ret G (some (.int (iI 1))) rfl dX10_isThere_43 (Nat.le_refl _) (Nat.le_refl _) ⟨1, rfl, rfl, by rw [if_pos e9]⟩
        exact L15 ((g (10 + i) - 0 : Int).toNat + 1) 0 (by first | assumption | omega) (by rfl) (by omega)
  exact L2 ((g 0 - 0 : Int).toNat + 1) 0 (by first | assumption | omega) (by rfl) (by omega)
