def tpP (lp : Int → Int) (la : Int) : Int → Int := fun k => if 0 ≤ k ∧ k < la then lp k else 0
def tpV (g lr lp : Int → Int) (la : Int) : Int → Int := fun k => if 0 ≤ k ∧ k < la then g (20 + 72 * lr k + 6 * lp k + 0) else 0
def tpC (g lr lp : Int → Int) (la : Int) : Int → Int := fun k => if 0 ≤ k ∧ k < la then g (20 + 72 * lr k + 6 * lp k + 3) else 0
def TpOk (g lr lp : Int → Int) (la : Int) : Prop := ∀ k, 0 ≤ k ∧ k < la → (0 ≤ lr k ∧ lr k < 8) ∧ (0 ≤ lp k ∧ lp k < 12) ∧ 0 ≤ g (20 + 72 * lr k + 6 * lp k + 0) ∧ g (20 + 72 * lr k + 6 * lp k + 0) < 3
theorem tpV_bd {g lr lp : Int → Int} {la : Int} (h : TpOk g lr lp la) : ∀ i, 0 ≤ tpV g lr lp la i ∧ tpV g lr lp la i < 3 := by
  intro i
  unfold tpV
  split
  · rename_i q; exact (h i q).2.2
  · omega
theorem tp_cel (g lr lp t : Int → Int) {la a : Int} (h0 : 0 ≤ a) (h1 : a < la) : cel (tpP lp la) (tpV g lr lp la) t a.toNat = 3 * stt (tpP lp la) (tpV g lr lp la) t a.toNat + g (20 + 72 * lr a + 6 * lp a + 0) := by
  unfold cel
  rw [(show ((a.toNat : Nat) : Int) = a by omega)]
  congr 1
  exact if_pos ⟨h0, h1⟩
theorem tp_cd (g lr lp : Int → Int) {la a : Int} (h0 : 0 ≤ a) (h1 : a < la) : tpC g lr lp la a = g (20 + 72 * lr a + 6 * lp a + 3) := if_pos ⟨h0, h1⟩
theorem stt_0 {lp vb t : Int → Int} {la a : Int} (h0 : 0 ≤ a) (h1 : a < la) (q : lp a = 0) : stt (tpP lp la) vb t a.toNat = 0 := by
  have e : tpP lp la a = 0 := by unfold tpP; rw [if_pos ⟨h0, h1⟩]; exact q
  cases h : a.toNat with
  | zero => rfl
  | succ k =>
    show (if tpP lp la ((k + 1 : Nat) : Int) = 0 then 0 else _) = _
    rw [(show ((k + 1 : Nat) : Int) = a by omega), if_pos e]
theorem st_ne {lp : Int → Int} {la a s z : Int} (h0 : 0 ≤ a) (h1 : a < la) (q : lp a ≠ 0) (h : a < la.toNat → tpP lp la a = 0 ∨ s = z) : s = z := by
  rcases h (by omega) with y | y
  · unfold tpP at y; rw [if_pos ⟨h0, h1⟩] at y; exact absurd y q
  · exact y
def FdI (ps vb cd : Int → Int) (la : Nat) (n : Int) (t c ac co cs ut : Int → Int) (ch us a s : Int) : Prop :=
  (a = -1 ∧ ∀ τ, ¬ SolP ps vb cd la n τ) ∨ (0 ≤ a ∧ Srch ps vb cd la n t c ac co cs ut ch us a ∧ (a < la → ps a = 0 ∨ s = stt ps vb t a.toNat))
theorem FdI.go {ps vb cd t c ac co cs ut : Int → Int} {la : Nat} {n ch us a s : Int} (h : FdI ps vb cd la n t c ac co cs ut ch us a s) (h0 : 0 ≤ a) : Srch ps vb cd la n t c ac co cs ut ch us a ∧ (a < la → ps a = 0 ∨ s = stt ps vb t a.toNat) := by
  rcases h with h | h
  · omega
  · exact h.2
theorem Stk.neg {ps vb cd t c ac co cs ut : Int → Int} {la : Nat} {n ch m : Int} (h : Stk ps vb cd la n t c ac co cs ut ch) (hm : t m < 0) : t m = -1 := by
  rcases h.2.1 m with q | ⟨j, hj, q⟩
  · exact q
  · have := h.2.2.1 j hj
    rw [q] at this
    omega
/-- a told cell: which choice -/
theorem Stk.told {ps vb cd t c ac co cs ut : Int → Int} {la : Nat} {n ch m : Int} (h : Stk ps vb cd la n t c ac co cs ut ch) (hm : 0 ≤ t m) : ∃ j, (0 ≤ j ∧ j < ch) ∧ co j = m := by
  rcases h.2.1 m with q | q
  · omega
  · exact q
theorem FdI.next {ps vb cd t c ac co cs ut : Int → Int} {la : Nat} {n ch us a m : Int} (h : Srch ps vb cd la n t c ac co cs ut ch us (a + 1)) (h0 : 0 ≤ a) (he : cel ps vb t a.toNat = m) : FdI ps vb cd la n t c ac co cs ut ch us (a + 1) (t m) := by
  refine Or.inr ⟨by omega, h, fun _ => ?_⟩
  by_cases q : ps (a + 1) = 0
  · exact Or.inl q
  · refine Or.inr ?_
    rw [(show (a + 1).toNat = a.toNat + 1 by omega)]
    show _ = (if ps ((a.toNat + 1 : Nat) : Int) = 0 then 0 else t (cel ps vb t a.toNat))
    rw [(show ((a.toNat + 1 : Nat) : Int) = a + 1 by omega), if_neg q, he]
theorem FdI.back {ps vb cd c ac co ut cs t1 cs1 : Int → Int} {la : Nat} {n ch r ch1 us1 : Int} (h : TbR ps vb cd la n c ac co ut cs ch r t1 cs1 ch1 us1) (s : Int) : (r < 0 → FdI ps vb cd la n t1 c ac co cs1 ut ch1 us1 r s) ∧ (0 ≤ r → FdI ps vb cd la n t1 c ac co cs1 ut ch1 us1 r (cs1 (ch1 - 1)) ∧ (0 < ch1 ∧ ch1 ≤ 12) ∧ (0 ≤ cs1 (ch1 - 1) ∧ cs1 (ch1 - 1) < n) ∧ r ≤ la) := by
  rcases h with ⟨h1, h2⟩ | ⟨h1, h2, h3, h4, h5⟩
  · exact ⟨fun _ => Or.inl ⟨h1, h2⟩, fun q => by omega⟩
  · have a1 := h3.1.1
    have a3 := h3.1.2.2.1 (ch1 - 1) (by omega)
    refine ⟨fun q => by omega, fun q => ⟨Or.inr ⟨q, h3, fun _ => ?_⟩, by omega, a3.2.2.1, h1.2⟩⟩
    by_cases z : ps r = 0
    · exact Or.inl z
    · rw [h4, if_neg z]; exact Or.inr rfl
/-- how much is left of a search -/
def MUf (a : Int) (cs : Int → Int) (ch : Int) : Int := if a < 0 then 0 else (16777216 - loN cs ch.toNat) * 200 + (97 - a)
theorem Stk.lo {ps vb cd t c ac co cs ut : Int → Int} {la : Nat} {n ch : Int} (h : Stk ps vb cd la n t c ac co cs ut ch) (hn : n ≤ 4) : 0 ≤ loN cs ch.toNat ∧ loN cs ch.toNat < 16777216 := by
  have a1 := h.1
  have b1 := loN_nn (cs := cs) ch.toNat (fun j hj => (h.2.2.1 j (by omega)).2.2.1.1)
  have b2 := loN_top cs 0 ch.toNat (by omega) (fun j hj => by have := h.2.2.1 j (by omega); omega)
  have e0 : loN cs 0 = 0 := rfl
  have e1 : ((4 ^ (12 - 0) : Nat) : Int) = 16777216 := by decide
  have e2 : 0 < 4 ^ (12 - (0 + ch.toNat)) := Nat.pow_pos (by decide)
  rw [e0, e1, Nat.zero_add] at b2
  rw [Nat.zero_add] at e2
  omega
theorem Stk.bd {ps vb cd t c ac co cs ut : Int → Int} {la : Nat} {n ch : Int} (h : Stk ps vb cd la n t c ac co cs ut ch) (hn : n ≤ 4) (m : Int) : -1 ≤ t m ∧ t m < 4 := by
  rcases h.2.1 m with q | ⟨j, hj, q⟩
  · omega
  · have := h.2.2.1 j hj
    rw [q] at this
    omega
theorem Srch.cel_new {ps vb cd t c ac co cs ut : Int → Int} {la : Nat} {n ch us a m x : Int} (h : Srch ps vb cd la n t c ac co cs ut ch us a) (hm : t m = -1) : cel ps vb (upI t m x) a.toNat = cel ps vb t a.toNat := by
  refine (cel_up (fun k2 hk2 q => ?_)).1
  obtain ⟨j, hj, _, e2, _⟩ := h.2.2.2.1 k2 (by omega)
  have := h.1.2.2.1 j hj
  rw [← e2, q, hm] at this
  omega
theorem TbR.rng {ps vb cd c ac co ut cs t1 cs1 : Int → Int} {la : Nat} {n ch r ch1 us1 : Int} (h : TbR ps vb cd la n c ac co ut cs ch r t1 cs1 ch1 us1) : r = -1 ∨ (0 < r ∧ r ≤ la) := by
  rcases h with h | h
  · exact Or.inl h.1
  · exact Or.inr h.1
theorem TbR.lo {ps vb cd c ac co ut cs t1 cs1 : Int → Int} {la : Nat} {n ch r ch1 us1 : Int} (h : TbR ps vb cd la n c ac co ut cs ch r t1 cs1 ch1 us1) (hn : n ≤ 4) (hr : 0 ≤ r) : loN cs ch.toNat < loN cs1 ch1.toNat ∧ loN cs1 ch1.toNat < 16777216 := by
  rcases h with h | h
  · omega
  · exact ⟨h.2.2.2.2, (Stk.lo h.2.2.1.1 hn).2⟩
theorem loN_push {cs : Int → Int} {ch : Int} (h : 0 ≤ ch) : loN (upI cs ch 0) (ch + 1).toNat = loN cs ch.toNat := by
  rw [(show (ch + 1).toNat = ch.toNat + 1 by omega)]
  show loN (upI cs ch 0) ch.toNat + upI cs ch 0 ((ch.toNat : Nat) : Int) * _ = _
  rw [(show ((ch.toNat : Nat) : Int) = ch by omega), upI_same, Int.zero_mul, Int.add_zero]
  exact loN_cong _ (fun j hj => upI_ne _ _ (by omega))
theorem FdI.init {ps vb cd c ac co cs ut : Int → Int} {la : Nat} {n : Int} (hn : 0 < n) : FdI ps vb cd la n (fun _ => -1) c ac co cs ut 0 1 0 0 := by
  refine Or.inr ⟨Int.le_refl _, ⟨⟨by omega, fun m => Or.inl rfl, fun j hj => by omega, fun i j hi hij hj => by omega, fun j hj => by omega, fun j hj => by omega, fun j hj => by omega⟩, by omega, by omega, fun k hk => by omega, fun j hj => by omega, fun k hk => ?_⟩, fun _ => Or.inr rfl⟩
  have e : k = 0 := by omega
  subst e
  show (0 : Int) ≤ 0 ∧ (0 : Int) < 1
  omega
theorem FdI.no {ps vb cd t c ac co cs ut : Int → Int} {la : Nat} {n ch us a s : Int} (h : FdI ps vb cd la n t c ac co cs ut ch us a s) (ha : a < 0) : ∀ τ, ¬ SolP ps vb cd la n τ := by
  rcases h with h | h
  · exact h.2
  · omega
theorem FdI.yes {ps vb cd t c ac co cs ut : Int → Int} {la : Nat} {n ch us a s : Int} (h : FdI ps vb cd la n t c ac co cs ut ch us a s) (ha : a = la) (h0 : 0 ≤ a) : BestP ps vb cd la n t c := by
  rcases h with h | h
  · omega
  · have := h.2.1; rw [ha] at this; exact Srch.done this
theorem f_X10_finds_99 : Cond.fieldLink RX10 99 (TX10 13).1 (TX10 13).2.1 (TX10 13).2.2.1 ∈ wsX10_finds := by decide +kernel
theorem i_X10_finds_X10 : ∀ w ∈ wsX100, w ∈ wsX10_finds := by decide +kernel
theorem f_X10_finds_102 : Cond.fieldLink RX10 102 (TX10 14).1 (TX10 14).2.1 (TX10 14).2.2.1 ∈ wsX10_finds := by decide +kernel
theorem f_X10_finds_96 : Cond.fieldLink RX10 96 (TX10 6).1 (TX10 6).2.1 (TX10 6).2.2.1 ∈ wsX10_finds := by decide +kernel
theorem f_X10_finds_20 : Cond.fieldLink RX10 20 (TX10 4).1 (TX10 4).2.1 (TX10 4).2.2.1 ∈ wsX10_finds := by decide +kernel
theorem f_X10_finds_23 : Cond.fieldLink RX10 23 (TX10 5).1 (TX10 5).2.1 (TX10 5).2.2.1 ∈ wsX10_finds := by decide +kernel
theorem f_X10_finds_26 : Cond.fieldLink RX10 26 (TX10 7).1 (TX10 7).2.1 (TX10 7).2.2.1 ∈ wsX10_finds := by decide +kernel
theorem f_X10_finds_29 : Cond.fieldLink RX10 29 (TX10 8).1 (TX10 8).2.1 (TX10 8).2.2.1 ∈ wsX10_finds := by decide +kernel
theorem e_X10_turnsBack : yX10_turnsBack.cls ≠ "java/lang/invoke/MethodHandle" ∧ yX10_turnsBack.cls ≠ "java/lang/invoke/VarHandle" ∧ (parseMethodDescriptor yX10_turnsBack.desc).map (fun d => d.parameters.length) = some 1 := by decide +kernel
theorem f_X10_finds_38 : Cond.fieldLink RX10 38 (TX10 11).1 (TX10 11).2.1 (TX10 11).2.2.1 ∈ wsX10_finds := by decide +kernel
theorem f_X10_finds_32 : Cond.fieldLink RX10 32 (TX10 9).1 (TX10 9).2.1 (TX10 9).2.2.1 ∈ wsX10_finds := by decide +kernel
theorem f_X10_finds_35 : Cond.fieldLink RX10 35 (TX10 10).1 (TX10 10).2.1 (TX10 10).2.2.1 ∈ wsX10_finds := by decide +kernel
theorem f_X10_finds_41 : Cond.fieldLink RX10 41 (TX10 12).1 (TX10 12).2.1 (TX10 12).2.2.1 ∈ wsX10_finds := by decide +kernel
set_option maxRecDepth 100000 in
set_option maxHeartbeats 4000000 in
theorem c_X10_finds (E : qE) (q0 : Nat) (q1 : Nat) (q2 : Nat) (q3 : Nat) (q4 : Nat) (q5 : Nat) (q6 : Nat) (q7 : Nat) (q8 : Nat) (q9 : Nat) (q10 : Nat) (q11 : Nat) (c0 : Int) (la : Int) (ch : Int) (us : Int) (g : Int → Int) (lr : Int → Int) (lp : Int → Int) (t : Int → Int) (c : Int → Int) (ac : Int → Int) (co : Int → Int) (cs : Int → Int) (ut : Int → Int) (x : Int) (hG : AllOk g) (hx : 0 < x ∧ x ≤ 4) (hla : 0 < la ∧ la ≤ 96) (hT : TpOk g lr lp la) (hc0 : ∀ i, -100000 ≤ c i ∧ c i ≤ 100000) : Cn E yX10_finds wsX10_finds { frames := 1, cells := 0, slots := 0, locals := 23 } [.ref q0, .int (iI x)] [(q0, .inr (10, [.ref q1, .ref q2, .ref q3, .int (iI c0), .ref q4, .ref q5, .int (iI la), .ref q6, .ref q7, .ref q8, .ref q9, .ref q10, .ref q11, .int (iI ch), .int (iI us)])), (q1, ia E 5400 g), (q4, ia E 96 lr), (q5, ia E 96 lp), (q6, ia E 12 t), (q7, ia E 12 c), (q8, ia E 12 ac), (q9, ia E 12 co), (q10, ia E 12 cs), (q11, ia E 12 ut)] (fun v9 w9 => ∃ (r : Int) (t1 : Int → Int) (c1 : Int → Int) (ac1 : Int → Int) (co1 : Int → Int) (cs1 : Int → Int) (ut1 : Int → Int) (h1 : Int) (u1 : Int), v9 = some (.int (iI r)) ∧ w9 = [(q0, .inr (10, [.ref q1, .ref q2, .ref q3, .int (iI c0), .ref q4, .ref q5, .int (iI la), .ref q6, .ref q7, .ref q8, .ref q9, .ref q10, .ref q11, .int (iI h1), .int (iI u1)])), (q1, ia E 5400 g), (q4, ia E 96 lr), (q5, ia E 96 lp), (q6, ia E 12 t1), (q7, ia E 12 c1), (q8, ia E 12 ac1), (q9, ia E 12 co1), (q10, ia E 12 cs1), (q11, ia E 12 ut1)] ∧ ((r = 1 ∧ BestP (tpP lp la) (tpV g lr lp la) (tpC g lr lp la) la.toNat x t1 c1) ∨ (r = 0 ∧ ∀ τ, ¬ SolP (tpP lp la) (tpV g lr lp la) (tpC g lr lp la) la.toNat x τ)) ∧ (∀ i, -100000 ≤ c1 i ∧ c1 i ≤ 100000)) 0 0 := by
  refine Cn.ofP (own := RX10) (cc := cX10_finds) (maxL := 7) (ret := (some .boolean)) false [(0, .ref q0), (1, .int (iI x))] (by decide +kernel) rfl rfl (Nat.le_of_ble_eq_true rfl) rfl (fun h => nomatch h) (fun v w h => by obtain ⟨r, t1, c1, ac1, co1, cs1, ut1, h1, u1, rfl, h9⟩ := h; exact ⟨_, rfl, by refine iI_b01 ?_; rcases h9.2.1 with h8 | h8; exact Or.inr h8.1; exact Or.inl h8.1⟩) ?_
  intro P G
  obtain ⟨hg, hg0, hgs⟩ := id hG
  have hv := tpV_bd hT
  refine g_iconst G dX10_finds_0 ?_
  refine g_istore_n G [(0, .ref q0), (1, .int (iI x)), (2, .int (iI 0))] dX10_finds_1 (by decide) rfl rfl ?_
  have L2 : ∀ (fuel : Nat), ∀ (i : Int) (U : Int → Int), (0 ≤ i ∧ i ≤ 12) → (U = fiI t i (-1)) → (12 - i : Int).toNat < fuel → P 0 0 [(q0, .inr (10, [.ref q1, .ref q2, .ref q3, .int (iI c0), .ref q4, .ref q5, .int (iI la), .ref q6, .ref q7, .ref q8, .ref q9, .ref q10, .ref q11, .int (iI ch), .int (iI us)])), (q1, ia E 5400 g), (q4, ia E 96 lr), (q5, ia E 96 lp), (q6, ia E 12 U), (q7, ia E 12 c), (q8, ia E 12 ac), (q9, ia E 12 co), (q10, ia E 12 cs), (q11, ia E 12 ut)] 2 [(0, .ref q0), (1, .int (iI x)), (2, .int (iI i))] [] := by
    intro fuel
    induction fuel with
    | zero => intro i U hi hU hm; exact absurd hm (Nat.not_lt_zero _)
    | succ fuel ih2 =>
      intro i U hi hU hm
      refine g_iload_n G 2 dX10_finds_2 rfl ?_
      refine g_bipush G dX10_finds_3 (by decide +kernel) ?_
      refine g_icmp_ge G 21 dX10_finds_5 (by decide) (by omega) (by omega) (fun c5 => ?_) (fun c5 => ?_)
      · refine g_norm G 4 (fun _ => -1) [(q0, .inr (10, [.ref q1, .ref q2, .ref q3, .int (iI c0), .ref q4, .ref q5, .int (iI la), .ref q6, .ref q7, .ref q8, .ref q9, .ref q10, .ref q11, .int (iI ch), .int (iI us)])), (q1, ia E 5400 g), (q4, ia E 96 lr), (q5, ia E 96 lp), (q6, ia E 12 (fun _ => -1)), (q7, ia E 12 c), (q8, ia E 12 ac), (q9, ia E 12 co), (q10, ia E 12 cs), (q11, ia E 12 ut)] rfl (by intro j h0 h1; rw [hU]; unfold fiI; rw [if_pos (by omega)]) rfl ?_
        refine g_aload_n G 0 dX10_finds_21 rfl ?_
        refine g_iconst G dX10_finds_22 ?_
        refine g_put G 0 13 [(q0, .inr (10, [.ref q1, .ref q2, .ref q3, .int (iI c0), .ref q4, .ref q5, .int (iI la), .ref q6, .ref q7, .ref q8, .ref q9, .ref q10, .ref q11, .int (iI 0), .int (iI us)])), (q1, ia E 5400 g), (q4, ia E 96 lr), (q5, ia E 96 lp), (q6, ia E 12 (fun _ => -1)), (q7, ia E 12 c), (q8, ia E 12 ac), (q9, ia E 12 co), (q10, ia E 12 cs), (q11, ia E 12 ut)] dX10_finds_23 i_X10_finds_X10 f_X10_finds_99 tyX10_ok nmX10 rfl rfl (by decide) rfl rfl rfl rfl (Nat.le_of_ble_eq_true rfl) rfl ?_
        refine g_aload_n G 0 dX10_finds_26 rfl ?_
        refine g_iconst G dX10_finds_27 ?_
        refine g_put G 0 14 [(q0, .inr (10, [.ref q1, .ref q2, .ref q3, .int (iI c0), .ref q4, .ref q5, .int (iI la), .ref q6, .ref q7, .ref q8, .ref q9, .ref q10, .ref q11, .int (iI 0), .int (iI 1)])), (q1, ia E 5400 g), (q4, ia E 96 lr), (q5, ia E 96 lp), (q6, ia E 12 (fun _ => -1)), (q7, ia E 12 c), (q8, ia E 12 ac), (q9, ia E 12 co), (q10, ia E 12 cs), (q11, ia E 12 ut)] dX10_finds_28 i_X10_finds_X10 f_X10_finds_102 tyX10_ok nmX10 rfl rfl (by decide) rfl rfl rfl rfl (Nat.le_of_ble_eq_true rfl) rfl ?_
        refine g_iconst G dX10_finds_31 ?_
        refine g_istore_n G [(0, .ref q0), (1, .int (iI x)), (2, .int (iI 0))] dX10_finds_32 (by decide) rfl rfl ?_
        refine g_iconst G dX10_finds_33 ?_
        refine g_istore_n G [(0, .ref q0), (1, .int (iI x)), (2, .int (iI 0)), (3, .int (iI 0))] dX10_finds_34 (by decide) rfl rfl ?_
        have L35 : ∀ (fuel : Nat), ∀ (a : Int) (s : Int) (t1 : Int → Int) (c1 : Int → Int) (ac1 : Int → Int) (co1 : Int → Int) (cs1 : Int → Int) (ut1 : Int → Int) (h1 : Int) (u1 : Int), (-1 ≤ a ∧ a ≤ la) → (0 ≤ s ∧ s < 4) → (∀ i, -100000 ≤ c1 i ∧ c1 i ≤ 100000) → (FdI (tpP lp la) (tpV g lr lp la) (tpC g lr lp la) la.toNat x t1 c1 ac1 co1 cs1 ut1 h1 u1 a s) → (MUf a cs1 h1 : Int).toNat < fuel → P 0 0 [(q0, .inr (10, [.ref q1, .ref q2, .ref q3, .int (iI c0), .ref q4, .ref q5, .int (iI la), .ref q6, .ref q7, .ref q8, .ref q9, .ref q10, .ref q11, .int (iI h1), .int (iI u1)])), (q1, ia E 5400 g), (q4, ia E 96 lr), (q5, ia E 96 lp), (q6, ia E 12 t1), (q7, ia E 12 c1), (q8, ia E 12 ac1), (q9, ia E 12 co1), (q10, ia E 12 cs1), (q11, ia E 12 ut1)] 35 [(0, .ref q0), (1, .int (iI x)), (2, .int (iI a)), (3, .int (iI s))] [] := by
          intro fuel
          induction fuel with
          | zero => intro a s t1 c1 ac1 co1 cs1 ut1 h1 u1 hb hs hc hD hm; exact absurd hm (Nat.not_lt_zero _)
          | succ fuel ih35 =>
            intro a s t1 c1 ac1 co1 cs1 ut1 h1 u1 hb hs hc hD hm
            refine g_iload_n G 2 dX10_finds_35 rfl ?_
            refine g_if_lt G 231 dX10_finds_36 (by decide) (by omega) (fun c36 => ?_) (fun c36 => ?_)
            · refine g_iload_n G 2 dX10_finds_231 rfl ?_
              refine g_if_lt G 239 dX10_finds_232 (by decide) (by omega) (fun c232 => ?_) (fun c232 => ?_)
              · refine g_iconst G dX10_finds_239 ?_
                exact g_ret G (some (.int (iI 0))) rfl dX10_finds_240 (Nat.le_refl _) (Nat.le_refl _) ⟨0, t1, c1, ac1, co1, cs1, ut1, h1, u1, rfl, rfl, by first | exact Or.inr ⟨rfl, hD.no (by omega)⟩ | exact Or.inl ⟨rfl, hD.yes (by omega) (by omega)⟩, by exact hc⟩
              · refine g_iconst G dX10_finds_235 ?_
                refine g_goto G 240 dX10_finds_236 (by decide) ?_
                exact g_ret G (some (.int (iI 1))) rfl dX10_finds_240 (Nat.le_refl _) (Nat.le_refl _) ⟨1, t1, c1, ac1, co1, cs1, ut1, h1, u1, rfl, rfl, by first | exact Or.inr ⟨rfl, hD.no (by omega)⟩ | exact Or.inl ⟨rfl, hD.yes (by omega) (by omega)⟩, by exact hc⟩
            · refine g_iload_n G 2 dX10_finds_39 rfl ?_
              refine g_aload_n G 0 dX10_finds_40 rfl ?_
              refine g_get G 0 6 dX10_finds_41 i_X10_finds_X10 f_X10_finds_96 rfl rfl (by decide) rfl ?_
              refine g_icmp_ge G 231 dX10_finds_44 (by decide) (by omega) (by omega) (fun c44 => ?_) (fun c44 => ?_)
              · refine g_iload_n G 2 dX10_finds_231 rfl ?_
                refine g_if_lt G 239 dX10_finds_232 (by decide) (by omega) (fun c232 => ?_) (fun c232 => ?_)
                · refine g_iconst G dX10_finds_239 ?_
                  exact g_ret G (some (.int (iI 0))) rfl dX10_finds_240 (Nat.le_refl _) (Nat.le_refl _) ⟨0, t1, c1, ac1, co1, cs1, ut1, h1, u1, rfl, rfl, by first | exact Or.inr ⟨rfl, hD.no (by omega)⟩ | exact Or.inl ⟨rfl, hD.yes (by omega) (by omega)⟩, by exact hc⟩
                · refine g_iconst G dX10_finds_235 ?_
                  refine g_goto G 240 dX10_finds_236 (by decide) ?_
                  exact g_ret G (some (.int (iI 1))) rfl dX10_finds_240 (Nat.le_refl _) (Nat.le_refl _) ⟨1, t1, c1, ac1, co1, cs1, ut1, h1, u1, rfl, rfl, by first | exact Or.inr ⟨rfl, hD.no (by omega)⟩ | exact Or.inl ⟨rfl, hD.yes (by omega) (by omega)⟩, by exact hc⟩
              · have hgo := hD.go c36
                obtain ⟨hSr, hst⟩ := hgo
                have hT9 := hT a (by omega)
                have est : lp a = 0 → stt (tpP lp la) (tpV g lr lp la) t1 a.toNat = 0 := fun q => stt_0 (by omega) (by omega) q
                have est2 : lp a ≠ 0 → s = stt (tpP lp la) (tpV g lr lp la) t1 a.toNat := fun q => st_ne (by omega) (by omega) q hst
                have ecl := tp_cel g lr lp t1 (show 0 ≤ a by omega) (show a < la by omega)
                have ecd := tp_cd g lr lp (show 0 ≤ a by omega) (show a < la by omega)
                have hSk := hSr.1
                have hch := hSk.1
                refine g_aload_n G 0 dX10_finds_47 rfl ?_
                refine g_get G 0 4 dX10_finds_48 i_X10_finds_X10 f_X10_finds_20 rfl rfl (by decide) rfl ?_
                refine g_iload_n G 2 dX10_finds_51 rfl ?_
                refine g_iald G 2 dX10_finds_52 rfl (by omega) (by omega) (by decide) ?_
                refine g_istore G [(0, .ref q0), (1, .int (iI x)), (2, .int (iI a)), (3, .int (iI s)), (4, .int (iI (lr a)))] dX10_finds_53 (by decide) rfl rfl ?_
                refine g_aload_n G 0 dX10_finds_55 rfl ?_
                refine g_get G 0 5 dX10_finds_56 i_X10_finds_X10 f_X10_finds_23 rfl rfl (by decide) rfl ?_
                refine g_iload_n G 2 dX10_finds_59 rfl ?_
                refine g_iald G 3 dX10_finds_60 rfl (by omega) (by omega) (by decide) ?_
                refine g_istore G [(0, .ref q0), (1, .int (iI x)), (2, .int (iI a)), (3, .int (iI s)), (4, .int (iI (lr a))), (5, .int (iI (lp a)))] dX10_finds_61 (by decide) rfl rfl ?_
                refine g_iload G 5 dX10_finds_63 rfl ?_
                refine g_if_ne G 70 dX10_finds_65 (by decide) (by omega) (fun c65 => ?_) (fun c65 => ?_)
                · refine g_iconst G dX10_finds_70 ?_
                  refine g_iload_n G 3 dX10_finds_71 rfl ?_
                  refine g_imul G dX10_finds_72 ?_
                  refine g_aload_n G 0 dX10_finds_73 rfl ?_
                  refine g_iload G 4 dX10_finds_74 rfl ?_
                  refine g_iload G 5 dX10_finds_76 rfl ?_
                  refine g_iconst G dX10_finds_78 ?_
                  refine g_callV G [0, 1] [2, 3, 4, 5, 6, 7, 8, 9] 10 [(q4, ia E 96 lr), (q5, ia E 96 lp), (q6, ia E 12 t1), (q7, ia E 12 c1), (q8, ia E 12 ac1), (q9, ia E 12 co1), (q10, ia E 12 cs1), (q11, ia E 12 ut1)] [.int (iI (lr a)), .int (iI (lp a)), .int (iI 0)] [.int (iI (3 * s))] (c_X10_of E q0 q1 q2 q3 q4 q5 q6 q7 q8 q9 q10 q11 c0 la h1 u1 g (lr a) (lp a) 0 (by first | assumption | omega) (by first | assumption | omega) (by first | assumption | omega)) dX10_finds_79 gX10_finds_X10_of ⟨rfl, ⟨rfl, rfl⟩, e_X10_of, ⟨Nat.le_of_ble_eq_true rfl, Nat.le_of_ble_eq_true rfl⟩, Nat.le_of_ble_eq_true rfl, Nat.le_of_ble_eq_true rfl, Nat.le_of_ble_eq_true rfl⟩ rfl rfl rfl rfl rfl (by decide +kernel) rfl (by decide +kernel) rfl (fun v9 w9 h9 => ?_)
                  obtain ⟨o1, rfl, rfl, rfl⟩ := h9
                  have b2 := hg (20 + 72 * (lr a) + 6 * (lp a) + 0)
                  refine ⟨[(q0, .inr (10, [.ref q1, .ref q2, .ref q3, .int (iI c0), .ref q4, .ref q5, .int (iI la), .ref q6, .ref q7, .ref q8, .ref q9, .ref q10, .ref q11, .int (iI h1), .int (iI u1)])), (q1, ia E 5400 g), (q4, ia E 96 lr), (q5, ia E 96 lp), (q6, ia E 12 t1), (q7, ia E 12 c1), (q8, ia E 12 ac1), (q9, ia E 12 co1), (q10, ia E 12 cs1), (q11, ia E 12 ut1)], ⟨rfl, rfl, rfl, rfl⟩, g_to 0 0 _ _ [.int (iI (g (20 + 72 * (lr a) + 6 * (lp a) + 0))), .int (iI (3 * s))] rfl rfl rfl rfl rfl ?_⟩
                  refine g_iadd G dX10_finds_82 ?_
                  refine g_istore G [(0, .ref q0), (1, .int (iI x)), (2, .int (iI a)), (3, .int (iI s)), (4, .int (iI (lr a))), (5, .int (iI (lp a))), (6, .int (iI ((3 * s) + (g (20 + 72 * (lr a) + 6 * (lp a) + 0)))))] dX10_finds_83 (by decide) rfl rfl ?_
                  have em : cel (tpP lp la) (tpV g lr lp la) t1 a.toNat = ((3 * s) + (g (20 + 72 * (lr a) + 6 * (lp a) + 0))) := by rw [ecl]; first | rw [est c65] | rw [← est2 c65]
                  refine g_aload_n G 0 dX10_finds_85 rfl ?_
                  refine g_get G 0 7 dX10_finds_86 i_X10_finds_X10 f_X10_finds_26 rfl rfl (by decide) rfl ?_
                  refine g_iload G 6 dX10_finds_89 rfl ?_
                  refine g_iald G 4 dX10_finds_91 rfl (by omega) (by omega) (by decide) ?_
                  have htb := Stk.bd hSk hx.2 (((3 * s) + (g (20 + 72 * (lr a) + 6 * (lp a) + 0))))
                  refine g_if_ge G 173 dX10_finds_92 (by decide) (by omega) (fun c92 => ?_) (fun c92 => ?_)
                  · refine g_aload_n G 0 dX10_finds_173 rfl ?_
                    refine g_get G 0 8 dX10_finds_174 i_X10_finds_X10 f_X10_finds_29 rfl rfl (by decide) rfl ?_
                    refine g_iload G 6 dX10_finds_177 rfl ?_
                    refine g_iald G 5 dX10_finds_179 rfl (by omega) (by omega) (by decide) ?_
                    have hcb : -100000 ≤ c1 ((3 * s) + (g (20 + 72 * (lr a) + 6 * (lp a) + 0))) ∧ c1 ((3 * s) + (g (20 + 72 * (lr a) + 6 * (lp a) + 0))) ≤ 100000 := hc ((3 * s) + (g (20 + 72 * (lr a) + 6 * (lp a) + 0)))
                    refine g_aload_n G 0 dX10_finds_180 rfl ?_
                    refine g_iload G 4 dX10_finds_181 rfl ?_
                    refine g_iload G 5 dX10_finds_183 rfl ?_
                    refine g_iconst G dX10_finds_185 ?_
                    refine g_callV G [0, 1] [2, 3, 4, 5, 6, 7, 8, 9] 10 [(q4, ia E 96 lr), (q5, ia E 96 lp), (q6, ia E 12 t1), (q7, ia E 12 c1), (q8, ia E 12 ac1), (q9, ia E 12 co1), (q10, ia E 12 cs1), (q11, ia E 12 ut1)] [.int (iI (lr a)), .int (iI (lp a)), .int (iI 3)] [.int (iI (c1 ((3 * s) + (g (20 + 72 * (lr a) + 6 * (lp a) + 0)))))] (c_X10_of E q0 q1 q2 q3 q4 q5 q6 q7 q8 q9 q10 q11 c0 la h1 u1 g (lr a) (lp a) 3 (by first | assumption | omega) (by first | assumption | omega) (by first | assumption | omega)) dX10_finds_186 gX10_finds_X10_of ⟨rfl, ⟨rfl, rfl⟩, e_X10_of, ⟨Nat.le_of_ble_eq_true rfl, Nat.le_of_ble_eq_true rfl⟩, Nat.le_of_ble_eq_true rfl, Nat.le_of_ble_eq_true rfl, Nat.le_of_ble_eq_true rfl⟩ rfl rfl rfl rfl rfl (by decide +kernel) rfl (by decide +kernel) rfl (fun v9 w9 h9 => ?_)
                    obtain ⟨o3, rfl, rfl, rfl⟩ := h9
                    have b4 := hg (20 + 72 * (lr a) + 6 * (lp a) + 3)
                    refine ⟨[(q0, .inr (10, [.ref q1, .ref q2, .ref q3, .int (iI c0), .ref q4, .ref q5, .int (iI la), .ref q6, .ref q7, .ref q8, .ref q9, .ref q10, .ref q11, .int (iI h1), .int (iI u1)])), (q1, ia E 5400 g), (q4, ia E 96 lr), (q5, ia E 96 lp), (q6, ia E 12 t1), (q7, ia E 12 c1), (q8, ia E 12 ac1), (q9, ia E 12 co1), (q10, ia E 12 cs1), (q11, ia E 12 ut1)], ⟨rfl, rfl, rfl, rfl⟩, g_to 0 0 _ _ [.int (iI (g (20 + 72 * (lr a) + 6 * (lp a) + 3))), .int (iI (c1 ((3 * s) + (g (20 + 72 * (lr a) + 6 * (lp a) + 0)))))] rfl rfl rfl rfl rfl ?_⟩
                    refine g_icmp_ne G 206 dX10_finds_189 (by decide) (by first | omega | (rw [upI_same]; omega)) (by first | omega | (rw [upI_same]; omega)) (fun c189 => ?_) (fun c189 => ?_)
                    · refine g_aload_n G 0 dX10_finds_206 rfl ?_
                      refine g_iload_n G 1 dX10_finds_207 rfl ?_
                      refine g_callV G [0, 4, 6, 7, 8, 9] [1, 2, 3, 5] 10 [(q1, ia E 5400 g), (q4, ia E 96 lr), (q5, ia E 96 lp), (q7, ia E 12 c1)] [.int (iI x)] [] (c_X10_turnsBack E q0 q1 q2 q3 q4 q5 q6 q7 q8 q9 q10 q11 c0 la h1 u1 t1 ac1 co1 cs1 ut1 (tpP lp la) (tpV g lr lp la) (tpC g lr lp la) c1 la.toNat x (by exact hv) (by exact hx) (by omega) (by first | exact hSk | (exfalso; exact c189 (upI_same _ _ _))) (by first | (exfalso; exact c189 (upI_same _ _ _)) | (obtain ⟨j, hj, ej⟩ := Stk.told hSk c92; exact hSr.conf (by omega) hj (em.trans ej.symm) (by rw [ej, ecd]; exact c189)))) dX10_finds_208 gX10_finds_X10_turnsBack ⟨rfl, ⟨rfl, rfl⟩, e_X10_turnsBack, ⟨Nat.le_of_ble_eq_true rfl, Nat.le_of_ble_eq_true rfl⟩, Nat.le_of_ble_eq_true rfl, Nat.le_of_ble_eq_true rfl, Nat.le_of_ble_eq_true rfl⟩ rfl rfl rfl rfl rfl (by decide +kernel) rfl (by decide +kernel) rfl (fun v9 w9 h9 => ?_)
                      obtain ⟨rr, t2, cs2, h2, u2, rfl, rfl, hb2⟩ := h9
                      refine ⟨[(q0, .inr (10, [.ref q1, .ref q2, .ref q3, .int (iI c0), .ref q4, .ref q5, .int (iI la), .ref q6, .ref q7, .ref q8, .ref q9, .ref q10, .ref q11, .int (iI h2), .int (iI u2)])), (q1, ia E 5400 g), (q4, ia E 96 lr), (q5, ia E 96 lp), (q6, ia E 12 t2), (q7, ia E 12 c1), (q8, ia E 12 ac1), (q9, ia E 12 co1), (q10, ia E 12 cs2), (q11, ia E 12 ut1)], ⟨rfl, rfl, rfl, rfl⟩, g_to 0 0 _ _ [.int (iI rr)] rfl rfl rfl rfl rfl ?_⟩
                      refine g_istore_n G [(0, .ref q0), (1, .int (iI x)), (2, .int (iI rr)), (3, .int (iI s)), (4, .int (iI (lr a))), (5, .int (iI (lp a))), (6, .int (iI ((3 * s) + (g (20 + 72 * (lr a) + 6 * (lp a) + 0)))))] dX10_finds_211 (by decide) rfl rfl ?_
                      have hrr := TbR.rng hb2
                      refine g_iload_n G 2 dX10_finds_212 rfl ?_
                      refine g_if_lt G 228 dX10_finds_213 (by decide) (by omega) (fun c213 => ?_) (fun c213 => ?_)
                      · refine g_goto G 35 dX10_finds_228 (by decide) ?_
                        refine g_lv G [0, 1, 2, 3] (lv' := [(0, .ref q0), (1, .int (iI x)), (2, .int (iI rr)), (3, .int (iI s))]) rfl ?_
                        exact ih35 rr s t2 c1 ac1 co1 cs2 ut1 h2 u2 (by omega) (by first | (exfalso; exact c189 (upI_same _ _ _)) | (rw [upI_same]; omega) | omega | (have q3 := hbk.2.2.1; omega)) (by first | exact hc | (intro i; have q1 := hc i; have q2 := hg (20 + 72 * lr a + 6 * lp a + 3); unfold upI; split <;> omega)) (by first | (exfalso; exact c189 (upI_same _ _ _)) | exact FdI.next hpu.2.2 (by omega) em2 | (obtain ⟨j, hj, ej⟩ := Stk.told hSk c92; exact FdI.next (hSr.adv (by omega) hj (by have := hSr.2.2.2.2.1 j hj; omega) (em.trans ej.symm) (by rw [ej, ecd]; exact c189)) (by omega) em) | exact (FdI.back hb2 _).1 c213 | exact hbk.1) (by first | (exfalso; exact c189 (upI_same _ _ _)) | (have q1 := Stk.lo hSk hx.2; unfold MUf at hm ⊢; rw [if_neg (by omega)] at hm; rw [if_neg (by omega)]; first | (rw [loN_push hch.1]; omega) | omega) | (have q1 := Stk.lo hSk hx.2; unfold MUf at hm ⊢; rw [if_neg (by omega)] at hm; rw [if_pos (by omega)]; omega))
                      · have hbk := (FdI.back hb2 s).2 c213
                        have hlo2 := TbR.lo hb2 hx.2 c213
                        refine g_aload_n G 0 dX10_finds_216 rfl ?_
                        refine g_get G 0 11 dX10_finds_217 i_X10_finds_X10 f_X10_finds_38 rfl rfl (by decide) rfl ?_
                        refine g_aload_n G 0 dX10_finds_220 rfl ?_
                        refine g_get G 0 13 dX10_finds_221 i_X10_finds_X10 f_X10_finds_99 rfl rfl (by decide) rfl ?_
                        refine g_iconst G dX10_finds_224 ?_
                        refine g_isub G dX10_finds_225 ?_
                        refine g_iald G 8 dX10_finds_226 rfl (by omega) (by omega) (by decide) ?_
                        refine g_istore_n G [(0, .ref q0), (1, .int (iI x)), (2, .int (iI rr)), (3, .int (iI (cs2 (h2 - 1)))), (4, .int (iI (lr a))), (5, .int (iI (lp a))), (6, .int (iI ((3 * s) + (g (20 + 72 * (lr a) + 6 * (lp a) + 0)))))] dX10_finds_227 (by decide) rfl rfl ?_
                        refine g_goto G 35 dX10_finds_228 (by decide) ?_
                        refine g_lv G [0, 1, 2, 3] (lv' := [(0, .ref q0), (1, .int (iI x)), (2, .int (iI rr)), (3, .int (iI (cs2 (h2 - 1))))]) rfl ?_
                        exact ih35 rr (cs2 (h2 - 1)) t2 c1 ac1 co1 cs2 ut1 h2 u2 (by omega) (by first | (exfalso; exact c189 (upI_same _ _ _)) | (rw [upI_same]; omega) | omega | (have q3 := hbk.2.2.1; omega)) (by first | exact hc | (intro i; have q1 := hc i; have q2 := hg (20 + 72 * lr a + 6 * lp a + 3); unfold upI; split <;> omega)) (by first | (exfalso; exact c189 (upI_same _ _ _)) | exact FdI.next hpu.2.2 (by omega) em2 | (obtain ⟨j, hj, ej⟩ := Stk.told hSk c92; exact FdI.next (hSr.adv (by omega) hj (by have := hSr.2.2.2.2.1 j hj; omega) (em.trans ej.symm) (by rw [ej, ecd]; exact c189)) (by omega) em) | exact (FdI.back hb2 _).1 c213 | exact hbk.1) (by first | (exfalso; exact c189 (upI_same _ _ _)) | (have q1 := Stk.lo hSk hx.2; unfold MUf at hm ⊢; rw [if_neg (by omega)] at hm; rw [if_neg (by omega)]; first | (rw [loN_push hch.1]; omega) | omega) | (have q1 := Stk.lo hSk hx.2; unfold MUf at hm ⊢; rw [if_neg (by omega)] at hm; rw [if_pos (by omega)]; omega))
                    · refine g_aload_n G 0 dX10_finds_192 rfl ?_
                      refine g_get G 0 7 dX10_finds_193 i_X10_finds_X10 f_X10_finds_26 rfl rfl (by decide) rfl ?_
                      refine g_iload G 6 dX10_finds_196 rfl ?_
                      refine g_iald G 4 dX10_finds_198 rfl (by omega) (by omega) (by decide) ?_
                      refine g_istore_n G [(0, .ref q0), (1, .int (iI x)), (2, .int (iI a)), (3, .int (iI (t1 ((3 * s) + (g (20 + 72 * (lr a) + 6 * (lp a) + 0)))))), (4, .int (iI (lr a))), (5, .int (iI (lp a))), (6, .int (iI ((3 * s) + (g (20 + 72 * (lr a) + 6 * (lp a) + 0)))))] dX10_finds_199 (by decide) rfl rfl ?_
                      refine g_iinc G 2 [(0, .ref q0), (1, .int (iI x)), (2, .int (iI (a + 1))), (3, .int (iI (t1 ((3 * s) + (g (20 + 72 * (lr a) + 6 * (lp a) + 0)))))), (4, .int (iI (lr a))), (5, .int (iI (lp a))), (6, .int (iI ((3 * s) + (g (20 + 72 * (lr a) + 6 * (lp a) + 0)))))] dX10_finds_200 rfl (by decide) rfl rfl ?_
                      refine g_goto G 228 dX10_finds_203 (by decide) ?_
                      refine g_goto G 35 dX10_finds_228 (by decide) ?_
                      refine g_lv G [0, 1, 2, 3] (lv' := [(0, .ref q0), (1, .int (iI x)), (2, .int (iI (a + 1))), (3, .int (iI (t1 ((3 * s) + (g (20 + 72 * (lr a) + 6 * (lp a) + 0))))))]) rfl ?_
                      exact ih35 (a + 1) (t1 ((3 * s) + (g (20 + 72 * (lr a) + 6 * (lp a) + 0)))) t1 c1 ac1 co1 cs1 ut1 h1 u1 (by omega) (by first | (exfalso; exact c189 (upI_same _ _ _)) | (rw [upI_same]; omega) | omega | (have q3 := hbk.2.2.1; omega)) (by first | exact hc | (intro i; have q1 := hc i; have q2 := hg (20 + 72 * lr a + 6 * lp a + 3); unfold upI; split <;> omega)) (by first | (exfalso; exact c189 (upI_same _ _ _)) | exact FdI.next hpu.2.2 (by omega) em2 | (obtain ⟨j, hj, ej⟩ := Stk.told hSk c92; exact FdI.next (hSr.adv (by omega) hj (by have := hSr.2.2.2.2.1 j hj; omega) (em.trans ej.symm) (by rw [ej, ecd]; exact c189)) (by omega) em) | exact (FdI.back hb2 _).1 c213 | exact hbk.1) (by first | (exfalso; exact c189 (upI_same _ _ _)) | (have q1 := Stk.lo hSk hx.2; unfold MUf at hm ⊢; rw [if_neg (by omega)] at hm; rw [if_neg (by omega)]; first | (rw [loN_push hch.1]; omega) | omega) | (have q1 := Stk.lo hSk hx.2; unfold MUf at hm ⊢; rw [if_neg (by omega)] at hm; rw [if_pos (by omega)]; omega))
                  · have hng : t1 ((3 * s) + (g (20 + 72 * (lr a) + 6 * (lp a) + 0))) = -1 := Stk.neg hSk c92
                    have hpu := Srch.push hv hx.2 hSr (by omega) em hng
                    rw [ecd] at hpu
                    have em2 : cel (tpP lp la) (tpV g lr lp la) (upI t1 ((3 * s) + (g (20 + 72 * (lr a) + 6 * (lp a) + 0))) 0) a.toNat = ((3 * s) + (g (20 + 72 * (lr a) + 6 * (lp a) + 0))) := (Srch.cel_new hSr hng).trans em
                    refine g_aload_n G 0 dX10_finds_95 rfl ?_
                    refine g_get G 0 7 dX10_finds_96 i_X10_finds_X10 f_X10_finds_26 rfl rfl (by decide) rfl ?_
                    refine g_iload G 6 dX10_finds_99 rfl ?_
                    refine g_iconst G dX10_finds_101 ?_
                    refine g_iast G 4 [(q0, .inr (10, [.ref q1, .ref q2, .ref q3, .int (iI c0), .ref q4, .ref q5, .int (iI la), .ref q6, .ref q7, .ref q8, .ref q9, .ref q10, .ref q11, .int (iI h1), .int (iI u1)])), (q1, ia E 5400 g), (q4, ia E 96 lr), (q5, ia E 96 lp), (q6, ia E 12 (upI t1 ((3 * s) + (g (20 + 72 * (lr a) + 6 * (lp a) + 0))) 0)), (q7, ia E 12 c1), (q8, ia E 12 ac1), (q9, ia E 12 co1), (q10, ia E 12 cs1), (q11, ia E 12 ut1)] dX10_finds_102 rfl (by omega) (by omega) (by decide) rfl ?_
                    refine g_aload_n G 0 dX10_finds_103 rfl ?_
                    refine g_get G 0 8 dX10_finds_104 i_X10_finds_X10 f_X10_finds_29 rfl rfl (by decide) rfl ?_
                    refine g_iload G 6 dX10_finds_107 rfl ?_
                    refine g_aload_n G 0 dX10_finds_109 rfl ?_
                    refine g_iload G 4 dX10_finds_110 rfl ?_
                    refine g_iload G 5 dX10_finds_112 rfl ?_
                    refine g_iconst G dX10_finds_114 ?_
                    refine g_callV G [0, 1] [2, 3, 4, 5, 6, 7, 8, 9] 10 [(q4, ia E 96 lr), (q5, ia E 96 lp), (q6, ia E 12 (upI t1 ((3 * s) + (g (20 + 72 * (lr a) + 6 * (lp a) + 0))) 0)), (q7, ia E 12 c1), (q8, ia E 12 ac1), (q9, ia E 12 co1), (q10, ia E 12 cs1), (q11, ia E 12 ut1)] [.int (iI (lr a)), .int (iI (lp a)), .int (iI 3)] [.int (iI ((3 * s) + (g (20 + 72 * (lr a) + 6 * (lp a) + 0)))), .ref q7] (c_X10_of E q0 q1 q2 q3 q4 q5 q6 q7 q8 q9 q10 q11 c0 la h1 u1 g (lr a) (lp a) 3 (by first | assumption | omega) (by first | assumption | omega) (by first | assumption | omega)) dX10_finds_115 gX10_finds_X10_of ⟨rfl, ⟨rfl, rfl⟩, e_X10_of, ⟨Nat.le_of_ble_eq_true rfl, Nat.le_of_ble_eq_true rfl⟩, Nat.le_of_ble_eq_true rfl, Nat.le_of_ble_eq_true rfl, Nat.le_of_ble_eq_true rfl⟩ rfl rfl rfl rfl rfl (by decide +kernel) rfl (by decide +kernel) rfl (fun v9 w9 h9 => ?_)
                    obtain ⟨o5, rfl, rfl, rfl⟩ := h9
                    have b6 := hg (20 + 72 * (lr a) + 6 * (lp a) + 3)
                    refine ⟨[(q0, .inr (10, [.ref q1, .ref q2, .ref q3, .int (iI c0), .ref q4, .ref q5, .int (iI la), .ref q6, .ref q7, .ref q8, .ref q9, .ref q10, .ref q11, .int (iI h1), .int (iI u1)])), (q1, ia E 5400 g), (q4, ia E 96 lr), (q5, ia E 96 lp), (q6, ia E 12 (upI t1 ((3 * s) + (g (20 + 72 * (lr a) + 6 * (lp a) + 0))) 0)), (q7, ia E 12 c1), (q8, ia E 12 ac1), (q9, ia E 12 co1), (q10, ia E 12 cs1), (q11, ia E 12 ut1)], ⟨rfl, rfl, rfl, rfl⟩, g_to 0 0 _ _ [.int (iI (g (20 + 72 * (lr a) + 6 * (lp a) + 3))), .int (iI ((3 * s) + (g (20 + 72 * (lr a) + 6 * (lp a) + 0)))), .ref q7] rfl rfl rfl rfl rfl ?_⟩
                    refine g_iast G 5 [(q0, .inr (10, [.ref q1, .ref q2, .ref q3, .int (iI c0), .ref q4, .ref q5, .int (iI la), .ref q6, .ref q7, .ref q8, .ref q9, .ref q10, .ref q11, .int (iI h1), .int (iI u1)])), (q1, ia E 5400 g), (q4, ia E 96 lr), (q5, ia E 96 lp), (q6, ia E 12 (upI t1 ((3 * s) + (g (20 + 72 * (lr a) + 6 * (lp a) + 0))) 0)), (q7, ia E 12 (upI c1 ((3 * s) + (g (20 + 72 * (lr a) + 6 * (lp a) + 0))) (g (20 + 72 * (lr a) + 6 * (lp a) + 3)))), (q8, ia E 12 ac1), (q9, ia E 12 co1), (q10, ia E 12 cs1), (q11, ia E 12 ut1)] dX10_finds_118 rfl (by omega) (by omega) (by decide) rfl ?_
                    refine g_aload_n G 0 dX10_finds_119 rfl ?_
                    refine g_get G 0 9 dX10_finds_120 i_X10_finds_X10 f_X10_finds_32 rfl rfl (by decide) rfl ?_
                    refine g_aload_n G 0 dX10_finds_123 rfl ?_
                    refine g_get G 0 13 dX10_finds_124 i_X10_finds_X10 f_X10_finds_99 rfl rfl (by decide) rfl ?_
                    refine g_iload_n G 2 dX10_finds_127 rfl ?_
                    refine g_iast G 6 [(q0, .inr (10, [.ref q1, .ref q2, .ref q3, .int (iI c0), .ref q4, .ref q5, .int (iI la), .ref q6, .ref q7, .ref q8, .ref q9, .ref q10, .ref q11, .int (iI h1), .int (iI u1)])), (q1, ia E 5400 g), (q4, ia E 96 lr), (q5, ia E 96 lp), (q6, ia E 12 (upI t1 ((3 * s) + (g (20 + 72 * (lr a) + 6 * (lp a) + 0))) 0)), (q7, ia E 12 (upI c1 ((3 * s) + (g (20 + 72 * (lr a) + 6 * (lp a) + 0))) (g (20 + 72 * (lr a) + 6 * (lp a) + 3)))), (q8, ia E 12 (upI ac1 h1 a)), (q9, ia E 12 co1), (q10, ia E 12 cs1), (q11, ia E 12 ut1)] dX10_finds_128 rfl (by omega) (by omega) (by decide) rfl ?_
                    refine g_aload_n G 0 dX10_finds_129 rfl ?_
                    refine g_get G 0 10 dX10_finds_130 i_X10_finds_X10 f_X10_finds_35 rfl rfl (by decide) rfl ?_
                    refine g_aload_n G 0 dX10_finds_133 rfl ?_
                    refine g_get G 0 13 dX10_finds_134 i_X10_finds_X10 f_X10_finds_99 rfl rfl (by decide) rfl ?_
                    refine g_iload G 6 dX10_finds_137 rfl ?_
                    refine g_iast G 7 [(q0, .inr (10, [.ref q1, .ref q2, .ref q3, .int (iI c0), .ref q4, .ref q5, .int (iI la), .ref q6, .ref q7, .ref q8, .ref q9, .ref q10, .ref q11, .int (iI h1), .int (iI u1)])), (q1, ia E 5400 g), (q4, ia E 96 lr), (q5, ia E 96 lp), (q6, ia E 12 (upI t1 ((3 * s) + (g (20 + 72 * (lr a) + 6 * (lp a) + 0))) 0)), (q7, ia E 12 (upI c1 ((3 * s) + (g (20 + 72 * (lr a) + 6 * (lp a) + 0))) (g (20 + 72 * (lr a) + 6 * (lp a) + 3)))), (q8, ia E 12 (upI ac1 h1 a)), (q9, ia E 12 (upI co1 h1 ((3 * s) + (g (20 + 72 * (lr a) + 6 * (lp a) + 0))))), (q10, ia E 12 cs1), (q11, ia E 12 ut1)] dX10_finds_139 rfl (by omega) (by omega) (by decide) rfl ?_
                    refine g_aload_n G 0 dX10_finds_140 rfl ?_
                    refine g_get G 0 11 dX10_finds_141 i_X10_finds_X10 f_X10_finds_38 rfl rfl (by decide) rfl ?_
                    refine g_aload_n G 0 dX10_finds_144 rfl ?_
                    refine g_get G 0 13 dX10_finds_145 i_X10_finds_X10 f_X10_finds_99 rfl rfl (by decide) rfl ?_
                    refine g_iconst G dX10_finds_148 ?_
                    refine g_iast G 8 [(q0, .inr (10, [.ref q1, .ref q2, .ref q3, .int (iI c0), .ref q4, .ref q5, .int (iI la), .ref q6, .ref q7, .ref q8, .ref q9, .ref q10, .ref q11, .int (iI h1), .int (iI u1)])), (q1, ia E 5400 g), (q4, ia E 96 lr), (q5, ia E 96 lp), (q6, ia E 12 (upI t1 ((3 * s) + (g (20 + 72 * (lr a) + 6 * (lp a) + 0))) 0)), (q7, ia E 12 (upI c1 ((3 * s) + (g (20 + 72 * (lr a) + 6 * (lp a) + 0))) (g (20 + 72 * (lr a) + 6 * (lp a) + 3)))), (q8, ia E 12 (upI ac1 h1 a)), (q9, ia E 12 (upI co1 h1 ((3 * s) + (g (20 + 72 * (lr a) + 6 * (lp a) + 0))))), (q10, ia E 12 (upI cs1 h1 0)), (q11, ia E 12 ut1)] dX10_finds_149 rfl (by omega) (by omega) (by decide) rfl ?_
                    refine g_aload_n G 0 dX10_finds_150 rfl ?_
                    refine g_get G 0 12 dX10_finds_151 i_X10_finds_X10 f_X10_finds_41 rfl rfl (by decide) rfl ?_
                    refine g_aload_n G 0 dX10_finds_154 rfl ?_
                    refine g_get G 0 13 dX10_finds_155 i_X10_finds_X10 f_X10_finds_99 rfl rfl (by decide) rfl ?_
                    refine g_aload_n G 0 dX10_finds_158 rfl ?_
                    refine g_get G 0 14 dX10_finds_159 i_X10_finds_X10 f_X10_finds_102 rfl rfl (by decide) rfl ?_
                    refine g_iast G 9 [(q0, .inr (10, [.ref q1, .ref q2, .ref q3, .int (iI c0), .ref q4, .ref q5, .int (iI la), .ref q6, .ref q7, .ref q8, .ref q9, .ref q10, .ref q11, .int (iI h1), .int (iI u1)])), (q1, ia E 5400 g), (q4, ia E 96 lr), (q5, ia E 96 lp), (q6, ia E 12 (upI t1 ((3 * s) + (g (20 + 72 * (lr a) + 6 * (lp a) + 0))) 0)), (q7, ia E 12 (upI c1 ((3 * s) + (g (20 + 72 * (lr a) + 6 * (lp a) + 0))) (g (20 + 72 * (lr a) + 6 * (lp a) + 3)))), (q8, ia E 12 (upI ac1 h1 a)), (q9, ia E 12 (upI co1 h1 ((3 * s) + (g (20 + 72 * (lr a) + 6 * (lp a) + 0))))), (q10, ia E 12 (upI cs1 h1 0)), (q11, ia E 12 (upI ut1 h1 u1))] dX10_finds_162 rfl (by omega) (by omega) (by decide) rfl ?_
                    refine g_aload_n G 0 dX10_finds_163 rfl ?_
                    refine g_dup G dX10_finds_164 rfl ?_
                    refine g_get G 0 13 dX10_finds_165 i_X10_finds_X10 f_X10_finds_99 rfl rfl (by decide) rfl ?_
                    refine g_iconst G dX10_finds_168 ?_
                    refine g_iadd G dX10_finds_169 ?_
                    refine g_put G 0 13 [(q0, .inr (10, [.ref q1, .ref q2, .ref q3, .int (iI c0), .ref q4, .ref q5, .int (iI la), .ref q6, .ref q7, .ref q8, .ref q9, .ref q10, .ref q11, .int (iI (h1 + 1)), .int (iI u1)])), (q1, ia E 5400 g), (q4, ia E 96 lr), (q5, ia E 96 lp), (q6, ia E 12 (upI t1 ((3 * s) + (g (20 + 72 * (lr a) + 6 * (lp a) + 0))) 0)), (q7, ia E 12 (upI c1 ((3 * s) + (g (20 + 72 * (lr a) + 6 * (lp a) + 0))) (g (20 + 72 * (lr a) + 6 * (lp a) + 3)))), (q8, ia E 12 (upI ac1 h1 a)), (q9, ia E 12 (upI co1 h1 ((3 * s) + (g (20 + 72 * (lr a) + 6 * (lp a) + 0))))), (q10, ia E 12 (upI cs1 h1 0)), (q11, ia E 12 (upI ut1 h1 u1))] dX10_finds_170 i_X10_finds_X10 f_X10_finds_99 tyX10_ok nmX10 rfl rfl (by decide) rfl rfl rfl rfl (Nat.le_of_ble_eq_true rfl) rfl ?_
                    refine g_aload_n G 0 dX10_finds_173 rfl ?_
                    refine g_get G 0 8 dX10_finds_174 i_X10_finds_X10 f_X10_finds_29 rfl rfl (by decide) rfl ?_
                    refine g_iload G 6 dX10_finds_177 rfl ?_
                    refine g_iald G 5 dX10_finds_179 rfl (by omega) (by omega) (by decide) ?_
                    have hcb : -100000 ≤ c1 ((3 * s) + (g (20 + 72 * (lr a) + 6 * (lp a) + 0))) ∧ c1 ((3 * s) + (g (20 + 72 * (lr a) + 6 * (lp a) + 0))) ≤ 100000 := hc ((3 * s) + (g (20 + 72 * (lr a) + 6 * (lp a) + 0)))
                    refine g_aload_n G 0 dX10_finds_180 rfl ?_
                    refine g_iload G 4 dX10_finds_181 rfl ?_
                    refine g_iload G 5 dX10_finds_183 rfl ?_
                    refine g_iconst G dX10_finds_185 ?_
                    refine g_callV G [0, 1] [2, 3, 4, 5, 6, 7, 8, 9] 10 [(q4, ia E 96 lr), (q5, ia E 96 lp), (q6, ia E 12 (upI t1 ((3 * s) + (g (20 + 72 * (lr a) + 6 * (lp a) + 0))) 0)), (q7, ia E 12 (upI c1 ((3 * s) + (g (20 + 72 * (lr a) + 6 * (lp a) + 0))) (g (20 + 72 * (lr a) + 6 * (lp a) + 3)))), (q8, ia E 12 (upI ac1 h1 a)), (q9, ia E 12 (upI co1 h1 ((3 * s) + (g (20 + 72 * (lr a) + 6 * (lp a) + 0))))), (q10, ia E 12 (upI cs1 h1 0)), (q11, ia E 12 (upI ut1 h1 u1))] [.int (iI (lr a)), .int (iI (lp a)), .int (iI 3)] [.int (iI ((upI c1 ((3 * s) + (g (20 + 72 * (lr a) + 6 * (lp a) + 0))) (g (20 + 72 * (lr a) + 6 * (lp a) + 3))) ((3 * s) + (g (20 + 72 * (lr a) + 6 * (lp a) + 0)))))] (c_X10_of E q0 q1 q2 q3 q4 q5 q6 q7 q8 q9 q10 q11 c0 la (h1 + 1) u1 g (lr a) (lp a) 3 (by first | assumption | omega) (by first | assumption | omega) (by first | assumption | omega)) dX10_finds_186 gX10_finds_X10_of ⟨rfl, ⟨rfl, rfl⟩, e_X10_of, ⟨Nat.le_of_ble_eq_true rfl, Nat.le_of_ble_eq_true rfl⟩, Nat.le_of_ble_eq_true rfl, Nat.le_of_ble_eq_true rfl, Nat.le_of_ble_eq_true rfl⟩ rfl rfl rfl rfl rfl (by decide +kernel) rfl (by decide +kernel) rfl (fun v9 w9 h9 => ?_)
                    obtain ⟨o7, rfl, rfl, rfl⟩ := h9
                    have b8 := hg (20 + 72 * (lr a) + 6 * (lp a) + 3)
                    refine ⟨[(q0, .inr (10, [.ref q1, .ref q2, .ref q3, .int (iI c0), .ref q4, .ref q5, .int (iI la), .ref q6, .ref q7, .ref q8, .ref q9, .ref q10, .ref q11, .int (iI (h1 + 1)), .int (iI u1)])), (q1, ia E 5400 g), (q4, ia E 96 lr), (q5, ia E 96 lp), (q6, ia E 12 (upI t1 ((3 * s) + (g (20 + 72 * (lr a) + 6 * (lp a) + 0))) 0)), (q7, ia E 12 (upI c1 ((3 * s) + (g (20 + 72 * (lr a) + 6 * (lp a) + 0))) (g (20 + 72 * (lr a) + 6 * (lp a) + 3)))), (q8, ia E 12 (upI ac1 h1 a)), (q9, ia E 12 (upI co1 h1 ((3 * s) + (g (20 + 72 * (lr a) + 6 * (lp a) + 0))))), (q10, ia E 12 (upI cs1 h1 0)), (q11, ia E 12 (upI ut1 h1 u1))], ⟨rfl, rfl, rfl, rfl⟩, g_to 0 0 _ _ [.int (iI (g (20 + 72 * (lr a) + 6 * (lp a) + 3))), .int (iI ((upI c1 ((3 * s) + (g (20 + 72 * (lr a) + 6 * (lp a) + 0))) (g (20 + 72 * (lr a) + 6 * (lp a) + 3))) ((3 * s) + (g (20 + 72 * (lr a) + 6 * (lp a) + 0)))))] rfl rfl rfl rfl rfl ?_⟩
                    refine g_icmp_ne G 206 dX10_finds_189 (by decide) (by first | omega | (rw [upI_same]; omega)) (by first | omega | (rw [upI_same]; omega)) (fun c189 => ?_) (fun c189 => ?_)
                    · refine g_aload_n G 0 dX10_finds_206 rfl ?_
                      refine g_iload_n G 1 dX10_finds_207 rfl ?_
                      refine g_callV G [0, 4, 6, 7, 8, 9] [1, 2, 3, 5] 10 [(q1, ia E 5400 g), (q4, ia E 96 lr), (q5, ia E 96 lp), (q7, ia E 12 (upI c1 ((3 * s) + (g (20 + 72 * (lr a) + 6 * (lp a) + 0))) (g (20 + 72 * (lr a) + 6 * (lp a) + 3))))] [.int (iI x)] [] (c_X10_turnsBack E q0 q1 q2 q3 q4 q5 q6 q7 q8 q9 q10 q11 c0 la (h1 + 1) u1 (upI t1 ((3 * s) + (g (20 + 72 * (lr a) + 6 * (lp a) + 0))) 0) (upI ac1 h1 a) (upI co1 h1 ((3 * s) + (g (20 + 72 * (lr a) + 6 * (lp a) + 0)))) (upI cs1 h1 0) (upI ut1 h1 u1) (tpP lp la) (tpV g lr lp la) (tpC g lr lp la) c1 la.toNat x (by exact hv) (by exact hx) (by omega) (by first | exact hSk | (exfalso; exact c189 (upI_same _ _ _))) (by first | (exfalso; exact c189 (upI_same _ _ _)) | (obtain ⟨j, hj, ej⟩ := Stk.told hSk c92; exact hSr.conf (by omega) hj (em.trans ej.symm) (by rw [ej, ecd]; exact c189)))) dX10_finds_208 gX10_finds_X10_turnsBack ⟨rfl, ⟨rfl, rfl⟩, e_X10_turnsBack, ⟨Nat.le_of_ble_eq_true rfl, Nat.le_of_ble_eq_true rfl⟩, Nat.le_of_ble_eq_true rfl, Nat.le_of_ble_eq_true rfl, Nat.le_of_ble_eq_true rfl⟩ rfl rfl rfl rfl rfl (by decide +kernel) rfl (by decide +kernel) rfl (fun v9 w9 h9 => ?_)
                      obtain ⟨rr, t2, cs2, h2, u2, rfl, rfl, hb2⟩ := h9
                      refine ⟨[(q0, .inr (10, [.ref q1, .ref q2, .ref q3, .int (iI c0), .ref q4, .ref q5, .int (iI la), .ref q6, .ref q7, .ref q8, .ref q9, .ref q10, .ref q11, .int (iI h2), .int (iI u2)])), (q1, ia E 5400 g), (q4, ia E 96 lr), (q5, ia E 96 lp), (q6, ia E 12 t2), (q7, ia E 12 (upI c1 ((3 * s) + (g (20 + 72 * (lr a) + 6 * (lp a) + 0))) (g (20 + 72 * (lr a) + 6 * (lp a) + 3)))), (q8, ia E 12 (upI ac1 h1 a)), (q9, ia E 12 (upI co1 h1 ((3 * s) + (g (20 + 72 * (lr a) + 6 * (lp a) + 0))))), (q10, ia E 12 cs2), (q11, ia E 12 (upI ut1 h1 u1))], ⟨rfl, rfl, rfl, rfl⟩, g_to 0 0 _ _ [.int (iI rr)] rfl rfl rfl rfl rfl ?_⟩
                      refine g_istore_n G [(0, .ref q0), (1, .int (iI x)), (2, .int (iI rr)), (3, .int (iI s)), (4, .int (iI (lr a))), (5, .int (iI (lp a))), (6, .int (iI ((3 * s) + (g (20 + 72 * (lr a) + 6 * (lp a) + 0)))))] dX10_finds_211 (by decide) rfl rfl ?_
                      have hrr := TbR.rng hb2
                      refine g_iload_n G 2 dX10_finds_212 rfl ?_
                      refine g_if_lt G 228 dX10_finds_213 (by decide) (by omega) (fun c213 => ?_) (fun c213 => ?_)
                      · refine g_goto G 35 dX10_finds_228 (by decide) ?_
                        refine g_lv G [0, 1, 2, 3] (lv' := [(0, .ref q0), (1, .int (iI x)), (2, .int (iI rr)), (3, .int (iI s))]) rfl ?_
                        exact ih35 rr s t2 (upI c1 ((3 * s) + (g (20 + 72 * (lr a) + 6 * (lp a) + 0))) (g (20 + 72 * (lr a) + 6 * (lp a) + 3))) (upI ac1 h1 a) (upI co1 h1 ((3 * s) + (g (20 + 72 * (lr a) + 6 * (lp a) + 0)))) cs2 (upI ut1 h1 u1) h2 u2 (by omega) (by first | (exfalso; exact c189 (upI_same _ _ _)) | (rw [upI_same]; omega) | omega | (have q3 := hbk.2.2.1; omega)) (by first | exact hc | (intro i; have q1 := hc i; have q2 := hg (20 + 72 * lr a + 6 * lp a + 3); unfold upI; split <;> omega)) (by first | (exfalso; exact c189 (upI_same _ _ _)) | exact FdI.next hpu.2.2 (by omega) em2 | (obtain ⟨j, hj, ej⟩ := Stk.told hSk c92; exact FdI.next (hSr.adv (by omega) hj (by have := hSr.2.2.2.2.1 j hj; omega) (em.trans ej.symm) (by rw [ej, ecd]; exact c189)) (by omega) em) | exact (FdI.back hb2 _).1 c213 | exact hbk.1) (by first | (exfalso; exact c189 (upI_same _ _ _)) | (have q1 := Stk.lo hSk hx.2; unfold MUf at hm ⊢; rw [if_neg (by omega)] at hm; rw [if_neg (by omega)]; first | (rw [loN_push hch.1]; omega) | omega) | (have q1 := Stk.lo hSk hx.2; unfold MUf at hm ⊢; rw [if_neg (by omega)] at hm; rw [if_pos (by omega)]; omega))
                      · have hbk := (FdI.back hb2 s).2 c213
                        have hlo2 := TbR.lo hb2 hx.2 c213
                        refine g_aload_n G 0 dX10_finds_216 rfl ?_
                        refine g_get G 0 11 dX10_finds_217 i_X10_finds_X10 f_X10_finds_38 rfl rfl (by decide) rfl ?_
                        refine g_aload_n G 0 dX10_finds_220 rfl ?_
                        refine g_get G 0 13 dX10_finds_221 i_X10_finds_X10 f_X10_finds_99 rfl rfl (by decide) rfl ?_
                        refine g_iconst G dX10_finds_224 ?_
                        refine g_isub G dX10_finds_225 ?_
                        refine g_iald G 8 dX10_finds_226 rfl (by omega) (by omega) (by decide) ?_
                        refine g_istore_n G [(0, .ref q0), (1, .int (iI x)), (2, .int (iI rr)), (3, .int (iI (cs2 (h2 - 1)))), (4, .int (iI (lr a))), (5, .int (iI (lp a))), (6, .int (iI ((3 * s) + (g (20 + 72 * (lr a) + 6 * (lp a) + 0)))))] dX10_finds_227 (by decide) rfl rfl ?_
                        refine g_goto G 35 dX10_finds_228 (by decide) ?_
                        refine g_lv G [0, 1, 2, 3] (lv' := [(0, .ref q0), (1, .int (iI x)), (2, .int (iI rr)), (3, .int (iI (cs2 (h2 - 1))))]) rfl ?_
                        exact ih35 rr (cs2 (h2 - 1)) t2 (upI c1 ((3 * s) + (g (20 + 72 * (lr a) + 6 * (lp a) + 0))) (g (20 + 72 * (lr a) + 6 * (lp a) + 3))) (upI ac1 h1 a) (upI co1 h1 ((3 * s) + (g (20 + 72 * (lr a) + 6 * (lp a) + 0)))) cs2 (upI ut1 h1 u1) h2 u2 (by omega) (by first | (exfalso; exact c189 (upI_same _ _ _)) | (rw [upI_same]; omega) | omega | (have q3 := hbk.2.2.1; omega)) (by first | exact hc | (intro i; have q1 := hc i; have q2 := hg (20 + 72 * lr a + 6 * lp a + 3); unfold upI; split <;> omega)) (by first | (exfalso; exact c189 (upI_same _ _ _)) | exact FdI.next hpu.2.2 (by omega) em2 | (obtain ⟨j, hj, ej⟩ := Stk.told hSk c92; exact FdI.next (hSr.adv (by omega) hj (by have := hSr.2.2.2.2.1 j hj; omega) (em.trans ej.symm) (by rw [ej, ecd]; exact c189)) (by omega) em) | exact (FdI.back hb2 _).1 c213 | exact hbk.1) (by first | (exfalso; exact c189 (upI_same _ _ _)) | (have q1 := Stk.lo hSk hx.2; unfold MUf at hm ⊢; rw [if_neg (by omega)] at hm; rw [if_neg (by omega)]; first | (rw [loN_push hch.1]; omega) | omega) | (have q1 := Stk.lo hSk hx.2; unfold MUf at hm ⊢; rw [if_neg (by omega)] at hm; rw [if_pos (by omega)]; omega))
                    · refine g_aload_n G 0 dX10_finds_192 rfl ?_
                      refine g_get G 0 7 dX10_finds_193 i_X10_finds_X10 f_X10_finds_26 rfl rfl (by decide) rfl ?_
                      refine g_iload G 6 dX10_finds_196 rfl ?_
                      refine g_iald G 4 dX10_finds_198 rfl (by omega) (by omega) (by decide) ?_
                      refine g_istore_n G [(0, .ref q0), (1, .int (iI x)), (2, .int (iI a)), (3, .int (iI ((upI t1 ((3 * s) + (g (20 + 72 * (lr a) + 6 * (lp a) + 0))) 0) ((3 * s) + (g (20 + 72 * (lr a) + 6 * (lp a) + 0)))))), (4, .int (iI (lr a))), (5, .int (iI (lp a))), (6, .int (iI ((3 * s) + (g (20 + 72 * (lr a) + 6 * (lp a) + 0)))))] dX10_finds_199 (by decide) rfl rfl ?_
                      refine g_iinc G 2 [(0, .ref q0), (1, .int (iI x)), (2, .int (iI (a + 1))), (3, .int (iI ((upI t1 ((3 * s) + (g (20 + 72 * (lr a) + 6 * (lp a) + 0))) 0) ((3 * s) + (g (20 + 72 * (lr a) + 6 * (lp a) + 0)))))), (4, .int (iI (lr a))), (5, .int (iI (lp a))), (6, .int (iI ((3 * s) + (g (20 + 72 * (lr a) + 6 * (lp a) + 0)))))] dX10_finds_200 rfl (by decide) rfl rfl ?_
                      refine g_goto G 228 dX10_finds_203 (by decide) ?_
                      refine g_goto G 35 dX10_finds_228 (by decide) ?_
                      refine g_lv G [0, 1, 2, 3] (lv' := [(0, .ref q0), (1, .int (iI x)), (2, .int (iI (a + 1))), (3, .int (iI ((upI t1 ((3 * s) + (g (20 + 72 * (lr a) + 6 * (lp a) + 0))) 0) ((3 * s) + (g (20 + 72 * (lr a) + 6 * (lp a) + 0))))))]) rfl ?_
                      exact ih35 (a + 1) ((upI t1 ((3 * s) + (g (20 + 72 * (lr a) + 6 * (lp a) + 0))) 0) ((3 * s) + (g (20 + 72 * (lr a) + 6 * (lp a) + 0)))) (upI t1 ((3 * s) + (g (20 + 72 * (lr a) + 6 * (lp a) + 0))) 0) (upI c1 ((3 * s) + (g (20 + 72 * (lr a) + 6 * (lp a) + 0))) (g (20 + 72 * (lr a) + 6 * (lp a) + 3))) (upI ac1 h1 a) (upI co1 h1 ((3 * s) + (g (20 + 72 * (lr a) + 6 * (lp a) + 0)))) (upI cs1 h1 0) (upI ut1 h1 u1) (h1 + 1) u1 (by omega) (by first | (exfalso; exact c189 (upI_same _ _ _)) | (rw [upI_same]; omega) | omega | (have q3 := hbk.2.2.1; omega)) (by first | exact hc | (intro i; have q1 := hc i; have q2 := hg (20 + 72 * lr a + 6 * lp a + 3); unfold upI; split <;> omega)) (by first | (exfalso; exact c189 (upI_same _ _ _)) | exact FdI.next hpu.2.2 (by omega) em2 | (obtain ⟨j, hj, ej⟩ := Stk.told hSk c92; exact FdI.next (hSr.adv (by omega) hj (by have := hSr.2.2.2.2.1 j hj; omega) (em.trans ej.symm) (by rw [ej, ecd]; exact c189)) (by omega) em) | exact (FdI.back hb2 _).1 c213 | exact hbk.1) (by first | (exfalso; exact c189 (upI_same _ _ _)) | (have q1 := Stk.lo hSk hx.2; unfold MUf at hm ⊢; rw [if_neg (by omega)] at hm; rw [if_neg (by omega)]; first | (rw [loN_push hch.1]; omega) | omega) | (have q1 := Stk.lo hSk hx.2; unfold MUf at hm ⊢; rw [if_neg (by omega)] at hm; rw [if_pos (by omega)]; omega))
                · refine g_iconst G dX10_finds_68 ?_
                  refine g_istore_n G [(0, .ref q0), (1, .int (iI x)), (2, .int (iI a)), (3, .int (iI 0)), (4, .int (iI (lr a))), (5, .int (iI (lp a)))] dX10_finds_69 (by decide) rfl rfl ?_
                  refine g_iconst G dX10_finds_70 ?_
                  refine g_iload_n G 3 dX10_finds_71 rfl ?_
                  refine g_imul G dX10_finds_72 ?_
                  refine g_aload_n G 0 dX10_finds_73 rfl ?_
                  refine g_iload G 4 dX10_finds_74 rfl ?_
                  refine g_iload G 5 dX10_finds_76 rfl ?_
                  refine g_iconst G dX10_finds_78 ?_
                  refine g_callV G [0, 1] [2, 3, 4, 5, 6, 7, 8, 9] 10 [(q4, ia E 96 lr), (q5, ia E 96 lp), (q6, ia E 12 t1), (q7, ia E 12 c1), (q8, ia E 12 ac1), (q9, ia E 12 co1), (q10, ia E 12 cs1), (q11, ia E 12 ut1)] [.int (iI (lr a)), .int (iI (lp a)), .int (iI 0)] [.int (iI (3 * 0))] (c_X10_of E q0 q1 q2 q3 q4 q5 q6 q7 q8 q9 q10 q11 c0 la h1 u1 g (lr a) (lp a) 0 (by first | assumption | omega) (by first | assumption | omega) (by first | assumption | omega)) dX10_finds_79 gX10_finds_X10_of ⟨rfl, ⟨rfl, rfl⟩, e_X10_of, ⟨Nat.le_of_ble_eq_true rfl, Nat.le_of_ble_eq_true rfl⟩, Nat.le_of_ble_eq_true rfl, Nat.le_of_ble_eq_true rfl, Nat.le_of_ble_eq_true rfl⟩ rfl rfl rfl rfl rfl (by decide +kernel) rfl (by decide +kernel) rfl (fun v9 w9 h9 => ?_)
                  obtain ⟨o9, rfl, rfl, rfl⟩ := h9
                  have b10 := hg (20 + 72 * (lr a) + 6 * (lp a) + 0)
                  refine ⟨[(q0, .inr (10, [.ref q1, .ref q2, .ref q3, .int (iI c0), .ref q4, .ref q5, .int (iI la), .ref q6, .ref q7, .ref q8, .ref q9, .ref q10, .ref q11, .int (iI h1), .int (iI u1)])), (q1, ia E 5400 g), (q4, ia E 96 lr), (q5, ia E 96 lp), (q6, ia E 12 t1), (q7, ia E 12 c1), (q8, ia E 12 ac1), (q9, ia E 12 co1), (q10, ia E 12 cs1), (q11, ia E 12 ut1)], ⟨rfl, rfl, rfl, rfl⟩, g_to 0 0 _ _ [.int (iI (g (20 + 72 * (lr a) + 6 * (lp a) + 0))), .int (iI (3 * 0))] rfl rfl rfl rfl rfl ?_⟩
                  refine g_iadd G dX10_finds_82 ?_
                  refine g_istore G [(0, .ref q0), (1, .int (iI x)), (2, .int (iI a)), (3, .int (iI 0)), (4, .int (iI (lr a))), (5, .int (iI (lp a))), (6, .int (iI ((3 * 0) + (g (20 + 72 * (lr a) + 6 * (lp a) + 0)))))] dX10_finds_83 (by decide) rfl rfl ?_
                  have em : cel (tpP lp la) (tpV g lr lp la) t1 a.toNat = ((3 * 0) + (g (20 + 72 * (lr a) + 6 * (lp a) + 0))) := by rw [ecl]; first | rw [est c65] | rw [← est2 c65]
                  refine g_aload_n G 0 dX10_finds_85 rfl ?_
                  refine g_get G 0 7 dX10_finds_86 i_X10_finds_X10 f_X10_finds_26 rfl rfl (by decide) rfl ?_
                  refine g_iload G 6 dX10_finds_89 rfl ?_
                  refine g_iald G 4 dX10_finds_91 rfl (by omega) (by omega) (by decide) ?_
                  have htb := Stk.bd hSk hx.2 (((3 * 0) + (g (20 + 72 * (lr a) + 6 * (lp a) + 0))))
                  refine g_if_ge G 173 dX10_finds_92 (by decide) (by omega) (fun c92 => ?_) (fun c92 => ?_)
                  · refine g_aload_n G 0 dX10_finds_173 rfl ?_
                    refine g_get G 0 8 dX10_finds_174 i_X10_finds_X10 f_X10_finds_29 rfl rfl (by decide) rfl ?_
                    refine g_iload G 6 dX10_finds_177 rfl ?_
                    refine g_iald G 5 dX10_finds_179 rfl (by omega) (by omega) (by decide) ?_
                    have hcb : -100000 ≤ c1 ((3 * 0) + (g (20 + 72 * (lr a) + 6 * (lp a) + 0))) ∧ c1 ((3 * 0) + (g (20 + 72 * (lr a) + 6 * (lp a) + 0))) ≤ 100000 := hc ((3 * 0) + (g (20 + 72 * (lr a) + 6 * (lp a) + 0)))
                    refine g_aload_n G 0 dX10_finds_180 rfl ?_
                    refine g_iload G 4 dX10_finds_181 rfl ?_
                    refine g_iload G 5 dX10_finds_183 rfl ?_
                    refine g_iconst G dX10_finds_185 ?_
                    refine g_callV G [0, 1] [2, 3, 4, 5, 6, 7, 8, 9] 10 [(q4, ia E 96 lr), (q5, ia E 96 lp), (q6, ia E 12 t1), (q7, ia E 12 c1), (q8, ia E 12 ac1), (q9, ia E 12 co1), (q10, ia E 12 cs1), (q11, ia E 12 ut1)] [.int (iI (lr a)), .int (iI (lp a)), .int (iI 3)] [.int (iI (c1 ((3 * 0) + (g (20 + 72 * (lr a) + 6 * (lp a) + 0)))))] (c_X10_of E q0 q1 q2 q3 q4 q5 q6 q7 q8 q9 q10 q11 c0 la h1 u1 g (lr a) (lp a) 3 (by first | assumption | omega) (by first | assumption | omega) (by first | assumption | omega)) dX10_finds_186 gX10_finds_X10_of ⟨rfl, ⟨rfl, rfl⟩, e_X10_of, ⟨Nat.le_of_ble_eq_true rfl, Nat.le_of_ble_eq_true rfl⟩, Nat.le_of_ble_eq_true rfl, Nat.le_of_ble_eq_true rfl, Nat.le_of_ble_eq_true rfl⟩ rfl rfl rfl rfl rfl (by decide +kernel) rfl (by decide +kernel) rfl (fun v9 w9 h9 => ?_)
                    obtain ⟨o11, rfl, rfl, rfl⟩ := h9
                    have b12 := hg (20 + 72 * (lr a) + 6 * (lp a) + 3)
                    refine ⟨[(q0, .inr (10, [.ref q1, .ref q2, .ref q3, .int (iI c0), .ref q4, .ref q5, .int (iI la), .ref q6, .ref q7, .ref q8, .ref q9, .ref q10, .ref q11, .int (iI h1), .int (iI u1)])), (q1, ia E 5400 g), (q4, ia E 96 lr), (q5, ia E 96 lp), (q6, ia E 12 t1), (q7, ia E 12 c1), (q8, ia E 12 ac1), (q9, ia E 12 co1), (q10, ia E 12 cs1), (q11, ia E 12 ut1)], ⟨rfl, rfl, rfl, rfl⟩, g_to 0 0 _ _ [.int (iI (g (20 + 72 * (lr a) + 6 * (lp a) + 3))), .int (iI (c1 ((3 * 0) + (g (20 + 72 * (lr a) + 6 * (lp a) + 0)))))] rfl rfl rfl rfl rfl ?_⟩
                    refine g_icmp_ne G 206 dX10_finds_189 (by decide) (by first | omega | (rw [upI_same]; omega)) (by first | omega | (rw [upI_same]; omega)) (fun c189 => ?_) (fun c189 => ?_)
                    · refine g_aload_n G 0 dX10_finds_206 rfl ?_
                      refine g_iload_n G 1 dX10_finds_207 rfl ?_
                      refine g_callV G [0, 4, 6, 7, 8, 9] [1, 2, 3, 5] 10 [(q1, ia E 5400 g), (q4, ia E 96 lr), (q5, ia E 96 lp), (q7, ia E 12 c1)] [.int (iI x)] [] (c_X10_turnsBack E q0 q1 q2 q3 q4 q5 q6 q7 q8 q9 q10 q11 c0 la h1 u1 t1 ac1 co1 cs1 ut1 (tpP lp la) (tpV g lr lp la) (tpC g lr lp la) c1 la.toNat x (by exact hv) (by exact hx) (by omega) (by first | exact hSk | (exfalso; exact c189 (upI_same _ _ _))) (by first | (exfalso; exact c189 (upI_same _ _ _)) | (obtain ⟨j, hj, ej⟩ := Stk.told hSk c92; exact hSr.conf (by omega) hj (em.trans ej.symm) (by rw [ej, ecd]; exact c189)))) dX10_finds_208 gX10_finds_X10_turnsBack ⟨rfl, ⟨rfl, rfl⟩, e_X10_turnsBack, ⟨Nat.le_of_ble_eq_true rfl, Nat.le_of_ble_eq_true rfl⟩, Nat.le_of_ble_eq_true rfl, Nat.le_of_ble_eq_true rfl, Nat.le_of_ble_eq_true rfl⟩ rfl rfl rfl rfl rfl (by decide +kernel) rfl (by decide +kernel) rfl (fun v9 w9 h9 => ?_)
                      obtain ⟨rr, t2, cs2, h2, u2, rfl, rfl, hb2⟩ := h9
                      refine ⟨[(q0, .inr (10, [.ref q1, .ref q2, .ref q3, .int (iI c0), .ref q4, .ref q5, .int (iI la), .ref q6, .ref q7, .ref q8, .ref q9, .ref q10, .ref q11, .int (iI h2), .int (iI u2)])), (q1, ia E 5400 g), (q4, ia E 96 lr), (q5, ia E 96 lp), (q6, ia E 12 t2), (q7, ia E 12 c1), (q8, ia E 12 ac1), (q9, ia E 12 co1), (q10, ia E 12 cs2), (q11, ia E 12 ut1)], ⟨rfl, rfl, rfl, rfl⟩, g_to 0 0 _ _ [.int (iI rr)] rfl rfl rfl rfl rfl ?_⟩
                      refine g_istore_n G [(0, .ref q0), (1, .int (iI x)), (2, .int (iI rr)), (3, .int (iI 0)), (4, .int (iI (lr a))), (5, .int (iI (lp a))), (6, .int (iI ((3 * 0) + (g (20 + 72 * (lr a) + 6 * (lp a) + 0)))))] dX10_finds_211 (by decide) rfl rfl ?_
                      have hrr := TbR.rng hb2
                      refine g_iload_n G 2 dX10_finds_212 rfl ?_
                      refine g_if_lt G 228 dX10_finds_213 (by decide) (by omega) (fun c213 => ?_) (fun c213 => ?_)
                      · refine g_goto G 35 dX10_finds_228 (by decide) ?_
                        refine g_lv G [0, 1, 2, 3] (lv' := [(0, .ref q0), (1, .int (iI x)), (2, .int (iI rr)), (3, .int (iI 0))]) rfl ?_
                        exact ih35 rr 0 t2 c1 ac1 co1 cs2 ut1 h2 u2 (by omega) (by first | (exfalso; exact c189 (upI_same _ _ _)) | (rw [upI_same]; omega) | omega | (have q3 := hbk.2.2.1; omega)) (by first | exact hc | (intro i; have q1 := hc i; have q2 := hg (20 + 72 * lr a + 6 * lp a + 3); unfold upI; split <;> omega)) (by first | (exfalso; exact c189 (upI_same _ _ _)) | exact FdI.next hpu.2.2 (by omega) em2 | (obtain ⟨j, hj, ej⟩ := Stk.told hSk c92; exact FdI.next (hSr.adv (by omega) hj (by have := hSr.2.2.2.2.1 j hj; omega) (em.trans ej.symm) (by rw [ej, ecd]; exact c189)) (by omega) em) | exact (FdI.back hb2 _).1 c213 | exact hbk.1) (by first | (exfalso; exact c189 (upI_same _ _ _)) | (have q1 := Stk.lo hSk hx.2; unfold MUf at hm ⊢; rw [if_neg (by omega)] at hm; rw [if_neg (by omega)]; first | (rw [loN_push hch.1]; omega) | omega) | (have q1 := Stk.lo hSk hx.2; unfold MUf at hm ⊢; rw [if_neg (by omega)] at hm; rw [if_pos (by omega)]; omega))
                      · have hbk := (FdI.back hb2 s).2 c213
                        have hlo2 := TbR.lo hb2 hx.2 c213
                        refine g_aload_n G 0 dX10_finds_216 rfl ?_
                        refine g_get G 0 11 dX10_finds_217 i_X10_finds_X10 f_X10_finds_38 rfl rfl (by decide) rfl ?_
                        refine g_aload_n G 0 dX10_finds_220 rfl ?_
                        refine g_get G 0 13 dX10_finds_221 i_X10_finds_X10 f_X10_finds_99 rfl rfl (by decide) rfl ?_
                        refine g_iconst G dX10_finds_224 ?_
                        refine g_isub G dX10_finds_225 ?_
                        refine g_iald G 8 dX10_finds_226 rfl (by omega) (by omega) (by decide) ?_
                        refine g_istore_n G [(0, .ref q0), (1, .int (iI x)), (2, .int (iI rr)), (3, .int (iI (cs2 (h2 - 1)))), (4, .int (iI (lr a))), (5, .int (iI (lp a))), (6, .int (iI ((3 * 0) + (g (20 + 72 * (lr a) + 6 * (lp a) + 0)))))] dX10_finds_227 (by decide) rfl rfl ?_
                        refine g_goto G 35 dX10_finds_228 (by decide) ?_
                        refine g_lv G [0, 1, 2, 3] (lv' := [(0, .ref q0), (1, .int (iI x)), (2, .int (iI rr)), (3, .int (iI (cs2 (h2 - 1))))]) rfl ?_
                        exact ih35 rr (cs2 (h2 - 1)) t2 c1 ac1 co1 cs2 ut1 h2 u2 (by omega) (by first | (exfalso; exact c189 (upI_same _ _ _)) | (rw [upI_same]; omega) | omega | (have q3 := hbk.2.2.1; omega)) (by first | exact hc | (intro i; have q1 := hc i; have q2 := hg (20 + 72 * lr a + 6 * lp a + 3); unfold upI; split <;> omega)) (by first | (exfalso; exact c189 (upI_same _ _ _)) | exact FdI.next hpu.2.2 (by omega) em2 | (obtain ⟨j, hj, ej⟩ := Stk.told hSk c92; exact FdI.next (hSr.adv (by omega) hj (by have := hSr.2.2.2.2.1 j hj; omega) (em.trans ej.symm) (by rw [ej, ecd]; exact c189)) (by omega) em) | exact (FdI.back hb2 _).1 c213 | exact hbk.1) (by first | (exfalso; exact c189 (upI_same _ _ _)) | (have q1 := Stk.lo hSk hx.2; unfold MUf at hm ⊢; rw [if_neg (by omega)] at hm; rw [if_neg (by omega)]; first | (rw [loN_push hch.1]; omega) | omega) | (have q1 := Stk.lo hSk hx.2; unfold MUf at hm ⊢; rw [if_neg (by omega)] at hm; rw [if_pos (by omega)]; omega))
                    · refine g_aload_n G 0 dX10_finds_192 rfl ?_
                      refine g_get G 0 7 dX10_finds_193 i_X10_finds_X10 f_X10_finds_26 rfl rfl (by decide) rfl ?_
                      refine g_iload G 6 dX10_finds_196 rfl ?_
                      refine g_iald G 4 dX10_finds_198 rfl (by omega) (by omega) (by decide) ?_
                      refine g_istore_n G [(0, .ref q0), (1, .int (iI x)), (2, .int (iI a)), (3, .int (iI (t1 ((3 * 0) + (g (20 + 72 * (lr a) + 6 * (lp a) + 0)))))), (4, .int (iI (lr a))), (5, .int (iI (lp a))), (6, .int (iI ((3 * 0) + (g (20 + 72 * (lr a) + 6 * (lp a) + 0)))))] dX10_finds_199 (by decide) rfl rfl ?_
                      refine g_iinc G 2 [(0, .ref q0), (1, .int (iI x)), (2, .int (iI (a + 1))), (3, .int (iI (t1 ((3 * 0) + (g (20 + 72 * (lr a) + 6 * (lp a) + 0)))))), (4, .int (iI (lr a))), (5, .int (iI (lp a))), (6, .int (iI ((3 * 0) + (g (20 + 72 * (lr a) + 6 * (lp a) + 0)))))] dX10_finds_200 rfl (by decide) rfl rfl ?_
                      refine g_goto G 228 dX10_finds_203 (by decide) ?_
                      refine g_goto G 35 dX10_finds_228 (by decide) ?_
                      refine g_lv G [0, 1, 2, 3] (lv' := [(0, .ref q0), (1, .int (iI x)), (2, .int (iI (a + 1))), (3, .int (iI (t1 ((3 * 0) + (g (20 + 72 * (lr a) + 6 * (lp a) + 0))))))]) rfl ?_
                      exact ih35 (a + 1) (t1 ((3 * 0) + (g (20 + 72 * (lr a) + 6 * (lp a) + 0)))) t1 c1 ac1 co1 cs1 ut1 h1 u1 (by omega) (by first | (exfalso; exact c189 (upI_same _ _ _)) | (rw [upI_same]; omega) | omega | (have q3 := hbk.2.2.1; omega)) (by first | exact hc | (intro i; have q1 := hc i; have q2 := hg (20 + 72 * lr a + 6 * lp a + 3); unfold upI; split <;> omega)) (by first | (exfalso; exact c189 (upI_same _ _ _)) | exact FdI.next hpu.2.2 (by omega) em2 | (obtain ⟨j, hj, ej⟩ := Stk.told hSk c92; exact FdI.next (hSr.adv (by omega) hj (by have := hSr.2.2.2.2.1 j hj; omega) (em.trans ej.symm) (by rw [ej, ecd]; exact c189)) (by omega) em) | exact (FdI.back hb2 _).1 c213 | exact hbk.1) (by first | (exfalso; exact c189 (upI_same _ _ _)) | (have q1 := Stk.lo hSk hx.2; unfold MUf at hm ⊢; rw [if_neg (by omega)] at hm; rw [if_neg (by omega)]; first | (rw [loN_push hch.1]; omega) | omega) | (have q1 := Stk.lo hSk hx.2; unfold MUf at hm ⊢; rw [if_neg (by omega)] at hm; rw [if_pos (by omega)]; omega))
                  · have hng : t1 ((3 * 0) + (g (20 + 72 * (lr a) + 6 * (lp a) + 0))) = -1 := Stk.neg hSk c92
                    have hpu := Srch.push hv hx.2 hSr (by omega) em hng
                    rw [ecd] at hpu
                    have em2 : cel (tpP lp la) (tpV g lr lp la) (upI t1 ((3 * 0) + (g (20 + 72 * (lr a) + 6 * (lp a) + 0))) 0) a.toNat = ((3 * 0) + (g (20 + 72 * (lr a) + 6 * (lp a) + 0))) := (Srch.cel_new hSr hng).trans em
                    refine g_aload_n G 0 dX10_finds_95 rfl ?_
                    refine g_get G 0 7 dX10_finds_96 i_X10_finds_X10 f_X10_finds_26 rfl rfl (by decide) rfl ?_
                    refine g_iload G 6 dX10_finds_99 rfl ?_
                    refine g_iconst G dX10_finds_101 ?_
                    refine g_iast G 4 [(q0, .inr (10, [.ref q1, .ref q2, .ref q3, .int (iI c0), .ref q4, .ref q5, .int (iI la), .ref q6, .ref q7, .ref q8, .ref q9, .ref q10, .ref q11, .int (iI h1), .int (iI u1)])), (q1, ia E 5400 g), (q4, ia E 96 lr), (q5, ia E 96 lp), (q6, ia E 12 (upI t1 ((3 * 0) + (g (20 + 72 * (lr a) + 6 * (lp a) + 0))) 0)), (q7, ia E 12 c1), (q8, ia E 12 ac1), (q9, ia E 12 co1), (q10, ia E 12 cs1), (q11, ia E 12 ut1)] dX10_finds_102 rfl (by omega) (by omega) (by decide) rfl ?_
                    refine g_aload_n G 0 dX10_finds_103 rfl ?_
                    refine g_get G 0 8 dX10_finds_104 i_X10_finds_X10 f_X10_finds_29 rfl rfl (by decide) rfl ?_
                    refine g_iload G 6 dX10_finds_107 rfl ?_
                    refine g_aload_n G 0 dX10_finds_109 rfl ?_
                    refine g_iload G 4 dX10_finds_110 rfl ?_
                    refine g_iload G 5 dX10_finds_112 rfl ?_
                    refine g_iconst G dX10_finds_114 ?_
                    refine g_callV G [0, 1] [2, 3, 4, 5, 6, 7, 8, 9] 10 [(q4, ia E 96 lr), (q5, ia E 96 lp), (q6, ia E 12 (upI t1 ((3 * 0) + (g (20 + 72 * (lr a) + 6 * (lp a) + 0))) 0)), (q7, ia E 12 c1), (q8, ia E 12 ac1), (q9, ia E 12 co1), (q10, ia E 12 cs1), (q11, ia E 12 ut1)] [.int (iI (lr a)), .int (iI (lp a)), .int (iI 3)] [.int (iI ((3 * 0) + (g (20 + 72 * (lr a) + 6 * (lp a) + 0)))), .ref q7] (c_X10_of E q0 q1 q2 q3 q4 q5 q6 q7 q8 q9 q10 q11 c0 la h1 u1 g (lr a) (lp a) 3 (by first | assumption | omega) (by first | assumption | omega) (by first | assumption | omega)) dX10_finds_115 gX10_finds_X10_of ⟨rfl, ⟨rfl, rfl⟩, e_X10_of, ⟨Nat.le_of_ble_eq_true rfl, Nat.le_of_ble_eq_true rfl⟩, Nat.le_of_ble_eq_true rfl, Nat.le_of_ble_eq_true rfl, Nat.le_of_ble_eq_true rfl⟩ rfl rfl rfl rfl rfl (by decide +kernel) rfl (by decide +kernel) rfl (fun v9 w9 h9 => ?_)
                    obtain ⟨o13, rfl, rfl, rfl⟩ := h9
                    have b14 := hg (20 + 72 * (lr a) + 6 * (lp a) + 3)
                    refine ⟨[(q0, .inr (10, [.ref q1, .ref q2, .ref q3, .int (iI c0), .ref q4, .ref q5, .int (iI la), .ref q6, .ref q7, .ref q8, .ref q9, .ref q10, .ref q11, .int (iI h1), .int (iI u1)])), (q1, ia E 5400 g), (q4, ia E 96 lr), (q5, ia E 96 lp), (q6, ia E 12 (upI t1 ((3 * 0) + (g (20 + 72 * (lr a) + 6 * (lp a) + 0))) 0)), (q7, ia E 12 c1), (q8, ia E 12 ac1), (q9, ia E 12 co1), (q10, ia E 12 cs1), (q11, ia E 12 ut1)], ⟨rfl, rfl, rfl, rfl⟩, g_to 0 0 _ _ [.int (iI (g (20 + 72 * (lr a) + 6 * (lp a) + 3))), .int (iI ((3 * 0) + (g (20 + 72 * (lr a) + 6 * (lp a) + 0)))), .ref q7] rfl rfl rfl rfl rfl ?_⟩
                    refine g_iast G 5 [(q0, .inr (10, [.ref q1, .ref q2, .ref q3, .int (iI c0), .ref q4, .ref q5, .int (iI la), .ref q6, .ref q7, .ref q8, .ref q9, .ref q10, .ref q11, .int (iI h1), .int (iI u1)])), (q1, ia E 5400 g), (q4, ia E 96 lr), (q5, ia E 96 lp), (q6, ia E 12 (upI t1 ((3 * 0) + (g (20 + 72 * (lr a) + 6 * (lp a) + 0))) 0)), (q7, ia E 12 (upI c1 ((3 * 0) + (g (20 + 72 * (lr a) + 6 * (lp a) + 0))) (g (20 + 72 * (lr a) + 6 * (lp a) + 3)))), (q8, ia E 12 ac1), (q9, ia E 12 co1), (q10, ia E 12 cs1), (q11, ia E 12 ut1)] dX10_finds_118 rfl (by omega) (by omega) (by decide) rfl ?_
                    refine g_aload_n G 0 dX10_finds_119 rfl ?_
                    refine g_get G 0 9 dX10_finds_120 i_X10_finds_X10 f_X10_finds_32 rfl rfl (by decide) rfl ?_
                    refine g_aload_n G 0 dX10_finds_123 rfl ?_
                    refine g_get G 0 13 dX10_finds_124 i_X10_finds_X10 f_X10_finds_99 rfl rfl (by decide) rfl ?_
                    refine g_iload_n G 2 dX10_finds_127 rfl ?_
                    refine g_iast G 6 [(q0, .inr (10, [.ref q1, .ref q2, .ref q3, .int (iI c0), .ref q4, .ref q5, .int (iI la), .ref q6, .ref q7, .ref q8, .ref q9, .ref q10, .ref q11, .int (iI h1), .int (iI u1)])), (q1, ia E 5400 g), (q4, ia E 96 lr), (q5, ia E 96 lp), (q6, ia E 12 (upI t1 ((3 * 0) + (g (20 + 72 * (lr a) + 6 * (lp a) + 0))) 0)), (q7, ia E 12 (upI c1 ((3 * 0) + (g (20 + 72 * (lr a) + 6 * (lp a) + 0))) (g (20 + 72 * (lr a) + 6 * (lp a) + 3)))), (q8, ia E 12 (upI ac1 h1 a)), (q9, ia E 12 co1), (q10, ia E 12 cs1), (q11, ia E 12 ut1)] dX10_finds_128 rfl (by omega) (by omega) (by decide) rfl ?_
                    refine g_aload_n G 0 dX10_finds_129 rfl ?_
                    refine g_get G 0 10 dX10_finds_130 i_X10_finds_X10 f_X10_finds_35 rfl rfl (by decide) rfl ?_
                    refine g_aload_n G 0 dX10_finds_133 rfl ?_
                    refine g_get G 0 13 dX10_finds_134 i_X10_finds_X10 f_X10_finds_99 rfl rfl (by decide) rfl ?_
                    refine g_iload G 6 dX10_finds_137 rfl ?_
                    refine g_iast G 7 [(q0, .inr (10, [.ref q1, .ref q2, .ref q3, .int (iI c0), .ref q4, .ref q5, .int (iI la), .ref q6, .ref q7, .ref q8, .ref q9, .ref q10, .ref q11, .int (iI h1), .int (iI u1)])), (q1, ia E 5400 g), (q4, ia E 96 lr), (q5, ia E 96 lp), (q6, ia E 12 (upI t1 ((3 * 0) + (g (20 + 72 * (lr a) + 6 * (lp a) + 0))) 0)), (q7, ia E 12 (upI c1 ((3 * 0) + (g (20 + 72 * (lr a) + 6 * (lp a) + 0))) (g (20 + 72 * (lr a) + 6 * (lp a) + 3)))), (q8, ia E 12 (upI ac1 h1 a)), (q9, ia E 12 (upI co1 h1 ((3 * 0) + (g (20 + 72 * (lr a) + 6 * (lp a) + 0))))), (q10, ia E 12 cs1), (q11, ia E 12 ut1)] dX10_finds_139 rfl (by omega) (by omega) (by decide) rfl ?_
                    refine g_aload_n G 0 dX10_finds_140 rfl ?_
                    refine g_get G 0 11 dX10_finds_141 i_X10_finds_X10 f_X10_finds_38 rfl rfl (by decide) rfl ?_
                    refine g_aload_n G 0 dX10_finds_144 rfl ?_
                    refine g_get G 0 13 dX10_finds_145 i_X10_finds_X10 f_X10_finds_99 rfl rfl (by decide) rfl ?_
                    refine g_iconst G dX10_finds_148 ?_
                    refine g_iast G 8 [(q0, .inr (10, [.ref q1, .ref q2, .ref q3, .int (iI c0), .ref q4, .ref q5, .int (iI la), .ref q6, .ref q7, .ref q8, .ref q9, .ref q10, .ref q11, .int (iI h1), .int (iI u1)])), (q1, ia E 5400 g), (q4, ia E 96 lr), (q5, ia E 96 lp), (q6, ia E 12 (upI t1 ((3 * 0) + (g (20 + 72 * (lr a) + 6 * (lp a) + 0))) 0)), (q7, ia E 12 (upI c1 ((3 * 0) + (g (20 + 72 * (lr a) + 6 * (lp a) + 0))) (g (20 + 72 * (lr a) + 6 * (lp a) + 3)))), (q8, ia E 12 (upI ac1 h1 a)), (q9, ia E 12 (upI co1 h1 ((3 * 0) + (g (20 + 72 * (lr a) + 6 * (lp a) + 0))))), (q10, ia E 12 (upI cs1 h1 0)), (q11, ia E 12 ut1)] dX10_finds_149 rfl (by omega) (by omega) (by decide) rfl ?_
                    refine g_aload_n G 0 dX10_finds_150 rfl ?_
                    refine g_get G 0 12 dX10_finds_151 i_X10_finds_X10 f_X10_finds_41 rfl rfl (by decide) rfl ?_
                    refine g_aload_n G 0 dX10_finds_154 rfl ?_
                    refine g_get G 0 13 dX10_finds_155 i_X10_finds_X10 f_X10_finds_99 rfl rfl (by decide) rfl ?_
                    refine g_aload_n G 0 dX10_finds_158 rfl ?_
                    refine g_get G 0 14 dX10_finds_159 i_X10_finds_X10 f_X10_finds_102 rfl rfl (by decide) rfl ?_
                    refine g_iast G 9 [(q0, .inr (10, [.ref q1, .ref q2, .ref q3, .int (iI c0), .ref q4, .ref q5, .int (iI la), .ref q6, .ref q7, .ref q8, .ref q9, .ref q10, .ref q11, .int (iI h1), .int (iI u1)])), (q1, ia E 5400 g), (q4, ia E 96 lr), (q5, ia E 96 lp), (q6, ia E 12 (upI t1 ((3 * 0) + (g (20 + 72 * (lr a) + 6 * (lp a) + 0))) 0)), (q7, ia E 12 (upI c1 ((3 * 0) + (g (20 + 72 * (lr a) + 6 * (lp a) + 0))) (g (20 + 72 * (lr a) + 6 * (lp a) + 3)))), (q8, ia E 12 (upI ac1 h1 a)), (q9, ia E 12 (upI co1 h1 ((3 * 0) + (g (20 + 72 * (lr a) + 6 * (lp a) + 0))))), (q10, ia E 12 (upI cs1 h1 0)), (q11, ia E 12 (upI ut1 h1 u1))] dX10_finds_162 rfl (by omega) (by omega) (by decide) rfl ?_
                    refine g_aload_n G 0 dX10_finds_163 rfl ?_
                    refine g_dup G dX10_finds_164 rfl ?_
                    refine g_get G 0 13 dX10_finds_165 i_X10_finds_X10 f_X10_finds_99 rfl rfl (by decide) rfl ?_
                    refine g_iconst G dX10_finds_168 ?_
                    refine g_iadd G dX10_finds_169 ?_
                    refine g_put G 0 13 [(q0, .inr (10, [.ref q1, .ref q2, .ref q3, .int (iI c0), .ref q4, .ref q5, .int (iI la), .ref q6, .ref q7, .ref q8, .ref q9, .ref q10, .ref q11, .int (iI (h1 + 1)), .int (iI u1)])), (q1, ia E 5400 g), (q4, ia E 96 lr), (q5, ia E 96 lp), (q6, ia E 12 (upI t1 ((3 * 0) + (g (20 + 72 * (lr a) + 6 * (lp a) + 0))) 0)), (q7, ia E 12 (upI c1 ((3 * 0) + (g (20 + 72 * (lr a) + 6 * (lp a) + 0))) (g (20 + 72 * (lr a) + 6 * (lp a) + 3)))), (q8, ia E 12 (upI ac1 h1 a)), (q9, ia E 12 (upI co1 h1 ((3 * 0) + (g (20 + 72 * (lr a) + 6 * (lp a) + 0))))), (q10, ia E 12 (upI cs1 h1 0)), (q11, ia E 12 (upI ut1 h1 u1))] dX10_finds_170 i_X10_finds_X10 f_X10_finds_99 tyX10_ok nmX10 rfl rfl (by decide) rfl rfl rfl rfl (Nat.le_of_ble_eq_true rfl) rfl ?_
                    refine g_aload_n G 0 dX10_finds_173 rfl ?_
                    refine g_get G 0 8 dX10_finds_174 i_X10_finds_X10 f_X10_finds_29 rfl rfl (by decide) rfl ?_
                    refine g_iload G 6 dX10_finds_177 rfl ?_
                    refine g_iald G 5 dX10_finds_179 rfl (by omega) (by omega) (by decide) ?_
                    have hcb : -100000 ≤ c1 ((3 * 0) + (g (20 + 72 * (lr a) + 6 * (lp a) + 0))) ∧ c1 ((3 * 0) + (g (20 + 72 * (lr a) + 6 * (lp a) + 0))) ≤ 100000 := hc ((3 * 0) + (g (20 + 72 * (lr a) + 6 * (lp a) + 0)))
                    refine g_aload_n G 0 dX10_finds_180 rfl ?_
                    refine g_iload G 4 dX10_finds_181 rfl ?_
                    refine g_iload G 5 dX10_finds_183 rfl ?_
                    refine g_iconst G dX10_finds_185 ?_
                    refine g_callV G [0, 1] [2, 3, 4, 5, 6, 7, 8, 9] 10 [(q4, ia E 96 lr), (q5, ia E 96 lp), (q6, ia E 12 (upI t1 ((3 * 0) + (g (20 + 72 * (lr a) + 6 * (lp a) + 0))) 0)), (q7, ia E 12 (upI c1 ((3 * 0) + (g (20 + 72 * (lr a) + 6 * (lp a) + 0))) (g (20 + 72 * (lr a) + 6 * (lp a) + 3)))), (q8, ia E 12 (upI ac1 h1 a)), (q9, ia E 12 (upI co1 h1 ((3 * 0) + (g (20 + 72 * (lr a) + 6 * (lp a) + 0))))), (q10, ia E 12 (upI cs1 h1 0)), (q11, ia E 12 (upI ut1 h1 u1))] [.int (iI (lr a)), .int (iI (lp a)), .int (iI 3)] [.int (iI ((upI c1 ((3 * 0) + (g (20 + 72 * (lr a) + 6 * (lp a) + 0))) (g (20 + 72 * (lr a) + 6 * (lp a) + 3))) ((3 * 0) + (g (20 + 72 * (lr a) + 6 * (lp a) + 0)))))] (c_X10_of E q0 q1 q2 q3 q4 q5 q6 q7 q8 q9 q10 q11 c0 la (h1 + 1) u1 g (lr a) (lp a) 3 (by first | assumption | omega) (by first | assumption | omega) (by first | assumption | omega)) dX10_finds_186 gX10_finds_X10_of ⟨rfl, ⟨rfl, rfl⟩, e_X10_of, ⟨Nat.le_of_ble_eq_true rfl, Nat.le_of_ble_eq_true rfl⟩, Nat.le_of_ble_eq_true rfl, Nat.le_of_ble_eq_true rfl, Nat.le_of_ble_eq_true rfl⟩ rfl rfl rfl rfl rfl (by decide +kernel) rfl (by decide +kernel) rfl (fun v9 w9 h9 => ?_)
                    obtain ⟨o15, rfl, rfl, rfl⟩ := h9
                    have b16 := hg (20 + 72 * (lr a) + 6 * (lp a) + 3)
                    refine ⟨[(q0, .inr (10, [.ref q1, .ref q2, .ref q3, .int (iI c0), .ref q4, .ref q5, .int (iI la), .ref q6, .ref q7, .ref q8, .ref q9, .ref q10, .ref q11, .int (iI (h1 + 1)), .int (iI u1)])), (q1, ia E 5400 g), (q4, ia E 96 lr), (q5, ia E 96 lp), (q6, ia E 12 (upI t1 ((3 * 0) + (g (20 + 72 * (lr a) + 6 * (lp a) + 0))) 0)), (q7, ia E 12 (upI c1 ((3 * 0) + (g (20 + 72 * (lr a) + 6 * (lp a) + 0))) (g (20 + 72 * (lr a) + 6 * (lp a) + 3)))), (q8, ia E 12 (upI ac1 h1 a)), (q9, ia E 12 (upI co1 h1 ((3 * 0) + (g (20 + 72 * (lr a) + 6 * (lp a) + 0))))), (q10, ia E 12 (upI cs1 h1 0)), (q11, ia E 12 (upI ut1 h1 u1))], ⟨rfl, rfl, rfl, rfl⟩, g_to 0 0 _ _ [.int (iI (g (20 + 72 * (lr a) + 6 * (lp a) + 3))), .int (iI ((upI c1 ((3 * 0) + (g (20 + 72 * (lr a) + 6 * (lp a) + 0))) (g (20 + 72 * (lr a) + 6 * (lp a) + 3))) ((3 * 0) + (g (20 + 72 * (lr a) + 6 * (lp a) + 0)))))] rfl rfl rfl rfl rfl ?_⟩
                    refine g_icmp_ne G 206 dX10_finds_189 (by decide) (by first | omega | (rw [upI_same]; omega)) (by first | omega | (rw [upI_same]; omega)) (fun c189 => ?_) (fun c189 => ?_)
                    · refine g_aload_n G 0 dX10_finds_206 rfl ?_
                      refine g_iload_n G 1 dX10_finds_207 rfl ?_
                      refine g_callV G [0, 4, 6, 7, 8, 9] [1, 2, 3, 5] 10 [(q1, ia E 5400 g), (q4, ia E 96 lr), (q5, ia E 96 lp), (q7, ia E 12 (upI c1 ((3 * 0) + (g (20 + 72 * (lr a) + 6 * (lp a) + 0))) (g (20 + 72 * (lr a) + 6 * (lp a) + 3))))] [.int (iI x)] [] (c_X10_turnsBack E q0 q1 q2 q3 q4 q5 q6 q7 q8 q9 q10 q11 c0 la (h1 + 1) u1 (upI t1 ((3 * 0) + (g (20 + 72 * (lr a) + 6 * (lp a) + 0))) 0) (upI ac1 h1 a) (upI co1 h1 ((3 * 0) + (g (20 + 72 * (lr a) + 6 * (lp a) + 0)))) (upI cs1 h1 0) (upI ut1 h1 u1) (tpP lp la) (tpV g lr lp la) (tpC g lr lp la) c1 la.toNat x (by exact hv) (by exact hx) (by omega) (by first | exact hSk | (exfalso; exact c189 (upI_same _ _ _))) (by first | (exfalso; exact c189 (upI_same _ _ _)) | (obtain ⟨j, hj, ej⟩ := Stk.told hSk c92; exact hSr.conf (by omega) hj (em.trans ej.symm) (by rw [ej, ecd]; exact c189)))) dX10_finds_208 gX10_finds_X10_turnsBack ⟨rfl, ⟨rfl, rfl⟩, e_X10_turnsBack, ⟨Nat.le_of_ble_eq_true rfl, Nat.le_of_ble_eq_true rfl⟩, Nat.le_of_ble_eq_true rfl, Nat.le_of_ble_eq_true rfl, Nat.le_of_ble_eq_true rfl⟩ rfl rfl rfl rfl rfl (by decide +kernel) rfl (by decide +kernel) rfl (fun v9 w9 h9 => ?_)
                      obtain ⟨rr, t2, cs2, h2, u2, rfl, rfl, hb2⟩ := h9
                      refine ⟨[(q0, .inr (10, [.ref q1, .ref q2, .ref q3, .int (iI c0), .ref q4, .ref q5, .int (iI la), .ref q6, .ref q7, .ref q8, .ref q9, .ref q10, .ref q11, .int (iI h2), .int (iI u2)])), (q1, ia E 5400 g), (q4, ia E 96 lr), (q5, ia E 96 lp), (q6, ia E 12 t2), (q7, ia E 12 (upI c1 ((3 * 0) + (g (20 + 72 * (lr a) + 6 * (lp a) + 0))) (g (20 + 72 * (lr a) + 6 * (lp a) + 3)))), (q8, ia E 12 (upI ac1 h1 a)), (q9, ia E 12 (upI co1 h1 ((3 * 0) + (g (20 + 72 * (lr a) + 6 * (lp a) + 0))))), (q10, ia E 12 cs2), (q11, ia E 12 (upI ut1 h1 u1))], ⟨rfl, rfl, rfl, rfl⟩, g_to 0 0 _ _ [.int (iI rr)] rfl rfl rfl rfl rfl ?_⟩
                      refine g_istore_n G [(0, .ref q0), (1, .int (iI x)), (2, .int (iI rr)), (3, .int (iI 0)), (4, .int (iI (lr a))), (5, .int (iI (lp a))), (6, .int (iI ((3 * 0) + (g (20 + 72 * (lr a) + 6 * (lp a) + 0)))))] dX10_finds_211 (by decide) rfl rfl ?_
                      have hrr := TbR.rng hb2
                      refine g_iload_n G 2 dX10_finds_212 rfl ?_
                      refine g_if_lt G 228 dX10_finds_213 (by decide) (by omega) (fun c213 => ?_) (fun c213 => ?_)
                      · refine g_goto G 35 dX10_finds_228 (by decide) ?_
                        refine g_lv G [0, 1, 2, 3] (lv' := [(0, .ref q0), (1, .int (iI x)), (2, .int (iI rr)), (3, .int (iI 0))]) rfl ?_
                        exact ih35 rr 0 t2 (upI c1 ((3 * 0) + (g (20 + 72 * (lr a) + 6 * (lp a) + 0))) (g (20 + 72 * (lr a) + 6 * (lp a) + 3))) (upI ac1 h1 a) (upI co1 h1 ((3 * 0) + (g (20 + 72 * (lr a) + 6 * (lp a) + 0)))) cs2 (upI ut1 h1 u1) h2 u2 (by omega) (by first | (exfalso; exact c189 (upI_same _ _ _)) | (rw [upI_same]; omega) | omega | (have q3 := hbk.2.2.1; omega)) (by first | exact hc | (intro i; have q1 := hc i; have q2 := hg (20 + 72 * lr a + 6 * lp a + 3); unfold upI; split <;> omega)) (by first | (exfalso; exact c189 (upI_same _ _ _)) | exact FdI.next hpu.2.2 (by omega) em2 | (obtain ⟨j, hj, ej⟩ := Stk.told hSk c92; exact FdI.next (hSr.adv (by omega) hj (by have := hSr.2.2.2.2.1 j hj; omega) (em.trans ej.symm) (by rw [ej, ecd]; exact c189)) (by omega) em) | exact (FdI.back hb2 _).1 c213 | exact hbk.1) (by first | (exfalso; exact c189 (upI_same _ _ _)) | (have q1 := Stk.lo hSk hx.2; unfold MUf at hm ⊢; rw [if_neg (by omega)] at hm; rw [if_neg (by omega)]; first | (rw [loN_push hch.1]; omega) | omega) | (have q1 := Stk.lo hSk hx.2; unfold MUf at hm ⊢; rw [if_neg (by omega)] at hm; rw [if_pos (by omega)]; omega))
                      · have hbk := (FdI.back hb2 s).2 c213
                        have hlo2 := TbR.lo hb2 hx.2 c213
                        refine g_aload_n G 0 dX10_finds_216 rfl ?_
                        refine g_get G 0 11 dX10_finds_217 i_X10_finds_X10 f_X10_finds_38 rfl rfl (by decide) rfl ?_
                        refine g_aload_n G 0 dX10_finds_220 rfl ?_
                        refine g_get G 0 13 dX10_finds_221 i_X10_finds_X10 f_X10_finds_99 rfl rfl (by decide) rfl ?_
                        refine g_iconst G dX10_finds_224 ?_
                        refine g_isub G dX10_finds_225 ?_
                        refine g_iald G 8 dX10_finds_226 rfl (by omega) (by omega) (by decide) ?_
                        refine g_istore_n G [(0, .ref q0), (1, .int (iI x)), (2, .int (iI rr)), (3, .int (iI (cs2 (h2 - 1)))), (4, .int (iI (lr a))), (5, .int (iI (lp a))), (6, .int (iI ((3 * 0) + (g (20 + 72 * (lr a) + 6 * (lp a) + 0)))))] dX10_finds_227 (by decide) rfl rfl ?_
                        refine g_goto G 35 dX10_finds_228 (by decide) ?_
                        refine g_lv G [0, 1, 2, 3] (lv' := [(0, .ref q0), (1, .int (iI x)), (2, .int (iI rr)), (3, .int (iI (cs2 (h2 - 1))))]) rfl ?_
                        exact ih35 rr (cs2 (h2 - 1)) t2 (upI c1 ((3 * 0) + (g (20 + 72 * (lr a) + 6 * (lp a) + 0))) (g (20 + 72 * (lr a) + 6 * (lp a) + 3))) (upI ac1 h1 a) (upI co1 h1 ((3 * 0) + (g (20 + 72 * (lr a) + 6 * (lp a) + 0)))) cs2 (upI ut1 h1 u1) h2 u2 (by omega) (by first | (exfalso; exact c189 (upI_same _ _ _)) | (rw [upI_same]; omega) | omega | (have q3 := hbk.2.2.1; omega)) (by first | exact hc | (intro i; have q1 := hc i; have q2 := hg (20 + 72 * lr a + 6 * lp a + 3); unfold upI; split <;> omega)) (by first | (exfalso; exact c189 (upI_same _ _ _)) | exact FdI.next hpu.2.2 (by omega) em2 | (obtain ⟨j, hj, ej⟩ := Stk.told hSk c92; exact FdI.next (hSr.adv (by omega) hj (by have := hSr.2.2.2.2.1 j hj; omega) (em.trans ej.symm) (by rw [ej, ecd]; exact c189)) (by omega) em) | exact (FdI.back hb2 _).1 c213 | exact hbk.1) (by first | (exfalso; exact c189 (upI_same _ _ _)) | (have q1 := Stk.lo hSk hx.2; unfold MUf at hm ⊢; rw [if_neg (by omega)] at hm; rw [if_neg (by omega)]; first | (rw [loN_push hch.1]; omega) | omega) | (have q1 := Stk.lo hSk hx.2; unfold MUf at hm ⊢; rw [if_neg (by omega)] at hm; rw [if_pos (by omega)]; omega))
                    · refine g_aload_n G 0 dX10_finds_192 rfl ?_
                      refine g_get G 0 7 dX10_finds_193 i_X10_finds_X10 f_X10_finds_26 rfl rfl (by decide) rfl ?_
                      refine g_iload G 6 dX10_finds_196 rfl ?_
                      refine g_iald G 4 dX10_finds_198 rfl (by omega) (by omega) (by decide) ?_
                      refine g_istore_n G [(0, .ref q0), (1, .int (iI x)), (2, .int (iI a)), (3, .int (iI ((upI t1 ((3 * 0) + (g (20 + 72 * (lr a) + 6 * (lp a) + 0))) 0) ((3 * 0) + (g (20 + 72 * (lr a) + 6 * (lp a) + 0)))))), (4, .int (iI (lr a))), (5, .int (iI (lp a))), (6, .int (iI ((3 * 0) + (g (20 + 72 * (lr a) + 6 * (lp a) + 0)))))] dX10_finds_199 (by decide) rfl rfl ?_
                      refine g_iinc G 2 [(0, .ref q0), (1, .int (iI x)), (2, .int (iI (a + 1))), (3, .int (iI ((upI t1 ((3 * 0) + (g (20 + 72 * (lr a) + 6 * (lp a) + 0))) 0) ((3 * 0) + (g (20 + 72 * (lr a) + 6 * (lp a) + 0)))))), (4, .int (iI (lr a))), (5, .int (iI (lp a))), (6, .int (iI ((3 * 0) + (g (20 + 72 * (lr a) + 6 * (lp a) + 0)))))] dX10_finds_200 rfl (by decide) rfl rfl ?_
                      refine g_goto G 228 dX10_finds_203 (by decide) ?_
                      refine g_goto G 35 dX10_finds_228 (by decide) ?_
                      refine g_lv G [0, 1, 2, 3] (lv' := [(0, .ref q0), (1, .int (iI x)), (2, .int (iI (a + 1))), (3, .int (iI ((upI t1 ((3 * 0) + (g (20 + 72 * (lr a) + 6 * (lp a) + 0))) 0) ((3 * 0) + (g (20 + 72 * (lr a) + 6 * (lp a) + 0))))))]) rfl ?_
                      exact ih35 (a + 1) ((upI t1 ((3 * 0) + (g (20 + 72 * (lr a) + 6 * (lp a) + 0))) 0) ((3 * 0) + (g (20 + 72 * (lr a) + 6 * (lp a) + 0)))) (upI t1 ((3 * 0) + (g (20 + 72 * (lr a) + 6 * (lp a) + 0))) 0) (upI c1 ((3 * 0) + (g (20 + 72 * (lr a) + 6 * (lp a) + 0))) (g (20 + 72 * (lr a) + 6 * (lp a) + 3))) (upI ac1 h1 a) (upI co1 h1 ((3 * 0) + (g (20 + 72 * (lr a) + 6 * (lp a) + 0)))) (upI cs1 h1 0) (upI ut1 h1 u1) (h1 + 1) u1 (by omega) (by first | (exfalso; exact c189 (upI_same _ _ _)) | (rw [upI_same]; omega) | omega | (have q3 := hbk.2.2.1; omega)) (by first | exact hc | (intro i; have q1 := hc i; have q2 := hg (20 + 72 * lr a + 6 * lp a + 3); unfold upI; split <;> omega)) (by first | (exfalso; exact c189 (upI_same _ _ _)) | exact FdI.next hpu.2.2 (by omega) em2 | (obtain ⟨j, hj, ej⟩ := Stk.told hSk c92; exact FdI.next (hSr.adv (by omega) hj (by have := hSr.2.2.2.2.1 j hj; omega) (em.trans ej.symm) (by rw [ej, ecd]; exact c189)) (by omega) em) | exact (FdI.back hb2 _).1 c213 | exact hbk.1) (by first | (exfalso; exact c189 (upI_same _ _ _)) | (have q1 := Stk.lo hSk hx.2; unfold MUf at hm ⊢; rw [if_neg (by omega)] at hm; rw [if_neg (by omega)]; first | (rw [loN_push hch.1]; omega) | omega) | (have q1 := Stk.lo hSk hx.2; unfold MUf at hm ⊢; rw [if_neg (by omega)] at hm; rw [if_pos (by omega)]; omega))
        exact L35 ((MUf 0 cs 0 : Int).toNat + 1) 0 0 (fun _ => -1) c ac co cs ut 0 1 (by first | assumption | omega) (by first | assumption | omega) (by exact hc0) (by exact FdI.init hx.1) (by omega)
      · refine g_aload_n G 0 dX10_finds_8 rfl ?_
        refine g_get G 0 7 dX10_finds_9 i_X10_finds_X10 f_X10_finds_26 rfl rfl (by decide) rfl ?_
        refine g_iload_n G 2 dX10_finds_12 rfl ?_
        refine g_iconst G dX10_finds_13 ?_
        refine g_iast G 4 [(q0, .inr (10, [.ref q1, .ref q2, .ref q3, .int (iI c0), .ref q4, .ref q5, .int (iI la), .ref q6, .ref q7, .ref q8, .ref q9, .ref q10, .ref q11, .int (iI ch), .int (iI us)])), (q1, ia E 5400 g), (q4, ia E 96 lr), (q5, ia E 96 lp), (q6, ia E 12 (upI U i (-1))), (q7, ia E 12 c), (q8, ia E 12 ac), (q9, ia E 12 co), (q10, ia E 12 cs), (q11, ia E 12 ut)] dX10_finds_14 rfl (by omega) (by omega) (by decide) rfl ?_
        refine g_iinc G 2 [(0, .ref q0), (1, .int (iI x)), (2, .int (iI (i + 1)))] dX10_finds_15 rfl (by decide) rfl rfl ?_
        refine g_goto G 2 dX10_finds_18 (by decide) ?_
        exact ih2 (i + 1) (upI U i (-1)) (by first | assumption | omega) (by rw [hU, fiI_up t (-1) hi.1]) (by omega)
  exact L2 ((12 - 0 : Int).toNat + 1) 0 t (by first | assumption | omega) (by rw [fiI_0]) (by omega)
