/-- a run's answer: never seen, or the machine's code and the rules' fields -/
def AnS (t n k o a b : Int → Int) (z : Int) (c d l : Int → Int) (st an un v s r : Int) (c9 d9 l9 : Int → Int) (st9 an9 un9 : Int) : Prop :=
  ((n (st * 3 + v) = -1 ∨ ((k (v * 2 + 0) = 5 ∨ k (v * 2 + 1) = 5) ∧ findI a z v s = -1)) ∧ r = -2 ∧ c9 = c ∧ d9 = d ∧ l9 = l ∧ st9 = st ∧ an9 = an ∧ un9 = un + 1) ∨
  (¬ (n (st * 3 + v) = -1 ∨ ((k (v * 2 + 0) = 5 ∨ k (v * 2 + 1) = 5) ∧ findI a z v s = -1)) ∧ r = n (st * 3 + v) ∧ c9 = upI c v (c v + 1) ∧ d9 = upI d (s / 100) (s % 100) ∧ l9 = upI (upI l 0 (fore k o a b z c d v 0 s)) 1 (fore k o a b z c d v 1 s) ∧ st9 = t (st * 3 + v) ∧ an9 = an + 1 ∧ un9 = un)
/-- what a row's place holds against the run's answer -/
def dfC (r : Int) (l : Int → Int) (x : Int) : Int := if r = -2 then 0 else if r ≠ x / 10000 then 1 else if l 0 ≠ -1000 ∧ l 0 ≠ fldI x 0 then 2 else if l 1 ≠ -1000 ∧ l 1 ≠ fldI x 1 then 3 else -1
theorem dfC_bd (r : Int) (l : Int → Int) (x : Int) : -1 ≤ dfC r l x ∧ dfC r l x ≤ 3 := by
  unfold dfC
  (repeat' split) <;> omega
theorem fore_bd {k o a b c d : Int → Int} {z v s : Int} (hU : RulesOk k o a b z) (hM : MemOk c d) (hs : 0 ≤ s ∧ s < 10000) (f : Int) : -2000000 ≤ fore k o a b z c d v f s ∧ fore k o a b z c d v f s ≤ 2000000 := by
  have e1 := baseI_bd hM.1 hM.2 (k (v * 2 + f)) v hs
  have e2 := hU.2.2.2.1 (v * 2 + f)
  have e3 := fldI_bd f (hU.2.2.2.2.2 (findI a z v s)).1
  unfold fore
  (repeat' split) <;> omega
theorem AnS.rng {t n k o a b : Int → Int} {z : Int} {c d l : Int → Int} {st an un v s r : Int} {c9 d9 l9 : Int → Int} {st9 an9 un9 : Int} (h : AnS t n k o a b z c d l st an un v s r c9 d9 l9 st9 an9 un9) (hn : ∀ i, -1 ≤ n i ∧ n i < 4) : -2 ≤ r ∧ r < 4 := by
  rcases h with h | h
  · omega
  · have := hn (st * 3 + v); omega
theorem AnS.l {t n k o a b : Int → Int} {z : Int} {c d l : Int → Int} {st an un v s r : Int} {c9 d9 l9 : Int → Int} {st9 an9 un9 : Int} (h : AnS t n k o a b z c d l st an un v s r c9 d9 l9 st9 an9 un9) (hU : RulesOk k o a b z) (hM : MemOk c d) (hs : 0 ≤ s ∧ s < 10000) (hr : r ≠ -2) : (-2000000 ≤ l9 0 ∧ l9 0 ≤ 2000000) ∧ -2000000 ≤ l9 1 ∧ l9 1 ≤ 2000000 := by
  rcases h with h | ⟨_, _, _, _, h, _⟩
  · exact absurd h.2.1 hr
  · rw [h, upI_same, upI_ne _ _ (by omega), upI_same]
    exact ⟨fore_bd hU hM hs 0, fore_bd hU hM hs 1⟩
set_option maxRecDepth 100000 in
set_option maxHeartbeats 4000000 in
theorem c_X7_answer_p (E : qE) (q0 : Nat) (q1 : Nat) (m0 : Nat) (m1 : Nat) (m2 : Nat) (r0 : Nat) (r1 : Nat) (r2 : Nat) (r3 : Nat) (r4 : Nat) (e0 : Nat) (e1 : Nat) (e2 : Nat) (t : Int → Int) (n : Int → Int) (x : Int) (k : Int → Int) (o : Int → Int) (a : Int → Int) (b : Int → Int) (z : Int) (c : Int → Int) (d : Int → Int) (l : Int → Int) (on : Int) (st : Int) (an : Int) (un : Int) (v : Int) (s : Int) (hU : RulesOk k o a b z) (hM : MemOk c d) (hst : 0 ≤ st ∧ st < 4) (hn : ∀ i, -1 ≤ n i ∧ n i < 4) (hv : 0 ≤ v ∧ v < 3) (hs : 0 ≤ s ∧ s < 10000) : Cn E yX7_answer wsX7_answer { frames := 2, cells := 0, slots := 0, locals := 50 } [.ref q0, .int (iI v), .int (iI s)] [(q0, .inr (7, [.ref m0, .ref r0, .ref e0, .ref q1, .int (iI on), .int (iI st), .int (iI an), .int (iI un)])), (m0, .inr (1, [.ref m1, .ref m2, .int (iI x)])), (m1, ia E 12 t), (m2, ia E 12 n), (r0, .inr (6, [.ref r1, .ref r2, .ref r3, .ref r4, .int (iI z)])), (r1, ia E 6 k), (r2, ia E 6 o), (r3, ia E 96 a), (r4, ia E 96 b), (e0, .inr (3, [.ref e1, .ref e2])), (e1, ia E 3 c), (e2, ia E 100 d), (q1, ia E 2 l)] (fun v9 w9 => ∃ (r : Int) (c9 : Int → Int) (d9 : Int → Int) (l9 : Int → Int) (st9 : Int) (an9 : Int) (un9 : Int), v9 = some (.int (iI r)) ∧ w9 = [(q0, .inr (7, [.ref m0, .ref r0, .ref e0, .ref q1, .int (iI on), .int (iI st9), .int (iI an9), .int (iI un9)])), (m0, .inr (1, [.ref m1, .ref m2, .int (iI x)])), (m1, ia E 12 t), (m2, ia E 12 n), (r0, .inr (6, [.ref r1, .ref r2, .ref r3, .ref r4, .int (iI z)])), (r1, ia E 6 k), (r2, ia E 6 o), (r3, ia E 96 a), (r4, ia E 96 b), (e0, .inr (3, [.ref e1, .ref e2])), (e1, ia E 3 c9), (e2, ia E 100 d9), (q1, ia E 2 l9)] ∧ (AnS t n k o a b z c d l st an un v s r c9 d9 l9 st9 an9 un9)) 0 0 := by
  refine Cn.ofP (own := RX7) (cc := cX7_answer) (maxL := 5) (ret := (some .int)) false [(0, .ref q0), (1, .int (iI v)), (2, .int (iI s))] (by decide +kernel) rfl rfl (Nat.le_of_ble_eq_true rfl) rfl (fun h => nomatch h) (fun v w h => by obtain ⟨r, c9, d9, l9, st9, an9, un9, rfl, h9⟩ := h; exact ⟨_, rfl, rfl⟩) ?_
  intro P G
  refine g_aload_n G 0 dX7_answer_0 rfl ?_
  refine g_get G 0 0 dX7_answer_1 i_X7_answer_X7 f_X7_answer_12 rfl rfl (by decide) rfl ?_
  refine g_aload_n G 0 dX7_answer_4 rfl ?_
  refine g_get G 0 5 dX7_answer_5 i_X7_answer_X7 f_X7_answer_56 rfl rfl (by decide) rfl ?_
  refine g_iload_n G 1 dX7_answer_8 rfl ?_
  refine g_callV G [1, 2, 3] [0, 4, 5, 6, 7, 8, 9, 10, 11, 12] 13 [(q0, .inr (7, [.ref m0, .ref r0, .ref e0, .ref q1, .int (iI on), .int (iI st), .int (iI an), .int (iI un)])), (r0, .inr (6, [.ref r1, .ref r2, .ref r3, .ref r4, .int (iI z)])), (r1, ia E 6 k), (r2, ia E 6 o), (r3, ia E 96 a), (r4, ia E 96 b), (e0, .inr (3, [.ref e1, .ref e2])), (e1, ia E 3 c), (e2, ia E 100 d), (q1, ia E 2 l)] [.int (iI st), .int (iI v)] [] (c_X1_toldBy E m0 m1 m2 t n x st v (by first | assumption | omega)) dX7_answer_9 gX7_answer_X1_toldBy ⟨rfl, ⟨rfl, rfl⟩, e_X1_toldBy, ⟨Nat.le_of_ble_eq_true rfl, Nat.le_of_ble_eq_true rfl⟩, Nat.le_of_ble_eq_true rfl, Nat.le_of_ble_eq_true rfl, Nat.le_of_ble_eq_true rfl⟩ rfl rfl rfl rfl rfl (by decide +kernel) rfl (by decide +kernel) rfl (fun v9 w9 h9 => ?_)
  obtain ⟨o1, rfl, rfl, rfl⟩ := h9
  have b2 := hn (st * 3 + v)
  refine ⟨[(q0, .inr (7, [.ref m0, .ref r0, .ref e0, .ref q1, .int (iI on), .int (iI st), .int (iI an), .int (iI un)])), (m0, .inr (1, [.ref m1, .ref m2, .int (iI x)])), (m1, ia E 12 t), (m2, ia E 12 n), (r0, .inr (6, [.ref r1, .ref r2, .ref r3, .ref r4, .int (iI z)])), (r1, ia E 6 k), (r2, ia E 6 o), (r3, ia E 96 a), (r4, ia E 96 b), (e0, .inr (3, [.ref e1, .ref e2])), (e1, ia E 3 c), (e2, ia E 100 d), (q1, ia E 2 l)], ⟨rfl, rfl, rfl, rfl⟩, g_to 0 0 _ _ [.int (iI (n (st * 3 + v)))] rfl rfl rfl rfl rfl ?_⟩
  refine g_istore_n G [(0, .ref q0), (1, .int (iI v)), (2, .int (iI s)), (3, .int (iI (n (st * 3 + v))))] dX7_answer_12 (by decide) rfl rfl ?_
  refine g_iload_n G 3 dX7_answer_13 rfl ?_
  refine g_iconst G dX7_answer_14 ?_
  refine g_icmp_eq G 30 dX7_answer_15 (by decide) (by omega) (by omega) (fun c15 => ?_) (fun c15 => ?_)
  · have hun : (n (st * 3 + v) = -1 ∨ ((k (v * 2 + 0) = 5 ∨ k (v * 2 + 1) = 5) ∧ findI a z v s = -1)) := by first | exact Or.inl c15 | exact Or.inr c27
    refine g_aload_n G 0 dX7_answer_30 rfl ?_
    refine g_dup G dX7_answer_31 rfl ?_
    refine g_get G 0 7 dX7_answer_32 i_X7_answer_X7 f_X7_answer_63 rfl rfl (by decide) rfl ?_
    refine g_iconst G dX7_answer_35 ?_
    refine g_iadd G dX7_answer_36 ?_
    refine g_put G 0 7 [(q0, .inr (7, [.ref m0, .ref r0, .ref e0, .ref q1, .int (iI on), .int (iI st), .int (iI an), .int (iI (un + 1))])), (m0, .inr (1, [.ref m1, .ref m2, .int (iI x)])), (m1, ia E 12 t), (m2, ia E 12 n), (r0, .inr (6, [.ref r1, .ref r2, .ref r3, .ref r4, .int (iI z)])), (r1, ia E 6 k), (r2, ia E 6 o), (r3, ia E 96 a), (r4, ia E 96 b), (e0, .inr (3, [.ref e1, .ref e2])), (e1, ia E 3 c), (e2, ia E 100 d), (q1, ia E 2 l)] dX7_answer_37 i_X7_answer_X7 f_X7_answer_63 tyX7_ok nmX7 rfl rfl (by decide) rfl rfl rfl rfl (Nat.le_of_ble_eq_true rfl) rfl ?_
    refine g_bipush G dX7_answer_40 (by decide +kernel) ?_
    exact g_ret G (some (.int (iI (-2)))) rfl dX7_answer_42 (Nat.le_refl _) (Nat.le_refl _) ⟨(-2), c, d, l, st, an, (un + 1), rfl, rfl, by first | exact Or.inl ⟨hun, rfl, rfl, rfl, rfl, rfl, rfl, rfl⟩ | exact Or.inr ⟨hun, rfl, rfl, rfl, rfl, rfl, rfl, rfl⟩⟩
  · refine g_aload_n G 0 dX7_answer_18 rfl ?_
    refine g_get G 0 1 dX7_answer_19 i_X7_answer_X7 f_X7_answer_21 rfl rfl (by decide) rfl ?_
    refine g_iload_n G 1 dX7_answer_22 rfl ?_
    refine g_iload_n G 2 dX7_answer_23 rfl ?_
    refine g_callV G [4, 5, 6, 7, 8] [0, 1, 2, 3, 9, 10, 11, 12] 13 [(q0, .inr (7, [.ref m0, .ref r0, .ref e0, .ref q1, .int (iI on), .int (iI st), .int (iI an), .int (iI un)])), (m0, .inr (1, [.ref m1, .ref m2, .int (iI x)])), (m1, ia E 12 t), (m2, ia E 12 n), (e0, .inr (3, [.ref e1, .ref e2])), (e1, ia E 3 c), (e2, ia E 100 d), (q1, ia E 2 l)] [.int (iI v), .int (iI s)] [] (c_X6_lacks E r0 r1 r2 r3 r4 k o a b z v s (by exact hU) (by exact hv) (by exact hs)) dX7_answer_24 gX7_answer_X6_lacks ⟨rfl, ⟨rfl, rfl⟩, e_X6_lacks, ⟨Nat.le_of_ble_eq_true rfl, Nat.le_of_ble_eq_true rfl⟩, Nat.le_of_ble_eq_true rfl, Nat.le_of_ble_eq_true rfl, Nat.le_of_ble_eq_true rfl⟩ rfl rfl rfl rfl rfl (by decide +kernel) rfl (by decide +kernel) rfl (fun v9 w9 h9 => ?_)
    obtain ⟨o3, rfl, rfl, rfl⟩ := h9
    refine ⟨[(q0, .inr (7, [.ref m0, .ref r0, .ref e0, .ref q1, .int (iI on), .int (iI st), .int (iI an), .int (iI un)])), (m0, .inr (1, [.ref m1, .ref m2, .int (iI x)])), (m1, ia E 12 t), (m2, ia E 12 n), (r0, .inr (6, [.ref r1, .ref r2, .ref r3, .ref r4, .int (iI z)])), (r1, ia E 6 k), (r2, ia E 6 o), (r3, ia E 96 a), (r4, ia E 96 b), (e0, .inr (3, [.ref e1, .ref e2])), (e1, ia E 3 c), (e2, ia E 100 d), (q1, ia E 2 l)], ⟨rfl, rfl, rfl, rfl⟩, g_to 0 0 _ _ [.int (iI (if (k (v * 2 + 0) = 5 ∨ k (v * 2 + 1) = 5) ∧ findI a z v s = -1 then 1 else 0))] rfl rfl rfl rfl rfl ?_⟩
    refine g_ifb_eq G 43 dX7_answer_27 (by decide) (fun c27 => ?_) (fun c27 => ?_)
    · have hun : ¬ (n (st * 3 + v) = -1 ∨ ((k (v * 2 + 0) = 5 ∨ k (v * 2 + 1) = 5) ∧ findI a z v s = -1)) := by intro q; rcases q with q | q; exact c15 q; exact c27 q
      refine g_iconst G dX7_answer_43 ?_
      refine g_istore G [(0, .ref q0), (1, .int (iI v)), (2, .int (iI s)), (3, .int (iI (n (st * 3 + v)))), (4, .int (iI 0))] dX7_answer_44 (by decide) rfl rfl ?_
      refine g_iload G 4 dX7_answer_46 rfl ?_
      refine g_iconst G dX7_answer_48 ?_
      refine g_icmp_ge G 80 dX7_answer_49 (by decide) (by omega) (by omega) (fun c49 => ?_) (fun c49 => ?_)
      · exfalso; omega
      · refine g_aload_n G 0 dX7_answer_52 rfl ?_
        refine g_get G 0 3 dX7_answer_53 i_X7_answer_X7 f_X7_answer_32 rfl rfl (by decide) rfl ?_
        refine g_iload G 4 dX7_answer_56 rfl ?_
        refine g_aload_n G 0 dX7_answer_58 rfl ?_
        refine g_get G 0 1 dX7_answer_59 i_X7_answer_X7 f_X7_answer_21 rfl rfl (by decide) rfl ?_
        refine g_iload_n G 1 dX7_answer_62 rfl ?_
        refine g_iload G 4 dX7_answer_63 rfl ?_
        refine g_iload_n G 2 dX7_answer_65 rfl ?_
        refine g_aload_n G 0 dX7_answer_66 rfl ?_
        refine g_get G 0 2 dX7_answer_67 i_X7_answer_X7 f_X7_answer_28 rfl rfl (by decide) rfl ?_
        refine g_callV G [4, 5, 6, 7, 8, 9, 10, 11] [0, 1, 2, 3, 12] 13 [(q0, .inr (7, [.ref m0, .ref r0, .ref e0, .ref q1, .int (iI on), .int (iI st), .int (iI an), .int (iI un)])), (m0, .inr (1, [.ref m1, .ref m2, .int (iI x)])), (m1, ia E 12 t), (m2, ia E 12 n), (q1, ia E 2 l)] [.int (iI v), .int (iI 0), .int (iI s), .ref e0] [.int (iI 0), .ref q1] (c_X6_foretell E r0 r1 r2 r3 r4 k o a b z v 0 s e0 e1 e2 c d (by exact hU) (by exact hv) (by exact hs) (by first | assumption | omega) (by exact hM)) dX7_answer_70 gX7_answer_X6_foretell ⟨rfl, ⟨rfl, rfl⟩, e_X6_foretell, ⟨Nat.le_of_ble_eq_true rfl, Nat.le_of_ble_eq_true rfl⟩, Nat.le_of_ble_eq_true rfl, Nat.le_of_ble_eq_true rfl, Nat.le_of_ble_eq_true rfl⟩ rfl rfl rfl rfl rfl (by decide +kernel) rfl (by decide +kernel) rfl (fun v9 w9 h9 => ?_)
        obtain ⟨o4, rfl, rfl, rfl⟩ := h9
        refine ⟨[(q0, .inr (7, [.ref m0, .ref r0, .ref e0, .ref q1, .int (iI on), .int (iI st), .int (iI an), .int (iI un)])), (m0, .inr (1, [.ref m1, .ref m2, .int (iI x)])), (m1, ia E 12 t), (m2, ia E 12 n), (r0, .inr (6, [.ref r1, .ref r2, .ref r3, .ref r4, .int (iI z)])), (r1, ia E 6 k), (r2, ia E 6 o), (r3, ia E 96 a), (r4, ia E 96 b), (e0, .inr (3, [.ref e1, .ref e2])), (e1, ia E 3 c), (e2, ia E 100 d), (q1, ia E 2 l)], ⟨rfl, rfl, rfl, rfl⟩, g_to 0 0 _ _ [.int (iI (fore k o a b z c d v 0 s)), .int (iI 0), .ref q1] rfl rfl rfl rfl rfl ?_⟩
        refine g_iast G 12 [(q0, .inr (7, [.ref m0, .ref r0, .ref e0, .ref q1, .int (iI on), .int (iI st), .int (iI an), .int (iI un)])), (m0, .inr (1, [.ref m1, .ref m2, .int (iI x)])), (m1, ia E 12 t), (m2, ia E 12 n), (r0, .inr (6, [.ref r1, .ref r2, .ref r3, .ref r4, .int (iI z)])), (r1, ia E 6 k), (r2, ia E 6 o), (r3, ia E 96 a), (r4, ia E 96 b), (e0, .inr (3, [.ref e1, .ref e2])), (e1, ia E 3 c), (e2, ia E 100 d), (q1, ia E 2 (upI l 0 (fore k o a b z c d v 0 s)))] dX7_answer_73 rfl (by omega) (by omega) (by decide) rfl ?_
        refine g_iinc G 4 [(0, .ref q0), (1, .int (iI v)), (2, .int (iI s)), (3, .int (iI (n (st * 3 + v)))), (4, .int (iI 1))] dX7_answer_74 rfl (by decide) rfl rfl ?_
        refine g_goto G 46 dX7_answer_77 (by decide) ?_
        refine g_iload G 4 dX7_answer_46 rfl ?_
        refine g_iconst G dX7_answer_48 ?_
        refine g_icmp_ge G 80 dX7_answer_49 (by decide) (by omega) (by omega) (fun c49_2 => ?_) (fun c49_2 => ?_)
        · exfalso; omega
        · refine g_aload_n G 0 dX7_answer_52 rfl ?_
          refine g_get G 0 3 dX7_answer_53 i_X7_answer_X7 f_X7_answer_32 rfl rfl (by decide) rfl ?_
          refine g_iload G 4 dX7_answer_56 rfl ?_
          refine g_aload_n G 0 dX7_answer_58 rfl ?_
          refine g_get G 0 1 dX7_answer_59 i_X7_answer_X7 f_X7_answer_21 rfl rfl (by decide) rfl ?_
          refine g_iload_n G 1 dX7_answer_62 rfl ?_
          refine g_iload G 4 dX7_answer_63 rfl ?_
          refine g_iload_n G 2 dX7_answer_65 rfl ?_
          refine g_aload_n G 0 dX7_answer_66 rfl ?_
          refine g_get G 0 2 dX7_answer_67 i_X7_answer_X7 f_X7_answer_28 rfl rfl (by decide) rfl ?_
          refine g_callV G [4, 5, 6, 7, 8, 9, 10, 11] [0, 1, 2, 3, 12] 13 [(q0, .inr (7, [.ref m0, .ref r0, .ref e0, .ref q1, .int (iI on), .int (iI st), .int (iI an), .int (iI un)])), (m0, .inr (1, [.ref m1, .ref m2, .int (iI x)])), (m1, ia E 12 t), (m2, ia E 12 n), (q1, ia E 2 (upI l 0 (fore k o a b z c d v 0 s)))] [.int (iI v), .int (iI 1), .int (iI s), .ref e0] [.int (iI 1), .ref q1] (c_X6_foretell E r0 r1 r2 r3 r4 k o a b z v 1 s e0 e1 e2 c d (by exact hU) (by exact hv) (by exact hs) (by first | assumption | omega) (by exact hM)) dX7_answer_70 gX7_answer_X6_foretell ⟨rfl, ⟨rfl, rfl⟩, e_X6_foretell, ⟨Nat.le_of_ble_eq_true rfl, Nat.le_of_ble_eq_true rfl⟩, Nat.le_of_ble_eq_true rfl, Nat.le_of_ble_eq_true rfl, Nat.le_of_ble_eq_true rfl⟩ rfl rfl rfl rfl rfl (by decide +kernel) rfl (by decide +kernel) rfl (fun v9 w9 h9 => ?_)
          obtain ⟨o5, rfl, rfl, rfl⟩ := h9
          refine ⟨[(q0, .inr (7, [.ref m0, .ref r0, .ref e0, .ref q1, .int (iI on), .int (iI st), .int (iI an), .int (iI un)])), (m0, .inr (1, [.ref m1, .ref m2, .int (iI x)])), (m1, ia E 12 t), (m2, ia E 12 n), (r0, .inr (6, [.ref r1, .ref r2, .ref r3, .ref r4, .int (iI z)])), (r1, ia E 6 k), (r2, ia E 6 o), (r3, ia E 96 a), (r4, ia E 96 b), (e0, .inr (3, [.ref e1, .ref e2])), (e1, ia E 3 c), (e2, ia E 100 d), (q1, ia E 2 (upI l 0 (fore k o a b z c d v 0 s)))], ⟨rfl, rfl, rfl, rfl⟩, g_to 0 0 _ _ [.int (iI (fore k o a b z c d v 1 s)), .int (iI 1), .ref q1] rfl rfl rfl rfl rfl ?_⟩
          refine g_iast G 12 [(q0, .inr (7, [.ref m0, .ref r0, .ref e0, .ref q1, .int (iI on), .int (iI st), .int (iI an), .int (iI un)])), (m0, .inr (1, [.ref m1, .ref m2, .int (iI x)])), (m1, ia E 12 t), (m2, ia E 12 n), (r0, .inr (6, [.ref r1, .ref r2, .ref r3, .ref r4, .int (iI z)])), (r1, ia E 6 k), (r2, ia E 6 o), (r3, ia E 96 a), (r4, ia E 96 b), (e0, .inr (3, [.ref e1, .ref e2])), (e1, ia E 3 c), (e2, ia E 100 d), (q1, ia E 2 (upI (upI l 0 (fore k o a b z c d v 0 s)) 1 (fore k o a b z c d v 1 s)))] dX7_answer_73 rfl (by omega) (by omega) (by decide) rfl ?_
          refine g_iinc G 4 [(0, .ref q0), (1, .int (iI v)), (2, .int (iI s)), (3, .int (iI (n (st * 3 + v)))), (4, .int (iI 2))] dX7_answer_74 rfl (by decide) rfl rfl ?_
          refine g_goto G 46 dX7_answer_77 (by decide) ?_
          refine g_iload G 4 dX7_answer_46 rfl ?_
          refine g_iconst G dX7_answer_48 ?_
          refine g_icmp_ge G 80 dX7_answer_49 (by decide) (by omega) (by omega) (fun c49_3 => ?_) (fun c49_3 => ?_)
          · refine g_aload_n G 0 dX7_answer_80 rfl ?_
            refine g_get G 0 2 dX7_answer_81 i_X7_answer_X7 f_X7_answer_28 rfl rfl (by decide) rfl ?_
            refine g_iload_n G 1 dX7_answer_84 rfl ?_
            refine g_iload_n G 2 dX7_answer_85 rfl ?_
            refine g_callV G [9, 10, 11] [0, 1, 2, 3, 4, 5, 6, 7, 8, 12] 13 [(q0, .inr (7, [.ref m0, .ref r0, .ref e0, .ref q1, .int (iI on), .int (iI st), .int (iI an), .int (iI un)])), (m0, .inr (1, [.ref m1, .ref m2, .int (iI x)])), (m1, ia E 12 t), (m2, ia E 12 n), (r0, .inr (6, [.ref r1, .ref r2, .ref r3, .ref r4, .int (iI z)])), (r1, ia E 6 k), (r2, ia E 6 o), (r3, ia E 96 a), (r4, ia E 96 b), (q1, ia E 2 (upI (upI l 0 (fore k o a b z c d v 0 s)) 1 (fore k o a b z c d v 1 s)))] [.int (iI v), .int (iI s)] [] (c_X3_note E e0 e1 e2 c d v s (by exact hv) (by exact hs)) dX7_answer_86 gX7_answer_X3_note ⟨rfl, ⟨rfl, rfl⟩, e_X3_note, ⟨Nat.le_of_ble_eq_true rfl, Nat.le_of_ble_eq_true rfl⟩, Nat.le_of_ble_eq_true rfl, Nat.le_of_ble_eq_true rfl, Nat.le_of_ble_eq_true rfl⟩ rfl rfl rfl rfl rfl (by decide +kernel) rfl (by decide +kernel) rfl (fun v9 w9 h9 => ?_)
            obtain ⟨rfl, rfl⟩ := h9
            refine ⟨[(q0, .inr (7, [.ref m0, .ref r0, .ref e0, .ref q1, .int (iI on), .int (iI st), .int (iI an), .int (iI un)])), (m0, .inr (1, [.ref m1, .ref m2, .int (iI x)])), (m1, ia E 12 t), (m2, ia E 12 n), (r0, .inr (6, [.ref r1, .ref r2, .ref r3, .ref r4, .int (iI z)])), (r1, ia E 6 k), (r2, ia E 6 o), (r3, ia E 96 a), (r4, ia E 96 b), (e0, .inr (3, [.ref e1, .ref e2])), (e1, ia E 3 (upI c v (c v + 1))), (e2, ia E 100 (upI d (s / 100) (s % 100))), (q1, ia E 2 (upI (upI l 0 (fore k o a b z c d v 0 s)) 1 (fore k o a b z c d v 1 s)))], ⟨rfl, rfl, rfl, rfl⟩, g_to 0 0 _ _ [] rfl rfl rfl rfl rfl ?_⟩
            refine g_aload_n G 0 dX7_answer_89 rfl ?_
            refine g_aload_n G 0 dX7_answer_90 rfl ?_
            refine g_get G 0 0 dX7_answer_91 i_X7_answer_X7 f_X7_answer_12 rfl rfl (by decide) rfl ?_
            refine g_aload_n G 0 dX7_answer_94 rfl ?_
            refine g_get G 0 5 dX7_answer_95 i_X7_answer_X7 f_X7_answer_56 rfl rfl (by decide) rfl ?_
            refine g_iload_n G 1 dX7_answer_98 rfl ?_
            refine g_callV G [1, 2, 3] [0, 4, 5, 6, 7, 8, 9, 10, 11, 12] 13 [(q0, .inr (7, [.ref m0, .ref r0, .ref e0, .ref q1, .int (iI on), .int (iI st), .int (iI an), .int (iI un)])), (r0, .inr (6, [.ref r1, .ref r2, .ref r3, .ref r4, .int (iI z)])), (r1, ia E 6 k), (r2, ia E 6 o), (r3, ia E 96 a), (r4, ia E 96 b), (e0, .inr (3, [.ref e1, .ref e2])), (e1, ia E 3 (upI c v (c v + 1))), (e2, ia E 100 (upI d (s / 100) (s % 100))), (q1, ia E 2 (upI (upI l 0 (fore k o a b z c d v 0 s)) 1 (fore k o a b z c d v 1 s)))] [.int (iI st), .int (iI v)] [.ref q0] (c_X1_targetOf E m0 m1 m2 t n x st v (by first | assumption | omega)) dX7_answer_99 gX7_answer_X1_targetOf ⟨rfl, ⟨rfl, rfl⟩, e_X1_targetOf, ⟨Nat.le_of_ble_eq_true rfl, Nat.le_of_ble_eq_true rfl⟩, Nat.le_of_ble_eq_true rfl, Nat.le_of_ble_eq_true rfl, Nat.le_of_ble_eq_true rfl⟩ rfl rfl rfl rfl rfl (by decide +kernel) rfl (by decide +kernel) rfl (fun v9 w9 h9 => ?_)
            obtain ⟨o6, rfl, rfl, rfl⟩ := h9
            refine ⟨[(q0, .inr (7, [.ref m0, .ref r0, .ref e0, .ref q1, .int (iI on), .int (iI st), .int (iI an), .int (iI un)])), (m0, .inr (1, [.ref m1, .ref m2, .int (iI x)])), (m1, ia E 12 t), (m2, ia E 12 n), (r0, .inr (6, [.ref r1, .ref r2, .ref r3, .ref r4, .int (iI z)])), (r1, ia E 6 k), (r2, ia E 6 o), (r3, ia E 96 a), (r4, ia E 96 b), (e0, .inr (3, [.ref e1, .ref e2])), (e1, ia E 3 (upI c v (c v + 1))), (e2, ia E 100 (upI d (s / 100) (s % 100))), (q1, ia E 2 (upI (upI l 0 (fore k o a b z c d v 0 s)) 1 (fore k o a b z c d v 1 s)))], ⟨rfl, rfl, rfl, rfl⟩, g_to 0 0 _ _ [.int (iI (t (st * 3 + v))), .ref q0] rfl rfl rfl rfl rfl ?_⟩
            refine g_put G 0 5 [(q0, .inr (7, [.ref m0, .ref r0, .ref e0, .ref q1, .int (iI on), .int (iI (t (st * 3 + v))), .int (iI an), .int (iI un)])), (m0, .inr (1, [.ref m1, .ref m2, .int (iI x)])), (m1, ia E 12 t), (m2, ia E 12 n), (r0, .inr (6, [.ref r1, .ref r2, .ref r3, .ref r4, .int (iI z)])), (r1, ia E 6 k), (r2, ia E 6 o), (r3, ia E 96 a), (r4, ia E 96 b), (e0, .inr (3, [.ref e1, .ref e2])), (e1, ia E 3 (upI c v (c v + 1))), (e2, ia E 100 (upI d (s / 100) (s % 100))), (q1, ia E 2 (upI (upI l 0 (fore k o a b z c d v 0 s)) 1 (fore k o a b z c d v 1 s)))] dX7_answer_102 i_X7_answer_X7 f_X7_answer_56 tyX7_ok nmX7 rfl rfl (by decide) rfl rfl rfl rfl (Nat.le_of_ble_eq_true rfl) rfl ?_
            refine g_aload_n G 0 dX7_answer_105 rfl ?_
            refine g_dup G dX7_answer_106 rfl ?_
            refine g_get G 0 6 dX7_answer_107 i_X7_answer_X7 f_X7_answer_60 rfl rfl (by decide) rfl ?_
            refine g_iconst G dX7_answer_110 ?_
            refine g_iadd G dX7_answer_111 ?_
            refine g_put G 0 6 [(q0, .inr (7, [.ref m0, .ref r0, .ref e0, .ref q1, .int (iI on), .int (iI (t (st * 3 + v))), .int (iI (an + 1)), .int (iI un)])), (m0, .inr (1, [.ref m1, .ref m2, .int (iI x)])), (m1, ia E 12 t), (m2, ia E 12 n), (r0, .inr (6, [.ref r1, .ref r2, .ref r3, .ref r4, .int (iI z)])), (r1, ia E 6 k), (r2, ia E 6 o), (r3, ia E 96 a), (r4, ia E 96 b), (e0, .inr (3, [.ref e1, .ref e2])), (e1, ia E 3 (upI c v (c v + 1))), (e2, ia E 100 (upI d (s / 100) (s % 100))), (q1, ia E 2 (upI (upI l 0 (fore k o a b z c d v 0 s)) 1 (fore k o a b z c d v 1 s)))] dX7_answer_112 i_X7_answer_X7 f_X7_answer_60 tyX7_ok nmX7 rfl rfl (by decide) rfl rfl rfl rfl (Nat.le_of_ble_eq_true rfl) rfl ?_
            refine g_iload_n G 3 dX7_answer_115 rfl ?_
            exact g_ret G (some (.int (iI (n (st * 3 + v))))) rfl dX7_answer_116 (Nat.le_refl _) (Nat.le_refl _) ⟨(n (st * 3 + v)), (upI c v (c v + 1)), (upI d (s / 100) (s % 100)), (upI (upI l 0 (fore k o a b z c d v 0 s)) 1 (fore k o a b z c d v 1 s)), (t (st * 3 + v)), (an + 1), un, rfl, rfl, by first | exact Or.inl ⟨hun, rfl, rfl, rfl, rfl, rfl, rfl, rfl⟩ | exact Or.inr ⟨hun, rfl, rfl, rfl, rfl, rfl, rfl, rfl⟩⟩
          · exfalso; omega
    · have hun : (n (st * 3 + v) = -1 ∨ ((k (v * 2 + 0) = 5 ∨ k (v * 2 + 1) = 5) ∧ findI a z v s = -1)) := by first | exact Or.inl c15 | exact Or.inr c27
      refine g_aload_n G 0 dX7_answer_30 rfl ?_
      refine g_dup G dX7_answer_31 rfl ?_
      refine g_get G 0 7 dX7_answer_32 i_X7_answer_X7 f_X7_answer_63 rfl rfl (by decide) rfl ?_
      refine g_iconst G dX7_answer_35 ?_
      refine g_iadd G dX7_answer_36 ?_
      refine g_put G 0 7 [(q0, .inr (7, [.ref m0, .ref r0, .ref e0, .ref q1, .int (iI on), .int (iI st), .int (iI an), .int (iI (un + 1))])), (m0, .inr (1, [.ref m1, .ref m2, .int (iI x)])), (m1, ia E 12 t), (m2, ia E 12 n), (r0, .inr (6, [.ref r1, .ref r2, .ref r3, .ref r4, .int (iI z)])), (r1, ia E 6 k), (r2, ia E 6 o), (r3, ia E 96 a), (r4, ia E 96 b), (e0, .inr (3, [.ref e1, .ref e2])), (e1, ia E 3 c), (e2, ia E 100 d), (q1, ia E 2 l)] dX7_answer_37 i_X7_answer_X7 f_X7_answer_63 tyX7_ok nmX7 rfl rfl (by decide) rfl rfl rfl rfl (Nat.le_of_ble_eq_true rfl) rfl ?_
      refine g_bipush G dX7_answer_40 (by decide +kernel) ?_
      exact g_ret G (some (.int (iI (-2)))) rfl dX7_answer_42 (Nat.le_refl _) (Nat.le_refl _) ⟨(-2), c, d, l, st, an, (un + 1), rfl, rfl, by first | exact Or.inl ⟨hun, rfl, rfl, rfl, rfl, rfl, rfl, rfl⟩ | exact Or.inr ⟨hun, rfl, rfl, rfl, rfl, rfl, rfl, rfl⟩⟩
theorem f_X9_differenceAt_12 : Cond.fieldLink RX9 12 (TX9 0).1 (TX9 0).2.1 (TX9 0).2.2.1 ∈ wsX9_differenceAt := by decide +kernel
theorem i_X9_differenceAt_X9 : ∀ w ∈ wsX90, w ∈ wsX9_differenceAt := by decide +kernel
theorem f_X9_differenceAt_37 : Cond.fieldLinkNest RX9 37 (TX0 0).1 (TX0 0).2.1 (TX0 0).2.2.1 "RecordedNeighbours" ∈ NW := by decide +kernel
theorem i_X9_differenceAt_X0 : ∀ w ∈ wsX00, w ∈ wsX9_differenceAt := by decide +kernel
theorem f_X9_differenceAt_33 : Cond.fieldLink RX9 33 (TX9 4).1 (TX9 4).2.1 (TX9 4).2.2.1 ∈ wsX9_differenceAt := by decide +kernel
set_option maxRecDepth 100000 in
set_option maxHeartbeats 4000000 in
theorem c_X9_differenceAt (E : qE) (x0 : Nat) (i0 : Nat) (g0 : Nat) (as0 : Nat) (bs0 : Nat) (q0 : Nat) (w0 : Nat) (w1 : Nat) (w2 : Nat) (w3 : Nat) (w4 : Nat) (L : Int → Int) (V : Int → Int) (A : Int → Int) (N : Int → Int) (y : Int) (tq0 : Nat) (tq1 : Nat) (tm0 : Nat) (tm1 : Nat) (tm2 : Nat) (tr0 : Nat) (tr1 : Nat) (tr2 : Nat) (tr3 : Nat) (tr4 : Nat) (te0 : Nat) (te1 : Nat) (te2 : Nat) (t : Int → Int) (n : Int → Int) (x : Int) (k : Int → Int) (o : Int → Int) (a : Int → Int) (b : Int → Int) (z : Int) (c : Int → Int) (d : Int → Int) (l : Int → Int) (on : Int) (st : Int) (an : Int) (un : Int) (f : Int) (p : Int) (hR : RowsOk L V A N y) (hf : 0 ≤ f ∧ f < 8) (hp : 0 ≤ p ∧ p < 12) (hU : RulesOk k o a b z) (hM : MemOk c d) (hst : 0 ≤ st ∧ st < 4) (hn : ∀ i, -1 ≤ n i ∧ n i < 4) : Cn E yX9_differenceAt wsX9_differenceAt { frames := 3, cells := 0, slots := 0, locals := 74 } [.ref x0, .int (iI f), .int (iI p)] [(x0, .inr (9, [.ref i0, .ref g0, .ref as0, .ref bs0, .ref tq0])), (i0, .inr (0, [.ref w0, .ref q0])), (w0, .inr (4, [.ref w1, .ref w2, .ref w3, .ref w4, .int (iI y)])), (w1, ia E 8 L), (w2, ia E 96 V), (w3, ia E 96 A), (w4, ia E 96 N), (tq0, .inr (7, [.ref tm0, .ref tr0, .ref te0, .ref tq1, .int (iI on), .int (iI st), .int (iI an), .int (iI un)])), (tm0, .inr (1, [.ref tm1, .ref tm2, .int (iI x)])), (tm1, ia E 12 t), (tm2, ia E 12 n), (tr0, .inr (6, [.ref tr1, .ref tr2, .ref tr3, .ref tr4, .int (iI z)])), (tr1, ia E 6 k), (tr2, ia E 6 o), (tr3, ia E 96 a), (tr4, ia E 96 b), (te0, .inr (3, [.ref te1, .ref te2])), (te1, ia E 3 c), (te2, ia E 100 d), (tq1, ia E 2 l)] (fun v9 w9 => ∃ (r : Int) (c9 : Int → Int) (d9 : Int → Int) (l9 : Int → Int) (st9 : Int) (an9 : Int) (un9 : Int), v9 = some (.int (iI r)) ∧ w9 = [(x0, .inr (9, [.ref i0, .ref g0, .ref as0, .ref bs0, .ref tq0])), (i0, .inr (0, [.ref w0, .ref q0])), (w0, .inr (4, [.ref w1, .ref w2, .ref w3, .ref w4, .int (iI y)])), (w1, ia E 8 L), (w2, ia E 96 V), (w3, ia E 96 A), (w4, ia E 96 N), (tq0, .inr (7, [.ref tm0, .ref tr0, .ref te0, .ref tq1, .int (iI on), .int (iI st9), .int (iI an9), .int (iI un9)])), (tm0, .inr (1, [.ref tm1, .ref tm2, .int (iI x)])), (tm1, ia E 12 t), (tm2, ia E 12 n), (tr0, .inr (6, [.ref tr1, .ref tr2, .ref tr3, .ref tr4, .int (iI z)])), (tr1, ia E 6 k), (tr2, ia E 6 o), (tr3, ia E 96 a), (tr4, ia E 96 b), (te0, .inr (3, [.ref te1, .ref te2])), (te1, ia E 3 c9), (te2, ia E 100 d9), (tq1, ia E 2 l9)] ∧ (∃ rr, AnS t n k o a b z c d l st an un (V (f * 12 + p)) (A (f * 12 + p)) rr c9 d9 l9 st9 an9 un9 ∧ r = dfC rr l9 (N (f * 12 + p)))) 0 0 := by
  refine Cn.ofP (own := RX9) (cc := cX9_differenceAt) (maxL := 8) (ret := (some .int)) false [(0, .ref x0), (1, .int (iI f)), (2, .int (iI p))] (by decide +kernel) rfl rfl (Nat.le_of_ble_eq_true rfl) rfl (fun h => nomatch h) (fun v w h => by obtain ⟨r, c9, d9, l9, st9, an9, un9, rfl, h9⟩ := h; exact ⟨_, rfl, rfl⟩) ?_
  intro P G
  obtain ⟨hz0, hz1, hL, hV, hA, hN⟩ := id hR
  have hn0 := hN (f * 12 + p)
  have hv0 := hV (f * 12 + p)
  have ha0 := hA (f * 12 + p)
  have hfl0 := fldI_bd (x := N (f * 12 + p)) 0 hn0.1
  have hfl1 := fldI_bd (x := N (f * 12 + p)) 1 hn0.1
  refine g_aload_n G 0 dX9_differenceAt_0 rfl ?_
  refine g_get G 0 0 dX9_differenceAt_1 i_X9_differenceAt_X9 f_X9_differenceAt_12 rfl rfl (by decide) rfl ?_
  refine g_getN G 1 0 dX9_differenceAt_4 i_X9_differenceAt_X0 f_X9_differenceAt_37 rfl rfl (by decide) rfl ?_
  refine g_astore_n G [(0, .ref x0), (1, .int (iI f)), (2, .int (iI p)), (3, .ref w0)] dX9_differenceAt_7 (by decide) rfl rfl ?_
  refine g_aload_n G 0 dX9_differenceAt_8 rfl ?_
  refine g_get G 0 4 dX9_differenceAt_9 i_X9_differenceAt_X9 f_X9_differenceAt_33 rfl rfl (by decide) rfl ?_
  refine g_aload_n G 3 dX9_differenceAt_12 rfl ?_
  refine g_iload_n G 1 dX9_differenceAt_13 rfl ?_
  refine g_iload_n G 2 dX9_differenceAt_14 rfl ?_
  refine g_callV G [2, 3, 4, 5, 6] [0, 1, 7, 8, 9, 10, 11, 12, 13, 14, 15, 16, 17, 18, 19] 20 [(x0, .inr (9, [.ref i0, .ref g0, .ref as0, .ref bs0, .ref tq0])), (i0, .inr (0, [.ref w0, .ref q0])), (tq0, .inr (7, [.ref tm0, .ref tr0, .ref te0, .ref tq1, .int (iI on), .int (iI st), .int (iI an), .int (iI un)])), (tm0, .inr (1, [.ref tm1, .ref tm2, .int (iI x)])), (tm1, ia E 12 t), (tm2, ia E 12 n), (tr0, .inr (6, [.ref tr1, .ref tr2, .ref tr3, .ref tr4, .int (iI z)])), (tr1, ia E 6 k), (tr2, ia E 6 o), (tr3, ia E 96 a), (tr4, ia E 96 b), (te0, .inr (3, [.ref te1, .ref te2])), (te1, ia E 3 c), (te2, ia E 100 d), (tq1, ia E 2 l)] [.int (iI f), .int (iI p)] [.ref tq0] (c_X4_verbAt E w0 w1 w2 w3 w4 L V A N y f p (by first | assumption | omega)) dX9_differenceAt_15 gX9_differenceAt_X4_verbAt ⟨rfl, ⟨rfl, rfl⟩, e_X4_verbAt, ⟨Nat.le_of_ble_eq_true rfl, Nat.le_of_ble_eq_true rfl⟩, Nat.le_of_ble_eq_true rfl, Nat.le_of_ble_eq_true rfl, Nat.le_of_ble_eq_true rfl⟩ rfl rfl rfl rfl rfl (by decide +kernel) rfl (by decide +kernel) rfl (fun v9 w9 h9 => ?_)
  obtain ⟨o1, rfl, rfl, rfl⟩ := h9
  refine ⟨[(x0, .inr (9, [.ref i0, .ref g0, .ref as0, .ref bs0, .ref tq0])), (i0, .inr (0, [.ref w0, .ref q0])), (w0, .inr (4, [.ref w1, .ref w2, .ref w3, .ref w4, .int (iI y)])), (w1, ia E 8 L), (w2, ia E 96 V), (w3, ia E 96 A), (w4, ia E 96 N), (tq0, .inr (7, [.ref tm0, .ref tr0, .ref te0, .ref tq1, .int (iI on), .int (iI st), .int (iI an), .int (iI un)])), (tm0, .inr (1, [.ref tm1, .ref tm2, .int (iI x)])), (tm1, ia E 12 t), (tm2, ia E 12 n), (tr0, .inr (6, [.ref tr1, .ref tr2, .ref tr3, .ref tr4, .int (iI z)])), (tr1, ia E 6 k), (tr2, ia E 6 o), (tr3, ia E 96 a), (tr4, ia E 96 b), (te0, .inr (3, [.ref te1, .ref te2])), (te1, ia E 3 c), (te2, ia E 100 d), (tq1, ia E 2 l)], ⟨rfl, rfl, rfl, rfl⟩, g_to 0 0 _ _ [.int (iI (V (f * 12 + p))), .ref tq0] rfl rfl rfl rfl rfl ?_⟩
  refine g_aload_n G 3 dX9_differenceAt_18 rfl ?_
  refine g_iload_n G 1 dX9_differenceAt_19 rfl ?_
  refine g_iload_n G 2 dX9_differenceAt_20 rfl ?_
  refine g_callV G [2, 3, 4, 5, 6] [0, 1, 7, 8, 9, 10, 11, 12, 13, 14, 15, 16, 17, 18, 19] 20 [(x0, .inr (9, [.ref i0, .ref g0, .ref as0, .ref bs0, .ref tq0])), (i0, .inr (0, [.ref w0, .ref q0])), (tq0, .inr (7, [.ref tm0, .ref tr0, .ref te0, .ref tq1, .int (iI on), .int (iI st), .int (iI an), .int (iI un)])), (tm0, .inr (1, [.ref tm1, .ref tm2, .int (iI x)])), (tm1, ia E 12 t), (tm2, ia E 12 n), (tr0, .inr (6, [.ref tr1, .ref tr2, .ref tr3, .ref tr4, .int (iI z)])), (tr1, ia E 6 k), (tr2, ia E 6 o), (tr3, ia E 96 a), (tr4, ia E 96 b), (te0, .inr (3, [.ref te1, .ref te2])), (te1, ia E 3 c), (te2, ia E 100 d), (tq1, ia E 2 l)] [.int (iI f), .int (iI p)] [.int (iI (V (f * 12 + p))), .ref tq0] (c_X4_askAt E w0 w1 w2 w3 w4 L V A N y f p (by first | assumption | omega)) dX9_differenceAt_21 gX9_differenceAt_X4_askAt ⟨rfl, ⟨rfl, rfl⟩, e_X4_askAt, ⟨Nat.le_of_ble_eq_true rfl, Nat.le_of_ble_eq_true rfl⟩, Nat.le_of_ble_eq_true rfl, Nat.le_of_ble_eq_true rfl, Nat.le_of_ble_eq_true rfl⟩ rfl rfl rfl rfl rfl (by decide +kernel) rfl (by decide +kernel) rfl (fun v9 w9 h9 => ?_)
  obtain ⟨o2, rfl, rfl, rfl⟩ := h9
  refine ⟨[(x0, .inr (9, [.ref i0, .ref g0, .ref as0, .ref bs0, .ref tq0])), (i0, .inr (0, [.ref w0, .ref q0])), (w0, .inr (4, [.ref w1, .ref w2, .ref w3, .ref w4, .int (iI y)])), (w1, ia E 8 L), (w2, ia E 96 V), (w3, ia E 96 A), (w4, ia E 96 N), (tq0, .inr (7, [.ref tm0, .ref tr0, .ref te0, .ref tq1, .int (iI on), .int (iI st), .int (iI an), .int (iI un)])), (tm0, .inr (1, [.ref tm1, .ref tm2, .int (iI x)])), (tm1, ia E 12 t), (tm2, ia E 12 n), (tr0, .inr (6, [.ref tr1, .ref tr2, .ref tr3, .ref tr4, .int (iI z)])), (tr1, ia E 6 k), (tr2, ia E 6 o), (tr3, ia E 96 a), (tr4, ia E 96 b), (te0, .inr (3, [.ref te1, .ref te2])), (te1, ia E 3 c), (te2, ia E 100 d), (tq1, ia E 2 l)], ⟨rfl, rfl, rfl, rfl⟩, g_to 0 0 _ _ [.int (iI (A (f * 12 + p))), .int (iI (V (f * 12 + p))), .ref tq0] rfl rfl rfl rfl rfl ?_⟩
  refine g_callV G [7, 8, 9, 10, 11, 12, 13, 14, 15, 16, 17, 18, 19] [0, 1, 2, 3, 4, 5, 6] 20 [(x0, .inr (9, [.ref i0, .ref g0, .ref as0, .ref bs0, .ref tq0])), (i0, .inr (0, [.ref w0, .ref q0])), (w0, .inr (4, [.ref w1, .ref w2, .ref w3, .ref w4, .int (iI y)])), (w1, ia E 8 L), (w2, ia E 96 V), (w3, ia E 96 A), (w4, ia E 96 N)] [.int (iI (V (f * 12 + p))), .int (iI (A (f * 12 + p)))] [] (c_X7_answer_p E tq0 tq1 tm0 tm1 tm2 tr0 tr1 tr2 tr3 tr4 te0 te1 te2 t n x k o a b z c d l on st an un (V (f * 12 + p)) (A (f * 12 + p)) (by exact hU) (by exact hM) (by exact hst) (by exact hn) (by exact hv0) (by exact ha0)) dX9_differenceAt_24 gX9_differenceAt_X7_answer ⟨rfl, ⟨rfl, rfl⟩, e_X7_answer, ⟨Nat.le_of_ble_eq_true rfl, Nat.le_of_ble_eq_true rfl⟩, Nat.le_of_ble_eq_true rfl, Nat.le_of_ble_eq_true rfl, Nat.le_of_ble_eq_true rfl⟩ rfl rfl rfl rfl rfl (by decide +kernel) rfl (by decide +kernel) rfl (fun v9 w9 h9 => ?_)
  obtain ⟨rr, c9, d9, l9, st9, an9, un9, rfl, rfl, ha2⟩ := h9
  refine ⟨[(x0, .inr (9, [.ref i0, .ref g0, .ref as0, .ref bs0, .ref tq0])), (i0, .inr (0, [.ref w0, .ref q0])), (w0, .inr (4, [.ref w1, .ref w2, .ref w3, .ref w4, .int (iI y)])), (w1, ia E 8 L), (w2, ia E 96 V), (w3, ia E 96 A), (w4, ia E 96 N), (tq0, .inr (7, [.ref tm0, .ref tr0, .ref te0, .ref tq1, .int (iI on), .int (iI st9), .int (iI an9), .int (iI un9)])), (tm0, .inr (1, [.ref tm1, .ref tm2, .int (iI x)])), (tm1, ia E 12 t), (tm2, ia E 12 n), (tr0, .inr (6, [.ref tr1, .ref tr2, .ref tr3, .ref tr4, .int (iI z)])), (tr1, ia E 6 k), (tr2, ia E 6 o), (tr3, ia E 96 a), (tr4, ia E 96 b), (te0, .inr (3, [.ref te1, .ref te2])), (te1, ia E 3 c9), (te2, ia E 100 d9), (tq1, ia E 2 l9)], ⟨rfl, rfl, rfl, rfl⟩, g_to 0 0 _ _ [.int (iI rr)] rfl rfl rfl rfl rfl ?_⟩
  have hrr := AnS.rng ha2 hn
  refine g_istore G [(0, .ref x0), (1, .int (iI f)), (2, .int (iI p)), (3, .ref w0), (4, .int (iI rr))] dX9_differenceAt_27 (by decide) rfl rfl ?_
  refine g_aload_n G 3 dX9_differenceAt_29 rfl ?_
  refine g_iload_n G 1 dX9_differenceAt_30 rfl ?_
  refine g_iload_n G 2 dX9_differenceAt_31 rfl ?_
  refine g_callV G [2, 3, 4, 5, 6] [0, 1, 7, 8, 9, 10, 11, 12, 13, 14, 15, 16, 17, 18, 19] 20 [(x0, .inr (9, [.ref i0, .ref g0, .ref as0, .ref bs0, .ref tq0])), (i0, .inr (0, [.ref w0, .ref q0])), (tq0, .inr (7, [.ref tm0, .ref tr0, .ref te0, .ref tq1, .int (iI on), .int (iI st9), .int (iI an9), .int (iI un9)])), (tm0, .inr (1, [.ref tm1, .ref tm2, .int (iI x)])), (tm1, ia E 12 t), (tm2, ia E 12 n), (tr0, .inr (6, [.ref tr1, .ref tr2, .ref tr3, .ref tr4, .int (iI z)])), (tr1, ia E 6 k), (tr2, ia E 6 o), (tr3, ia E 96 a), (tr4, ia E 96 b), (te0, .inr (3, [.ref te1, .ref te2])), (te1, ia E 3 c9), (te2, ia E 100 d9), (tq1, ia E 2 l9)] [.int (iI f), .int (iI p)] [] (c_X4_answerAt E w0 w1 w2 w3 w4 L V A N y f p (by first | assumption | omega)) dX9_differenceAt_32 gX9_differenceAt_X4_answerAt ⟨rfl, ⟨rfl, rfl⟩, e_X4_answerAt, ⟨Nat.le_of_ble_eq_true rfl, Nat.le_of_ble_eq_true rfl⟩, Nat.le_of_ble_eq_true rfl, Nat.le_of_ble_eq_true rfl, Nat.le_of_ble_eq_true rfl⟩ rfl rfl rfl rfl rfl (by decide +kernel) rfl (by decide +kernel) rfl (fun v9 w9 h9 => ?_)
  obtain ⟨o3, rfl, rfl, rfl⟩ := h9
  refine ⟨[(x0, .inr (9, [.ref i0, .ref g0, .ref as0, .ref bs0, .ref tq0])), (i0, .inr (0, [.ref w0, .ref q0])), (w0, .inr (4, [.ref w1, .ref w2, .ref w3, .ref w4, .int (iI y)])), (w1, ia E 8 L), (w2, ia E 96 V), (w3, ia E 96 A), (w4, ia E 96 N), (tq0, .inr (7, [.ref tm0, .ref tr0, .ref te0, .ref tq1, .int (iI on), .int (iI st9), .int (iI an9), .int (iI un9)])), (tm0, .inr (1, [.ref tm1, .ref tm2, .int (iI x)])), (tm1, ia E 12 t), (tm2, ia E 12 n), (tr0, .inr (6, [.ref tr1, .ref tr2, .ref tr3, .ref tr4, .int (iI z)])), (tr1, ia E 6 k), (tr2, ia E 6 o), (tr3, ia E 96 a), (tr4, ia E 96 b), (te0, .inr (3, [.ref te1, .ref te2])), (te1, ia E 3 c9), (te2, ia E 100 d9), (tq1, ia E 2 l9)], ⟨rfl, rfl, rfl, rfl⟩, g_to 0 0 _ _ [.int (iI (N (f * 12 + p)))] rfl rfl rfl rfl rfl ?_⟩
  refine g_istore G [(0, .ref x0), (1, .int (iI f)), (2, .int (iI p)), (3, .ref w0), (4, .int (iI rr)), (5, .int (iI (N (f * 12 + p))))] dX9_differenceAt_35 (by decide) rfl rfl ?_
  refine g_iload G 4 dX9_differenceAt_37 rfl ?_
  refine g_bipush G dX9_differenceAt_39 (by decide +kernel) ?_
  refine g_icmp_ne G 46 dX9_differenceAt_41 (by decide) (by omega) (by omega) (fun c41 => ?_) (fun c41 => ?_)
  · have hll := AnS.l ha2 hU hM ha0 c41
    refine g_iload G 4 dX9_differenceAt_46 rfl ?_
    refine g_iload G 5 dX9_differenceAt_48 rfl ?_
    refine g_callS G [] [0, 1, 2, 3, 4, 5, 6, 7, 8, 9, 10, 11, 12, 13, 14, 15, 16, 17, 18, 19] 20 [(x0, .inr (9, [.ref i0, .ref g0, .ref as0, .ref bs0, .ref tq0])), (i0, .inr (0, [.ref w0, .ref q0])), (w0, .inr (4, [.ref w1, .ref w2, .ref w3, .ref w4, .int (iI y)])), (w1, ia E 8 L), (w2, ia E 96 V), (w3, ia E 96 A), (w4, ia E 96 N), (tq0, .inr (7, [.ref tm0, .ref tr0, .ref te0, .ref tq1, .int (iI on), .int (iI st9), .int (iI an9), .int (iI un9)])), (tm0, .inr (1, [.ref tm1, .ref tm2, .int (iI x)])), (tm1, ia E 12 t), (tm2, ia E 12 n), (tr0, .inr (6, [.ref tr1, .ref tr2, .ref tr3, .ref tr4, .int (iI z)])), (tr1, ia E 6 k), (tr2, ia E 6 o), (tr3, ia E 96 a), (tr4, ia E 96 b), (te0, .inr (3, [.ref te1, .ref te2])), (te1, ia E 3 c9), (te2, ia E 100 d9), (tq1, ia E 2 l9)] [.int (iI (N (f * 12 + p)))] [.int (iI rr)] (c_X9_codeOf E (N (f * 12 + p)) (by first | assumption | omega)) dX9_differenceAt_50 gX9_differenceAt_X9_codeOf ⟨rfl, ⟨rfl, rfl⟩, e_X9_codeOf, ⟨Nat.le_of_ble_eq_true rfl, Nat.le_of_ble_eq_true rfl⟩, Nat.le_of_ble_eq_true rfl, Nat.le_of_ble_eq_true rfl, Nat.le_of_ble_eq_true rfl⟩ rfl (by decide +kernel) rfl (by decide +kernel) rfl (fun v9 w9 h9 => ?_)
    obtain ⟨o4, rfl, rfl, rfl⟩ := h9
    refine ⟨[(x0, .inr (9, [.ref i0, .ref g0, .ref as0, .ref bs0, .ref tq0])), (i0, .inr (0, [.ref w0, .ref q0])), (w0, .inr (4, [.ref w1, .ref w2, .ref w3, .ref w4, .int (iI y)])), (w1, ia E 8 L), (w2, ia E 96 V), (w3, ia E 96 A), (w4, ia E 96 N), (tq0, .inr (7, [.ref tm0, .ref tr0, .ref te0, .ref tq1, .int (iI on), .int (iI st9), .int (iI an9), .int (iI un9)])), (tm0, .inr (1, [.ref tm1, .ref tm2, .int (iI x)])), (tm1, ia E 12 t), (tm2, ia E 12 n), (tr0, .inr (6, [.ref tr1, .ref tr2, .ref tr3, .ref tr4, .int (iI z)])), (tr1, ia E 6 k), (tr2, ia E 6 o), (tr3, ia E 96 a), (tr4, ia E 96 b), (te0, .inr (3, [.ref te1, .ref te2])), (te1, ia E 3 c9), (te2, ia E 100 d9), (tq1, ia E 2 l9)], ⟨rfl, rfl, rfl, rfl⟩, g_to 0 0 _ _ [.int (iI ((N (f * 12 + p)) / 10000)), .int (iI rr)] rfl rfl rfl rfl rfl ?_⟩
    refine g_icmp_eq G 58 dX9_differenceAt_53 (by decide) (by omega) (by omega) (fun c53 => ?_) (fun c53 => ?_)
    · refine g_iconst G dX9_differenceAt_58 ?_
      refine g_istore G [(0, .ref x0), (1, .int (iI f)), (2, .int (iI p)), (3, .ref w0), (4, .int (iI rr)), (5, .int (iI (N (f * 12 + p)))), (6, .int (iI 0))] dX9_differenceAt_59 (by decide) rfl rfl ?_
      refine g_iload G 6 dX9_differenceAt_61 rfl ?_
      refine g_iconst G dX9_differenceAt_63 ?_
      refine g_icmp_ge G 109 dX9_differenceAt_64 (by decide) (by omega) (by omega) (fun c64 => ?_) (fun c64 => ?_)
      · exfalso; omega
      · refine g_aload_n G 0 dX9_differenceAt_67 rfl ?_
        refine g_get G 0 4 dX9_differenceAt_68 i_X9_differenceAt_X9 f_X9_differenceAt_33 rfl rfl (by decide) rfl ?_
        refine g_iload G 6 dX9_differenceAt_71 rfl ?_
        refine g_callV G [7, 8, 9, 10, 11, 12, 13, 14, 15, 16, 17, 18, 19] [0, 1, 2, 3, 4, 5, 6] 20 [(x0, .inr (9, [.ref i0, .ref g0, .ref as0, .ref bs0, .ref tq0])), (i0, .inr (0, [.ref w0, .ref q0])), (w0, .inr (4, [.ref w1, .ref w2, .ref w3, .ref w4, .int (iI y)])), (w1, ia E 8 L), (w2, ia E 96 V), (w3, ia E 96 A), (w4, ia E 96 N)] [.int (iI 0)] [] (c_X7_latestField E tq0 tq1 tm0 tm1 tm2 tr0 tr1 tr2 tr3 tr4 te0 te1 te2 t n x k o a b z c9 d9 l9 on st9 an9 un9 0 (by first | assumption | omega)) dX9_differenceAt_73 gX9_differenceAt_X7_latestField ⟨rfl, ⟨rfl, rfl⟩, e_X7_latestField, ⟨Nat.le_of_ble_eq_true rfl, Nat.le_of_ble_eq_true rfl⟩, Nat.le_of_ble_eq_true rfl, Nat.le_of_ble_eq_true rfl, Nat.le_of_ble_eq_true rfl⟩ rfl rfl rfl rfl rfl (by decide +kernel) rfl (by decide +kernel) rfl (fun v9 w9 h9 => ?_)
        obtain ⟨o5, rfl, rfl, rfl⟩ := h9
        refine ⟨[(x0, .inr (9, [.ref i0, .ref g0, .ref as0, .ref bs0, .ref tq0])), (i0, .inr (0, [.ref w0, .ref q0])), (w0, .inr (4, [.ref w1, .ref w2, .ref w3, .ref w4, .int (iI y)])), (w1, ia E 8 L), (w2, ia E 96 V), (w3, ia E 96 A), (w4, ia E 96 N), (tq0, .inr (7, [.ref tm0, .ref tr0, .ref te0, .ref tq1, .int (iI on), .int (iI st9), .int (iI an9), .int (iI un9)])), (tm0, .inr (1, [.ref tm1, .ref tm2, .int (iI x)])), (tm1, ia E 12 t), (tm2, ia E 12 n), (tr0, .inr (6, [.ref tr1, .ref tr2, .ref tr3, .ref tr4, .int (iI z)])), (tr1, ia E 6 k), (tr2, ia E 6 o), (tr3, ia E 96 a), (tr4, ia E 96 b), (te0, .inr (3, [.ref te1, .ref te2])), (te1, ia E 3 c9), (te2, ia E 100 d9), (tq1, ia E 2 l9)], ⟨rfl, rfl, rfl, rfl⟩, g_to 0 0 _ _ [.int (iI (l9 0))] rfl rfl rfl rfl rfl ?_⟩
        refine g_istore G [(0, .ref x0), (1, .int (iI f)), (2, .int (iI p)), (3, .ref w0), (4, .int (iI rr)), (5, .int (iI (N (f * 12 + p)))), (6, .int (iI 0)), (7, .int (iI (l9 0)))] dX9_differenceAt_76 (by decide) rfl rfl ?_
        refine g_iload G 7 dX9_differenceAt_78 rfl ?_
        refine g_sipush G dX9_differenceAt_80 (by decide +kernel) ?_
        refine g_icmp_eq G 103 dX9_differenceAt_83 (by decide) (by omega) (by omega) (fun c83 => ?_) (fun c83 => ?_)
        · refine g_iinc G 6 [(0, .ref x0), (1, .int (iI f)), (2, .int (iI p)), (3, .ref w0), (4, .int (iI rr)), (5, .int (iI (N (f * 12 + p)))), (6, .int (iI 1)), (7, .int (iI (l9 0)))] dX9_differenceAt_103 rfl (by decide) rfl rfl ?_
          refine g_goto G 61 dX9_differenceAt_106 (by decide) ?_
          refine g_iload G 6 dX9_differenceAt_61 rfl ?_
          refine g_iconst G dX9_differenceAt_63 ?_
          refine g_icmp_ge G 109 dX9_differenceAt_64 (by decide) (by omega) (by omega) (fun c64_2 => ?_) (fun c64_2 => ?_)
          · exfalso; omega
          · refine g_aload_n G 0 dX9_differenceAt_67 rfl ?_
            refine g_get G 0 4 dX9_differenceAt_68 i_X9_differenceAt_X9 f_X9_differenceAt_33 rfl rfl (by decide) rfl ?_
            refine g_iload G 6 dX9_differenceAt_71 rfl ?_
            refine g_callV G [7, 8, 9, 10, 11, 12, 13, 14, 15, 16, 17, 18, 19] [0, 1, 2, 3, 4, 5, 6] 20 [(x0, .inr (9, [.ref i0, .ref g0, .ref as0, .ref bs0, .ref tq0])), (i0, .inr (0, [.ref w0, .ref q0])), (w0, .inr (4, [.ref w1, .ref w2, .ref w3, .ref w4, .int (iI y)])), (w1, ia E 8 L), (w2, ia E 96 V), (w3, ia E 96 A), (w4, ia E 96 N)] [.int (iI 1)] [] (c_X7_latestField E tq0 tq1 tm0 tm1 tm2 tr0 tr1 tr2 tr3 tr4 te0 te1 te2 t n x k o a b z c9 d9 l9 on st9 an9 un9 1 (by first | assumption | omega)) dX9_differenceAt_73 gX9_differenceAt_X7_latestField ⟨rfl, ⟨rfl, rfl⟩, e_X7_latestField, ⟨Nat.le_of_ble_eq_true rfl, Nat.le_of_ble_eq_true rfl⟩, Nat.le_of_ble_eq_true rfl, Nat.le_of_ble_eq_true rfl, Nat.le_of_ble_eq_true rfl⟩ rfl rfl rfl rfl rfl (by decide +kernel) rfl (by decide +kernel) rfl (fun v9 w9 h9 => ?_)
            obtain ⟨o6, rfl, rfl, rfl⟩ := h9
            refine ⟨[(x0, .inr (9, [.ref i0, .ref g0, .ref as0, .ref bs0, .ref tq0])), (i0, .inr (0, [.ref w0, .ref q0])), (w0, .inr (4, [.ref w1, .ref w2, .ref w3, .ref w4, .int (iI y)])), (w1, ia E 8 L), (w2, ia E 96 V), (w3, ia E 96 A), (w4, ia E 96 N), (tq0, .inr (7, [.ref tm0, .ref tr0, .ref te0, .ref tq1, .int (iI on), .int (iI st9), .int (iI an9), .int (iI un9)])), (tm0, .inr (1, [.ref tm1, .ref tm2, .int (iI x)])), (tm1, ia E 12 t), (tm2, ia E 12 n), (tr0, .inr (6, [.ref tr1, .ref tr2, .ref tr3, .ref tr4, .int (iI z)])), (tr1, ia E 6 k), (tr2, ia E 6 o), (tr3, ia E 96 a), (tr4, ia E 96 b), (te0, .inr (3, [.ref te1, .ref te2])), (te1, ia E 3 c9), (te2, ia E 100 d9), (tq1, ia E 2 l9)], ⟨rfl, rfl, rfl, rfl⟩, g_to 0 0 _ _ [.int (iI (l9 1))] rfl rfl rfl rfl rfl ?_⟩
            refine g_istore G [(0, .ref x0), (1, .int (iI f)), (2, .int (iI p)), (3, .ref w0), (4, .int (iI rr)), (5, .int (iI (N (f * 12 + p)))), (6, .int (iI 1)), (7, .int (iI (l9 1)))] dX9_differenceAt_76 (by decide) rfl rfl ?_
            refine g_iload G 7 dX9_differenceAt_78 rfl ?_
            refine g_sipush G dX9_differenceAt_80 (by decide +kernel) ?_
            refine g_icmp_eq G 103 dX9_differenceAt_83 (by decide) (by omega) (by omega) (fun c83_2 => ?_) (fun c83_2 => ?_)
            · refine g_iinc G 6 [(0, .ref x0), (1, .int (iI f)), (2, .int (iI p)), (3, .ref w0), (4, .int (iI rr)), (5, .int (iI (N (f * 12 + p)))), (6, .int (iI 2)), (7, .int (iI (l9 1)))] dX9_differenceAt_103 rfl (by decide) rfl rfl ?_
              refine g_goto G 61 dX9_differenceAt_106 (by decide) ?_
              refine g_iload G 6 dX9_differenceAt_61 rfl ?_
              refine g_iconst G dX9_differenceAt_63 ?_
              refine g_icmp_ge G 109 dX9_differenceAt_64 (by decide) (by omega) (by omega) (fun c64_3 => ?_) (fun c64_3 => ?_)
              · refine g_iconst G dX9_differenceAt_109 ?_
                exact g_ret G (some (.int (iI (-1)))) rfl dX9_differenceAt_110 (Nat.le_refl _) (Nat.le_refl _) ⟨(-1), c9, d9, l9, st9, an9, un9, rfl, rfl, by refine ⟨rr, ha2, ?_⟩; unfold dfC; first | (rw [if_pos c41]; done) | (rw [if_neg c41, if_pos c53]; done) | (rw [if_neg c41, if_neg (fun q => q c53)]; (repeat' split) <;> first | rfl | omega)⟩
              · exfalso; omega
            · refine g_iload G 7 dX9_differenceAt_86 rfl ?_
              refine g_iload G 5 dX9_differenceAt_88 rfl ?_
              refine g_iload G 6 dX9_differenceAt_90 rfl ?_
              refine g_callS G [] [0, 1, 2, 3, 4, 5, 6, 7, 8, 9, 10, 11, 12, 13, 14, 15, 16, 17, 18, 19] 20 [(x0, .inr (9, [.ref i0, .ref g0, .ref as0, .ref bs0, .ref tq0])), (i0, .inr (0, [.ref w0, .ref q0])), (w0, .inr (4, [.ref w1, .ref w2, .ref w3, .ref w4, .int (iI y)])), (w1, ia E 8 L), (w2, ia E 96 V), (w3, ia E 96 A), (w4, ia E 96 N), (tq0, .inr (7, [.ref tm0, .ref tr0, .ref te0, .ref tq1, .int (iI on), .int (iI st9), .int (iI an9), .int (iI un9)])), (tm0, .inr (1, [.ref tm1, .ref tm2, .int (iI x)])), (tm1, ia E 12 t), (tm2, ia E 12 n), (tr0, .inr (6, [.ref tr1, .ref tr2, .ref tr3, .ref tr4, .int (iI z)])), (tr1, ia E 6 k), (tr2, ia E 6 o), (tr3, ia E 96 a), (tr4, ia E 96 b), (te0, .inr (3, [.ref te1, .ref te2])), (te1, ia E 3 c9), (te2, ia E 100 d9), (tq1, ia E 2 l9)] [.int (iI (N (f * 12 + p))), .int (iI 1)] [.int (iI (l9 1))] (c_X9_fieldOf E (N (f * 12 + p)) 1 (by first | assumption | omega) (by first | assumption | omega)) dX9_differenceAt_92 gX9_differenceAt_X9_fieldOf ⟨rfl, ⟨rfl, rfl⟩, e_X9_fieldOf, ⟨Nat.le_of_ble_eq_true rfl, Nat.le_of_ble_eq_true rfl⟩, Nat.le_of_ble_eq_true rfl, Nat.le_of_ble_eq_true rfl, Nat.le_of_ble_eq_true rfl⟩ rfl (by decide +kernel) rfl (by decide +kernel) rfl (fun v9 w9 h9 => ?_)
              obtain ⟨o7, rfl, rfl, rfl⟩ := h9
              refine ⟨[(x0, .inr (9, [.ref i0, .ref g0, .ref as0, .ref bs0, .ref tq0])), (i0, .inr (0, [.ref w0, .ref q0])), (w0, .inr (4, [.ref w1, .ref w2, .ref w3, .ref w4, .int (iI y)])), (w1, ia E 8 L), (w2, ia E 96 V), (w3, ia E 96 A), (w4, ia E 96 N), (tq0, .inr (7, [.ref tm0, .ref tr0, .ref te0, .ref tq1, .int (iI on), .int (iI st9), .int (iI an9), .int (iI un9)])), (tm0, .inr (1, [.ref tm1, .ref tm2, .int (iI x)])), (tm1, ia E 12 t), (tm2, ia E 12 n), (tr0, .inr (6, [.ref tr1, .ref tr2, .ref tr3, .ref tr4, .int (iI z)])), (tr1, ia E 6 k), (tr2, ia E 6 o), (tr3, ia E 96 a), (tr4, ia E 96 b), (te0, .inr (3, [.ref te1, .ref te2])), (te1, ia E 3 c9), (te2, ia E 100 d9), (tq1, ia E 2 l9)], ⟨rfl, rfl, rfl, rfl⟩, g_to 0 0 _ _ [.int (iI (fldI (N (f * 12 + p)) 1)), .int (iI (l9 1))] rfl rfl rfl rfl rfl ?_⟩
              refine g_icmp_eq G 103 dX9_differenceAt_95 (by decide) (by omega) (by omega) (fun c95 => ?_) (fun c95 => ?_)
              · refine g_iinc G 6 [(0, .ref x0), (1, .int (iI f)), (2, .int (iI p)), (3, .ref w0), (4, .int (iI rr)), (5, .int (iI (N (f * 12 + p)))), (6, .int (iI 2)), (7, .int (iI (l9 1)))] dX9_differenceAt_103 rfl (by decide) rfl rfl ?_
                refine g_goto G 61 dX9_differenceAt_106 (by decide) ?_
                refine g_iload G 6 dX9_differenceAt_61 rfl ?_
                refine g_iconst G dX9_differenceAt_63 ?_
                refine g_icmp_ge G 109 dX9_differenceAt_64 (by decide) (by omega) (by omega) (fun c64_3 => ?_) (fun c64_3 => ?_)
                · refine g_iconst G dX9_differenceAt_109 ?_
                  exact g_ret G (some (.int (iI (-1)))) rfl dX9_differenceAt_110 (Nat.le_refl _) (Nat.le_refl _) ⟨(-1), c9, d9, l9, st9, an9, un9, rfl, rfl, by refine ⟨rr, ha2, ?_⟩; unfold dfC; first | (rw [if_pos c41]; done) | (rw [if_neg c41, if_pos c53]; done) | (rw [if_neg c41, if_neg (fun q => q c53)]; (repeat' split) <;> first | rfl | omega)⟩
                · exfalso; omega
              · refine g_iconst G dX9_differenceAt_98 ?_
                refine g_iload G 6 dX9_differenceAt_99 rfl ?_
                refine g_iadd G dX9_differenceAt_101 ?_
                exact g_ret G (some (.int (iI (2 + 1)))) rfl dX9_differenceAt_102 (Nat.le_refl _) (Nat.le_refl _) ⟨(2 + 1), c9, d9, l9, st9, an9, un9, rfl, rfl, by refine ⟨rr, ha2, ?_⟩; unfold dfC; first | (rw [if_pos c41]; done) | (rw [if_neg c41, if_pos c53]; done) | (rw [if_neg c41, if_neg (fun q => q c53)]; (repeat' split) <;> first | rfl | omega)⟩
        · refine g_iload G 7 dX9_differenceAt_86 rfl ?_
          refine g_iload G 5 dX9_differenceAt_88 rfl ?_
          refine g_iload G 6 dX9_differenceAt_90 rfl ?_
          refine g_callS G [] [0, 1, 2, 3, 4, 5, 6, 7, 8, 9, 10, 11, 12, 13, 14, 15, 16, 17, 18, 19] 20 [(x0, .inr (9, [.ref i0, .ref g0, .ref as0, .ref bs0, .ref tq0])), (i0, .inr (0, [.ref w0, .ref q0])), (w0, .inr (4, [.ref w1, .ref w2, .ref w3, .ref w4, .int (iI y)])), (w1, ia E 8 L), (w2, ia E 96 V), (w3, ia E 96 A), (w4, ia E 96 N), (tq0, .inr (7, [.ref tm0, .ref tr0, .ref te0, .ref tq1, .int (iI on), .int (iI st9), .int (iI an9), .int (iI un9)])), (tm0, .inr (1, [.ref tm1, .ref tm2, .int (iI x)])), (tm1, ia E 12 t), (tm2, ia E 12 n), (tr0, .inr (6, [.ref tr1, .ref tr2, .ref tr3, .ref tr4, .int (iI z)])), (tr1, ia E 6 k), (tr2, ia E 6 o), (tr3, ia E 96 a), (tr4, ia E 96 b), (te0, .inr (3, [.ref te1, .ref te2])), (te1, ia E 3 c9), (te2, ia E 100 d9), (tq1, ia E 2 l9)] [.int (iI (N (f * 12 + p))), .int (iI 0)] [.int (iI (l9 0))] (c_X9_fieldOf E (N (f * 12 + p)) 0 (by first | assumption | omega) (by first | assumption | omega)) dX9_differenceAt_92 gX9_differenceAt_X9_fieldOf ⟨rfl, ⟨rfl, rfl⟩, e_X9_fieldOf, ⟨Nat.le_of_ble_eq_true rfl, Nat.le_of_ble_eq_true rfl⟩, Nat.le_of_ble_eq_true rfl, Nat.le_of_ble_eq_true rfl, Nat.le_of_ble_eq_true rfl⟩ rfl (by decide +kernel) rfl (by decide +kernel) rfl (fun v9 w9 h9 => ?_)
          obtain ⟨o8, rfl, rfl, rfl⟩ := h9
          refine ⟨[(x0, .inr (9, [.ref i0, .ref g0, .ref as0, .ref bs0, .ref tq0])), (i0, .inr (0, [.ref w0, .ref q0])), (w0, .inr (4, [.ref w1, .ref w2, .ref w3, .ref w4, .int (iI y)])), (w1, ia E 8 L), (w2, ia E 96 V), (w3, ia E 96 A), (w4, ia E 96 N), (tq0, .inr (7, [.ref tm0, .ref tr0, .ref te0, .ref tq1, .int (iI on), .int (iI st9), .int (iI an9), .int (iI un9)])), (tm0, .inr (1, [.ref tm1, .ref tm2, .int (iI x)])), (tm1, ia E 12 t), (tm2, ia E 12 n), (tr0, .inr (6, [.ref tr1, .ref tr2, .ref tr3, .ref tr4, .int (iI z)])), (tr1, ia E 6 k), (tr2, ia E 6 o), (tr3, ia E 96 a), (tr4, ia E 96 b), (te0, .inr (3, [.ref te1, .ref te2])), (te1, ia E 3 c9), (te2, ia E 100 d9), (tq1, ia E 2 l9)], ⟨rfl, rfl, rfl, rfl⟩, g_to 0 0 _ _ [.int (iI (fldI (N (f * 12 + p)) 0)), .int (iI (l9 0))] rfl rfl rfl rfl rfl ?_⟩
          refine g_icmp_eq G 103 dX9_differenceAt_95 (by decide) (by omega) (by omega) (fun c95 => ?_) (fun c95 => ?_)
          · refine g_iinc G 6 [(0, .ref x0), (1, .int (iI f)), (2, .int (iI p)), (3, .ref w0), (4, .int (iI rr)), (5, .int (iI (N (f * 12 + p)))), (6, .int (iI 1)), (7, .int (iI (l9 0)))] dX9_differenceAt_103 rfl (by decide) rfl rfl ?_
            refine g_goto G 61 dX9_differenceAt_106 (by decide) ?_
            refine g_iload G 6 dX9_differenceAt_61 rfl ?_
            refine g_iconst G dX9_differenceAt_63 ?_
            refine g_icmp_ge G 109 dX9_differenceAt_64 (by decide) (by omega) (by omega) (fun c64_2 => ?_) (fun c64_2 => ?_)
            · exfalso; omega
            · refine g_aload_n G 0 dX9_differenceAt_67 rfl ?_
              refine g_get G 0 4 dX9_differenceAt_68 i_X9_differenceAt_X9 f_X9_differenceAt_33 rfl rfl (by decide) rfl ?_
              refine g_iload G 6 dX9_differenceAt_71 rfl ?_
              refine g_callV G [7, 8, 9, 10, 11, 12, 13, 14, 15, 16, 17, 18, 19] [0, 1, 2, 3, 4, 5, 6] 20 [(x0, .inr (9, [.ref i0, .ref g0, .ref as0, .ref bs0, .ref tq0])), (i0, .inr (0, [.ref w0, .ref q0])), (w0, .inr (4, [.ref w1, .ref w2, .ref w3, .ref w4, .int (iI y)])), (w1, ia E 8 L), (w2, ia E 96 V), (w3, ia E 96 A), (w4, ia E 96 N)] [.int (iI 1)] [] (c_X7_latestField E tq0 tq1 tm0 tm1 tm2 tr0 tr1 tr2 tr3 tr4 te0 te1 te2 t n x k o a b z c9 d9 l9 on st9 an9 un9 1 (by first | assumption | omega)) dX9_differenceAt_73 gX9_differenceAt_X7_latestField ⟨rfl, ⟨rfl, rfl⟩, e_X7_latestField, ⟨Nat.le_of_ble_eq_true rfl, Nat.le_of_ble_eq_true rfl⟩, Nat.le_of_ble_eq_true rfl, Nat.le_of_ble_eq_true rfl, Nat.le_of_ble_eq_true rfl⟩ rfl rfl rfl rfl rfl (by decide +kernel) rfl (by decide +kernel) rfl (fun v9 w9 h9 => ?_)
              obtain ⟨o9, rfl, rfl, rfl⟩ := h9
              refine ⟨[(x0, .inr (9, [.ref i0, .ref g0, .ref as0, .ref bs0, .ref tq0])), (i0, .inr (0, [.ref w0, .ref q0])), (w0, .inr (4, [.ref w1, .ref w2, .ref w3, .ref w4, .int (iI y)])), (w1, ia E 8 L), (w2, ia E 96 V), (w3, ia E 96 A), (w4, ia E 96 N), (tq0, .inr (7, [.ref tm0, .ref tr0, .ref te0, .ref tq1, .int (iI on), .int (iI st9), .int (iI an9), .int (iI un9)])), (tm0, .inr (1, [.ref tm1, .ref tm2, .int (iI x)])), (tm1, ia E 12 t), (tm2, ia E 12 n), (tr0, .inr (6, [.ref tr1, .ref tr2, .ref tr3, .ref tr4, .int (iI z)])), (tr1, ia E 6 k), (tr2, ia E 6 o), (tr3, ia E 96 a), (tr4, ia E 96 b), (te0, .inr (3, [.ref te1, .ref te2])), (te1, ia E 3 c9), (te2, ia E 100 d9), (tq1, ia E 2 l9)], ⟨rfl, rfl, rfl, rfl⟩, g_to 0 0 _ _ [.int (iI (l9 1))] rfl rfl rfl rfl rfl ?_⟩
              refine g_istore G [(0, .ref x0), (1, .int (iI f)), (2, .int (iI p)), (3, .ref w0), (4, .int (iI rr)), (5, .int (iI (N (f * 12 + p)))), (6, .int (iI 1)), (7, .int (iI (l9 1)))] dX9_differenceAt_76 (by decide) rfl rfl ?_
              refine g_iload G 7 dX9_differenceAt_78 rfl ?_
              refine g_sipush G dX9_differenceAt_80 (by decide +kernel) ?_
              refine g_icmp_eq G 103 dX9_differenceAt_83 (by decide) (by omega) (by omega) (fun c83_2 => ?_) (fun c83_2 => ?_)
              · refine g_iinc G 6 [(0, .ref x0), (1, .int (iI f)), (2, .int (iI p)), (3, .ref w0), (4, .int (iI rr)), (5, .int (iI (N (f * 12 + p)))), (6, .int (iI 2)), (7, .int (iI (l9 1)))] dX9_differenceAt_103 rfl (by decide) rfl rfl ?_
                refine g_goto G 61 dX9_differenceAt_106 (by decide) ?_
                refine g_iload G 6 dX9_differenceAt_61 rfl ?_
                refine g_iconst G dX9_differenceAt_63 ?_
                refine g_icmp_ge G 109 dX9_differenceAt_64 (by decide) (by omega) (by omega) (fun c64_3 => ?_) (fun c64_3 => ?_)
                · refine g_iconst G dX9_differenceAt_109 ?_
                  exact g_ret G (some (.int (iI (-1)))) rfl dX9_differenceAt_110 (Nat.le_refl _) (Nat.le_refl _) ⟨(-1), c9, d9, l9, st9, an9, un9, rfl, rfl, by refine ⟨rr, ha2, ?_⟩; unfold dfC; first | (rw [if_pos c41]; done) | (rw [if_neg c41, if_pos c53]; done) | (rw [if_neg c41, if_neg (fun q => q c53)]; (repeat' split) <;> first | rfl | omega)⟩
                · exfalso; omega
              · refine g_iload G 7 dX9_differenceAt_86 rfl ?_
                refine g_iload G 5 dX9_differenceAt_88 rfl ?_
                refine g_iload G 6 dX9_differenceAt_90 rfl ?_
                refine g_callS G [] [0, 1, 2, 3, 4, 5, 6, 7, 8, 9, 10, 11, 12, 13, 14, 15, 16, 17, 18, 19] 20 [(x0, .inr (9, [.ref i0, .ref g0, .ref as0, .ref bs0, .ref tq0])), (i0, .inr (0, [.ref w0, .ref q0])), (w0, .inr (4, [.ref w1, .ref w2, .ref w3, .ref w4, .int (iI y)])), (w1, ia E 8 L), (w2, ia E 96 V), (w3, ia E 96 A), (w4, ia E 96 N), (tq0, .inr (7, [.ref tm0, .ref tr0, .ref te0, .ref tq1, .int (iI on), .int (iI st9), .int (iI an9), .int (iI un9)])), (tm0, .inr (1, [.ref tm1, .ref tm2, .int (iI x)])), (tm1, ia E 12 t), (tm2, ia E 12 n), (tr0, .inr (6, [.ref tr1, .ref tr2, .ref tr3, .ref tr4, .int (iI z)])), (tr1, ia E 6 k), (tr2, ia E 6 o), (tr3, ia E 96 a), (tr4, ia E 96 b), (te0, .inr (3, [.ref te1, .ref te2])), (te1, ia E 3 c9), (te2, ia E 100 d9), (tq1, ia E 2 l9)] [.int (iI (N (f * 12 + p))), .int (iI 1)] [.int (iI (l9 1))] (c_X9_fieldOf E (N (f * 12 + p)) 1 (by first | assumption | omega) (by first | assumption | omega)) dX9_differenceAt_92 gX9_differenceAt_X9_fieldOf ⟨rfl, ⟨rfl, rfl⟩, e_X9_fieldOf, ⟨Nat.le_of_ble_eq_true rfl, Nat.le_of_ble_eq_true rfl⟩, Nat.le_of_ble_eq_true rfl, Nat.le_of_ble_eq_true rfl, Nat.le_of_ble_eq_true rfl⟩ rfl (by decide +kernel) rfl (by decide +kernel) rfl (fun v9 w9 h9 => ?_)
                obtain ⟨o10, rfl, rfl, rfl⟩ := h9
                refine ⟨[(x0, .inr (9, [.ref i0, .ref g0, .ref as0, .ref bs0, .ref tq0])), (i0, .inr (0, [.ref w0, .ref q0])), (w0, .inr (4, [.ref w1, .ref w2, .ref w3, .ref w4, .int (iI y)])), (w1, ia E 8 L), (w2, ia E 96 V), (w3, ia E 96 A), (w4, ia E 96 N), (tq0, .inr (7, [.ref tm0, .ref tr0, .ref te0, .ref tq1, .int (iI on), .int (iI st9), .int (iI an9), .int (iI un9)])), (tm0, .inr (1, [.ref tm1, .ref tm2, .int (iI x)])), (tm1, ia E 12 t), (tm2, ia E 12 n), (tr0, .inr (6, [.ref tr1, .ref tr2, .ref tr3, .ref tr4, .int (iI z)])), (tr1, ia E 6 k), (tr2, ia E 6 o), (tr3, ia E 96 a), (tr4, ia E 96 b), (te0, .inr (3, [.ref te1, .ref te2])), (te1, ia E 3 c9), (te2, ia E 100 d9), (tq1, ia E 2 l9)], ⟨rfl, rfl, rfl, rfl⟩, g_to 0 0 _ _ [.int (iI (fldI (N (f * 12 + p)) 1)), .int (iI (l9 1))] rfl rfl rfl rfl rfl ?_⟩
                refine g_icmp_eq G 103 dX9_differenceAt_95 (by decide) (by omega) (by omega) (fun c95_2 => ?_) (fun c95_2 => ?_)
                · refine g_iinc G 6 [(0, .ref x0), (1, .int (iI f)), (2, .int (iI p)), (3, .ref w0), (4, .int (iI rr)), (5, .int (iI (N (f * 12 + p)))), (6, .int (iI 2)), (7, .int (iI (l9 1)))] dX9_differenceAt_103 rfl (by decide) rfl rfl ?_
                  refine g_goto G 61 dX9_differenceAt_106 (by decide) ?_
                  refine g_iload G 6 dX9_differenceAt_61 rfl ?_
                  refine g_iconst G dX9_differenceAt_63 ?_
                  refine g_icmp_ge G 109 dX9_differenceAt_64 (by decide) (by omega) (by omega) (fun c64_3 => ?_) (fun c64_3 => ?_)
                  · refine g_iconst G dX9_differenceAt_109 ?_
                    exact g_ret G (some (.int (iI (-1)))) rfl dX9_differenceAt_110 (Nat.le_refl _) (Nat.le_refl _) ⟨(-1), c9, d9, l9, st9, an9, un9, rfl, rfl, by refine ⟨rr, ha2, ?_⟩; unfold dfC; first | (rw [if_pos c41]; done) | (rw [if_neg c41, if_pos c53]; done) | (rw [if_neg c41, if_neg (fun q => q c53)]; (repeat' split) <;> first | rfl | omega)⟩
                  · exfalso; omega
                · refine g_iconst G dX9_differenceAt_98 ?_
                  refine g_iload G 6 dX9_differenceAt_99 rfl ?_
                  refine g_iadd G dX9_differenceAt_101 ?_
                  exact g_ret G (some (.int (iI (2 + 1)))) rfl dX9_differenceAt_102 (Nat.le_refl _) (Nat.le_refl _) ⟨(2 + 1), c9, d9, l9, st9, an9, un9, rfl, rfl, by refine ⟨rr, ha2, ?_⟩; unfold dfC; first | (rw [if_pos c41]; done) | (rw [if_neg c41, if_pos c53]; done) | (rw [if_neg c41, if_neg (fun q => q c53)]; (repeat' split) <;> first | rfl | omega)⟩
          · refine g_iconst G dX9_differenceAt_98 ?_
            refine g_iload G 6 dX9_differenceAt_99 rfl ?_
            refine g_iadd G dX9_differenceAt_101 ?_
            exact g_ret G (some (.int (iI (2 + 0)))) rfl dX9_differenceAt_102 (Nat.le_refl _) (Nat.le_refl _) ⟨(2 + 0), c9, d9, l9, st9, an9, un9, rfl, rfl, by refine ⟨rr, ha2, ?_⟩; unfold dfC; first | (rw [if_pos c41]; done) | (rw [if_neg c41, if_pos c53]; done) | (rw [if_neg c41, if_neg (fun q => q c53)]; (repeat' split) <;> first | rfl | omega)⟩
    · refine g_iconst G dX9_differenceAt_56 ?_
      exact g_ret G (some (.int (iI 1))) rfl dX9_differenceAt_57 (Nat.le_refl _) (Nat.le_refl _) ⟨1, c9, d9, l9, st9, an9, un9, rfl, rfl, by refine ⟨rr, ha2, ?_⟩; unfold dfC; first | (rw [if_pos c41]; done) | (rw [if_neg c41, if_pos c53]; done) | (rw [if_neg c41, if_neg (fun q => q c53)]; (repeat' split) <;> first | rfl | omega)⟩
  · refine g_iconst G dX9_differenceAt_44 ?_
    exact g_ret G (some (.int (iI 0))) rfl dX9_differenceAt_45 (Nat.le_refl _) (Nat.le_refl _) ⟨0, c9, d9, l9, st9, an9, un9, rfl, rfl, by refine ⟨rr, ha2, ?_⟩; unfold dfC; first | (rw [if_pos c41]; done) | (rw [if_neg c41, if_pos c53]; done) | (rw [if_neg c41, if_neg (fun q => q c53)]; (repeat' split) <;> first | rfl | omega)⟩
