set_option maxRecDepth 100000 in
set_option maxHeartbeats 8000000 in
theorem lw_body {E : qE} {Rt : Option Value → va_W → Prop} {mc ms : Nat} {P : qP} {k n : Nat} {b L : Nat} {xs : Nat → Int32} {ad rd : Nat → Nat} {F Z : Nat → Int → Int} {io : Int → Option Nat} {ib : Int → Nat → Nat} {FI : Int → Nat → Int → Int} {m i : Int} (GL : GdL E RL cL_law 4 wsL_law rmL Rt mc ms b L xs P) (hI : InvL F Z io ib FI m) (i0 : 0 ≤ i) (i5 : i + 5 ≤ L) (hL : L ≤ 2560) (hk : k + 19 ≤ 600000) (hn : n + 654 ≤ 7302250) (m0 : 0 ≤ m) (hm : m + 1 ≤ 50000)
    (kk : ∀ (io : Int → Option Nat) (F Z : Nat → Int → Int) (ib : Int → Nat → Nat) (FI : Int → Nat → Int → Int), InvL F Z io ib FI (m + 1) → P (k + 19) (n + 654) (wX E ad io F ++ (wR E rd Z ++ wT E io ib FI)) 634 [(0, .ref b), (1, .ref (ad 0)), (2, .ref (rd 0)), (3, .int (iI i))] []) : P k n (wX E ad io F ++ (wR E rd Z ++ wT E io ib FI)) 26 [(0, .ref b), (1, .ref (ad 0)), (2, .ref (rd 0)), (3, .int (iI i))] [] := by
  have G := GL.gd
  refine g_aload_n G 0 dL_law_26 rfl ?_
  refine g_iload_n G 3 dL_law_27 rfl ?_
  refine g_sld GL dL_law_28 i0 (by omega) (by omega) ?_
  refine g_bipush G dL_law_29 (by decide +kernel) ?_
  refine g_iand G dL_law_31 ?_
  have hvr : -2147483648 ≤ andI (xs i.toNat).toInt 31 ∧ andI (xs i.toNat).toInt 31 < 2147483648 := toInt_rg _
  generalize andI (xs i.toNat).toInt 31 = v at hvr ⊢
  by_cases h0 : v = 0
  · exact g_tsIn G 0 88 120 dL_law_32 h0 (by decide) (by decide) (by decide) rfl (by decide) (lw_row GL hI i0 i5 hL hk hn m0 hm (X := fun c => (xs (i + c).toNat).toInt) (fun _ => rfl) kk)
  by_cases h1 : v = 1
  · exact g_tsIn G 1 101 133 dL_law_32 h1 (by decide) (by decide) (by decide) rfl (by decide) (lw_exchange GL hI i0 i5 hL hk hn m0 hm (X := fun c => (xs (i + c).toNat).toInt) (fun _ => rfl) kk)
  by_cases h2 : v = 2
  · exact g_tsIn G 2 154 186 dL_law_32 h2 (by decide) (by decide) (by decide) rfl (by decide) (lw_cut GL hI i0 i5 hL hk hn m0 hm (X := fun c => (xs (i + c).toNat).toInt) (fun _ => rfl) kk)
  by_cases h3 : v = 3
  · exact g_tsIn G 3 187 219 dL_law_32 h3 (by decide) (by decide) (by decide) rfl (by decide) (lw_tell GL hI i0 i5 hL hk hn m0 hm (X := fun c => (xs (i + c).toNat).toInt) (fun _ => rfl) kk)
  by_cases h4 : v = 4
  · exact g_tsIn G 4 230 262 dL_law_32 h4 (by decide) (by decide) (by decide) rfl (by decide) (lw_quarrel GL hI i0 i5 hL hk hn m0 hm (X := fun c => (xs (i + c).toNat).toInt) (fun _ => rfl) kk)
  by_cases h5 : v = 5
  · exact g_tsIn G 5 253 285 dL_law_32 h5 (by decide) (by decide) (by decide) rfl (by decide) (lw_rule GL hI i0 i5 hL hk hn m0 hm (X := fun c => (xs (i + c).toNat).toInt) (fun _ => rfl) kk)
  by_cases h6 : v = 6
  · exact g_tsIn G 6 286 318 dL_law_32 h6 (by decide) (by decide) (by decide) rfl (by decide) (lw_by GL hI i0 i5 hL hk hn m0 hm (X := fun c => (xs (i + c).toNat).toInt) (fun _ => rfl) kk)
  by_cases h7 : v = 7
  · exact g_tsIn G 7 319 351 dL_law_32 h7 (by decide) (by decide) (by decide) rfl (by decide) (lw_states GL hI i0 i5 hL hk hn m0 hm (X := fun c => (xs (i + c).toNat).toInt) (fun _ => rfl) kk)
  by_cases h8 : v = 8
  · exact g_tsIn G 8 332 364 dL_law_32 h8 (by decide) (by decide) (by decide) rfl (by decide) (lw_leads GL hI i0 i5 hL hk hn m0 hm (X := fun c => (xs (i + c).toNat).toInt) (fun _ => rfl) kk)
  by_cases h9 : v = 9
  · exact g_tsIn G 9 375 407 dL_law_32 h9 (by decide) (by decide) (by decide) rfl (by decide) (lw_begin GL hI i0 i5 hL hk hn m0 hm (X := fun c => (xs (i + c).toNat).toInt) (fun _ => rfl) kk)
  by_cases h10 : v = 10
  · exact g_tsIn G 10 388 420 dL_law_32 h10 (by decide) (by decide) (by decide) rfl (by decide) (lw_say GL hI i0 i5 hL hk hn m0 hm (X := fun c => (xs (i + c).toNat).toInt) (fun _ => rfl) kk)
  by_cases h11 : v = 11
  · exact g_tsIn G 11 421 453 dL_law_32 h11 (by decide) (by decide) (by decide) rfl (by decide) (lw_field GL hI i0 i5 hL hk hn m0 hm (X := fun c => (xs (i + c).toNat).toInt) (fun _ => rfl) kk)
  by_cases h12 : v = 12
  · exact g_tsIn G 12 444 476 dL_law_32 h12 (by decide) (by decide) (by decide) rfl (by decide) (lw_ran GL hI i0 i5 hL hk hn m0 hm (X := fun c => (xs (i + c).toNat).toInt) (fun _ => rfl) kk)
  by_cases h13 : v = 13
  · exact g_tsIn G 13 467 499 dL_law_32 h13 (by decide) (by decide) (by decide) rfl (by decide) (lw_held GL hI i0 i5 hL hk hn m0 hm (X := fun c => (xs (i + c).toNat).toInt) (fun _ => rfl) kk)
  by_cases h14 : v = 14
  · exact g_tsIn G 14 500 532 dL_law_32 h14 (by decide) (by decide) (by decide) rfl (by decide) (lw_fresh GL hI i0 i5 hL hk hn m0 hm (X := fun c => (xs (i + c).toNat).toInt) (fun _ => rfl) kk)
  by_cases h15 : v = 15
  · exact g_tsIn G 15 533 565 dL_law_32 h15 (by decide) (by decide) (by decide) rfl (by decide) (lw_count GL hI i0 i5 hL hk hn m0 hm (X := fun c => (xs (i + c).toNat).toInt) (fun _ => rfl) kk)
  by_cases h16 : v = 16
  · exact g_tsIn G 16 556 588 dL_law_32 h16 (by decide) (by decide) (by decide) rfl (by decide) (lw_image GL hI i0 i5 hL hk hn m0 hm (X := fun c => (xs (i + c).toNat).toInt) (fun _ => rfl) kk)
  by_cases h17 : v = 17
  · exact g_tsIn G 17 579 611 dL_law_32 h17 (by decide) (by decide) (by decide) rfl (by decide) (lw_again GL hI i0 i5 hL hk hn m0 hm (X := fun c => (xs (i + c).toNat).toInt) (fun _ => rfl) kk)
  · exact g_tsOut G 634 dL_law_32 hvr (by omega) (by decide) (g_widen G (by omega) (by omega) (kk io F Z ib FI (InvL.mono hI (by omega))))
/-- the law's loop -/
theorem lw_loop {E : qE} {Rt : Option Value → va_W → Prop} {P : qP} {b L : Nat} {xs : Nat → Int32} {ad rd : Nat → Nat} (GL : GdL E RL cL_law 4 wsL_law rmL Rt 600000 7302250 b L xs P) (hL : L ≤ 2560) (hRt : ∀ w, Rt (some (.int (iI 1))) w) :
    ∀ (d j : Nat), d + j = 512 → ∀ (io : Int → Option Nat) (F Z : Nat → Int → Int) (ib : Int → Nat → Nat) (FI : Int → Nat → Int → Int), InvL F Z io ib FI (j : Int) → P (106 + 19 * j) (12073 + 654 * j) (wX E ad io F ++ (wR E rd Z ++ wT E io ib FI)) 18 [(0, .ref b), (1, .ref (ad 0)), (2, .ref (rd 0)), (3, .int (iI (5 * (j : Int))))] [] := by
  intro d
  induction d with
  | zero =>
    intro j hj io F Z ib FI hI
    have G := GL.gd
    refine g_iload_n G 3 dL_law_18 rfl ?_
    refine g_aload_n G 0 dL_law_19 rfl ?_
    refine g_slen GL dL_law_20 ?_
    refine g_iconst G dL_law_21 ?_
    refine g_isub G dL_law_22 ?_
    refine g_icmp_gt G 640 dL_law_23 (by decide) (by omega) (by omega) (fun q => ?_) (fun q => ?_)
    · refine g_iconst G dL_law_640 ?_
      exact g_ret G (some (.int (iI 1))) rfl dL_law_641 (by omega) (by omega) (hRt _)
    · exfalso; omega
  | succ d ih =>
    intro j hj io F Z ib FI hI
    have G := GL.gd
    refine g_iload_n G 3 dL_law_18 rfl ?_
    refine g_aload_n G 0 dL_law_19 rfl ?_
    refine g_slen GL dL_law_20 ?_
    refine g_iconst G dL_law_21 ?_
    refine g_isub G dL_law_22 ?_
    refine g_icmp_gt G 640 dL_law_23 (by decide) (by omega) (by omega) (fun q => ?_) (fun q => ?_)
    · refine g_iconst G dL_law_640 ?_
      exact g_ret G (some (.int (iI 1))) rfl dL_law_641 (by omega) (by omega) (hRt _)
    · refine lw_body GL hI (i := 5 * (j : Int)) (by omega) (by omega) hL (by omega) (by omega) (by omega) (by omega) (fun io F Z ib FI hI2 => ?_)
      refine g_iinc G 3 [(0, .ref b), (1, .ref (ad 0)), (2, .ref (rd 0)), (3, .int (iI (5 * (j : Int) + 5)))] dL_law_634 rfl (by decide) rfl rfl ?_
      refine g_goto G 18 dL_law_637 (by decide) ?_
      have h2 : InvL F Z io ib FI ((j + 1 : Nat) : Int) := by
        rw [(show ((j + 1 : Nat) : Int) = (j : Int) + 1 by omega)]
        exact hI2
      have z := ih (j + 1) (by omega) io F Z ib FI h2
      rw [(show 106 + 19 * (j + 1) = 106 + 19 * j + 19 by omega), (show 12073 + 654 * (j + 1) = 12073 + 654 * j + 654 by omega), (show 5 * ((j + 1 : Nat) : Int) = 5 * (j : Int) + 5 by omega)] at z
      exact z
theorem ee_X10_init : yX10_init.cls ≠ "java/lang/invoke/MethodHandle" ∧ yX10_init.cls ≠ "java/lang/invoke/VarHandle" ∧ (parseMethodDescriptor yX10_init.desc).map (fun d => d.parameters.length) = some 0 := by decide +kernel
theorem ee_X9_init : yX9_init.cls ≠ "java/lang/invoke/MethodHandle" ∧ yX9_init.cls ≠ "java/lang/invoke/VarHandle" ∧ (parseMethodDescriptor yX9_init.desc).map (fun d => d.parameters.length) = some 0 := by decide +kernel
/-- a fresh object and a fresh reference -/
theorem gz {i : Int} (h : i ≠ 5 ∧ i ≠ 6) : upI (upI (fun _ => 0) 5 (-1000)) 6 (-1000) i = 0 := by
  rw [upI_ne _ _ h.2, upI_ne _ _ h.1]
theorem inv_0 (ib : Int → Nat → Nat) (FI : Int → Nat → Int → Int) : InvL (upF (upF (fun _ _ => 0) 21 (fun _ => -1)) 51 (fun _ => -1)) (upF (fun _ _ => 0) 1 (upI (upI (fun _ => 0) 5 (-1000)) 6 (-1000))) (fun _ => none) ib FI 0 := by
  have hb : ∀ i : Int, -100000 ≤ upI (upI (fun _ => 0) 5 (-1000)) 6 (-1000) i ∧ upI (upI (fun _ => 0) 5 (-1000)) 6 (-1000) i ≤ 100000 := by
    intro i
    unfold upI
    split
    · omega
    · split
      · omega
      · show (-100000 : Int) ≤ 0 ∧ (0 : Int) ≤ 100000
        omega
  have hR : RelR (fun _ => 0) (fun _ => 0) (fun _ => 0) (fun _ => 0) 0 (upI (upI (fun _ => 0) 5 (-1000)) 6 (-1000)) := ⟨gz (by omega), fun r h0 h1 => by omega, fun r p h0 h1 => by omega⟩
  have hO : RowsOk (fun _ => 0) (fun _ => 0) (fun _ => 0) (fun _ => 0) 0 := ⟨by omega, by omega, fun i => by constructor <;> first | decide | (dsimp only; decide), fun i => by constructor <;> first | decide | (dsimp only; decide), fun i => by constructor <;> first | decide | (dsimp only; decide), fun i => by constructor <;> first | decide | (dsimp only; decide)⟩
  have hU : RunR (fun _ => 0) (fun _ => 0) (fun _ => 0) (fun _ => 0) (fun _ => 0) (fun _ => 0) 0 (fun _ => 0) (fun _ => 0) (fun _ => 0) 0 0 0 0 (upI (upI (fun _ => 0) 5 (-1000)) 6 (-1000)) := Or.inl ⟨rfl, gz (by omega), by rw [upI_ne _ _ (by omega), upI_same], by rw [upI_same]⟩
  have hK : (((0 : Int) = 0 ∨ (0 : Int) = 1) ∧ RulesOk (fun _ => 0) (fun _ => 0) (fun _ => 0) (fun _ => 0) 0 ∧ ((0 : Int) ≤ 0 ∧ (0 : Int) < 4) ∧ (∀ i : Int, (-1 : Int) ≤ (fun _ => 0) i ∧ (fun _ => (0 : Int)) i < 4) ∧ MkO (fun _ => 0) (fun _ => 0) ∧ (∀ i : Int, (0 : Int) ≤ (fun _ => 0) i ∧ (fun _ => (0 : Int)) i ≤ 0) ∧ ∀ i : Int, (-1 : Int) ≤ (fun _ => 0) i ∧ (fun _ => (0 : Int)) i < 100) := by
    refine ⟨Or.inl rfl, ⟨by omega, by omega, fun i => by constructor <;> first | decide | (dsimp only; decide), fun i => by constructor <;> first | decide | (dsimp only; decide), fun i => by constructor <;> first | decide | (dsimp only; decide), fun i => by constructor <;> first | decide | (dsimp only; decide)⟩, by omega, fun i => by constructor <;> first | decide | (dsimp only; decide), fun j j0 j1 => ⟨by constructor <;> first | decide | (dsimp only; decide), by constructor <;> first | decide | (dsimp only; decide), fun _ => Int.le_refl _⟩, fun i => by constructor <;> first | decide | (dsimp only; decide), fun i => by constructor <;> first | decide | (dsimp only; decide)⟩
  have hG : GOk (upI (upI (fun _ => 0) 5 (-1000)) 6 (-1000)) 0 := by
    refine ⟨⟨hb, by rw [gz (by omega)]; omega, fun r h0 h1 => by rw [gz (by omega)]; omega⟩, fun r p h0 h1 h2 h3 => by rw [gz (by omega)]; omega, fun i h0 h1 => by rw [gz (by omega)]; omega, ⟨fun r h0 h1 => by rw [gz (by omega)]; omega, fun i h0 h1 => by rw [gz (by omega)]; omega⟩, ⟨by rw [gz (by omega)]; omega, fun i h0 h1 => by rw [gz (by omega)]; omega, fun i h0 h1 => by rw [gz (by omega)]; omega, fun i h0 h1 => by rw [gz (by omega)]; omega, fun i h0 h1 => by rw [gz (by omega)]; omega⟩, by rw [gz (by omega)]; omega, by rw [gz (by omega)]; omega, by rw [gz (by omega)]; omega, fun v h0 h1 => by rw [gz (by omega)]; omega⟩
  have hS : StE (fun _ => 0) (fun _ => 0) (fun _ => 0) (fun _ => 0) 0 (upI (upI (fun _ => 0) 5 (-1000)) 6 (-1000)) (-1) 0 0 (fun _ => 0) (fun _ => 0) (fun _ => 0) (fun _ => 0) (fun _ => 0) (fun _ => 0) (fun _ => 0) (fun _ => 0) (fun _ => 0) 0 (fun _ => 0) (fun _ => 0) (fun _ => 0) (fun _ => 0) 0 := by
    refine ⟨⟨fun i => by constructor <;> first | decide | (dsimp only; decide), fun i => by constructor <;> first | decide | (dsimp only; decide), fun i => by constructor <;> first | decide | (dsimp only; decide)⟩, by omega, Or.inl rfl, ⟨fun j => ⟨by show (0 : Int) ≤ 0; decide, by show (0 : Int) ≤ 1000; decide, fun _ => by show (0 : Int) ≤ 12; decide⟩, fun i => by constructor <;> first | decide | (dsimp only; decide), fun i => by constructor <;> first | decide | (dsimp only; decide), fun i => by constructor <;> first | decide | (dsimp only; decide), fun i => by constructor <;> first | decide | (dsimp only; decide), fun i => by constructor <;> first | decide | (dsimp only; decide), by omega, by omega⟩, ⟨fun i => by constructor <;> first | decide | (dsimp only; decide), fun i => by constructor <;> first | decide | (dsimp only; decide)⟩, Or.inl rfl, fun q => absurd rfl q, fun q => absurd rfl q, fun q => absurd rfl q, fun _ q => absurd rfl q⟩
  exact ⟨⟨hR, hO, hU, hK, hG⟩, hS, hS, rfl, fun i => by show (0 : Int) ≤ 0 ∧ (0 : Int) ≤ 1; decide, fun i => by show (-100000 : Int) ≤ 0 ∧ (0 : Int) ≤ 100000; decide, fun k k0 k1 => Or.inl ⟨rfl, rfl⟩⟩
set_option maxRecDepth 100000 in
set_option maxHeartbeats 8000000 in
theorem lw_law {E : qE} {Rt : Option Value → va_W → Prop} {P : qP} {b L : Nat} {xs : Nat → Int32} (GL : GdL E RL cL_law 4 wsL_law rmL Rt 600000 7302250 b L xs P) (hL : L ≤ 2560) (hRt : ∀ w, Rt (some (.int (iI 1))) w) : P 0 0 [] 0 [(0, .ref b)] [] := by
  have G := GL.gd
  refine g_new G [.null, .null, .null, .null, .null] (ci := 9) dL_law_0 inlX9 tyX9_ok (by decide +kernel) (by decide +kernel) (by decide +kernel) rfl (fun j hj => by rcases (show j = 0 ∨ j = 1 ∨ j = 2 ∨ j = 3 ∨ j = 4 by omega) with rfl | rfl | rfl | rfl | rfl <;> first | rfl | (rw [iI_0]; rfl)) (Nat.le_of_ble_eq_true rfl) (Nat.le_of_ble_eq_true rfl) (fun p0 => ?_)
  refine g_to 1 5 [(p0, .inr (9, [.null, .null, .null, .null, .null]))] _ [.ref p0] rfl rfl rfl rfl rfl ?_
  refine g_dup G dL_law_3 rfl ?_
  refine g_callI G [0] [] [.ref p0] (wr := []) (c_X9_init E p0) dL_law_4 gL_law_X9_init (by decide +kernel) (by decide +kernel) (by decide +kernel) rfl ⟨rfl, ⟨rfl, rfl⟩, ee_X9_init, ⟨Nat.le_of_ble_eq_true rfl, Nat.le_of_ble_eq_true rfl⟩, Nat.le_of_ble_eq_true rfl, Nat.le_of_ble_eq_true rfl, Nat.le_of_ble_eq_true rfl⟩ rfl rfl rfl rfl (by decide +kernel) rfl (fun v9 w9 h9 => ?_)
  obtain ⟨ad, rfl, rfl, had⟩ := h9
  refine g_to 94 6379 (wX E ad (fun _ => none) (upF (upF (fun _ _ => 0) 21 (fun _ => -1)) 51 (fun _ => -1))) _ [.ref p0] rfl rfl rfl rfl rfl ?_
  refine g_astore_n G [(0, .ref b), (1, .ref p0)] dL_law_7 (by decide) rfl rfl ?_
  refine g_new G [.null, .null, .null, .int (iI 0), .null, .null, .int (iI 0), .null, .null, .null, .null, .null, .null, .int (iI 0), .int (iI 0)] (ci := 10) dL_law_8 inlX10 tyX10_ok (by decide +kernel) (by decide +kernel) (by decide +kernel) rfl (fun j hj => by rcases (show j = 0 ∨ j = 1 ∨ j = 2 ∨ j = 3 ∨ j = 4 ∨ j = 5 ∨ j = 6 ∨ j = 7 ∨ j = 8 ∨ j = 9 ∨ j = 10 ∨ j = 11 ∨ j = 12 ∨ j = 13 ∨ j = 14 by omega) with rfl | rfl | rfl | rfl | rfl | rfl | rfl | rfl | rfl | rfl | rfl | rfl | rfl | rfl | rfl <;> first | rfl | (rw [iI_0]; rfl)) (Nat.le_of_ble_eq_true rfl) (Nat.le_of_ble_eq_true rfl) (fun p1 => ?_)
  refine g_to 95 6394 (wX E ad (fun _ => none) (upF (upF (fun _ _ => 0) 21 (fun _ => -1)) 51 (fun _ => -1)) ++ [(p1, .inr (10, [.null, .null, .null, .int (iI 0), .null, .null, .int (iI 0), .null, .null, .null, .null, .null, .null, .int (iI 0), .int (iI 0)]))]) _ [.ref p1] rfl rfl rfl rfl rfl ?_
  refine g_dup G dL_law_11 rfl ?_
  refine g_callI G [94] [0, 1, 2, 3, 4, 5, 6, 7, 8, 9, 10, 11, 12, 13, 14, 15, 16, 17, 18, 19, 20, 21, 22, 23, 24, 25, 26, 27, 28, 29, 30, 31, 32, 33, 34, 35, 36, 37, 38, 39, 40, 41, 42, 43, 44, 45, 46, 47, 48, 49, 50, 51, 52, 53, 54, 55, 56, 57, 58, 59, 60, 61, 62, 63, 64, 65, 66, 67, 68, 69, 70, 71, 72, 73, 74, 75, 76, 77, 78, 79, 80, 81, 82, 83, 84, 85, 86, 87, 88, 89, 90, 91, 92, 93] [.ref p1] (wr := wX E ad (fun _ => none) (upF (upF (fun _ _ => 0) 21 (fun _ => -1)) 51 (fun _ => -1))) (c_X10_init E p1) dL_law_12 gL_law_X10_init (by decide +kernel) (by decide +kernel) (by decide +kernel) rfl ⟨rfl, ⟨rfl, rfl⟩, ee_X10_init, ⟨Nat.le_of_ble_eq_true rfl, Nat.le_of_ble_eq_true rfl⟩, Nat.le_of_ble_eq_true rfl, Nat.le_of_ble_eq_true rfl, Nat.le_of_ble_eq_true rfl⟩ rfl rfl rfl (by decide +kernel) (by decide +kernel) rfl (fun v9 w9 h9 => ?_)
  obtain ⟨q1, q2, q3, q4, q5, q6, q7, q8, q9, q10, q11, rfl, rfl⟩ := h9
  refine g_to 106 12073 (wX E ad (fun _ => none) (upF (upF (fun _ _ => 0) 21 (fun _ => -1)) 51 (fun _ => -1)) ++ (wR E (upA (upA (upA (upA (upA (upA (upA (upA (upA (upA (upA (upA (fun _ => 0) 0 p1) 1 q1) 2 q2) 3 q3) 4 q4) 5 q5) 6 q6) 7 q7) 8 q8) 9 q9) 10 q10) 11 q11) (upF (fun _ _ => 0) 1 (upI (upI (fun _ => 0) 5 (-1000)) 6 (-1000))) ++ wT E (fun _ => none) (fun _ _ => 0) (fun _ _ _ => 0))) _ [.ref p1] rfl rfl rfl rfl rfl ?_
  refine g_astore_n G [(0, .ref b), (1, .ref p0), (2, .ref p1)] dL_law_15 (by decide) rfl rfl ?_
  refine g_iconst G dL_law_16 ?_
  refine g_istore_n G [(0, .ref b), (1, .ref p0), (2, .ref p1), (3, .int (iI 0))] dL_law_17 (by decide) rfl rfl ?_
  subst had
  exact lw_loop (rd := (upA (upA (upA (upA (upA (upA (upA (upA (upA (upA (upA (upA (fun _ => 0) 0 p1) 1 q1) 2 q2) 3 q3) 4 q4) 5 q5) 6 q6) 7 q7) 8 q8) 9 q9) 10 q10) 11 q11)) GL hL hRt 512 0 rfl _ _ _ _ _ (inv_0 _ _)
