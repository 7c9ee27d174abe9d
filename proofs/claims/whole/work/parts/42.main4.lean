def tlI (V A N : Int → Int) (i f : Int) : Int := if f = 0 then V i else if f = 1 then A i / 100 else if f = 2 then A i % 100 else if f = 3 then N i / 10000 else if f = 4 then fldI (N i) 0 else if f = 5 then fldI (N i) 1 else -1
noncomputable def qRw (L V N : Int → Int) (x y : Int) : Int := qpl (fun p => V (x * 12 + p) ≠ V (y * 12 + p)) (fun p => N (x * 12 + p) / 10000 ≠ N (y * 12 + p) / 10000) (min (L x) (L y)).toNat 0
theorem qRw_bd {L V N : Int → Int} (hL : ∀ i, 0 ≤ L i ∧ L i ≤ 12) (x y : Int) : -1 ≤ qRw L V N x y ∧ qRw L V N x y < 100 := by
  have h1 := hL x
  unfold qRw
  rcases qpl_bd (fun p => V (x * 12 + p) ≠ V (y * 12 + p)) (fun p => N (x * 12 + p) / 10000 ≠ N (y * 12 + p) / 10000) (min (L x) (L y)).toNat 0 with h | ⟨h1, h2, -⟩
  · rw [h]; omega
  · omega
theorem f_X9_tell_12 : Cond.fieldLink RX9 12 (TX9 0).1 (TX9 0).2.1 (TX9 0).2.2.1 ∈ wsX9_tell := by decide +kernel
theorem i_X9_tell_X9 : ∀ w ∈ wsX90, w ∈ wsX9_tell := by decide +kernel
theorem f_X9_tell_37 : Cond.fieldLinkNest RX9 37 (TX0 0).1 (TX0 0).2.1 (TX0 0).2.2.1 "RecordedNeighbours" ∈ NW := by decide +kernel
theorem i_X9_tell_X0 : ∀ w ∈ wsX00, w ∈ wsX9_tell := by decide +kernel
set_option maxRecDepth 100000 in
set_option maxHeartbeats 4000000 in
theorem c_X9_tell (E : qE) (x0 : Nat) (i0 : Nat) (g0 : Nat) (as0 : Nat) (bs0 : Nat) (tq0 : Nat) (w0 : Nat) (q0 : Nat) (w1 : Nat) (w2 : Nat) (w3 : Nat) (w4 : Nat) (L : Int → Int) (V : Int → Int) (A : Int → Int) (N : Int → Int) (y : Int) (s : Int) (p : Int) (f : Int) (hR : RowsOk L V A N y) (hs : -2147483648 ≤ s ∧ s < 2147483648) (hp : -2147483648 ≤ p ∧ p < 2147483648) (hf : -2147483648 ≤ f ∧ f < 2147483648) : Cn E yX9_tell wsX9_tell { frames := 1, cells := 0, slots := 0, locals := 22 } [.ref x0, .int (iI s), .int (iI p), .int (iI f)] [(x0, .inr (9, [.ref i0, .ref g0, .ref as0, .ref bs0, .ref tq0])), (i0, .inr (0, [.ref w0, .ref q0])), (w0, .inr (4, [.ref w1, .ref w2, .ref w3, .ref w4, .int (iI y)])), (w1, ia E 8 L), (w2, ia E 96 V), (w3, ia E 96 A), (w4, ia E 96 N)] (fun v9 w9 => ∃ (r : Int), v9 = some (.int (iI r)) ∧ w9 = [(x0, .inr (9, [.ref i0, .ref g0, .ref as0, .ref bs0, .ref tq0])), (i0, .inr (0, [.ref w0, .ref q0])), (w0, .inr (4, [.ref w1, .ref w2, .ref w3, .ref w4, .int (iI y)])), (w1, ia E 8 L), (w2, ia E 96 V), (w3, ia E 96 A), (w4, ia E 96 N)] ∧ r = (if 0 ≤ s ∧ s < y ∧ 0 ≤ p ∧ p < L s then tlI V A N (s * 12 + p) f else -1)) 0 0 := by
  refine Cn.ofP (own := RX9) (cc := cX9_tell) (maxL := 7) (ret := (some .int)) false [(0, .ref x0), (1, .int (iI s)), (2, .int (iI p)), (3, .int (iI f))] (by decide +kernel) rfl rfl (Nat.le_of_ble_eq_true rfl) rfl (fun h => nomatch h) (fun v w h => by obtain ⟨r, rfl, h9⟩ := h; exact ⟨_, rfl, rfl⟩) ?_
  intro P G
  obtain ⟨hz0, hz1, hL, hV, hA, hN⟩ := id hR
  have hLs := hL s
  refine g_aload_n G 0 dX9_tell_0 rfl ?_
  refine g_get G 0 0 dX9_tell_1 i_X9_tell_X9 f_X9_tell_12 rfl rfl (by decide) rfl ?_
  refine g_getN G 1 0 dX9_tell_4 i_X9_tell_X0 f_X9_tell_37 rfl rfl (by decide) rfl ?_
  refine g_astore G [(0, .ref x0), (1, .int (iI s)), (2, .int (iI p)), (3, .int (iI f)), (4, .ref w0)] dX9_tell_7 (by decide) rfl rfl ?_
  refine g_iload_n G 2 dX9_tell_9 rfl ?_
  refine g_aload G 4 dX9_tell_10 rfl ?_
  refine g_iload_n G 1 dX9_tell_12 rfl ?_
  refine g_callV G [2, 3, 4, 5, 6] [0, 1] 7 [(x0, .inr (9, [.ref i0, .ref g0, .ref as0, .ref bs0, .ref tq0])), (i0, .inr (0, [.ref w0, .ref q0]))] [.int (iI s)] [.int (iI p)] (c_X4_length E w0 w1 w2 w3 w4 L V A N y s (by exact hR) (by first | assumption | omega)) dX9_tell_13 gX9_tell_X4_length ⟨rfl, ⟨rfl, rfl⟩, e_X4_length, ⟨Nat.le_of_ble_eq_true rfl, Nat.le_of_ble_eq_true rfl⟩, Nat.le_of_ble_eq_true rfl, Nat.le_of_ble_eq_true rfl, Nat.le_of_ble_eq_true rfl⟩ rfl rfl rfl rfl rfl (by decide +kernel) rfl (by decide +kernel) rfl (fun v9 w9 h9 => ?_)
  obtain ⟨o1, rfl, rfl, rfl⟩ := h9
  refine ⟨[(x0, .inr (9, [.ref i0, .ref g0, .ref as0, .ref bs0, .ref tq0])), (i0, .inr (0, [.ref w0, .ref q0])), (w0, .inr (4, [.ref w1, .ref w2, .ref w3, .ref w4, .int (iI y)])), (w1, ia E 8 L), (w2, ia E 96 V), (w3, ia E 96 A), (w4, ia E 96 N)], ⟨rfl, rfl, rfl, rfl⟩, g_to 0 0 _ _ [.int (iI (if 0 ≤ s ∧ s < y then L s else 0)), .int (iI p)] rfl rfl rfl rfl rfl ?_⟩
  refine g_callS G [] [0, 1, 2, 3, 4, 5, 6] 7 [(x0, .inr (9, [.ref i0, .ref g0, .ref as0, .ref bs0, .ref tq0])), (i0, .inr (0, [.ref w0, .ref q0])), (w0, .inr (4, [.ref w1, .ref w2, .ref w3, .ref w4, .int (iI y)])), (w1, ia E 8 L), (w2, ia E 96 V), (w3, ia E 96 A), (w4, ia E 96 N)] [.int (iI p), .int (iI (if 0 ≤ s ∧ s < y then L s else 0))] [] (c_X9_within E p (if 0 ≤ s ∧ s < y then L s else 0) (by omega) (by split <;> omega)) dX9_tell_16 gX9_tell_X9_within ⟨rfl, ⟨rfl, rfl⟩, e_X9_within, ⟨Nat.le_of_ble_eq_true rfl, Nat.le_of_ble_eq_true rfl⟩, Nat.le_of_ble_eq_true rfl, Nat.le_of_ble_eq_true rfl, Nat.le_of_ble_eq_true rfl⟩ rfl (by decide +kernel) rfl (by decide +kernel) rfl (fun v9 w9 h9 => ?_)
  obtain ⟨o2, rfl, rfl, rfl⟩ := h9
  refine ⟨[(x0, .inr (9, [.ref i0, .ref g0, .ref as0, .ref bs0, .ref tq0])), (i0, .inr (0, [.ref w0, .ref q0])), (w0, .inr (4, [.ref w1, .ref w2, .ref w3, .ref w4, .int (iI y)])), (w1, ia E 8 L), (w2, ia E 96 V), (w3, ia E 96 A), (w4, ia E 96 N)], ⟨rfl, rfl, rfl, rfl⟩, g_to 0 0 _ _ [.int (iI (if 0 ≤ p ∧ p < (if 0 ≤ s ∧ s < y then L s else 0) then 1 else 0))] rfl rfl rfl rfl rfl ?_⟩
  refine g_ifb_ne G 24 dX9_tell_19 (by decide) (fun c19 => ?_) (fun c19 => ?_)
  · have hq : 0 ≤ s ∧ s < y ∧ 0 ≤ p ∧ p < L s := by by_cases q : 0 ≤ s ∧ s < y; (rw [if_pos q] at c19; omega); (rw [if_neg q] at c19; omega)
    refine g_aload G 4 dX9_tell_24 rfl ?_
    refine g_iload_n G 1 dX9_tell_26 rfl ?_
    refine g_iload_n G 2 dX9_tell_27 rfl ?_
    refine g_callV G [2, 3, 4, 5, 6] [0, 1] 7 [(x0, .inr (9, [.ref i0, .ref g0, .ref as0, .ref bs0, .ref tq0])), (i0, .inr (0, [.ref w0, .ref q0]))] [.int (iI s), .int (iI p)] [] (c_X4_askAt E w0 w1 w2 w3 w4 L V A N y s p (by first | assumption | omega)) dX9_tell_28 gX9_tell_X4_askAt ⟨rfl, ⟨rfl, rfl⟩, e_X4_askAt, ⟨Nat.le_of_ble_eq_true rfl, Nat.le_of_ble_eq_true rfl⟩, Nat.le_of_ble_eq_true rfl, Nat.le_of_ble_eq_true rfl, Nat.le_of_ble_eq_true rfl⟩ rfl rfl rfl rfl rfl (by decide +kernel) rfl (by decide +kernel) rfl (fun v9 w9 h9 => ?_)
    obtain ⟨o3, rfl, rfl, rfl⟩ := h9
    have b4 := hA (s * 12 + p)
    refine ⟨[(x0, .inr (9, [.ref i0, .ref g0, .ref as0, .ref bs0, .ref tq0])), (i0, .inr (0, [.ref w0, .ref q0])), (w0, .inr (4, [.ref w1, .ref w2, .ref w3, .ref w4, .int (iI y)])), (w1, ia E 8 L), (w2, ia E 96 V), (w3, ia E 96 A), (w4, ia E 96 N)], ⟨rfl, rfl, rfl, rfl⟩, g_to 0 0 _ _ [.int (iI (A (s * 12 + p)))] rfl rfl rfl rfl rfl ?_⟩
    refine g_istore G [(0, .ref x0), (1, .int (iI s)), (2, .int (iI p)), (3, .int (iI f)), (4, .ref w0), (5, .int (iI (A (s * 12 + p))))] dX9_tell_31 (by decide) rfl rfl ?_
    refine g_aload G 4 dX9_tell_33 rfl ?_
    refine g_iload_n G 1 dX9_tell_35 rfl ?_
    refine g_iload_n G 2 dX9_tell_36 rfl ?_
    refine g_callV G [2, 3, 4, 5, 6] [0, 1] 7 [(x0, .inr (9, [.ref i0, .ref g0, .ref as0, .ref bs0, .ref tq0])), (i0, .inr (0, [.ref w0, .ref q0]))] [.int (iI s), .int (iI p)] [] (c_X4_answerAt E w0 w1 w2 w3 w4 L V A N y s p (by first | assumption | omega)) dX9_tell_37 gX9_tell_X4_answerAt ⟨rfl, ⟨rfl, rfl⟩, e_X4_answerAt, ⟨Nat.le_of_ble_eq_true rfl, Nat.le_of_ble_eq_true rfl⟩, Nat.le_of_ble_eq_true rfl, Nat.le_of_ble_eq_true rfl, Nat.le_of_ble_eq_true rfl⟩ rfl rfl rfl rfl rfl (by decide +kernel) rfl (by decide +kernel) rfl (fun v9 w9 h9 => ?_)
    obtain ⟨o5, rfl, rfl, rfl⟩ := h9
    have b6 := hN (s * 12 + p)
    refine ⟨[(x0, .inr (9, [.ref i0, .ref g0, .ref as0, .ref bs0, .ref tq0])), (i0, .inr (0, [.ref w0, .ref q0])), (w0, .inr (4, [.ref w1, .ref w2, .ref w3, .ref w4, .int (iI y)])), (w1, ia E 8 L), (w2, ia E 96 V), (w3, ia E 96 A), (w4, ia E 96 N)], ⟨rfl, rfl, rfl, rfl⟩, g_to 0 0 _ _ [.int (iI (N (s * 12 + p)))] rfl rfl rfl rfl rfl ?_⟩
    refine g_istore G [(0, .ref x0), (1, .int (iI s)), (2, .int (iI p)), (3, .int (iI f)), (4, .ref w0), (5, .int (iI (A (s * 12 + p)))), (6, .int (iI (N (s * 12 + p))))] dX9_tell_40 (by decide) rfl rfl ?_
    refine g_iload_n G 3 dX9_tell_42 rfl ?_
    rcases (show f = 0 ∨ f = 1 ∨ f = 2 ∨ f = 3 ∨ f = 4 ∨ f = 5 ∨ (f < 0 ∨ 5 < f) by omega) with c43 | c43 | c43 | c43 | c43 | c43 | c43
    · refine g_tsIn G (0) (37) 80 dX9_tell_43 c43 (by decide) (by decide) (by decide) rfl (by decide) ?_
      refine g_aload G 4 dX9_tell_80 rfl ?_
      refine g_iload_n G 1 dX9_tell_82 rfl ?_
      refine g_iload_n G 2 dX9_tell_83 rfl ?_
      refine g_callV G [2, 3, 4, 5, 6] [0, 1] 7 [(x0, .inr (9, [.ref i0, .ref g0, .ref as0, .ref bs0, .ref tq0])), (i0, .inr (0, [.ref w0, .ref q0]))] [.int (iI s), .int (iI p)] [] (c_X4_verbAt E w0 w1 w2 w3 w4 L V A N y s p (by first | assumption | omega)) dX9_tell_84 gX9_tell_X4_verbAt ⟨rfl, ⟨rfl, rfl⟩, e_X4_verbAt, ⟨Nat.le_of_ble_eq_true rfl, Nat.le_of_ble_eq_true rfl⟩, Nat.le_of_ble_eq_true rfl, Nat.le_of_ble_eq_true rfl, Nat.le_of_ble_eq_true rfl⟩ rfl rfl rfl rfl rfl (by decide +kernel) rfl (by decide +kernel) rfl (fun v9 w9 h9 => ?_)
      obtain ⟨o7, rfl, rfl, rfl⟩ := h9
      have b8 := hV (s * 12 + p)
      refine ⟨[(x0, .inr (9, [.ref i0, .ref g0, .ref as0, .ref bs0, .ref tq0])), (i0, .inr (0, [.ref w0, .ref q0])), (w0, .inr (4, [.ref w1, .ref w2, .ref w3, .ref w4, .int (iI y)])), (w1, ia E 8 L), (w2, ia E 96 V), (w3, ia E 96 A), (w4, ia E 96 N)], ⟨rfl, rfl, rfl, rfl⟩, g_to 0 0 _ _ [.int (iI (V (s * 12 + p)))] rfl rfl rfl rfl rfl ?_⟩
      exact g_ret G (some (.int (iI (V (s * 12 + p))))) rfl dX9_tell_87 (Nat.le_refl _) (Nat.le_refl _) ⟨(V (s * 12 + p)), rfl, rfl, by rw [if_pos hq]; unfold tlI; first | (rw [if_pos c43]; done) | (rw [if_neg (by omega), if_pos c43]; done) | (rw [if_neg (by omega), if_neg (by omega), if_pos c43]; done) | (rw [if_neg (by omega), if_neg (by omega), if_neg (by omega), if_pos c43]; done) | (rw [if_neg (by omega), if_neg (by omega), if_neg (by omega), if_neg (by omega), if_pos c43]; done) | (rw [if_neg (by omega), if_neg (by omega), if_neg (by omega), if_neg (by omega), if_neg (by omega), if_pos c43]; done) | (rw [if_neg (by omega), if_neg (by omega), if_neg (by omega), if_neg (by omega), if_neg (by omega), if_neg (by omega)])⟩
    · refine g_tsIn G (1) (45) 88 dX9_tell_43 c43 (by decide) (by decide) (by decide) rfl (by decide) ?_
      refine g_iload G 5 dX9_tell_88 rfl ?_
      refine g_bipush G dX9_tell_90 (by decide +kernel) ?_
      refine g_idiv G dX9_tell_92 (by omega) (by omega) (by omega) (by omega) ?_
      exact g_ret G (some (.int (iI ((A (s * 12 + p)) / 100)))) rfl dX9_tell_93 (Nat.le_refl _) (Nat.le_refl _) ⟨((A (s * 12 + p)) / 100), rfl, rfl, by rw [if_pos hq]; unfold tlI; first | (rw [if_pos c43]; done) | (rw [if_neg (by omega), if_pos c43]; done) | (rw [if_neg (by omega), if_neg (by omega), if_pos c43]; done) | (rw [if_neg (by omega), if_neg (by omega), if_neg (by omega), if_pos c43]; done) | (rw [if_neg (by omega), if_neg (by omega), if_neg (by omega), if_neg (by omega), if_pos c43]; done) | (rw [if_neg (by omega), if_neg (by omega), if_neg (by omega), if_neg (by omega), if_neg (by omega), if_pos c43]; done) | (rw [if_neg (by omega), if_neg (by omega), if_neg (by omega), if_neg (by omega), if_neg (by omega), if_neg (by omega)])⟩
    · refine g_tsIn G (2) (51) 94 dX9_tell_43 c43 (by decide) (by decide) (by decide) rfl (by decide) ?_
      refine g_iload G 5 dX9_tell_94 rfl ?_
      refine g_bipush G dX9_tell_96 (by decide +kernel) ?_
      refine g_irem G dX9_tell_98 (by omega) (by omega) (by omega) (by omega) ?_
      exact g_ret G (some (.int (iI ((A (s * 12 + p)) % 100)))) rfl dX9_tell_99 (Nat.le_refl _) (Nat.le_refl _) ⟨((A (s * 12 + p)) % 100), rfl, rfl, by rw [if_pos hq]; unfold tlI; first | (rw [if_pos c43]; done) | (rw [if_neg (by omega), if_pos c43]; done) | (rw [if_neg (by omega), if_neg (by omega), if_pos c43]; done) | (rw [if_neg (by omega), if_neg (by omega), if_neg (by omega), if_pos c43]; done) | (rw [if_neg (by omega), if_neg (by omega), if_neg (by omega), if_neg (by omega), if_pos c43]; done) | (rw [if_neg (by omega), if_neg (by omega), if_neg (by omega), if_neg (by omega), if_neg (by omega), if_pos c43]; done) | (rw [if_neg (by omega), if_neg (by omega), if_neg (by omega), if_neg (by omega), if_neg (by omega), if_neg (by omega)])⟩
    · refine g_tsIn G (3) (57) 100 dX9_tell_43 c43 (by decide) (by decide) (by decide) rfl (by decide) ?_
      refine g_iload G 6 dX9_tell_100 rfl ?_
      refine g_callS G [] [0, 1, 2, 3, 4, 5, 6] 7 [(x0, .inr (9, [.ref i0, .ref g0, .ref as0, .ref bs0, .ref tq0])), (i0, .inr (0, [.ref w0, .ref q0])), (w0, .inr (4, [.ref w1, .ref w2, .ref w3, .ref w4, .int (iI y)])), (w1, ia E 8 L), (w2, ia E 96 V), (w3, ia E 96 A), (w4, ia E 96 N)] [.int (iI (N (s * 12 + p)))] [] (c_X9_codeOf E (N (s * 12 + p)) (by first | assumption | omega)) dX9_tell_102 gX9_tell_X9_codeOf ⟨rfl, ⟨rfl, rfl⟩, e_X9_codeOf, ⟨Nat.le_of_ble_eq_true rfl, Nat.le_of_ble_eq_true rfl⟩, Nat.le_of_ble_eq_true rfl, Nat.le_of_ble_eq_true rfl, Nat.le_of_ble_eq_true rfl⟩ rfl (by decide +kernel) rfl (by decide +kernel) rfl (fun v9 w9 h9 => ?_)
      obtain ⟨o9, rfl, rfl, rfl⟩ := h9
      refine ⟨[(x0, .inr (9, [.ref i0, .ref g0, .ref as0, .ref bs0, .ref tq0])), (i0, .inr (0, [.ref w0, .ref q0])), (w0, .inr (4, [.ref w1, .ref w2, .ref w3, .ref w4, .int (iI y)])), (w1, ia E 8 L), (w2, ia E 96 V), (w3, ia E 96 A), (w4, ia E 96 N)], ⟨rfl, rfl, rfl, rfl⟩, g_to 0 0 _ _ [.int (iI ((N (s * 12 + p)) / 10000))] rfl rfl rfl rfl rfl ?_⟩
      exact g_ret G (some (.int (iI ((N (s * 12 + p)) / 10000)))) rfl dX9_tell_105 (Nat.le_refl _) (Nat.le_refl _) ⟨((N (s * 12 + p)) / 10000), rfl, rfl, by rw [if_pos hq]; unfold tlI; first | (rw [if_pos c43]; done) | (rw [if_neg (by omega), if_pos c43]; done) | (rw [if_neg (by omega), if_neg (by omega), if_pos c43]; done) | (rw [if_neg (by omega), if_neg (by omega), if_neg (by omega), if_pos c43]; done) | (rw [if_neg (by omega), if_neg (by omega), if_neg (by omega), if_neg (by omega), if_pos c43]; done) | (rw [if_neg (by omega), if_neg (by omega), if_neg (by omega), if_neg (by omega), if_neg (by omega), if_pos c43]; done) | (rw [if_neg (by omega), if_neg (by omega), if_neg (by omega), if_neg (by omega), if_neg (by omega), if_neg (by omega)])⟩
    · refine g_tsIn G (4) (63) 106 dX9_tell_43 c43 (by decide) (by decide) (by decide) rfl (by decide) ?_
      refine g_iload G 6 dX9_tell_106 rfl ?_
      refine g_iconst G dX9_tell_108 ?_
      refine g_callS G [] [0, 1, 2, 3, 4, 5, 6] 7 [(x0, .inr (9, [.ref i0, .ref g0, .ref as0, .ref bs0, .ref tq0])), (i0, .inr (0, [.ref w0, .ref q0])), (w0, .inr (4, [.ref w1, .ref w2, .ref w3, .ref w4, .int (iI y)])), (w1, ia E 8 L), (w2, ia E 96 V), (w3, ia E 96 A), (w4, ia E 96 N)] [.int (iI (N (s * 12 + p))), .int (iI 0)] [] (c_X9_fieldOf E (N (s * 12 + p)) 0 (by first | assumption | omega) (by first | assumption | omega)) dX9_tell_109 gX9_tell_X9_fieldOf ⟨rfl, ⟨rfl, rfl⟩, e_X9_fieldOf, ⟨Nat.le_of_ble_eq_true rfl, Nat.le_of_ble_eq_true rfl⟩, Nat.le_of_ble_eq_true rfl, Nat.le_of_ble_eq_true rfl, Nat.le_of_ble_eq_true rfl⟩ rfl (by decide +kernel) rfl (by decide +kernel) rfl (fun v9 w9 h9 => ?_)
      obtain ⟨o10, rfl, rfl, rfl⟩ := h9
      refine ⟨[(x0, .inr (9, [.ref i0, .ref g0, .ref as0, .ref bs0, .ref tq0])), (i0, .inr (0, [.ref w0, .ref q0])), (w0, .inr (4, [.ref w1, .ref w2, .ref w3, .ref w4, .int (iI y)])), (w1, ia E 8 L), (w2, ia E 96 V), (w3, ia E 96 A), (w4, ia E 96 N)], ⟨rfl, rfl, rfl, rfl⟩, g_to 0 0 _ _ [.int (iI (fldI (N (s * 12 + p)) 0))] rfl rfl rfl rfl rfl ?_⟩
      exact g_ret G (some (.int (iI (fldI (N (s * 12 + p)) 0)))) rfl dX9_tell_112 (Nat.le_refl _) (Nat.le_refl _) ⟨(fldI (N (s * 12 + p)) 0), rfl, rfl, by rw [if_pos hq]; unfold tlI; first | (rw [if_pos c43]; done) | (rw [if_neg (by omega), if_pos c43]; done) | (rw [if_neg (by omega), if_neg (by omega), if_pos c43]; done) | (rw [if_neg (by omega), if_neg (by omega), if_neg (by omega), if_pos c43]; done) | (rw [if_neg (by omega), if_neg (by omega), if_neg (by omega), if_neg (by omega), if_pos c43]; done) | (rw [if_neg (by omega), if_neg (by omega), if_neg (by omega), if_neg (by omega), if_neg (by omega), if_pos c43]; done) | (rw [if_neg (by omega), if_neg (by omega), if_neg (by omega), if_neg (by omega), if_neg (by omega), if_neg (by omega)])⟩
    · refine g_tsIn G (5) (70) 113 dX9_tell_43 c43 (by decide) (by decide) (by decide) rfl (by decide) ?_
      refine g_iload G 6 dX9_tell_113 rfl ?_
      refine g_iconst G dX9_tell_115 ?_
      refine g_callS G [] [0, 1, 2, 3, 4, 5, 6] 7 [(x0, .inr (9, [.ref i0, .ref g0, .ref as0, .ref bs0, .ref tq0])), (i0, .inr (0, [.ref w0, .ref q0])), (w0, .inr (4, [.ref w1, .ref w2, .ref w3, .ref w4, .int (iI y)])), (w1, ia E 8 L), (w2, ia E 96 V), (w3, ia E 96 A), (w4, ia E 96 N)] [.int (iI (N (s * 12 + p))), .int (iI 1)] [] (c_X9_fieldOf E (N (s * 12 + p)) 1 (by first | assumption | omega) (by first | assumption | omega)) dX9_tell_116 gX9_tell_X9_fieldOf ⟨rfl, ⟨rfl, rfl⟩, e_X9_fieldOf, ⟨Nat.le_of_ble_eq_true rfl, Nat.le_of_ble_eq_true rfl⟩, Nat.le_of_ble_eq_true rfl, Nat.le_of_ble_eq_true rfl, Nat.le_of_ble_eq_true rfl⟩ rfl (by decide +kernel) rfl (by decide +kernel) rfl (fun v9 w9 h9 => ?_)
      obtain ⟨o11, rfl, rfl, rfl⟩ := h9
      refine ⟨[(x0, .inr (9, [.ref i0, .ref g0, .ref as0, .ref bs0, .ref tq0])), (i0, .inr (0, [.ref w0, .ref q0])), (w0, .inr (4, [.ref w1, .ref w2, .ref w3, .ref w4, .int (iI y)])), (w1, ia E 8 L), (w2, ia E 96 V), (w3, ia E 96 A), (w4, ia E 96 N)], ⟨rfl, rfl, rfl, rfl⟩, g_to 0 0 _ _ [.int (iI (fldI (N (s * 12 + p)) 1))] rfl rfl rfl rfl rfl ?_⟩
      exact g_ret G (some (.int (iI (fldI (N (s * 12 + p)) 1)))) rfl dX9_tell_119 (Nat.le_refl _) (Nat.le_refl _) ⟨(fldI (N (s * 12 + p)) 1), rfl, rfl, by rw [if_pos hq]; unfold tlI; first | (rw [if_pos c43]; done) | (rw [if_neg (by omega), if_pos c43]; done) | (rw [if_neg (by omega), if_neg (by omega), if_pos c43]; done) | (rw [if_neg (by omega), if_neg (by omega), if_neg (by omega), if_pos c43]; done) | (rw [if_neg (by omega), if_neg (by omega), if_neg (by omega), if_neg (by omega), if_pos c43]; done) | (rw [if_neg (by omega), if_neg (by omega), if_neg (by omega), if_neg (by omega), if_neg (by omega), if_pos c43]; done) | (rw [if_neg (by omega), if_neg (by omega), if_neg (by omega), if_neg (by omega), if_neg (by omega), if_neg (by omega)])⟩
    · refine g_tsOut G 120 dX9_tell_43 (by omega) c43 (by decide) ?_
      refine g_iconst G dX9_tell_120 ?_
      exact g_ret G (some (.int (iI (-1)))) rfl dX9_tell_121 (Nat.le_refl _) (Nat.le_refl _) ⟨(-1), rfl, rfl, by rw [if_pos hq]; unfold tlI; first | (rw [if_pos c43]; done) | (rw [if_neg (by omega), if_pos c43]; done) | (rw [if_neg (by omega), if_neg (by omega), if_pos c43]; done) | (rw [if_neg (by omega), if_neg (by omega), if_neg (by omega), if_pos c43]; done) | (rw [if_neg (by omega), if_neg (by omega), if_neg (by omega), if_neg (by omega), if_pos c43]; done) | (rw [if_neg (by omega), if_neg (by omega), if_neg (by omega), if_neg (by omega), if_neg (by omega), if_pos c43]; done) | (rw [if_neg (by omega), if_neg (by omega), if_neg (by omega), if_neg (by omega), if_neg (by omega), if_neg (by omega)])⟩
  · have hq : ¬ (0 ≤ s ∧ s < y ∧ 0 ≤ p ∧ p < L s) := by intro q; rw [if_pos (by omega)] at c19; omega
    refine g_iconst G dX9_tell_22 ?_
    exact g_ret G (some (.int (iI (-1)))) rfl dX9_tell_23 (Nat.le_refl _) (Nat.le_refl _) ⟨(-1), rfl, rfl, by rw [if_neg hq]⟩
theorem f_X9_quarrel_12 : Cond.fieldLink RX9 12 (TX9 0).1 (TX9 0).2.1 (TX9 0).2.2.1 ∈ wsX9_quarrel := by decide +kernel
theorem i_X9_quarrel_X9 : ∀ w ∈ wsX90, w ∈ wsX9_quarrel := by decide +kernel
theorem f_X9_quarrel_37 : Cond.fieldLinkNest RX9 37 (TX0 0).1 (TX0 0).2.1 (TX0 0).2.2.1 "RecordedNeighbours" ∈ NW := by decide +kernel
theorem i_X9_quarrel_X0 : ∀ w ∈ wsX00, w ∈ wsX9_quarrel := by decide +kernel
theorem e_X4_quarrelPlace : yX4_quarrelPlace.cls ≠ "java/lang/invoke/MethodHandle" ∧ yX4_quarrelPlace.cls ≠ "java/lang/invoke/VarHandle" ∧ (parseMethodDescriptor yX4_quarrelPlace.desc).map (fun d => d.parameters.length) = some 2 := by decide +kernel
set_option maxRecDepth 100000 in
set_option maxHeartbeats 4000000 in
theorem c_X9_quarrel (E : qE) (x0 : Nat) (i0 : Nat) (g0 : Nat) (as0 : Nat) (bs0 : Nat) (tq0 : Nat) (w0 : Nat) (q0 : Nat) (w1 : Nat) (w2 : Nat) (w3 : Nat) (w4 : Nat) (L : Int → Int) (V : Int → Int) (A : Int → Int) (N : Int → Int) (y : Int) (s : Int) (hR : RowsOk L V A N y) (hs : -2147483648 ≤ s ∧ s < 2147483648) : Cn E yX9_quarrel wsX9_quarrel { frames := 2, cells := 0, slots := 0, locals := 46 } [.ref x0, .int (iI s)] [(x0, .inr (9, [.ref i0, .ref g0, .ref as0, .ref bs0, .ref tq0])), (i0, .inr (0, [.ref w0, .ref q0])), (w0, .inr (4, [.ref w1, .ref w2, .ref w3, .ref w4, .int (iI y)])), (w1, ia E 8 L), (w2, ia E 96 V), (w3, ia E 96 A), (w4, ia E 96 N)] (fun v9 w9 => ∃ (r : Int), v9 = some (.int (iI r)) ∧ w9 = [(x0, .inr (9, [.ref i0, .ref g0, .ref as0, .ref bs0, .ref tq0])), (i0, .inr (0, [.ref w0, .ref q0])), (w0, .inr (4, [.ref w1, .ref w2, .ref w3, .ref w4, .int (iI y)])), (w1, ia E 8 L), (w2, ia E 96 V), (w3, ia E 96 A), (w4, ia E 96 N)] ∧ r = (pick3 s (quI (qRw L V N) y).1 (quI (qRw L V N) y).2.1 (quI (qRw L V N) y).2.2)) 0 0 := by
  refine Cn.ofP (own := RX9) (cc := cX9_quarrel) (maxL := 6) (ret := (some .int)) false [(0, .ref x0), (1, .int (iI s))] (by decide +kernel) rfl rfl (Nat.le_of_ble_eq_true rfl) rfl (fun h => nomatch h) (fun v w h => by obtain ⟨r, rfl, h9⟩ := h; exact ⟨_, rfl, rfl⟩) ?_
  intro P G
  obtain ⟨hz0, hz1, hL, hV, hA, hN⟩ := id hR
  refine g_aload_n G 0 dX9_quarrel_0 rfl ?_
  refine g_get G 0 0 dX9_quarrel_1 i_X9_quarrel_X9 f_X9_quarrel_12 rfl rfl (by decide) rfl ?_
  refine g_getN G 1 0 dX9_quarrel_4 i_X9_quarrel_X0 f_X9_quarrel_37 rfl rfl (by decide) rfl ?_
  refine g_astore_n G [(0, .ref x0), (1, .int (iI s)), (2, .ref w0)] dX9_quarrel_7 (by decide) rfl rfl ?_
  refine g_iconst G dX9_quarrel_8 ?_
  refine g_istore_n G [(0, .ref x0), (1, .int (iI s)), (2, .ref w0), (3, .int (iI 0))] dX9_quarrel_9 (by decide) rfl rfl ?_
  have L10 : ∀ (fuel : Nat), ∀ (i : Int), (0 ≤ i ∧ i ≤ y) → (nR (quS (qRw L V N)) (fun _ => y) (-1) i.toNat (-1, -1, -1) = (-1, -1, -1)) → (y - i : Int).toNat < fuel → P 0 0 [(x0, .inr (9, [.ref i0, .ref g0, .ref as0, .ref bs0, .ref tq0])), (i0, .inr (0, [.ref w0, .ref q0])), (w0, .inr (4, [.ref w1, .ref w2, .ref w3, .ref w4, .int (iI y)])), (w1, ia E 8 L), (w2, ia E 96 V), (w3, ia E 96 A), (w4, ia E 96 N)] 10 [(0, .ref x0), (1, .int (iI s)), (2, .ref w0), (3, .int (iI i))] [] := by
    intro fuel
    induction fuel with
    | zero => intro i hi ho hm; exact absurd hm (Nat.not_lt_zero _)
    | succ fuel ih10 =>
      intro i hi ho hm
      refine g_iload_n G 3 dX9_quarrel_10 rfl ?_
      refine g_aload_n G 2 dX9_quarrel_11 rfl ?_
      refine g_callV G [2, 3, 4, 5, 6] [0, 1] 7 [(x0, .inr (9, [.ref i0, .ref g0, .ref as0, .ref bs0, .ref tq0])), (i0, .inr (0, [.ref w0, .ref q0]))] [] [.int (iI i)] (c_X4_size E w0 w1 w2 w3 w4 L V A N y ) dX9_quarrel_12 gX9_quarrel_X4_size ⟨rfl, ⟨rfl, rfl⟩, e_X4_size, ⟨Nat.le_of_ble_eq_true rfl, Nat.le_of_ble_eq_true rfl⟩, Nat.le_of_ble_eq_true rfl, Nat.le_of_ble_eq_true rfl, Nat.le_of_ble_eq_true rfl⟩ rfl rfl rfl rfl rfl (by decide +kernel) rfl (by decide +kernel) rfl (fun v9 w9 h9 => ?_)
      obtain ⟨rfl, rfl⟩ := h9
      refine ⟨[(x0, .inr (9, [.ref i0, .ref g0, .ref as0, .ref bs0, .ref tq0])), (i0, .inr (0, [.ref w0, .ref q0])), (w0, .inr (4, [.ref w1, .ref w2, .ref w3, .ref w4, .int (iI y)])), (w1, ia E 8 L), (w2, ia E 96 V), (w3, ia E 96 A), (w4, ia E 96 N)], ⟨rfl, rfl, rfl, rfl⟩, g_to 0 0 _ _ [.int (iI y), .int (iI i)] rfl rfl rfl rfl rfl ?_⟩
      refine g_icmp_ge G 69 dX9_quarrel_15 (by decide) (by omega) (by omega) (fun c15 => ?_) (fun c15 => ?_)
      · refine g_iconst G dX9_quarrel_69 ?_
        exact g_ret G (some (.int (iI (-1)))) rfl dX9_quarrel_70 (Nat.le_refl _) (Nat.le_refl _) ⟨(-1), rfl, rfl, by unfold quI; rw [(show y.toNat = i.toNat by omega), (show y = i by omega)]; rw [(show y = i by omega)] at ho; rw [ho]; unfold pick3; (repeat' split) <;> rfl⟩
      · refine g_iload_n G 3 dX9_quarrel_18 rfl ?_
        refine g_iconst G dX9_quarrel_19 ?_
        refine g_iadd G dX9_quarrel_20 ?_
        refine g_istore G [(0, .ref x0), (1, .int (iI s)), (2, .ref w0), (3, .int (iI i)), (4, .int (iI (i + 1)))] dX9_quarrel_21 (by decide) rfl rfl ?_
        have L23 : ∀ (fuel : Nat), ∀ (j : Int), (i + 1 ≤ j ∧ j ≤ y) → (nP (quS (qRw L V N)) i j.toNat (-1, -1, -1) = (-1, -1, -1)) → (y - j : Int).toNat < fuel → P 0 0 [(x0, .inr (9, [.ref i0, .ref g0, .ref as0, .ref bs0, .ref tq0])), (i0, .inr (0, [.ref w0, .ref q0])), (w0, .inr (4, [.ref w1, .ref w2, .ref w3, .ref w4, .int (iI y)])), (w1, ia E 8 L), (w2, ia E 96 V), (w3, ia E 96 A), (w4, ia E 96 N)] 23 [(0, .ref x0), (1, .int (iI s)), (2, .ref w0), (3, .int (iI i)), (4, .int (iI j))] [] := by
          intro fuel
          induction fuel with
          | zero => intro j hj ho2 hm; exact absurd hm (Nat.not_lt_zero _)
          | succ fuel ih23 =>
            intro j hj ho2 hm
            refine g_iload G 4 dX9_quarrel_23 rfl ?_
            refine g_aload_n G 2 dX9_quarrel_25 rfl ?_
            refine g_callV G [2, 3, 4, 5, 6] [0, 1] 7 [(x0, .inr (9, [.ref i0, .ref g0, .ref as0, .ref bs0, .ref tq0])), (i0, .inr (0, [.ref w0, .ref q0]))] [] [.int (iI j)] (c_X4_size E w0 w1 w2 w3 w4 L V A N y ) dX9_quarrel_26 gX9_quarrel_X4_size ⟨rfl, ⟨rfl, rfl⟩, e_X4_size, ⟨Nat.le_of_ble_eq_true rfl, Nat.le_of_ble_eq_true rfl⟩, Nat.le_of_ble_eq_true rfl, Nat.le_of_ble_eq_true rfl, Nat.le_of_ble_eq_true rfl⟩ rfl rfl rfl rfl rfl (by decide +kernel) rfl (by decide +kernel) rfl (fun v9 w9 h9 => ?_)
            obtain ⟨rfl, rfl⟩ := h9
            refine ⟨[(x0, .inr (9, [.ref i0, .ref g0, .ref as0, .ref bs0, .ref tq0])), (i0, .inr (0, [.ref w0, .ref q0])), (w0, .inr (4, [.ref w1, .ref w2, .ref w3, .ref w4, .int (iI y)])), (w1, ia E 8 L), (w2, ia E 96 V), (w3, ia E 96 A), (w4, ia E 96 N)], ⟨rfl, rfl, rfl, rfl⟩, g_to 0 0 _ _ [.int (iI y), .int (iI j)] rfl rfl rfl rfl rfl ?_⟩
            refine g_icmp_ge G 63 dX9_quarrel_29 (by decide) (by omega) (by omega) (fun c29 => ?_) (fun c29 => ?_)
            · refine g_iinc G 3 [(0, .ref x0), (1, .int (iI s)), (2, .ref w0), (3, .int (iI (i + 1))), (4, .int (iI j))] dX9_quarrel_63 rfl (by decide) rfl rfl ?_
              refine g_goto G 10 dX9_quarrel_66 (by decide) ?_
              refine g_lv G [0, 1, 2, 3] (lv' := [(0, .ref x0), (1, .int (iI s)), (2, .ref w0), (3, .int (iI (i + 1)))]) rfl ?_
              exact ih10 (i + 1) (by first | assumption | omega) (by rw [nR_up _ _ _ hi.1, if_neg (by omega), ho]; (try dsimp only); rw [(show y = j by omega)]; exact ho2) (by omega)
            · refine g_aload_n G 2 dX9_quarrel_32 rfl ?_
              refine g_iload_n G 3 dX9_quarrel_33 rfl ?_
              refine g_iload G 4 dX9_quarrel_34 rfl ?_
              refine g_callV G [2, 3, 4, 5, 6] [0, 1] 7 [(x0, .inr (9, [.ref i0, .ref g0, .ref as0, .ref bs0, .ref tq0])), (i0, .inr (0, [.ref w0, .ref q0]))] [.int (iI i), .int (iI j)] [] (c_X4_quarrelPlace E w0 w1 w2 w3 w4 L V A N y i j (by exact hR) (by omega) (by omega)) dX9_quarrel_36 gX9_quarrel_X4_quarrelPlace ⟨rfl, ⟨rfl, rfl⟩, e_X4_quarrelPlace, ⟨Nat.le_of_ble_eq_true rfl, Nat.le_of_ble_eq_true rfl⟩, Nat.le_of_ble_eq_true rfl, Nat.le_of_ble_eq_true rfl, Nat.le_of_ble_eq_true rfl⟩ rfl rfl rfl rfl rfl (by decide +kernel) rfl (by decide +kernel) rfl (fun v9 w9 h9 => ?_)
              obtain ⟨o1, rfl, rfl, rfl⟩ := h9
              refine ⟨[(x0, .inr (9, [.ref i0, .ref g0, .ref as0, .ref bs0, .ref tq0])), (i0, .inr (0, [.ref w0, .ref q0])), (w0, .inr (4, [.ref w1, .ref w2, .ref w3, .ref w4, .int (iI y)])), (w1, ia E 8 L), (w2, ia E 96 V), (w3, ia E 96 A), (w4, ia E 96 N)], ⟨rfl, rfl, rfl, rfl⟩, g_to 0 0 _ _ [.int (iI (qpl (fun p => V (i * 12 + p) ≠ V (j * 12 + p)) (fun p => N (i * 12 + p) / 10000 ≠ N (j * 12 + p) / 10000) (min (L i) (L j)).toNat 0))] rfl rfl rfl rfl rfl ?_⟩
              refine g_istore G [(0, .ref x0), (1, .int (iI s)), (2, .ref w0), (3, .int (iI i)), (4, .int (iI j)), (5, .int (iI (qpl (fun p => V (i * 12 + p) ≠ V (j * 12 + p)) (fun p => N (i * 12 + p) / 10000 ≠ N (j * 12 + p) / 10000) (min (L i) (L j)).toNat 0)))] dX9_quarrel_39 (by decide) rfl rfl ?_
              have hqb : -1 ≤ qRw L V N i j ∧ qRw L V N i j < 100 := qRw_bd hL i j
              have hqb2 := hqb
              unfold qRw at hqb2
              refine g_iload G 5 dX9_quarrel_41 rfl ?_
              refine g_iconst G dX9_quarrel_43 ?_
              refine g_icmp_eq G 57 dX9_quarrel_44 (by decide) (by omega) (by omega) (fun c44 => ?_) (fun c44 => ?_)
              · refine g_iinc G 4 [(0, .ref x0), (1, .int (iI s)), (2, .ref w0), (3, .int (iI i)), (4, .int (iI (j + 1))), (5, .int (iI (qpl (fun p => V (i * 12 + p) ≠ V (j * 12 + p)) (fun p => N (i * 12 + p) / 10000 ≠ N (j * 12 + p) / 10000) (min (L i) (L j)).toNat 0)))] dX9_quarrel_57 rfl (by decide) rfl rfl ?_
                refine g_goto G 23 dX9_quarrel_60 (by decide) ?_
                refine g_lv G [0, 1, 2, 3, 4] (lv' := [(0, .ref x0), (1, .int (iI s)), (2, .ref w0), (3, .int (iI i)), (4, .int (iI (j + 1)))]) rfl ?_
                exact ih23 (j + 1) (by first | assumption | omega) (by rw [nP_up _ _ (show 0 ≤ j by omega), ho2]; exact if_neg (fun q => by have q2 : qRw L V N i j = -1 := c44; omega)) (by omega)
              · have e9 : quI (qRw L V N) y = (i, j, qRw L V N i j) := nR_exit (quS (qRw L V N)) (fun _ => y) (-1) hi.1 (show i < y by omega) (by omega) (show 0 ≤ j by omega) (show j < y by omega) (by rw [nP_up _ _ (show 0 ≤ j by omega), ho, ho2]; exact if_pos ⟨rfl, by omega, by have q2 : qRw L V N i j ≠ -1 := c44; omega⟩) (fun r p => if_neg (fun q => by have q2 := congrArg Prod.fst q.1; dsimp only at q2; omega))
                refine g_iload_n G 1 dX9_quarrel_47 rfl ?_
                refine g_iload_n G 3 dX9_quarrel_48 rfl ?_
                refine g_iload G 4 dX9_quarrel_49 rfl ?_
                refine g_iload G 5 dX9_quarrel_51 rfl ?_
                refine g_callS G [] [0, 1, 2, 3, 4, 5, 6] 7 [(x0, .inr (9, [.ref i0, .ref g0, .ref as0, .ref bs0, .ref tq0])), (i0, .inr (0, [.ref w0, .ref q0])), (w0, .inr (4, [.ref w1, .ref w2, .ref w3, .ref w4, .int (iI y)])), (w1, ia E 8 L), (w2, ia E 96 V), (w3, ia E 96 A), (w4, ia E 96 N)] [.int (iI s), .int (iI i), .int (iI j), .int (iI (qpl (fun p => V (i * 12 + p) ≠ V (j * 12 + p)) (fun p => N (i * 12 + p) / 10000 ≠ N (j * 12 + p) / 10000) (min (L i) (L j)).toNat 0))] [] (c_X9_pickOfThree E s i j (qpl (fun p => V (i * 12 + p) ≠ V (j * 12 + p)) (fun p => N (i * 12 + p) / 10000 ≠ N (j * 12 + p) / 10000) (min (L i) (L j)).toNat 0) (by first | assumption | omega)) dX9_quarrel_53 gX9_quarrel_X9_pickOfThree ⟨rfl, ⟨rfl, rfl⟩, e_X9_pickOfThree, ⟨Nat.le_of_ble_eq_true rfl, Nat.le_of_ble_eq_true rfl⟩, Nat.le_of_ble_eq_true rfl, Nat.le_of_ble_eq_true rfl, Nat.le_of_ble_eq_true rfl⟩ rfl (by decide +kernel) rfl (by decide +kernel) rfl (fun v9 w9 h9 => ?_)
                obtain ⟨o2, rfl, rfl, rfl⟩ := h9
                refine ⟨[(x0, .inr (9, [.ref i0, .ref g0, .ref as0, .ref bs0, .ref tq0])), (i0, .inr (0, [.ref w0, .ref q0])), (w0, .inr (4, [.ref w1, .ref w2, .ref w3, .ref w4, .int (iI y)])), (w1, ia E 8 L), (w2, ia E 96 V), (w3, ia E 96 A), (w4, ia E 96 N)], ⟨rfl, rfl, rfl, rfl⟩, g_to 0 0 _ _ [.int (iI (pick3 s i j (qpl (fun p => V (i * 12 + p) ≠ V (j * 12 + p)) (fun p => N (i * 12 + p) / 10000 ≠ N (j * 12 + p) / 10000) (min (L i) (L j)).toNat 0)))] rfl rfl rfl rfl rfl ?_⟩
                exact g_ret G (some (.int (iI (pick3 s i j (qpl (fun p => V (i * 12 + p) ≠ V (j * 12 + p)) (fun p => N (i * 12 + p) / 10000 ≠ N (j * 12 + p) / 10000) (min (L i) (L j)).toNat 0))))) rfl dX9_quarrel_56 (Nat.le_refl _) (Nat.le_refl _) ⟨(pick3 s i j (qpl (fun p => V (i * 12 + p) ≠ V (j * 12 + p)) (fun p => N (i * 12 + p) / 10000 ≠ N (j * 12 + p) / 10000) (min (L i) (L j)).toNat 0)), rfl, rfl, by rw [e9]; rfl⟩
        exact L23 ((y - (i + 1) : Int).toNat + 1) (i + 1) (by first | assumption | omega) (by exact quS_lo _ hi.1 _ (by omega)) (by omega)
  exact L10 ((y - 0 : Int).toNat + 1) 0 (by first | assumption | omega) (by rfl) (by omega)
