/-! LAYER 3: each way of the law keeps the invariant, and the answers are one -/
theorem RunR.cong2 {t n k o a b c d l g g' : Int → Int} {z on st an un : Int} (h : RunR t n k o a b z c d l on st an un g) (hO : OldOk g) (he : ∀ i, (1 ≤ i ∧ i ≤ 6) ∨ (600 ≤ i ∧ i < 1350) → g' i = g i) : RunR t n k o a b z c d l on st an un g' := by
  rcases h with ⟨h0, h1, h2, h3⟩ | ⟨h0, h1, ⟨g2, g3, g4, g5, g6⟩, hst, hM, hU, hT, hE⟩
  · exact Or.inl ⟨h0, by rw [he 1 (by omega)]; exact h1, by rw [he 5 (by omega)]; exact h2, by rw [he 6 (by omega)]; exact h3⟩
  · refine Or.inr ⟨h0, by rw [he 1 (by omega)]; exact h1, ⟨by rw [he 2 (by omega)]; exact g2, by rw [he 3 (by omega)]; exact g3, by rw [he 4 (by omega)]; exact g4, by rw [he 5 (by omega)]; exact g5, by rw [he 6 (by omega)]; exact g6⟩, hst, fun j j0 j1 => ?_, fun v f hv hf => ?_, fun v s f hv hs hf => ?_, fun v v0 v1 => ?_, fun a' a0 a1 => ?_⟩
    · rw [he _ (by omega), he _ (by omega)]; exact hM j j0 j1
    · rw [he _ (by omega), he _ (by omega)]; exact hU v f hv hf
    · rw [ofI_cong hO (fun i i0 i1 => he i (by omega)) (fun i i0 i1 => he i (by omega)) _ _ _ _ hf]; exact hT v s f hv hs hf
    · rw [he _ (by omega)]; exact hE.1 v v0 v1
    · rw [he _ (by omega)]; exact hE.2 a' a0 a1
theorem ex_out {g : Int → Int} {x v s y j : Int} (hx : 0 ≤ x ∧ x < 8) (hl : 0 ≤ g (10 + x) ∧ g (10 + x) < 12) (hj : j ≤ 9 ∨ 600 ≤ j) : exI g x v s y j = g j := by
  unfold exI
  rw [upI_ne _ _ (by omega), exA_ne (by omega)]
theorem bg_idem (g : Int → Int) : upI (upI (upI (upI (upI (upI g 1 0) 5 (-1000)) 6 (-1000)) 1 0) 5 (-1000)) 6 (-1000) = upI (upI (upI g 1 0) 5 (-1000)) 6 (-1000) := by
  funext j
  by_cases q6 : j = 6
  · subst q6; rw [upI_same, upI_same]
  · rw [upI_ne _ _ q6]
    by_cases q5 : j = 5
    · subst q5; rw [upI_same, upI_ne _ _ q6, upI_same]
    · rw [upI_ne _ _ q5]
      by_cases q1 : j = 1
      · subst q1; rw [upI_same, upI_ne _ _ q6, upI_ne _ _ q5, upI_same]
      · rw [upI_ne _ _ q1]
theorem bgN_0 (g t c u : Int → Int) : bgN (upI (upI (upI g 1 0) 5 (-1000)) 6 (-1000)) t c u = bgN g t c u := by
  unfold bgN
  rw [bg_idem]
theorem bgN_hi {g t c u : Int → Int} {j : Int} (h : 1350 ≤ j) : bgN g t c u j = g j := by
  unfold bgN bgK
  rw [if_neg (by omega), if_neg (by omega), if_neg (by omega), if_neg (by omega), if_neg (by omega), if_neg (by omega), if_neg (by omega), upI_ne _ _ (by omega), upI_ne _ _ (by omega), upI_ne _ _ (by omega), upI_ne _ _ (by omega), upI_ne _ _ (by omega), upI_ne _ _ (by omega), upI_ne _ _ (by omega)]
theorem g0_ne (g : Int → Int) {j : Int} (h : j ≠ 1 ∧ j ≠ 5 ∧ j ≠ 6) : upI (upI (upI g 1 0) 5 (-1000)) 6 (-1000) j = g j := by
  rw [upI_ne _ _ (by omega), upI_ne _ _ (by omega), upI_ne _ _ (by omega)]
theorem MacC.no {L V N t c : Int → Int} {e y r : Int} (h : MacC L V N e y r t c) (hr : r < 1) : ∀ j, 0 ≤ j → j < 12 → t j = -1 ∧ c j = -1 := by
  intro j j0 j1
  rcases h with h | h | h
  · exact h.2.2 j ⟨j0, j1⟩
  · omega
  · exact h.2.2.2 j ⟨j0, j1⟩
theorem RunR.on {t n k o a b c d l g : Int → Int} {z on st an un : Int} (h : RunR t n k o a b z c d l on st an un g) : g 1 = on := by
  rcases h with ⟨h0, h1, _⟩ | ⟨h0, h1, _⟩ <;> rw [h0, h1]
set_option maxHeartbeats 4000000 in
theorem op_row {F Z : Nat → Int → Int} {io : Int → Option Nat} {ib : Int → Nat → Nat} {FI : Int → Nat → Int → Int} {m : Int} {X : Int → Int} {rX : Int} {LpX : Int → Int} {ypX : Int} {rZ : Int} {gpZ : Int → Int} (hI : InvL F Z io ib FI m) (m0 : 0 ≤ m) (hm : m + 1 ≤ 50000) (hx : rX = (if 8 ≤ (F 2 0) then -1 else (F 2 0)) ∧ LpX = (if 8 ≤ (F 2 0) then (F 3) else upI (F 3) (F 2 0) 0) ∧ ypX = (if 8 ≤ (F 2 0) then (F 2 0) else (F 2 0) + 1)) (hz : rZ = (if (Z 1) 0 = 8 then -1 else (Z 1) 0) ∧ gpZ = (if (Z 1) 0 = 8 then (Z 1) else upI (upI (Z 1) (10 + (Z 1) 0) 0) 0 ((Z 1) 0 + 1))) : rX = rZ ∧ InvL (upF (upF F 2 (fun _ => ypX)) 3 LpX) (upF Z 1 gpZ) io ib FI (m + 1) := by
  have hJ := hI
  obtain ⟨hN, hA, hB, he, hh, hc, hM⟩ := hI
  have hw : RwK (F 3) (F 4) (F 5) (F 6) (F 2 0) (Z 1) := NwE.rwk hN
  obtain ⟨nR, nO, nU, nB, nG⟩ := hN
  have e0 : Z 1 0 = F 2 0 := nR.1
  have y0 := nO.1
  have y8 := nO.2.1
  obtain ⟨h1, h2, h3⟩ := hx
  obtain ⟨h4, h5⟩ := hz
  by_cases q : 8 ≤ F 2 0
  · rw [if_pos q] at h1 h2 h3
    rw [if_pos (by omega)] at h4 h5
    subst h1 h2 h3 h4 h5
    exact ⟨rfl, InvL.mono hJ (by omega)⟩
  · rw [if_neg q] at h1 h2 h3
    rw [if_neg (by omega)] at h4 h5
    subst h1 h2 h3 h4 h5
    have hR' := rel_row nR y0 (by omega)
    have hO' : RowsOk (upI (F 3) (F 2 0) 0) (F 4) (F 5) (F 6) (F 2 0 + 1) := ⟨by omega, by omega, fun i => by have := nO.2.2.1 i; unfold upI; split <;> omega, nO.2.2.2⟩
    have hG' := GOk.row nG (by omega) (by omega)
    have hU' := nU.cong2 nG.2.2.2.1 (g' := upI (upI (Z 1) (10 + Z 1 0) 0) 0 (Z 1 0 + 1)) (fun i hi => by rw [upI_ne _ _ (by omega), upI_ne _ _ (by omega)])
    have w' : RwK (upI (F 3) (F 2 0) 0) (F 4) (F 5) (F 6) (F 2 0 + 1) (upI (upI (Z 1) (10 + Z 1 0) 0) 0 (Z 1 0 + 1)) := ⟨hR', hO', hG'.1, hG'.2.2.1⟩
    have hM' : ImE io ib FI (upI (upI (Z 1) (10 + Z 1 0) 0) 0 (Z 1 0 + 1)) (Z 2) m := hM.to hG'.1.1 (fun j hj => by rw [upI_ne _ _ (by omega), upI_ne _ _ (by omega)]) (Int.le_refl _)
    exact ⟨e0.symm, InvL.mono (m := m) ⟨⟨hR', hO', hU', nB, hG'⟩, StE.row hA hw w', StE.row hB hw w', he, hh, hc, hM'⟩ (by omega)⟩
set_option maxHeartbeats 4000000 in
theorem op_exchange {F Z : Nat → Int → Int} {io : Int → Option Nat} {ib : Int → Nat → Nat} {FI : Int → Nat → Int → Int} {m : Int} {X : Int → Int} {rX : Int} {LpX : Int → Int} {VpX : Int → Int} {ApX : Int → Int} {NpX : Int → Int} {m1X : Int} {m2X : Int} {m3X : Int} {m4X : Int} {rZ : Int} {gpZ : Int → Int} (hI : InvL F Z io ib FI m) (m0 : 0 ≤ m) (hm : m + 1 ≤ 50000) (hx : ((((0 ≤ (X 2) ∧ (X 2) < 3) ∧ (0 ≤ (X 3) ∧ (X 3) < 10000) ∧ (0 ≤ (X 4) ∧ (X 4) < 40000) ∧ (0 ≤ (X 1) ∧ (X 1) < (F 2 0) ∧ (F 3) (X 1) < 12)) ∧ rX = (F 3) (X 1) ∧ LpX = upI (F 3) (X 1) ((F 3) (X 1) + 1) ∧ VpX = upI (F 4) ((X 1) * 12 + (F 3) (X 1)) (X 2) ∧ ApX = upI (F 5) ((X 1) * 12 + (F 3) (X 1)) (X 3) ∧ NpX = upI (F 6) ((X 1) * 12 + (F 3) (X 1)) (X 4) ∧ m1X = 0 ∧ m2X = 0 ∧ m3X = 0 ∧ m4X = 0) ∨ (¬ ((0 ≤ (X 2) ∧ (X 2) < 3) ∧ (0 ≤ (X 3) ∧ (X 3) < 10000) ∧ (0 ≤ (X 4) ∧ (X 4) < 40000) ∧ (0 ≤ (X 1) ∧ (X 1) < (F 2 0) ∧ (F 3) (X 1) < 12)) ∧ rX = -1 ∧ LpX = (F 3) ∧ VpX = (F 4) ∧ ApX = (F 5) ∧ NpX = (F 6) ∧ m1X = (F 121 0) ∧ m2X = (F 221 0) ∧ m3X = (F 151 0) ∧ m4X = (F 251 0)))) (hz : rZ = (if (0 ≤ (X 1) ∧ (X 1) ≤ (Z 1) 0 - 1 ∧ 0 ≤ (X 2) ∧ (X 2) ≤ 2 ∧ 0 ≤ (X 3) ∧ (X 3) ≤ 9999 ∧ 0 ≤ (X 4) ∧ (X 4) ≤ 39999 ∧ (Z 1) (10 + (X 1)) ≠ 12) then (Z 1) (10 + (X 1)) else -1) ∧ gpZ = (if (0 ≤ (X 1) ∧ (X 1) ≤ (Z 1) 0 - 1 ∧ 0 ≤ (X 2) ∧ (X 2) ≤ 2 ∧ 0 ≤ (X 3) ∧ (X 3) ≤ 9999 ∧ 0 ≤ (X 4) ∧ (X 4) ≤ 39999 ∧ (Z 1) (10 + (X 1)) ≠ 12) then exI (Z 1) (X 1) (X 2) (X 3) (X 4) else (Z 1))) : rX = rZ ∧ InvL (upF (upF (upF (upF (upF (upF (upF (upF F 3 LpX) 4 VpX) 5 ApX) 6 NpX) 121 (fun _ => m1X)) 221 (fun _ => m2X)) 151 (fun _ => m3X)) 251 (fun _ => m4X)) (upF Z 1 gpZ) io ib FI (m + 1) := by
  have hJ := hI
  obtain ⟨hN, hA, hB, he, hh, hc, hM⟩ := hI
  have hw : RwK (F 3) (F 4) (F 5) (F 6) (F 2 0) (Z 1) := NwE.rwk hN
  obtain ⟨nR, nO, nU, nB, nG⟩ := hN
  have e0 : Z 1 0 = F 2 0 := nR.1
  have y0 := nO.1
  have y8 := nO.2.1
  obtain ⟨h4, h5⟩ := hz
  rcases hx with ⟨⟨hv, hk, hy, s0, s1, sl⟩, h1, a1, a2, a3, a4, a5, a6, a7, a8⟩ | ⟨q, h1, a1, a2, a3, a4, a5, a6, a7, a8⟩
  · have el := nR.2.1 (X 1) s0 s1
    rw [if_pos (by omega)] at h4 h5
    subst h1 a1 a2 a3 a4 a5 a6 a7 a8 h4 h5
    have ll := nO.2.2.1 (X 1)
    have hR' := rel_ex (v := X 2) (k := X 3) (z := X 4) nR y8 nO.2.2.1 ⟨s0, s1⟩ sl
    have hO' : RowsOk (upI (F 3) (X 1) (F 3 (X 1) + 1)) (upI (F 4) (X 1 * 12 + F 3 (X 1)) (X 2)) (upI (F 5) (X 1 * 12 + F 3 (X 1)) (X 3)) (upI (F 6) (X 1 * 12 + F 3 (X 1)) (X 4)) (F 2 0) := ⟨y0, y8, fun i => by have := nO.2.2.1 i; unfold upI; split <;> omega, fun i => by have := nO.2.2.2.1 i; unfold upI; split <;> omega, fun i => by have := nO.2.2.2.2.1 i; unfold upI; split <;> omega, fun i => by have := nO.2.2.2.2.2 i; unfold upI; split <;> omega⟩
    have hG' := GOk.ex (x := X 1) (v := X 2) (s := X 3) (y := X 4) nG (by omega) ⟨s0, by omega⟩ (by omega) ⟨hv.1, by omega⟩ ⟨hk.1, by omega⟩ ⟨hy.1, by omega⟩
    have hU' := nU.cong2 nG.2.2.2.1 (g' := exI (Z 1) (X 1) (X 2) (X 3) (X 4)) (fun i hi => ex_out ⟨s0, by omega⟩ (by omega) (by omega))
    have hM' : ImE io ib FI (exI (Z 1) (X 1) (X 2) (X 3) (X 4)) (Z 2) m := hM.to hG'.1.1 (fun j hj => ex_out ⟨s0, by omega⟩ (by omega) (by omega)) (Int.le_refl _)
    exact ⟨el.symm, InvL.mono (m := m) ⟨⟨hR', hO', hU', nB, hG'⟩, StE.forget hA hA.2.1, StE.forget hB hB.2.1, he, hh, hc, hM'⟩ (by omega)⟩
  · have qn : ¬ (0 ≤ X 1 ∧ X 1 ≤ Z 1 0 - 1 ∧ 0 ≤ X 2 ∧ X 2 ≤ 2 ∧ 0 ≤ X 3 ∧ X 3 ≤ 9999 ∧ 0 ≤ X 4 ∧ X 4 ≤ 39999 ∧ Z 1 (10 + X 1) ≠ 12) := by
      intro z
      have el := nR.2.1 (X 1) z.1 (by omega)
      have ll := nO.2.2.1 (X 1)
      omega
    rw [if_neg qn] at h4 h5
    subst h1 a1 a2 a3 a4 a5 a6 a7 a8 h4 h5
    exact ⟨rfl, InvL.mono hJ (by omega)⟩
set_option maxHeartbeats 4000000 in
theorem op_cut {F Z : Nat → Int → Int} {io : Int → Option Nat} {ib : Int → Nat → Nat} {FI : Int → Nat → Int → Int} {m : Int} {X : Int → Int} {rX : Int} {LpX : Int → Int} {m1X : Int} {m2X : Int} {m3X : Int} {m4X : Int} {rZ : Int} {gpZ : Int → Int} (hI : InvL F Z io ib FI m) (m0 : 0 ≤ m) (hm : m + 1 ≤ 50000) (hx : (((0 ≤ (X 1) ∧ (X 1) < (F 2 0) ∧ 0 ≤ (X 2) ∧ (X 2) ≤ (F 3) (X 1)) ∧ rX = 1 ∧ LpX = upI (F 3) (X 1) (X 2) ∧ m1X = 0 ∧ m2X = 0 ∧ m3X = 0 ∧ m4X = 0) ∨ (¬ (0 ≤ (X 1) ∧ (X 1) < (F 2 0) ∧ 0 ≤ (X 2) ∧ (X 2) ≤ (F 3) (X 1)) ∧ rX = 0 ∧ LpX = (F 3) ∧ m1X = (F 121 0) ∧ m2X = (F 221 0) ∧ m3X = (F 151 0) ∧ m4X = (F 251 0)))) (hz : rZ = (if 0 ≤ (X 1) ∧ (X 1) ≤ (Z 1) 0 - 1 ∧ 0 ≤ (X 2) ∧ (X 2) ≤ (Z 1) (10 + (X 1)) then 1 else 0) ∧ gpZ = (if 0 ≤ (X 1) ∧ (X 1) ≤ (Z 1) 0 - 1 ∧ 0 ≤ (X 2) ∧ (X 2) ≤ (Z 1) (10 + (X 1)) then upI (Z 1) (10 + (X 1)) (X 2) else (Z 1))) : rX = rZ ∧ InvL (upF (upF (upF (upF (upF F 3 LpX) 121 (fun _ => m1X)) 221 (fun _ => m2X)) 151 (fun _ => m3X)) 251 (fun _ => m4X)) (upF Z 1 gpZ) io ib FI (m + 1) := by
  have hJ := hI
  obtain ⟨hN, hA, hB, he, hh, hc, hM⟩ := hI
  have hw : RwK (F 3) (F 4) (F 5) (F 6) (F 2 0) (Z 1) := NwE.rwk hN
  obtain ⟨nR, nO, nU, nB, nG⟩ := hN
  have e0 : Z 1 0 = F 2 0 := nR.1
  have y0 := nO.1
  have y8 := nO.2.1
  obtain ⟨h4, h5⟩ := hz
  rcases hx with ⟨⟨s0, s1, v0, v1⟩, h1, a1, a2, a3, a4, a5⟩ | ⟨q, h1, a1, a2, a3, a4, a5⟩
  · have el := nR.2.1 (X 1) s0 s1
    rw [if_pos (by omega)] at h4 h5
    subst h1 a1 a2 a3 a4 a5 h4 h5
    have ll := nO.2.2.1 (X 1)
    have hR' := rel_cut (v := X 2) nR y8 ⟨s0, s1⟩ ⟨v0, v1⟩
    have hO' : RowsOk (upI (F 3) (X 1) (X 2)) (F 4) (F 5) (F 6) (F 2 0) := ⟨y0, y8, fun i => by have := nO.2.2.1 i; unfold upI; split <;> omega, nO.2.2.2⟩
    have hG' := GOk.cut (s := X 1) (v := X 2) nG (by omega) ⟨s0, by omega⟩ ⟨v0, by omega⟩
    have hU' := nU.cong2 nG.2.2.2.1 (g' := upI (Z 1) (10 + X 1) (X 2)) (fun i hi => upI_ne _ _ (by omega))
    have hM' : ImE io ib FI (upI (Z 1) (10 + X 1) (X 2)) (Z 2) m := hM.to hG'.1.1 (fun j hj => upI_ne _ _ (by omega)) (Int.le_refl _)
    exact ⟨rfl, InvL.mono (m := m) ⟨⟨hR', hO', hU', nB, hG'⟩, StE.forget hA hA.2.1, StE.forget hB hB.2.1, he, hh, hc, hM'⟩ (by omega)⟩
  · have qn : ¬ (0 ≤ X 1 ∧ X 1 ≤ Z 1 0 - 1 ∧ 0 ≤ X 2 ∧ X 2 ≤ Z 1 (10 + X 1)) := by
      intro z
      have el := nR.2.1 (X 1) z.1 (by omega)
      omega
    rw [if_neg qn] at h4 h5
    subst h1 a1 a2 a3 a4 a5 h4 h5
    exact ⟨rfl, InvL.mono hJ (by omega)⟩
set_option maxHeartbeats 4000000 in
theorem op_tell {F Z : Nat → Int → Int} {io : Int → Option Nat} {ib : Int → Nat → Nat} {FI : Int → Nat → Int → Int} {m : Int} {X : Int → Int} {rX : Int} {rZ : Int} (hI : InvL F Z io ib FI m) (m0 : 0 ≤ m) (hm : m + 1 ≤ 50000) (hx : rX = (if 0 ≤ (X 1) ∧ (X 1) < (F 2 0) ∧ 0 ≤ (X 2) ∧ (X 2) < (F 3) (X 1) then tlI (F 4) (F 5) (F 6) ((X 1) * 12 + (X 2)) (X 3) else -1)) (hz : rZ = (if 0 ≤ (X 1) ∧ (X 1) ≤ (Z 1) 0 - 1 ∧ 0 ≤ (X 2) ∧ (X 2) ≤ (Z 1) (10 + (X 1)) - 1 ∧ 0 ≤ (X 3) ∧ (X 3) ≤ 5 then (Z 1) (20 + 72 * (X 1) + 6 * (X 2) + (X 3)) else -1)) : rX = rZ ∧ InvL F Z io ib FI (m + 1) := by
  have hJ := hI
  obtain ⟨hN, hA, hB, he, hh, hc, hM⟩ := hI
  have hw : RwK (F 3) (F 4) (F 5) (F 6) (F 2 0) (Z 1) := NwE.rwk hN
  obtain ⟨nR, nO, nU, nB, nG⟩ := hN
  have e0 : Z 1 0 = F 2 0 := nR.1
  have y0 := nO.1
  have y8 := nO.2.1
  refine ⟨?_, InvL.mono hJ (by omega)⟩
  rw [hx, hz]
  by_cases q : 0 ≤ X 1 ∧ X 1 < F 2 0 ∧ 0 ≤ X 2 ∧ X 2 < F 3 (X 1)
  · have el := nR.2.1 (X 1) q.1 q.2.1
    rw [if_pos q]
    by_cases q2 : 0 ≤ X 3 ∧ X 3 ≤ 5
    · rw [if_pos (by omega)]
      exact tell_eq nR ⟨q.1, q.2.1⟩ q.2.2 q2
    · rw [if_neg (by omega)]
      unfold tlI
      rw [if_neg (by omega), if_neg (by omega), if_neg (by omega), if_neg (by omega), if_neg (by omega), if_neg (by omega)]
  · rw [if_neg q, if_neg (fun z => q ⟨z.1, by omega, z.2.2.1, by have el := nR.2.1 (X 1) z.1 (by omega); omega⟩)]
set_option maxHeartbeats 4000000 in
theorem op_quarrel {F Z : Nat → Int → Int} {io : Int → Option Nat} {ib : Int → Nat → Nat} {FI : Int → Nat → Int → Int} {m : Int} {X : Int → Int} {rX : Int} {rZ : Int} (hI : InvL F Z io ib FI m) (m0 : 0 ≤ m) (hm : m + 1 ≤ 50000) (hx : rX = (pick3 (X 1) (quI (qRw (F 3) (F 4) (F 6)) (F 2 0)).1 (quI (qRw (F 3) (F 4) (F 6)) (F 2 0)).2.1 (quI (qRw (F 3) (F 4) (F 6)) (F 2 0)).2.2)) (hz : rZ = (pick3 (X 1) (quI (qAt (Z 1)) ((Z 1) 0)).1 (quI (qAt (Z 1)) ((Z 1) 0)).2.1 (quI (qAt (Z 1)) ((Z 1) 0)).2.2)) : rX = rZ ∧ InvL F Z io ib FI (m + 1) := by
  have hJ := hI
  obtain ⟨hN, hA, hB, he, hh, hc, hM⟩ := hI
  have hw : RwK (F 3) (F 4) (F 5) (F 6) (F 2 0) (Z 1) := NwE.rwk hN
  obtain ⟨nR, nO, nU, nB, nG⟩ := hN
  have e0 : Z 1 0 = F 2 0 := nR.1
  have y0 := nO.1
  have y8 := nO.2.1
  refine ⟨?_, InvL.mono hJ (by omega)⟩
  rw [hx, hz, qr_eq nR]
set_option maxHeartbeats 4000000 in
theorem op_rule {F Z : Nat → Int → Int} {io : Int → Option Nat} {ib : Int → Nat → Nat} {FI : Int → Nat → Int → Int} {m : Int} {X : Int → Int} {rX : Int} {lg1X : Int → Int} {lt1X : Int → Int} {lc1X : Int → Int} {lb1X : Int → Int} {rk_1X : Int → Int} {ro1X : Int → Int} {ra1X : Int → Int} {rb1X : Int → Int} {rz1X : Int} {rk1X : Int} {rZ : Int} {UZ : Int → Int} {c1Z : Int} (hI : InvL F Z io ib FI m) (m0 : 0 ≤ m) (hm : m + 1 ≤ 50000) (hx : (((0 ≤ (X 1) ∧ (X 1) < 3 ∧ 0 ≤ (X 2) ∧ (X 2) < 2) ∧ rX = rk_1X ((X 1) * 2 + (X 2)) ∧ RlS (F 4) (F 5) (F 6) (F 3) (F 21 0) (F 2 0) (F 221 0) (F 38) (F 39) (F 41) (F 42) (F 49) (F 50) (F 46 0) (F 47) (F 48) rk1X lg1X lt1X lc1X lb1X ra1X rb1X rz1X rk_1X ro1X) ∨ (¬ (0 ≤ (X 1) ∧ (X 1) < 3 ∧ 0 ≤ (X 2) ∧ (X 2) < 2) ∧ rX = -1 ∧ (rk1X = (F 221 0) ∧ lg1X = (F 38) ∧ lt1X = (F 39) ∧ lc1X = (F 41) ∧ lb1X = (F 42) ∧ ra1X = (F 49) ∧ rb1X = (F 50) ∧ rz1X = (F 46 0) ∧ rk_1X = (F 47) ∧ ro1X = (F 48))))) (hz : (rZ = if 0 ≤ (X 1) ∧ (X 1) ≤ 2 ∧ 0 ≤ (X 2) ∧ (X 2) ≤ 1 then (rkI (Z 1) (X 1) (X 2) (-1)).1 else -1)) : rX = rZ ∧ InvL (upF (upF (upF (upF (upF (upF (upF (upF (upF (upF F 221 (fun _ => rk1X)) 38 lg1X) 39 lt1X) 41 lc1X) 42 lb1X) 46 (fun _ => rz1X)) 49 ra1X) 50 rb1X) 47 (nrmK 6 rk_1X (-1))) 48 (nrmK 6 ro1X (-1000))) (upF (upF Z 0 (fun _ => c1Z)) 3 UZ) io ib FI (m + 1) := by
  have hJ := hI
  obtain ⟨hN, hA, hB, he, hh, hc, hM⟩ := hI
  have hw : RwK (F 3) (F 4) (F 5) (F 6) (F 2 0) (Z 1) := NwE.rwk hN
  obtain ⟨nR, nO, nU, nB, nG⟩ := hN
  have e0 : Z 1 0 = F 2 0 := nR.1
  have y0 := nO.1
  have y8 := nO.2.1
  rcases hx with ⟨q, h1, hs⟩ | ⟨q, h1, a1, a2, a3, a4, a5, a6, a7, a8, a9, a10⟩
  · rw [if_pos (by omega)] at hz
    obtain ⟨s1, s2, s3, s4, s5⟩ := StE.rul hA hw hs
    have v := (s3 s2).1 (X 1) (X 2) ⟨q.1, q.2.1⟩ ⟨q.2.2.1, q.2.2.2⟩
    rw [he] at v
    exact ⟨by rw [h1, hz]; exact v.1, InvL.mono (m := m) ⟨⟨nR, nO, nU, nB, nG⟩, s1, hB, he, hh, hc, hM⟩ (by omega)⟩
  · rw [if_neg (by omega)] at hz
    subst a1 a2 a3 a4 a5 a6 a7 a8 a9 a10
    exact ⟨by rw [h1, hz], InvL.mono (m := m) ⟨⟨nR, nO, nU, nB, nG⟩, StE.nrm hA, hB, he, hh, hc, hM⟩ (by omega)⟩
set_option maxHeartbeats 4000000 in
theorem op_by {F Z : Nat → Int → Int} {io : Int → Option Nat} {ib : Int → Nat → Nat} {FI : Int → Nat → Int → Int} {m : Int} {X : Int → Int} {rX : Int} {lg1X : Int → Int} {lt1X : Int → Int} {lc1X : Int → Int} {lb1X : Int → Int} {rk_1X : Int → Int} {ro1X : Int → Int} {ra1X : Int → Int} {rb1X : Int → Int} {rz1X : Int} {rk1X : Int} {rZ : Int} {UZ : Int → Int} {c1Z : Int} (hI : InvL F Z io ib FI m) (m0 : 0 ≤ m) (hm : m + 1 ≤ 50000) (hx : (((0 ≤ (X 1) ∧ (X 1) < 3 ∧ 0 ≤ (X 2) ∧ (X 2) < 2) ∧ rX = ro1X ((X 1) * 2 + (X 2)) ∧ RlS (F 4) (F 5) (F 6) (F 3) (F 21 0) (F 2 0) (F 221 0) (F 38) (F 39) (F 41) (F 42) (F 49) (F 50) (F 46 0) (F 47) (F 48) rk1X lg1X lt1X lc1X lb1X ra1X rb1X rz1X rk_1X ro1X) ∨ (¬ (0 ≤ (X 1) ∧ (X 1) < 3 ∧ 0 ≤ (X 2) ∧ (X 2) < 2) ∧ rX = -1000 ∧ (rk1X = (F 221 0) ∧ lg1X = (F 38) ∧ lt1X = (F 39) ∧ lc1X = (F 41) ∧ lb1X = (F 42) ∧ ra1X = (F 49) ∧ rb1X = (F 50) ∧ rz1X = (F 46 0) ∧ rk_1X = (F 47) ∧ ro1X = (F 48))))) (hz : (rZ = if 0 ≤ (X 1) ∧ (X 1) ≤ 2 ∧ 0 ≤ (X 2) ∧ (X 2) ≤ 1 then (rkI (Z 1) (X 1) (X 2) (-1)).2 else -1000)) : rX = rZ ∧ InvL (upF (upF (upF (upF (upF (upF (upF (upF (upF (upF F 221 (fun _ => rk1X)) 38 lg1X) 39 lt1X) 41 lc1X) 42 lb1X) 46 (fun _ => rz1X)) 49 ra1X) 50 rb1X) 47 (nrmK 6 rk_1X (-1))) 48 (nrmK 6 ro1X (-1000))) (upF (upF Z 0 (fun _ => c1Z)) 3 UZ) io ib FI (m + 1) := by
  have hJ := hI
  obtain ⟨hN, hA, hB, he, hh, hc, hM⟩ := hI
  have hw : RwK (F 3) (F 4) (F 5) (F 6) (F 2 0) (Z 1) := NwE.rwk hN
  obtain ⟨nR, nO, nU, nB, nG⟩ := hN
  have e0 : Z 1 0 = F 2 0 := nR.1
  have y0 := nO.1
  have y8 := nO.2.1
  rcases hx with ⟨q, h1, hs⟩ | ⟨q, h1, a1, a2, a3, a4, a5, a6, a7, a8, a9, a10⟩
  · rw [if_pos (by omega)] at hz
    obtain ⟨s1, s2, s3, s4, s5⟩ := StE.rul hA hw hs
    have v := (s3 s2).1 (X 1) (X 2) ⟨q.1, q.2.1⟩ ⟨q.2.2.1, q.2.2.2⟩
    rw [he] at v
    exact ⟨by rw [h1, hz]; exact v.2, InvL.mono (m := m) ⟨⟨nR, nO, nU, nB, nG⟩, s1, hB, he, hh, hc, hM⟩ (by omega)⟩
  · rw [if_neg (by omega)] at hz
    subst a1 a2 a3 a4 a5 a6 a7 a8 a9 a10
    exact ⟨by rw [h1, hz], InvL.mono (m := m) ⟨⟨nR, nO, nU, nB, nG⟩, StE.nrm hA, hB, he, hh, hc, hM⟩ (by omega)⟩
set_option maxHeartbeats 4000000 in
theorem op_states {F Z : Nat → Int → Int} {io : Int → Option Nat} {ib : Int → Nat → Nat} {FI : Int → Nat → Int → Int} {m : Int} {X : Int → Int} {pa1X : Int → Int} {vb1X : Int → Int} {cd1X : Int → Int} {cn1X : Int → Int} {xc1X : Int → Int} {xw1X : Int → Int} {sa1X : Int → Int} {ph1X : Int → Int} {xm1X : Int → Int} {xa1X : Int → Int} {tg1X : Int → Int} {xt1X : Int → Int} {xn1X : Int → Int} {xv1X : Int → Int} {nd1X : Int} {xr1X : Int} {aw1X : Int} {mt1X : Int → Int} {mn1X : Int → Int} {mz1X : Int} {mk1X : Int} {rZ : Int} {lr1Z : Int → Int} {lp1Z : Int → Int} {la1Z : Int} {t1Z : Int → Int} {c1Z : Int → Int} {ac1Z : Int → Int} {co1Z : Int → Int} {cs1Z : Int → Int} {ut1Z : Int → Int} {h1Z : Int} {u1Z : Int} (hI : InvL F Z io ib FI m) (m0 : 0 ≤ m) (hm : m + 1 ≤ 50000) (hx : (((F 121 0) ≠ 0 ∧ mk1X = (F 121 0) ∧ mt1X = (F 44) ∧ mn1X = (F 45) ∧ mz1X = (F 43 0)) ∨ ((F 121 0) = 0 ∧ mk1X = 1 ∧ MacC (F 3) (F 4) (F 6) (F 21 0) (F 2 0) mz1X mt1X mn1X)) ∧ ((∀ i, 0 ≤ pa1X i ∧ pa1X i < 97) ∧ (∀ i, 0 ≤ vb1X i ∧ vb1X i < 3) ∧ ∀ i, 0 ≤ cd1X i ∧ cd1X i < 4)) (hz : (MacR (Z 1) (-1) rZ lr1Z lp1Z la1Z t1Z c1Z) ∧ (lyI (Z 1) (-1) (Z 4) (Z 5) = (lr1Z, lp1Z, la1Z)) ∧ (∀ i, -100000 ≤ c1Z i ∧ c1Z i ≤ 100000)) : mz1X = rZ ∧ InvL (upF (upF (upF (upF (upF (upF (upF (upF (upF (upF (upF (upF (upF (upF (upF (upF (upF (upF (upF (upF (upF F 121 (fun _ => mk1X)) 22 (fun _ => nd1X)) 122 (fun _ => xr1X)) 222 (fun _ => aw1X)) 23 pa1X) 24 vb1X) 25 cd1X) 26 cn1X) 27 xc1X) 28 xw1X) 29 sa1X) 30 ph1X) 31 xm1X) 32 xa1X) 33 tg1X) 34 xt1X) 35 xn1X) 36 xv1X) 43 (fun _ => mz1X)) 44 mt1X) 45 mn1X) (upF (upF (upF (upF (upF (upF (upF (upF (upF (upF (upF Z 100 (fun _ => la1Z)) 200 (fun _ => h1Z)) 300 (fun _ => u1Z)) 4 lr1Z) 5 lp1Z) 6 t1Z) 7 c1Z) 8 ac1Z) 9 co1Z) 10 cs1Z) 11 ut1Z) io ib FI (m + 1) := by
  have hJ := hI
  obtain ⟨hN, hA, hB, he, hh, hc, hM⟩ := hI
  have hw : RwK (F 3) (F 4) (F 5) (F 6) (F 2 0) (Z 1) := NwE.rwk hN
  obtain ⟨nR, nO, nU, nB, nG⟩ := hN
  have e0 : Z 1 0 = F 2 0 := nR.1
  have y0 := nO.1
  have y8 := nO.2.1
  obtain ⟨s1, s2⟩ := StE.mac hA hx.2 hx.1
  rw [he] at s2
  have z := mac_eq nR y0 hz.2.1 hz.1 s2
  exact ⟨z.1.symm, InvL.mono (m := m) ⟨⟨nR, nO, nU, nB, nG⟩, s1, hB, he, hh, hz.2.2, hM⟩ (by omega)⟩
set_option maxHeartbeats 4000000 in
theorem op_leads {F Z : Nat → Int → Int} {io : Int → Option Nat} {ib : Int → Nat → Nat} {FI : Int → Nat → Int → Int} {m : Int} {X : Int → Int} {rX : Int} {pa1X : Int → Int} {vb1X : Int → Int} {cd1X : Int → Int} {cn1X : Int → Int} {xc1X : Int → Int} {xw1X : Int → Int} {sa1X : Int → Int} {ph1X : Int → Int} {xm1X : Int → Int} {xa1X : Int → Int} {tg1X : Int → Int} {xt1X : Int → Int} {xn1X : Int → Int} {xv1X : Int → Int} {nd1X : Int} {xr1X : Int} {aw1X : Int} {mt1X : Int → Int} {mn1X : Int → Int} {mz1X : Int} {mk1X : Int} {rZ : Int} {lr1Z : Int → Int} {lp1Z : Int → Int} {la1Z : Int} {t1Z : Int → Int} {c1Z : Int → Int} {ac1Z : Int → Int} {co1Z : Int → Int} {cs1Z : Int → Int} {ut1Z : Int → Int} {h1Z : Int} {u1Z : Int} (hI : InvL F Z io ib FI m) (m0 : 0 ≤ m) (hm : m + 1 ≤ 50000) (hx : ((¬ (0 ≤ (X 1) ∧ (X 1) < 4 ∧ 0 ≤ (X 2) ∧ (X 2) < 3) ∧ rX = -1 ∧ mk1X = (F 121 0) ∧ mt1X = (F 44) ∧ mn1X = (F 45) ∧ mz1X = (F 43 0)) ∨ ((0 ≤ (X 1) ∧ (X 1) < 4 ∧ 0 ≤ (X 2) ∧ (X 2) < 3) ∧ (((F 121 0) ≠ 0 ∧ mk1X = (F 121 0) ∧ mt1X = (F 44) ∧ mn1X = (F 45) ∧ mz1X = (F 43 0)) ∨ ((F 121 0) = 0 ∧ mk1X = 1 ∧ MacC (F 3) (F 4) (F 6) (F 21 0) (F 2 0) mz1X mt1X mn1X)) ∧ rX = if (X 3) = 0 then mt1X ((X 1) * 3 + (X 2)) else if (X 3) = 1 then mn1X ((X 1) * 3 + (X 2)) else -1)) ∧ ((∀ i, 0 ≤ pa1X i ∧ pa1X i < 97) ∧ (∀ i, 0 ≤ vb1X i ∧ vb1X i < 3) ∧ ∀ i, 0 ≤ cd1X i ∧ cd1X i < 4)) (hz : ((¬ (0 ≤ (X 1) ∧ (X 1) ≤ 3 ∧ 0 ≤ (X 2) ∧ (X 2) ≤ 2 ∧ 0 ≤ (X 3) ∧ (X 3) ≤ 1) ∧ rZ = -1) ∨ ((0 ≤ (X 1) ∧ (X 1) ≤ 3 ∧ 0 ≤ (X 2) ∧ (X 2) ≤ 2 ∧ 0 ≤ (X 3) ∧ (X 3) ≤ 1) ∧ ∃ mr, MacR (Z 1) (-1) mr lr1Z lp1Z la1Z t1Z c1Z ∧ lyI (Z 1) (-1) (Z 4) (Z 5) = (lr1Z, lp1Z, la1Z) ∧ rZ = if mr < 1 then -1 else if t1Z (3 * (X 1) + (X 2)) < 0 then -1 else if (X 3) = 0 then t1Z (3 * (X 1) + (X 2)) else c1Z (3 * (X 1) + (X 2)))) ∧ (∀ i, -100000 ≤ c1Z i ∧ c1Z i ≤ 100000)) : rX = rZ ∧ InvL (upF (upF (upF (upF (upF (upF (upF (upF (upF (upF (upF (upF (upF (upF (upF (upF (upF (upF (upF (upF (upF F 121 (fun _ => mk1X)) 22 (fun _ => nd1X)) 122 (fun _ => xr1X)) 222 (fun _ => aw1X)) 23 pa1X) 24 vb1X) 25 cd1X) 26 cn1X) 27 xc1X) 28 xw1X) 29 sa1X) 30 ph1X) 31 xm1X) 32 xa1X) 33 tg1X) 34 xt1X) 35 xn1X) 36 xv1X) 43 (fun _ => mz1X)) 44 mt1X) 45 mn1X) (upF (upF (upF (upF (upF (upF (upF (upF (upF (upF (upF Z 100 (fun _ => la1Z)) 200 (fun _ => h1Z)) 300 (fun _ => u1Z)) 4 lr1Z) 5 lp1Z) 6 t1Z) 7 c1Z) 8 ac1Z) 9 co1Z) 10 cs1Z) 11 ut1Z) io ib FI (m + 1) := by
  have hJ := hI
  obtain ⟨hN, hA, hB, he, hh, hc, hM⟩ := hI
  have hw : RwK (F 3) (F 4) (F 5) (F 6) (F 2 0) (Z 1) := NwE.rwk hN
  obtain ⟨nR, nO, nU, nB, nG⟩ := hN
  have e0 : Z 1 0 = F 2 0 := nR.1
  have y0 := nO.1
  have y8 := nO.2.1
  obtain ⟨hx, hb⟩ := hx
  obtain ⟨hz, hc'⟩ := hz
  rcases hx with ⟨q, h1, a1, a2, a3, a4⟩ | ⟨q, hs, h1⟩
  · have z : rZ = -1 := by
      rcases hz with ⟨_, z⟩ | ⟨z, _⟩
      · exact z
      · exfalso; omega
    subst a1 a2 a3 a4
    exact ⟨by rw [h1, z], InvL.mono (m := m) ⟨⟨nR, nO, nU, nB, nG⟩, StE.bd hA hb, hB, he, hh, hc', hM⟩ (by omega)⟩
  · obtain ⟨s1, s2⟩ := StE.mac hA hb hs
    rw [he] at s2
    refine ⟨?_, InvL.mono (m := m) ⟨⟨nR, nO, nU, nB, nG⟩, s1, hB, he, hh, hc', hM⟩ (by omega)⟩
    rcases hz with ⟨z, z1⟩ | ⟨z, mr, z2, z3, z4⟩
    · rw [h1, z1, if_neg (by omega), if_neg (by omega)]
    · have e := mac_eq nR y0 z3 z2 s2
      have k := MacC.mk nO.2.2.2.2.2 s2 (3 * X 1 + X 2) (by omega) (by omega)
      rw [h1, z4, (show X 1 * 3 + X 2 = 3 * X 1 + X 2 by omega)]
      by_cases q1 : mr < 1
      · rw [if_pos q1]
        have f := s2.no (by omega) (3 * X 1 + X 2) (by omega) (by omega)
        rw [f.1, f.2]
        split
        · rfl
        · split <;> rfl
      · rw [if_neg q1]
        have f := e.2 (by omega) (3 * X 1 + X 2) (by omega) (by omega)
        by_cases q2 : t1Z (3 * X 1 + X 2) < 0
        · rw [if_pos q2]
          have t0 : mt1X (3 * X 1 + X 2) = -1 := by omega
          rw [t0, f.2.2 t0]
          split
          · rfl
          · split <;> rfl
        · rw [if_neg q2]
          by_cases q3 : X 3 = 0
          · rw [if_pos q3, if_pos q3, f.1]
          · rw [if_neg q3, if_neg q3, if_pos (by omega), f.2.1 (by omega)]
set_option maxHeartbeats 4000000 in
theorem op_field {F Z : Nat → Int → Int} {io : Int → Option Nat} {ib : Int → Nat → Nat} {FI : Int → Nat → Int → Int} {m : Int} {X : Int → Int} {rX : Int} {rZ : Int} (hI : InvL F Z io ib FI m) (m0 : 0 ≤ m) (hm : m + 1 ≤ 50000) (hx : rX = (if (F 7 0) = 1 ∧ 0 ≤ (X 1) ∧ (X 1) < 2 then (F 19) (X 1) else -1000)) (hz : rZ = (if 0 ≤ (X 1) ∧ (X 1) ≤ 1 then (Z 1) (5 + (X 1)) else -1000)) : rX = rZ ∧ InvL F Z io ib FI (m + 1) := by
  have hJ := hI
  obtain ⟨hN, hA, hB, he, hh, hc, hM⟩ := hI
  have hw : RwK (F 3) (F 4) (F 5) (F 6) (F 2 0) (Z 1) := NwE.rwk hN
  obtain ⟨nR, nO, nU, nB, nG⟩ := hN
  have e0 : Z 1 0 = F 2 0 := nR.1
  have y0 := nO.1
  have y8 := nO.2.1
  refine ⟨?_, InvL.mono hJ (by omega)⟩
  rw [hx, hz]
  rcases nU with ⟨h0, h1, h5, h6⟩ | ⟨h0, h1, ⟨h2, h3, h4, h5, h6⟩, _⟩
  · rw [if_neg (by omega)]
    by_cases q : 0 ≤ X 1 ∧ X 1 ≤ 1
    · rw [if_pos q]
      rcases (show X 1 = 0 ∨ X 1 = 1 by omega) with w | w
      · rw [w]; exact h5.symm
      · rw [w]; exact h6.symm
    · rw [if_neg q]
  · by_cases q : 0 ≤ X 1 ∧ X 1 ≤ 1
    · rw [if_pos q, if_pos (by omega)]
      rcases (show X 1 = 0 ∨ X 1 = 1 by omega) with w | w
      · rw [w]; exact h5.symm
      · rw [w]; exact h6.symm
    · rw [if_neg q, if_neg (by omega)]
set_option maxHeartbeats 4000000 in
theorem op_ran {F Z : Nat → Int → Int} {io : Int → Option Nat} {ib : Int → Nat → Nat} {FI : Int → Nat → Int → Int} {m : Int} {X : Int → Int} {rX : Int} {rZ : Int} (hI : InvL F Z io ib FI m) (m0 : 0 ≤ m) (hm : m + 1 ≤ 50000) (hx : rX = (if (F 7 0) = 1 then pick3 (X 1) (F 107 0) (F 207 0) (F 307 0) else -1)) (hz : rZ = (if (Z 1) 1 = 1 ∧ 0 ≤ (X 1) ∧ (X 1) ≤ 2 then (Z 1) (2 + (X 1)) else -1)) : rX = rZ ∧ InvL F Z io ib FI (m + 1) := by
  have hJ := hI
  obtain ⟨hN, hA, hB, he, hh, hc, hM⟩ := hI
  have hw : RwK (F 3) (F 4) (F 5) (F 6) (F 2 0) (Z 1) := NwE.rwk hN
  obtain ⟨nR, nO, nU, nB, nG⟩ := hN
  have e0 : Z 1 0 = F 2 0 := nR.1
  have y0 := nO.1
  have y8 := nO.2.1
  refine ⟨?_, InvL.mono hJ (by omega)⟩
  rw [hx, hz]
  rcases nU with ⟨h0, h1, h5, h6⟩ | ⟨h0, h1, ⟨h2, h3, h4, h5, h6⟩, _⟩
  · rw [if_neg (by omega), if_neg (by omega)]
  · rw [if_pos h0]
    unfold pick3
    by_cases q : 0 ≤ X 1 ∧ X 1 ≤ 2
    · rw [if_pos (show Z 1 1 = 1 ∧ 0 ≤ X 1 ∧ X 1 ≤ 2 from ⟨h1, q⟩)]
      rcases (show X 1 = 0 ∨ X 1 = 1 ∨ X 1 = 2 by omega) with w | w | w
      · rw [w]; exact h2.symm
      · rw [w]; exact h3.symm
      · rw [w]; exact h4.symm
    · rw [if_neg (by omega), if_neg (by omega), if_neg (by omega), if_neg (by omega)]
set_option maxHeartbeats 4000000 in
theorem op_count {F Z : Nat → Int → Int} {io : Int → Option Nat} {ib : Int → Nat → Nat} {FI : Int → Nat → Int → Int} {m : Int} {X : Int → Int} {rX : Int} {lg1X : Int → Int} {lt1X : Int → Int} {lc1X : Int → Int} {lb1X : Int → Int} {rk_1X : Int → Int} {ro1X : Int → Int} {ra1X : Int → Int} {rb1X : Int → Int} {rz1X : Int} {rk1X : Int} {rZ : Int} (hI : InvL F Z io ib FI m) (m0 : 0 ≤ m) (hm : m + 1 ≤ 50000) (hx : (((X 1) = 5 ∧ rX = rz1X ∧ RlS (F 4) (F 5) (F 6) (F 3) (F 21 0) (F 2 0) (F 221 0) (F 38) (F 39) (F 41) (F 42) (F 49) (F 50) (F 46 0) (F 47) (F 48) rk1X lg1X lt1X lc1X lb1X ra1X rb1X rz1X rk_1X ro1X) ∨ ((X 1) ≠ 5 ∧ rX = ctC (F 3) (F 4) (F 2 0) (X 1) ∧ (rk1X = (F 221 0) ∧ lg1X = (F 38) ∧ lt1X = (F 39) ∧ lc1X = (F 41) ∧ lb1X = (F 42) ∧ ra1X = (F 49) ∧ rb1X = (F 50) ∧ rz1X = (F 46 0) ∧ rk_1X = (F 47) ∧ ro1X = (F 48))))) (hz : rZ = (ctI (Z 1) (X 1))) : rX = rZ ∧ InvL (upF (upF (upF (upF (upF (upF (upF (upF (upF (upF F 221 (fun _ => rk1X)) 38 lg1X) 39 lt1X) 41 lc1X) 42 lb1X) 46 (fun _ => rz1X)) 49 ra1X) 50 rb1X) 47 (nrmK 6 rk_1X (-1))) 48 (nrmK 6 ro1X (-1000))) Z io ib FI (m + 1) := by
  have hJ := hI
  obtain ⟨hN, hA, hB, he, hh, hc, hM⟩ := hI
  have hw : RwK (F 3) (F 4) (F 5) (F 6) (F 2 0) (Z 1) := NwE.rwk hN
  obtain ⟨nR, nO, nU, nB, nG⟩ := hN
  have e0 : Z 1 0 = F 2 0 := nR.1
  have y0 := nO.1
  have y8 := nO.2.1
  rcases hx with ⟨q, h1, hs⟩ | ⟨q, h1, a1, a2, a3, a4, a5, a6, a7, a8, a9, a10⟩
  · obtain ⟨s1, s2, s3, s4, s5⟩ := StE.rul hA hw hs
    have z := s1.2.2.2.2.2.2.2.2.2 he s2
    exact ⟨by rw [h1, hz, q]; exact z, InvL.mono (m := m) ⟨⟨nR, nO, nU, nB, nG⟩, s1, hB, he, hh, hc, hM⟩ (by omega)⟩
  · subst a1 a2 a3 a4 a5 a6 a7 a8 a9 a10
    exact ⟨by rw [h1, hz]; exact ct_eq nR nO.2.2.1 q, InvL.mono (m := m) ⟨⟨nR, nO, nU, nB, nG⟩, StE.nrm hA, hB, he, hh, hc, hM⟩ (by omega)⟩
