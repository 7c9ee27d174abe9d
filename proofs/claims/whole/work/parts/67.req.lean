/-! LAYER 2: the rules are one -/
theorem rul_eq {L V A N g lc lb lg lt ra rb lc1 lb1 lg1 lt1 ra1 rb1 k1 o1 : Int → Int} {y e rz1 : Int} (hR : RelR L V A N y g) (hO : RowsOk L V A N y) (hX : ∀ i, 20 ≤ i → i < 596 → 0 ≤ g i ∧ g i < 100) (hG : AllOk g) (hl : lnR V A N L e y.toNat (lc, lb, fiI lg 30 1000, fiI lt 6 1000, ra, rb, 0) = (lc1, lb1, lg1, lt1, ra1, rb1, rz1))
    (hK : ∀ v f, 0 ≤ v ∧ v < 3 → 0 ≤ f ∧ f < 2 → k1 (v * 2 + f) = (if lg1 ((v * 2 + f) * 5) = 1000 then -1 else decK lg1 lt1 v f) ∧ o1 (v * 2 + f) = (if lg1 ((v * 2 + f) * 5) = 1000 then -1000 else decO lg1 v f)) : ∀ v f, 0 ≤ v ∧ v < 3 → 0 ≤ f ∧ f < 2 → k1 (v * 2 + f) = (rkI g v f e).1 ∧ o1 (v * 2 + f) = (rkI g v f e).2 := by
  obtain ⟨y0, y1, hL, hV, hA, hN⟩ := hO
  intro v f hv hf
  have hc : ∀ x, 0 ≤ x → x < 5 → lg1 ((v * 2 + f) * 5 + x) = hsT g x v f e := by
    intro x x0 x1
    have c := cand_eq (e := e) (x := x) (v := v) (f := f) hR hL hA hV ⟨x0, x1⟩ hv hf (lc, lb, fiI lg 30 1000, fiI lt 6 1000, ra, rb, 0) y.toNat (by omega)
    rw [hl] at c
    have s0 : fiI lg 30 1000 ((v * 2 + f) * 5 + x) = 1000 := if_pos (by omega)
    have c2 : lg1 ((v * 2 + f) * 5 + x) = nR (hsS g x v f) (fun r => g (10 + r)) e y.toNat (fiI lg 30 1000 ((v * 2 + f) * 5 + x)) := c
    rw [c2, s0]
    unfold hsT
    rw [hR.1]
  have h5 := hK v f hv hf
  have c0 := hc 0 (by omega) (by omega)
  rw [Int.add_zero] at c0
  have ht := tb_eq (e := e) (v := v) (f := f) hR y0 y1 hX hG hL hA hV hN (S := (lc, lb, fiI lg 30 1000, fiI lt 6 1000, ra, rb, 0)) rfl hv hf (if_pos (by omega)) hl
  have de := dec_eq hc ht
  rw [h5.1, h5.2, c0]
  rcases th_eq (v := v) (e := e) hX hG hf with ⟨q1, q2⟩ | ⟨q1, q2⟩
  · rw [if_pos q1, if_pos q1]
    have r1 : rkI g v f e = (-1, -1000) := if_neg (by omega)
    rw [r1]
    exact ⟨rfl, rfl⟩
  · rw [if_neg q1, if_neg q1]
    have r1 : rkI g v f e = fkI g v f e 5 := if_pos q2
    rw [r1, ← de]
    exact ⟨rfl, rfl⟩
/-- rows that are one tell one thing: what hangs of the rows alone -/
def SameR (g g' : Int → Int) : Prop := g' 0 = g 0 ∧ ∀ i, 10 ≤ i → i < 596 → g' i = g i
theorem SameR.rel {L V A N g g' : Int → Int} {y : Int} (h : SameR g g') (hy : y ≤ 8) (hL : ∀ i, 0 ≤ L i ∧ L i ≤ 12) (hR : RelR L V A N y g) : RelR L V A N y g' := by
  refine ⟨by rw [h.1]; exact hR.1, fun r r0 r1 => by rw [h.2 _ (by omega) (by omega)]; exact hR.2.1 r r0 r1, fun r p r0 r1 p0 p1 => ?_⟩
  have a := hL r
  have b := hR.2.2 r p r0 r1 p0 p1
  rw [h.2 _ (by omega) (by omega), h.2 _ (by omega) (by omega), h.2 _ (by omega) (by omega), h.2 _ (by omega) (by omega), h.2 _ (by omega) (by omega), h.2 _ (by omega) (by omega)]
  exact b
/-- a study's machine and rules, if known, are those of the rows but e -/
def StuM (L V N : Int → Int) (y e mk mz : Int) (mt mn : Int → Int) : Prop := mk ≠ 0 → MacC L V N e y mz mt mn
def StuR (g : Int → Int) (e rk rz : Int) (rk_ ro ra rb : Int → Int) : Prop := rk ≠ 0 → (∀ v f, 0 ≤ v ∧ v < 3 → 0 ≤ f ∧ f < 2 → rk_ (v * 2 + f) = (rkI g v f e).1 ∧ ro (v * 2 + f) = (rkI g v f e).2) ∧
  (∀ v s f, 0 ≤ v ∧ v < 3 → 0 ≤ s ∧ s < 10000 → 0 ≤ f ∧ f < 2 → (findI ra rz v s = -1 ∧ foI g v (s / 100) (s % 100) f e = -1) ∨ (0 ≤ findI ra rz v s ∧ foI g v (s / 100) (s % 100) f e = fldI (rb (findI ra rz v s)) f ∧ 0 ≤ foI g v (s / 100) (s % 100) f e))
theorem StuM.of {L V N : Int → Int} {y e mk mk1 mz mz1 : Int} {mt mn mt1 mn1 : Int → Int} (h : StuM L V N y e mk mz mt mn) (hs : (mk ≠ 0 ∧ mk1 = mk ∧ mt1 = mt ∧ mn1 = mn ∧ mz1 = mz) ∨ (mk = 0 ∧ mk1 = 1 ∧ MacC L V N e y mz1 mt1 mn1)) : MacC L V N e y mz1 mt1 mn1 := by
  rcases hs with ⟨h1, h2, h3, h4, h5⟩ | ⟨h1, h2, h3⟩
  · rw [h3, h4, h5]; exact h h1
  · exact h3
theorem StuR.of {L V A N g lg lt lc lb ra rb rk_ ro lg1 lt1 lc1 lb1 ra1 rb1 rk_1 ro1 : Int → Int} {y e rk rk1 rz rz1 : Int} (hR : RelR L V A N y g) (hO : RowsOk L V A N y) (hX : ∀ i, 20 ≤ i → i < 596 → 0 ≤ g i ∧ g i < 100) (hG : AllOk g) (h : StuR g e rk rz rk_ ro ra rb) (hs : RlS V A N L e y rk lg lt lc lb ra rb rz rk_ ro rk1 lg1 lt1 lc1 lb1 ra1 rb1 rz1 rk_1 ro1) : rk1 ≠ 0 ∧ StuR g e rk1 rz1 rk_1 ro1 ra1 rb1 := by
  rcases hs with ⟨h1, h2, h3, h4, h5, h6, h7, h8, h9, h10, h11⟩ | ⟨h1, h2, h3, h4, h5⟩
  · have k := h h1
    rw [h2, h7, h8, h9, h10, h11]
    refine ⟨h1, fun _ => ⟨fun v f hv hf => ?_, k.2⟩⟩
    rw [nrmK_in _ _ _ (by omega) (by omega), nrmK_in _ _ _ (by omega) (by omega)]
    exact k.1 v f hv hf
  · refine ⟨by omega, fun _ => ⟨rul_eq hR hO hX hG h3 h5, fun v s f hv hs hf => ?_⟩⟩
    obtain ⟨y0, y1, hL, hV, hA, hN⟩ := hO
    exact fo_eq hR y0 y1 hL hA hV hN rfl h3 hv hs hf
