/-! LAYER 2: the rows change as one -/
theorem rel_row {L V A N g : Int → Int} {y : Int} (hR : RelR L V A N y g) (h0 : 0 ≤ y) (h8 : y < 8) : RelR (upI L y 0) V A N (y + 1) (upI (upI g (10 + g 0) 0) 0 (g 0 + 1)) := by
  obtain ⟨r1, r2, r3⟩ := hR
  rw [r1]
  refine ⟨upI_same _ _ _, fun r a b => ?_, fun r p a b c d => ?_⟩
  · rw [upI_ne _ _ (by omega)]
    by_cases q : r = y
    · rw [q, upI_same, upI_same]
    · rw [upI_ne _ _ (by omega), upI_ne _ _ q]; exact r2 r a (by omega)
  · by_cases q : r = y
    · rw [q, upI_same] at d; omega
    · rw [upI_ne _ _ q] at d
      have e := r3 r p a (by omega) c d
      rw [upI_ne _ _ (by omega), upI_ne _ _ (by omega), upI_ne _ _ (by omega), upI_ne _ _ (by omega), upI_ne _ _ (by omega), upI_ne _ _ (by omega), upI_ne _ _ (by omega), upI_ne _ _ (by omega), upI_ne _ _ (by omega), upI_ne _ _ (by omega), upI_ne _ _ (by omega), upI_ne _ _ (by omega)]
      exact e
theorem rel_cut {L V A N g : Int → Int} {y s v : Int} (hR : RelR L V A N y g) (h8 : y ≤ 8) (hs : 0 ≤ s ∧ s < y) (hv : 0 ≤ v ∧ v ≤ L s) : RelR (upI L s v) V A N y (upI g (10 + s) v) := by
  obtain ⟨r1, r2, r3⟩ := hR
  refine ⟨by rw [upI_ne _ _ (by omega)]; exact r1, fun r a b => ?_, fun r p a b c d => ?_⟩
  · by_cases q : r = s
    · rw [q, upI_same, upI_same]
    · rw [upI_ne _ _ (by omega), upI_ne _ _ q]; exact r2 r a b
  · have d2 : p < L r := by
      by_cases q : r = s
      · rw [q, upI_same] at d; rw [q]; omega
      · rw [upI_ne _ _ q] at d; exact d
    have e := r3 r p a b c d2
    rw [upI_ne _ _ (by omega), upI_ne _ _ (by omega), upI_ne _ _ (by omega), upI_ne _ _ (by omega), upI_ne _ _ (by omega), upI_ne _ _ (by omega)]
    exact e
theorem exA_ne {g : Int → Int} {x v s y j : Int} (h : j < 20 + 72 * x + 6 * g (10 + x) ∨ 20 + 72 * x + 6 * g (10 + x) + 6 ≤ j) : exA g x v s y j = g j := by
  unfold exA
  rw [upI_ne _ _ (by omega), upI_ne _ _ (by omega), upI_ne _ _ (by omega), upI_ne _ _ (by omega), upI_ne _ _ (by omega), upI_ne _ _ (by omega)]
theorem exA_in (g : Int → Int) (x v s y : Int) : exA g x v s y (20 + 72 * x + 6 * g (10 + x) + 0) = v ∧ exA g x v s y (20 + 72 * x + 6 * g (10 + x) + 1) = s / 100 ∧ exA g x v s y (20 + 72 * x + 6 * g (10 + x) + 2) = s % 100 ∧ exA g x v s y (20 + 72 * x + 6 * g (10 + x) + 3) = y / 10000 ∧ exA g x v s y (20 + 72 * x + 6 * g (10 + x) + 4) = y / 100 % 100 ∧ exA g x v s y (20 + 72 * x + 6 * g (10 + x) + 5) = y % 100 := by
  unfold exA
  refine ⟨?_, ?_, ?_, ?_, ?_, ?_⟩
  · rw [upI_ne _ _ (by omega), upI_ne _ _ (by omega), upI_ne _ _ (by omega), upI_ne _ _ (by omega), upI_ne _ _ (by omega), Int.add_zero, upI_same]
  · rw [upI_ne _ _ (by omega), upI_ne _ _ (by omega), upI_ne _ _ (by omega), upI_ne _ _ (by omega), upI_same]
  · rw [upI_ne _ _ (by omega), upI_ne _ _ (by omega), upI_ne _ _ (by omega), upI_same]
  · rw [upI_ne _ _ (by omega), upI_ne _ _ (by omega), upI_same]
  · rw [upI_ne _ _ (by omega), upI_same]
  · rw [upI_same]
theorem rel_ex {L V A N g : Int → Int} {y s v k z : Int} (hR : RelR L V A N y g) (h8 : y ≤ 8) (hL : ∀ i, 0 ≤ L i ∧ L i ≤ 12) (hs : 0 ≤ s ∧ s < y) (hl : L s < 12) : RelR (upI L s (L s + 1)) (upI V (s * 12 + L s) v) (upI A (s * 12 + L s) k) (upI N (s * 12 + L s) z) y (exI g s v k z) := by
  obtain ⟨r1, r2, r3⟩ := hR
  have ls := hL s
  have gs := r2 s hs.1 hs.2
  have lo : ∀ j, j < 20 → j ≠ 10 + s → exI g s v k z j = g j := fun j a b => by
    unfold exI
    rw [upI_ne _ _ b]
    exact exA_ne (by omega)
  have hi : ∀ j, 20 ≤ j → exI g s v k z j = exA g s v k z j := fun j a => upI_ne _ _ (by omega)
  refine ⟨by rw [lo 0 (by omega) (by omega)]; exact r1, fun r a b => ?_, fun r p a b c d => ?_⟩
  · by_cases q : r = s
    · rw [q, upI_same]
      unfold exI
      rw [upI_same, gs]
    · rw [lo _ (by omega) (by omega), upI_ne _ _ q]; exact r2 r a b
  · rw [hi _ (by omega), hi _ (by omega), hi _ (by omega), hi _ (by omega), hi _ (by omega), hi _ (by omega)]
    by_cases q : r = s ∧ p = L s
    · obtain ⟨q1, q2⟩ := q
      subst q1
      subst q2
      have e := exA_in g r v k z
      rw [gs] at e
      rw [upI_same, upI_same, upI_same]
      exact e
    · have d2 : p < L r := by
        by_cases w : r = s
        · rw [w, upI_same] at d; rw [w]; omega
        · rw [upI_ne _ _ w] at d; exact d
      have lr := hL r
      have e := r3 r p a b c d2
      have ne : r * 12 + p ≠ s * 12 + L s := by omega
      have far : ∀ w, 0 ≤ w → w < 6 → (20 + 72 * r + 6 * p + w < 20 + 72 * s + 6 * g (10 + s) ∨ 20 + 72 * s + 6 * g (10 + s) + 6 ≤ 20 + 72 * r + 6 * p + w) := by
        intro w w0 w1
        rw [gs]
        omega
      rw [upI_ne _ _ ne, upI_ne _ _ ne, upI_ne _ _ ne, exA_ne (far 0 (by omega) (by omega)), exA_ne (far 1 (by omega) (by omega)), exA_ne (far 2 (by omega) (by omega)), exA_ne (far 3 (by omega) (by omega)), exA_ne (far 4 (by omega) (by omega)), exA_ne (far 5 (by omega) (by omega))]
      exact e
theorem tell_eq {L V A N g : Int → Int} {y s p f : Int} (hR : RelR L V A N y g) (hs : 0 ≤ s ∧ s < y) (hp : 0 ≤ p ∧ p < L s) (hf : 0 ≤ f ∧ f ≤ 5) : tlI V A N (s * 12 + p) f = g (20 + 72 * s + 6 * p + f) := by
  have e := hR.2.2 s p hs.1 hs.2 hp.1 hp.2
  unfold tlI fldI
  rcases (show f = 0 ∨ f = 1 ∨ f = 2 ∨ f = 3 ∨ f = 4 ∨ f = 5 by omega) with q | q | q | q | q | q <;> subst q
  · rw [if_pos rfl]; exact e.1.symm
  · rw [if_neg (by omega), if_pos rfl]; exact e.2.1.symm
  · rw [if_neg (by omega), if_neg (by omega), if_pos rfl]; exact e.2.2.1.symm
  · rw [if_neg (by omega), if_neg (by omega), if_neg (by omega), if_pos rfl]; exact e.2.2.2.1.symm
  · rw [if_neg (by omega), if_neg (by omega), if_neg (by omega), if_neg (by omega), if_pos rfl, if_pos rfl]; exact e.2.2.2.2.1.symm
  · rw [if_neg (by omega), if_neg (by omega), if_neg (by omega), if_neg (by omega), if_neg (by omega), if_pos rfl, if_neg (by omega)]; exact e.2.2.2.2.2.symm
theorem qpl_cong {dv dc dv' dc' : Int → Prop} : ∀ (n : Nat) (p : Int), (∀ i, p ≤ i → i < p + n → (dv i ↔ dv' i) ∧ (dc i ↔ dc' i)) → qpl dv dc n p = qpl dv' dc' n p
  | 0, _, _ => rfl
  | n + 1, p, h => by
    have a := h p (Int.le_refl _) (by omega)
    have ih := qpl_cong n (p + 1) (fun i i0 i1 => h i (by omega) (by omega))
    unfold qpl
    by_cases q : dv p
    · rw [if_pos q, if_pos (a.1.mp q)]
    · rw [if_neg q, if_neg (fun w => q (a.1.mpr w))]
      by_cases q2 : dc p
      · rw [if_pos q2, if_pos (a.2.mp q2)]
      · rw [if_neg q2, if_neg (fun w => q2 (a.2.mpr w)), ih]
theorem qr_eq {L V A N g : Int → Int} {y : Int} (hR : RelR L V A N y g) : quI (qRw L V N) y = quI (qAt g) (g 0) := by
  unfold quI
  rw [hR.1]
  refine nR_cong _ _ (fun _ _ _ => rfl) (fun r s t r0 r1 s0 s1 => ?_)
  have s1' : s < y := s1
  have key : qRw L V N r s = qAt g r s := by
    unfold qRw qAt
    rw [hR.2.1 r r0 (by omega), hR.2.1 s s0 s1']
    refine qpl_cong _ _ (fun i i0 i1 => ?_)
    have a := hR.2.2 r i r0 (by omega) i0 (by omega)
    have b := hR.2.2 s i s0 s1' i0 (by omega)
    rw [a.1, b.1, a.2.2.2.1, b.2.2.2.1]
    exact ⟨Iff.rfl, Iff.rfl⟩
  unfold quS
  rw [key]
theorem sumI_cong {f f' : Int → Int} : ∀ n : Nat, (∀ i, 0 ≤ i → i < (n : Int) → f i = f' i) → sumI f n = sumI f' n
  | 0, _ => rfl
  | n + 1, h => by
    show sumI f n + f n = sumI f' n + f' n
    rw [sumI_cong n (fun i a b => h i a (by omega)), h n (by omega) (by omega)]
theorem sumI_one : ∀ n : Nat, sumI (fun _ => 1) n = n
  | 0 => rfl
  | n + 1 => by
    show sumI (fun _ => 1) n + 1 = _
    rw [sumI_one n]
    omega
theorem ct_eq {L V A N g : Int → Int} {y s : Int} (hR : RelR L V A N y g) (hL : ∀ i, 0 ≤ L i ∧ L i ≤ 12) (hs : s ≠ 5) : ctC L V y s = ctI g s := by
  unfold ctC ctI
  rw [hR.1]
  by_cases q0 : s = 0
  · rw [if_pos q0, if_pos q0]
  rw [if_neg q0, if_neg q0]
  by_cases q1 : s = 1
  · rw [if_pos q1, if_pos (by omega)]
    refine sumI_cong _ (fun a a0 a1 => ?_)
    have la := hL a
    (try dsimp only)
    rw [hR.2.1 a a0 (by omega)]
    have e : sumI (fun b => if s < 2 ∨ 4 < s ∨ g (20 + 72 * a + 6 * b + 0) = s - 2 then 1 else 0) (L a).toNat = sumI (fun _ => 1) (L a).toNat := sumI_cong _ (fun b _ _ => if_pos (by omega))
    rw [e, sumI_one]
    omega
  rw [if_neg q1]
  by_cases q2 : 2 ≤ s ∧ s ≤ 4
  · rw [if_pos q2, if_pos (by omega)]
    refine sumI_cong _ (fun a a0 a1 => ?_)
    (try dsimp only)
    rw [hR.2.1 a a0 (by omega)]
    refine sumI_cong _ (fun b b0 b1 => ?_)
    have e := hR.2.2 a b a0 (by omega) b0 (by omega)
    (try dsimp only)
    rw [e.1]
    by_cases w : V (a * 12 + b) = s - 2
    · rw [if_pos w, if_pos (Or.inr (Or.inr w))]
    · rw [if_neg w, if_neg (by omega)]
  · rw [if_neg q2, if_neg (by omega), if_neg hs]
