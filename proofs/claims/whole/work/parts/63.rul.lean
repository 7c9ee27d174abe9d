/-! LAYER 2: the rules -/
/-- the place's exchange is of the verb: how many ahead in the row -/
def cntC (V : Int → Int) (r v : Int) : Nat → Int
  | 0 => 0
  | n + 1 => cntC V r v n + (if V (r * 12 + n) = v then 1 else 0)
def latC (A : Int → Int) (r a : Int) : Nat → Int
  | 0 => -1
  | n + 1 => if A (r * 12 + n) / 100 = a then A (r * 12 + n) % 100 else latC A r a n
theorem ah_eq {L V A N g : Int → Int} {y r p : Int} (hR : RelR L V A N y g) (h0 : 0 ≤ r) (h1 : r < y) (hp : 0 ≤ p) (hp2 : p < L r) : ahI g r p = cntC V r (V (r * 12 + p)) p.toNat := by
  have e := (hR.2.2 r p h0 h1 hp hp2).1
  unfold ahI
  have key : ∀ n : Nat, n ≤ p.toNat → sumI (fun k => if g (20 + 72 * r + 6 * k + 0) = g (20 + 72 * r + 6 * p + 0) then 1 else 0) n = cntC V r (V (r * 12 + p)) n := by
    intro n
    induction n with
    | zero => intro _; rfl
    | succ i ih =>
      intro hi
      have e2 := (hR.2.2 r (i : Int) h0 h1 (by omega) (by omega)).1
      show sumI _ i + _ = cntC V r (V (r * 12 + p)) i + _
      rw [ih (by omega)]
      (try dsimp only)
      rw [e, e2]
  exact key _ (Nat.le_refl _)
theorem lt_eq {L V A N g : Int → Int} {y r p : Int} (hR : RelR L V A N y g) (h0 : 0 ≤ r) (h1 : r < y) (hp : 0 ≤ p) (hp2 : p < L r) : ltI g r p p.toNat = latC A r (A (r * 12 + p) / 100) p.toNat := by
  have e := (hR.2.2 r p h0 h1 hp hp2).2.1
  have key : ∀ n : Nat, n ≤ p.toNat → ltI g r p n = latC A r (A (r * 12 + p) / 100) n := by
    intro n
    induction n with
    | zero => intro _; rfl
    | succ i ih =>
      intro hi
      have e2 := (hR.2.2 r (i : Int) h0 h1 (by omega) (by omega)).2
      show (if g (20 + 72 * r + 6 * (i : Int) + 1) = g (20 + 72 * r + 6 * p + 1) then g (20 + 72 * r + 6 * (i : Int) + 2) else ltI g r p i) = (if A (r * 12 + (i : Int)) / 100 = A (r * 12 + p) / 100 then A (r * 12 + (i : Int)) % 100 else latC A r (A (r * 12 + p) / 100) i)
      rw [ih (by omega), e, e2.1, e2.2.1]
  exact key _ (Nat.le_refl _)
/-- the learner's memory inside a row -/
theorem mem_row (V A N : Int → Int) (r : Int) (S : LSt) : ∀ n : Nat, (∀ v, 0 ≤ v → v < 3 → (nP (lrS V A N) r n (lnC S)).1 v = cntC V r v n) ∧ ∀ a, 0 ≤ a → a < 100 → (nP (lrS V A N) r n (lnC S)).2.1 a = latC A r a n
  | 0 => ⟨fun v h0 h1 => if_pos ⟨h0, h1⟩, fun a h0 h1 => if_pos ⟨h0, h1⟩⟩
  | n + 1 => by
    have ih := mem_row V A N r S n
    refine ⟨fun v h0 h1 => ?_, fun a h0 h1 => ?_⟩
    · show upI (nP (lrS V A N) r n (lnC S)).1 (V (r * 12 + n)) ((nP (lrS V A N) r n (lnC S)).1 (V (r * 12 + n)) + 1) v = cntC V r v n + (if V (r * 12 + n) = v then 1 else 0)
      by_cases q : V (r * 12 + n) = v
      · rw [if_pos q, q, upI_same, ih.1 v h0 h1]
      · rw [if_neg q, upI_ne _ _ (fun z => q z.symm), ih.1 v h0 h1, Int.add_zero]
    · show upI (nP (lrS V A N) r n (lnC S)).2.1 (A (r * 12 + n) / 100) (A (r * 12 + n) % 100) a = (if A (r * 12 + n) / 100 = a then A (r * 12 + n) % 100 else latC A r a n)
      by_cases q : A (r * 12 + n) / 100 = a
      · rw [if_pos q, q, upI_same]
      · rw [if_neg q, upI_ne _ _ (fun z => q z.symm), ih.2 a h0 h1]
theorem base_eq {L V A N g : Int → Int} {y r p x : Int} (hR : RelR L V A N y g) (hA : ∀ i, 0 ≤ A i ∧ A i < 10000) (hV : ∀ i, 0 ≤ V i ∧ V i < 3) (h0 : 0 ≤ r) (h1 : r < y) (hp : 0 ≤ p) (hp2 : p < L r) (hx : 0 ≤ x ∧ x < 5) (S : LSt) : baseI (nP (lrS V A N) r p.toNat (lnC S)).1 (nP (lrS V A N) r p.toNat (lnC S)).2.1 x (V (r * 12 + p)) (A (r * 12 + p)) = bsN g x r p := by
  have m := mem_row V A N r S p.toNat
  have e := hR.2.2 r p h0 h1 hp hp2
  have a := hA (r * 12 + p)
  have v := hV (r * 12 + p)
  unfold baseI bsN
  rw [m.1 _ v.1 v.2, m.2 _ (by omega) (by omega), ah_eq hR h0 h1 hp hp2, lt_eq hR h0 h1 hp hp2, e.2.1, e.2.2.1]
  rcases (show x = 0 ∨ x = 1 ∨ x = 2 ∨ x = 3 ∨ x = 4 by omega) with q | q | q | q | q <;> subst q <;> rfl
theorem fld_eq {L V A N g : Int → Int} {y r p f : Int} (hR : RelR L V A N y g) (h0 : 0 ≤ r) (h1 : r < y) (hp : 0 ≤ p) (hp2 : p < L r) (hf : 0 ≤ f ∧ f < 2) : fldI (N (r * 12 + p)) f = g (20 + 72 * r + 6 * p + (4 + f)) := by
  have e := hR.2.2 r p h0 h1 hp hp2
  unfold fldI
  rcases (show f = 0 ∨ f = 1 by omega) with q | q
  · subst q; rw [if_pos rfl, ← e.2.2.2.2.1]; rfl
  · subst q; rw [if_neg (by omega), ← e.2.2.2.2.2]; rfl
/-- candidates -/
theorem cand_step {L V A N g : Int → Int} {y r p x v f : Int} (hR : RelR L V A N y g) (hA : ∀ i, 0 ≤ A i ∧ A i < 10000) (hV : ∀ i, 0 ≤ V i ∧ V i < 3) (h0 : 0 ≤ r) (h1 : r < y) (hp : 0 ≤ p) (hp2 : p < L r) (hx : 0 ≤ x ∧ x < 5) (hv : 0 ≤ v ∧ v < 3) (hf : 0 ≤ f ∧ f < 2) (S : LSt) : (lrS V A N r p (nP (lrS V A N) r p.toNat (lnC S))).2.2.1 ((v * 2 + f) * 5 + x) = hsS g x v f r p ((nP (lrS V A N) r p.toNat (lnC S)).2.2.1 ((v * 2 + f) * 5 + x)) := by
  have e := hR.2.2 r p h0 h1 hp hp2
  have v0 := hV (r * 12 + p)
  have b := base_eq (x := x) hR hA hV h0 h1 hp hp2 hx S
  have fe := fld_eq (f := f) hR h0 h1 hp hp2 hf
  generalize hU : nP (lrS V A N) r p.toNat (lnC S) = U at b ⊢
  show hfI (hfI U.2.2.1 U.1 U.2.1 (V (r * 12 + p)) 0 (A (r * 12 + p)) (fldI (N (r * 12 + p)) 0) 5) U.1 U.2.1 (V (r * 12 + p)) 1 (A (r * 12 + p)) (fldI (N (r * 12 + p)) 1) 5 ((v * 2 + f) * 5 + x) = _
  unfold hsS
  rw [e.1]
  by_cases q : V (r * 12 + p) = v
  · rw [if_pos q]
    rcases (show f = 0 ∨ f = 1 by omega) with z | z
    · subst z
      unfold hfI
      rw [if_neg (by omega), if_pos (by omega), (show (v * 2 + 0) * 5 + x - (V (r * 12 + p) * 2 + 0) * 5 = x by omega), b, fe]
    · subst z
      unfold hfI
      rw [if_pos (by omega), if_neg (by omega), (show (v * 2 + 1) * 5 + x - (V (r * 12 + p) * 2 + 1) * 5 = x by omega), b, fe]
  · rw [if_neg q]
    unfold hfI
    rw [if_neg (by omega), if_neg (by omega)]
theorem cand_row {L V A N g : Int → Int} {y r x v f : Int} (hR : RelR L V A N y g) (hA : ∀ i, 0 ≤ A i ∧ A i < 10000) (hV : ∀ i, 0 ≤ V i ∧ V i < 3) (h0 : 0 ≤ r) (h1 : r < y) (hx : 0 ≤ x ∧ x < 5) (hv : 0 ≤ v ∧ v < 3) (hf : 0 ≤ f ∧ f < 2) (S : LSt) : ∀ n : Nat, (n : Int) ≤ L r → (nP (lrS V A N) r n (lnC S)).2.2.1 ((v * 2 + f) * 5 + x) = nP (hsS g x v f) r n (S.2.2.1 ((v * 2 + f) * 5 + x))
  | 0, _ => rfl
  | n + 1, hn => by
    have ih := cand_row hR hA hV h0 h1 hx hv hf S n (by omega)
    have st := cand_step (p := (n : Int)) hR hA hV h0 h1 (by omega) (by omega) hx hv hf S
    rw [(show ((n : Int)).toNat = n by omega), ih] at st
    exact st
theorem cand_eq {L V A N g : Int → Int} {y e x v f : Int} (hR : RelR L V A N y g) (hL : ∀ i, 0 ≤ L i ∧ L i ≤ 12) (hA : ∀ i, 0 ≤ A i ∧ A i < 10000) (hV : ∀ i, 0 ≤ V i ∧ V i < 3) (hx : 0 ≤ x ∧ x < 5) (hv : 0 ≤ v ∧ v < 3) (hf : 0 ≤ f ∧ f < 2) (S : LSt) : ∀ n : Nat, (n : Int) ≤ y → (lnR V A N L e n S).2.2.1 ((v * 2 + f) * 5 + x) = nR (hsS g x v f) (fun r => g (10 + r)) e n (S.2.2.1 ((v * 2 + f) * 5 + x))
  | 0, _ => rfl
  | n + 1, hn => by
    have ih := cand_eq hR hL hA hV hx hv hf S n (by omega) (e := e)
    have a := hL n
    show (if (n : Int) = e then lnR V A N L e n S else nP (lrS V A N) n (L n).toNat (lnC (lnR V A N L e n S))).2.2.1 ((v * 2 + f) * 5 + x) = (if (n : Int) = e then nR (hsS g x v f) (fun r => g (10 + r)) e n (S.2.2.1 ((v * 2 + f) * 5 + x)) else nP (hsS g x v f) n (g (10 + (n : Int))).toNat (nR (hsS g x v f) (fun r => g (10 + r)) e n (S.2.2.1 ((v * 2 + f) * 5 + x))))
    by_cases q : (n : Int) = e
    · rw [if_pos q, if_pos q]; exact ih
    · rw [if_neg q, if_neg q, hR.2.1 n (by omega) (by omega), cand_row hR hA hV (by omega) (by omega) hx hv hf _ (L n).toNat (by omega), ih]
/-- a flag that falls where a condition comes -/
theorem nP_flag {C : Int → Int → Prop} [∀ r p, Decidable (C r p)] {f : Int → Int → Int → Int} (hf : ∀ r p s, f r p s = if s = 1 ∧ C r p then 0 else s) (r : Int) : ∀ n : Nat, (nP f r n 1 = 0 ∧ ∃ p, (0 ≤ p ∧ p < (n : Int)) ∧ C r p) ∨ (nP f r n 1 = 1 ∧ ∀ p, 0 ≤ p → p < (n : Int) → ¬ C r p)
  | 0 => Or.inr ⟨rfl, fun p h0 h1 => by omega⟩
  | n + 1 => by
    have e : nP f r (n + 1) 1 = f r n (nP f r n 1) := rfl
    rw [e, hf]
    rcases nP_flag hf r n with ⟨a, p, b, c⟩ | ⟨a, b⟩
    · rw [a, if_neg (by omega)]
      exact Or.inl ⟨rfl, p, by omega, c⟩
    · by_cases q : C r (n : Int)
      · rw [if_pos ⟨a, q⟩]
        exact Or.inl ⟨rfl, n, by omega, q⟩
      · rw [if_neg (fun z => q z.2), a]
        refine Or.inr ⟨rfl, fun p h0 h1 => ?_⟩
        by_cases z : p = (n : Int)
        · rw [z]; exact q
        · exact b p h0 (by omega)
theorem nP_zero {C : Int → Int → Prop} [∀ r p, Decidable (C r p)] {f : Int → Int → Int → Int} (hf : ∀ r p s, f r p s = if s = 1 ∧ C r p then 0 else s) (r : Int) : ∀ n : Nat, nP f r n 0 = 0
  | 0 => rfl
  | n + 1 => by
    have e : nP f r (n + 1) 0 = f r n (nP f r n 0) := rfl
    rw [e, hf, nP_zero hf r n, if_neg (by omega)]
theorem nR_flag {C : Int → Int → Prop} [∀ r p, Decidable (C r p)] {f : Int → Int → Int → Int} (hf : ∀ r p s, f r p s = if s = 1 ∧ C r p then 0 else s) (L : Int → Int) (b : Int) : ∀ n : Nat, (nR f L b n 1 = 0 ∧ ∃ r p, (0 ≤ r ∧ r < (n : Int)) ∧ r ≠ b ∧ (0 ≤ p ∧ p < L r) ∧ C r p) ∨ (nR f L b n 1 = 1 ∧ ∀ r p, 0 ≤ r → r < (n : Int) → r ≠ b → 0 ≤ p → p < L r → ¬ C r p)
  | 0 => Or.inr ⟨rfl, fun r p h0 h1 => by omega⟩
  | n + 1 => by
    have e : nR f L b (n + 1) 1 = if (n : Int) = b then nR f L b n 1 else nP f n (L n).toNat (nR f L b n 1) := rfl
    rw [e]
    by_cases q : (n : Int) = b
    · rw [if_pos q]
      rcases nR_flag hf L b n with ⟨a, r, p, h1, h2, h3, h4⟩ | ⟨a, h⟩
      · exact Or.inl ⟨a, r, p, by omega, h2, h3, h4⟩
      · exact Or.inr ⟨a, fun r p h0 h1 h2 h3 h4 => h r p h0 (by omega) h2 h3 h4⟩
    · rw [if_neg q]
      rcases nR_flag hf L b n with ⟨a, r, p, h1, h2, h3, h4⟩ | ⟨a, h⟩
      · rw [a, nP_zero hf]
        exact Or.inl ⟨rfl, r, p, by omega, h2, h3, h4⟩
      · rw [a]
        rcases nP_flag hf (n : Int) (L n).toNat with ⟨a2, p, h1, h2⟩ | ⟨a2, h2⟩
        · exact Or.inl ⟨a2, n, p, by omega, q, by omega, h2⟩
        · refine Or.inr ⟨a2, fun r p h0 h1 hb p0 p1 => ?_⟩
          by_cases z : r = (n : Int)
          · subst z; exact h2 p p0 (by omega)
          · exact h r p h0 (by omega) hb p0 p1
