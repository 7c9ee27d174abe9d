/-! LAYER 2: the table of asks -/
/-- the table and the first answers, of every verb, ask and field; at most m asks -/
def QT (U : LSt) (m : Int) (Fo : Int → Int → Int → Int) : Prop :=
  (0 ≤ U.2.2.2.2.2.2 ∧ U.2.2.2.2.2.2 ≤ m) ∧ ∀ v s f, 0 ≤ v ∧ v < 3 → 0 ≤ s ∧ s < 10000 → 0 ≤ f ∧ f < 2 →
    (findI U.2.2.2.2.1 U.2.2.2.2.2.2 v s = -1 ∧ Fo v s f = -1) ∨ (0 ≤ findI U.2.2.2.2.1 U.2.2.2.2.2.2 v s ∧ Fo v s f = fldI (U.2.2.2.2.2.1 (findI U.2.2.2.2.1 U.2.2.2.2.2.2 v s)) f ∧ 0 ≤ Fo v s f)
theorem fld_nn {x : Int} (f : Int) (h : 0 ≤ x) : 0 ≤ fldI x f := by
  unfold fldI
  split <;> omega
theorem tab_step {L V A N g : Int → Int} {y r p m : Int} {U : LSt} {Fo : Int → Int → Int → Int} (hR : RelR L V A N y g) (hA : ∀ i, 0 ≤ A i ∧ A i < 10000) (hV : ∀ i, 0 ≤ V i ∧ V i < 3) (hN : ∀ i, 0 ≤ N i ∧ N i < 40000) (h0 : 0 ≤ r) (h1 : r < y) (hp : 0 ≤ p) (hp2 : p < L r) (hm : m < 96) (h : QT U m Fo) : QT (lrS V A N r p U) (m + 1) (fun v s f => foS g v (s / 100) (s % 100) f r p (Fo v s f)) := by
  obtain ⟨c, b, G, t, a, d, z⟩ := U
  obtain ⟨⟨z0, z1⟩, hQ⟩ := h
  have z0' : 0 ≤ z := z0
  have z1' : z ≤ m := z1
  have e := hR.2.2 r p h0 h1 hp hp2
  have a0 := hA (r * 12 + p)
  have v0 := hV (r * 12 + p)
  have n0 := hN (r * 12 + p)
  have ea : (lrS V A N r p (c, b, G, t, a, d, z)).2.2.2.2.1 = (if findI a z (V (r * 12 + p)) (A (r * 12 + p)) = -1 ∧ z < 96 then upI a z (V (r * 12 + p) * 10000 + A (r * 12 + p)) else a) := rfl
  have ed : (lrS V A N r p (c, b, G, t, a, d, z)).2.2.2.2.2.1 = (if findI a z (V (r * 12 + p)) (A (r * 12 + p)) = -1 ∧ z < 96 then upI d z (N (r * 12 + p)) else d) := rfl
  have ez : (lrS V A N r p (c, b, G, t, a, d, z)).2.2.2.2.2.2 = (if findI a z (V (r * 12 + p)) (A (r * 12 + p)) = -1 ∧ z < 96 then z + 1 else z) := rfl
  unfold QT
  rw [ea, ed, ez]
  by_cases hn : findI a z (V (r * 12 + p)) (A (r * 12 + p)) = -1
  · have hn2 : findI a z (V (r * 12 + p)) (A (r * 12 + p)) = -1 ∧ z < 96 := ⟨hn, by omega⟩
    rw [if_pos hn2, if_pos hn2, if_pos hn2]
    refine ⟨by omega, fun v s f hv hs hf => ?_⟩
    have q : (findI a z v s = -1 ∧ Fo v s f = -1) ∨ (0 ≤ findI a z v s ∧ Fo v s f = fldI (d (findI a z v s)) f ∧ 0 ≤ Fo v s f) := hQ v s f hv hs hf
    rw [find_up a z0']
    have fe := fld_eq (f := f) hR h0 h1 hp hp2 hf
    have fn := fld_nn f n0.1
    (try dsimp only)
    unfold foS
    rw [e.1, e.2.1, e.2.2.1, ← fe]
    rcases q with ⟨q1, q2⟩ | ⟨q1, q2, q3⟩
    · rw [if_pos q1, q2]
      by_cases w : V (r * 12 + p) * 10000 + A (r * 12 + p) = v * 10000 + s
      · rw [if_pos w, if_pos ⟨rfl, by omega, by omega, by omega⟩, upI_same]
        exact Or.inr ⟨z0', rfl, fn⟩
      · rw [if_neg w, if_neg (fun k => w (by omega))]
        exact Or.inl ⟨rfl, rfl⟩
    · have o := find_spec a z0' v s
      rw [if_neg (show ¬ findI a z v s = -1 by omega), if_neg (fun k => by omega), upI_ne _ _ (by omega)]
      exact Or.inr ⟨q1, q2, q3⟩
  · have hn2 : ¬ (findI a z (V (r * 12 + p)) (A (r * 12 + p)) = -1 ∧ z < 96) := fun k => hn k.1
    rw [if_neg hn2, if_neg hn2, if_neg hn2]
    refine ⟨by omega, fun v s f hv hs hf => ?_⟩
    have q : (findI a z v s = -1 ∧ Fo v s f = -1) ∨ (0 ≤ findI a z v s ∧ Fo v s f = fldI (d (findI a z v s)) f ∧ 0 ≤ Fo v s f) := hQ v s f hv hs hf
    (try dsimp only)
    unfold foS
    rw [e.1, e.2.1, e.2.2.1]
    have hno : ¬ (Fo v s f = -1 ∧ V (r * 12 + p) = v ∧ A (r * 12 + p) / 100 = s / 100 ∧ A (r * 12 + p) % 100 = s % 100) := by
      intro k
      rcases q with ⟨q1, q2⟩ | ⟨q1, q2, q3⟩
      · have es : A (r * 12 + p) = s := by omega
        rw [k.2.1, es] at hn
        exact hn q1
      · omega
    rw [if_neg hno]
    exact q
theorem tab_row {L V A N g : Int → Int} {y r m : Int} {Fo : Int → Int → Int → Int} (hR : RelR L V A N y g) (hA : ∀ i, 0 ≤ A i ∧ A i < 10000) (hV : ∀ i, 0 ≤ V i ∧ V i < 3) (hN : ∀ i, 0 ≤ N i ∧ N i < 40000) (h0 : 0 ≤ r) (h1 : r < y) (S : LSt) (h : QT S m Fo) : ∀ n : Nat, (n : Int) ≤ L r → m + n ≤ 96 → QT (nP (lrS V A N) r n (lnC S)) (m + n) (fun v s f => nP (foS g v (s / 100) (s % 100) f) r n (Fo v s f))
  | 0, _, _ => by rw [(show m + ((0 : Nat) : Int) = m by omega)]; exact h
  | n + 1, hn, hm => by
    have ih := tab_row hR hA hV hN h0 h1 S h n (by omega) (by omega)
    have st := tab_step (p := (n : Int)) hR hA hV hN h0 h1 (by omega) (by omega) (by omega) ih
    rw [(show m + ((n + 1 : Nat) : Int) = m + (n : Int) + 1 by omega)]
    exact st
theorem tab_all {L V A N g : Int → Int} {y e : Int} (hR : RelR L V A N y g) (hy : y ≤ 8) (hL : ∀ i, 0 ≤ L i ∧ L i ≤ 12) (hA : ∀ i, 0 ≤ A i ∧ A i < 10000) (hV : ∀ i, 0 ≤ V i ∧ V i < 3) (hN : ∀ i, 0 ≤ N i ∧ N i < 40000) (S : LSt) (hz : S.2.2.2.2.2.2 = 0) : ∀ n : Nat, (n : Int) ≤ y → QT (lnR V A N L e n S) (12 * n) (fun v s f => nR (foS g v (s / 100) (s % 100) f) (fun r => g (10 + r)) e n (-1))
  | 0, _ => by
    refine ⟨by show 0 ≤ S.2.2.2.2.2.2 ∧ S.2.2.2.2.2.2 ≤ 12 * ((0 : Nat) : Int); omega, fun v s f hv hs hf => Or.inl ⟨?_, rfl⟩⟩
    show findI S.2.2.2.2.1 S.2.2.2.2.2.2 v s = -1
    rw [hz]
    rfl
  | n + 1, hn => by
    have ih := tab_all hR hy hL hA hV hN S hz n (by omega) (e := e)
    have a := hL n
    have e1 : lnR V A N L e (n + 1) S = if (n : Int) = e then lnR V A N L e n S else nP (lrS V A N) n (L n).toNat (lnC (lnR V A N L e n S)) := rfl
    have e2 : ∀ v s f, nR (foS g v (s / 100) (s % 100) f) (fun r => g (10 + r)) e (n + 1) (-1) = if (n : Int) = e then nR (foS g v (s / 100) (s % 100) f) (fun r => g (10 + r)) e n (-1) else nP (foS g v (s / 100) (s % 100) f) n (g (10 + (n : Int))).toNat (nR (foS g v (s / 100) (s % 100) f) (fun r => g (10 + r)) e n (-1)) := fun _ _ _ => rfl
    have e3 : (fun v s f => nR (foS g v (s / 100) (s % 100) f) (fun r => g (10 + r)) e (n + 1) (-1)) = (fun v s f => if (n : Int) = e then nR (foS g v (s / 100) (s % 100) f) (fun r => g (10 + r)) e n (-1) else nP (foS g v (s / 100) (s % 100) f) n (g (10 + (n : Int))).toNat (nR (foS g v (s / 100) (s % 100) f) (fun r => g (10 + r)) e n (-1))) := by
      funext v s f
      exact e2 v s f
    rw [e1, e3]
    by_cases q : (n : Int) = e
    · rw [if_pos q]
      have e4 : (fun v s f => if (n : Int) = e then nR (foS g v (s / 100) (s % 100) f) (fun r => g (10 + r)) e n (-1) else nP (foS g v (s / 100) (s % 100) f) n (g (10 + (n : Int))).toNat (nR (foS g v (s / 100) (s % 100) f) (fun r => g (10 + r)) e n (-1))) = (fun v s f => nR (foS g v (s / 100) (s % 100) f) (fun r => g (10 + r)) e n (-1)) := by
        funext v s f
        rw [if_pos q]
      rw [e4]
      exact ⟨⟨ih.1.1, by have := ih.1.2; omega⟩, ih.2⟩
    · rw [if_neg q]
      have e4 : (fun v s f => if (n : Int) = e then nR (foS g v (s / 100) (s % 100) f) (fun r => g (10 + r)) e n (-1) else nP (foS g v (s / 100) (s % 100) f) n (g (10 + (n : Int))).toNat (nR (foS g v (s / 100) (s % 100) f) (fun r => g (10 + r)) e n (-1))) = (fun v s f => nP (foS g v (s / 100) (s % 100) f) n (L n).toNat (nR (foS g v (s / 100) (s % 100) f) (fun r => g (10 + r)) e n (-1))) := by
        funext v s f
        rw [if_neg q, hR.2.1 n (by omega) (by omega)]
      rw [e4]
      have t := tab_row (r := (n : Int)) hR hA hV hN (by omega) (by omega) (lnR V A N L e n S) ih (L n).toNat (by omega) (by omega)
      exact ⟨⟨t.1.1, by have := t.1.2; omega⟩, t.2⟩
/-- the first answers are one: what is seen, and what it was -/
theorem fo_eq {L V A N g c1 b1 g1 t1 a1 d1 : Int → Int} {y e z1 : Int} (hR : RelR L V A N y g) (h0 : 0 ≤ y) (hy : y ≤ 8) (hL : ∀ i, 0 ≤ L i ∧ L i ≤ 12) (hA : ∀ i, 0 ≤ A i ∧ A i < 10000) (hV : ∀ i, 0 ≤ V i ∧ V i < 3) (hN : ∀ i, 0 ≤ N i ∧ N i < 40000) {S : LSt} (hz : S.2.2.2.2.2.2 = 0) (hl : lnR V A N L e y.toNat S = (c1, b1, g1, t1, a1, d1, z1)) {v s f : Int} (hv : 0 ≤ v ∧ v < 3) (hs : 0 ≤ s ∧ s < 10000) (hf : 0 ≤ f ∧ f < 2) : (findI a1 z1 v s = -1 ∧ foI g v (s / 100) (s % 100) f e = -1) ∨ (0 ≤ findI a1 z1 v s ∧ foI g v (s / 100) (s % 100) f e = fldI (d1 (findI a1 z1 v s)) f ∧ 0 ≤ foI g v (s / 100) (s % 100) f e) := by
  have t := tab_all (e := e) hR hy hL hA hV hN S hz y.toNat (by omega)
  rw [hl] at t
  have q := t.2 v s f hv hs hf
  unfold foI
  rw [hR.1]
  exact q
