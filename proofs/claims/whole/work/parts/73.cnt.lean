/-! LAYER 2: how many unlike asks -/
theorem fs_eq {g : Int → Int} {r p : Int} (hG : AllOk g) (hX : ∀ i, 20 ≤ i → i < 596 → 0 ≤ g i ∧ g i < 100) (h0 : 0 ≤ r) (h1 : r < 8) (hp : 0 ≤ p) (hp2 : p ≤ 12) : (nP (foS g (g (20 + 72 * r + 6 * p + 0)) (g (20 + 72 * r + 6 * p + 1)) (g (20 + 72 * r + 6 * p + 2)) 0) r p.toNat (nR (foS g (g (20 + 72 * r + 6 * p + 0)) (g (20 + 72 * r + 6 * p + 1)) (g (20 + 72 * r + 6 * p + 2)) 0) (fun r => g (10 + r)) (-1) r.toNat (-1)) = -1 ∧ fsI g r p = 1) ∨ (0 ≤ nP (foS g (g (20 + 72 * r + 6 * p + 0)) (g (20 + 72 * r + 6 * p + 1)) (g (20 + 72 * r + 6 * p + 2)) 0) r p.toNat (nR (foS g (g (20 + 72 * r + 6 * p + 0)) (g (20 + 72 * r + 6 * p + 1)) (g (20 + 72 * r + 6 * p + 2)) 0) (fun r => g (10 + r)) (-1) r.toNat (-1)) ∧ fsI g r p = 0) := by
  have e1 : nP (foS g (g (20 + 72 * r + 6 * p + 0)) (g (20 + 72 * r + 6 * p + 1)) (g (20 + 72 * r + 6 * p + 2)) 0) r p.toNat (nR (foS g (g (20 + 72 * r + 6 * p + 0)) (g (20 + 72 * r + 6 * p + 1)) (g (20 + 72 * r + 6 * p + 2)) 0) (fun r => g (10 + r)) (-1) r.toNat (-1)) = nR (foS g (g (20 + 72 * r + 6 * p + 0)) (g (20 + 72 * r + 6 * p + 1)) (g (20 + 72 * r + 6 * p + 2)) 0) (fun s => if s = r then p else g (10 + s)) (-1) (r + 1).toNat (-1) := by
    rw [nR_up _ _ _ h0, if_neg (by omega)]
    (try dsimp only)
    rw [if_pos rfl]
    congr 1
    exact nR_cong _ _ (fun s s0 s1 => (if_neg (by omega)).symm) (fun _ _ _ _ _ _ _ => rfl)
  rw [e1]
  unfold fsI
  refine nR_two (f := foS g (g (20 + 72 * r + 6 * p + 0)) (g (20 + 72 * r + 6 * p + 1)) (g (20 + 72 * r + 6 * p + 2)) 0) (f' := fsS g r p) (L := fun s => if s = r then p else g (10 + s)) (L' := fun s => if s = r then p else g (10 + s)) (b := -1) (Q := fun (a b : Int) => (a = -1 ∧ b = 1) ∨ (0 ≤ a ∧ b = 0)) (r + 1).toNat (-1) 1 (Or.inl ⟨rfl, rfl⟩) (fun _ _ _ => rfl) (fun s k a b hs _ hk q => ?_)
  have hk2 : 0 ≤ k ∧ k < (if s = r then p else g (10 + s)) := hk
  have hk3 : k < 12 := by
    split at hk2
    · omega
    · have := hG.2.2 s hs.1 (by omega); omega
  have x := hX (20 + 72 * s + 6 * k + (4 + 0)) (by omega) (by omega)
  unfold foS fsS
  by_cases w : g (20 + 72 * s + 6 * k + 0) = g (20 + 72 * r + 6 * p + 0) ∧ g (20 + 72 * s + 6 * k + 1) = g (20 + 72 * r + 6 * p + 1) ∧ g (20 + 72 * s + 6 * k + 2) = g (20 + 72 * r + 6 * p + 2)
  · rcases q with ⟨q1, q2⟩ | ⟨q1, q2⟩
    · rw [if_pos ⟨q1, w⟩, if_pos ⟨q2, w⟩]; exact Or.inr ⟨x.1, rfl⟩
    · rw [if_neg (fun z => by omega), if_neg (fun z => by omega)]; exact Or.inr ⟨q1, q2⟩
  · rw [if_neg (fun z => w z.2), if_neg (fun z => w z.2)]; exact q
theorem un_row {L V A N g : Int → Int} {y r m : Int} (hR : RelR L V A N y g) (h8 : y ≤ 8) (hG : AllOk g) (hX : ∀ i, 20 ≤ i → i < 596 → 0 ≤ g i ∧ g i < 100) (hL : ∀ i, 0 ≤ L i ∧ L i ≤ 12) (hA : ∀ i, 0 ≤ A i ∧ A i < 10000) (hV : ∀ i, 0 ≤ V i ∧ V i < 3) (hN : ∀ i, 0 ≤ N i ∧ N i < 40000) (h0 : 0 ≤ r) (h1 : r < y) (S : LSt) (h : QT S m (fun v s f => nR (foS g v (s / 100) (s % 100) f) (fun r => g (10 + r)) (-1) r.toNat (-1))) : ∀ n : Nat, (n : Int) ≤ L r → m + n ≤ 96 → (nP (lrS V A N) r n (lnC S)).2.2.2.2.2.2 = S.2.2.2.2.2.2 + sumI (fun b => if fsI g r b = 1 then 1 else 0) n
  | 0, _, _ => by show S.2.2.2.2.2.2 = S.2.2.2.2.2.2 + 0; omega
  | n + 1, hn, hm => by
    have ih := un_row hR h8 hG hX hL hA hV hN h0 h1 S h n (by omega) (by omega)
    have tr := tab_row hR hA hV hN h0 h1 S h n (by omega) (by omega)
    have e1 := hR.2.2 r (n : Int) h0 h1 (by omega) (by omega)
    have ll := hL r
    have fs := fs_eq (r := r) (p := (n : Int)) hG hX h0 (by omega) (by omega) (by omega)
    rw [e1.1, e1.2.1, e1.2.2.1, (show ((n : Int)).toNat = n by omega)] at fs
    have q := tr.2 (V (r * 12 + n)) (A (r * 12 + n)) 0 (hV _) (hA _) (by omega)
    have zb := tr.1
    generalize hU : nP (lrS V A N) r n (lnC S) = U at ih q zb
    have e2 : (nP (lrS V A N) r (n + 1) (lnC S)).2.2.2.2.2.2 = (if findI U.2.2.2.2.1 U.2.2.2.2.2.2 (V (r * 12 + n)) (A (r * 12 + n)) = -1 ∧ U.2.2.2.2.2.2 < 96 then U.2.2.2.2.2.2 + 1 else U.2.2.2.2.2.2) := by
      rw [← hU]; rfl
    have e3 : sumI (fun b => if fsI g r b = 1 then 1 else 0) (n + 1) = sumI (fun b => if fsI g r b = 1 then 1 else 0) n + (if fsI g r (n : Int) = 1 then 1 else 0) := rfl
    rw [e2, e3]
    (try dsimp only at q)
    rcases fs with ⟨f1, f2⟩ | ⟨f1, f2⟩
    · rw [f2, if_pos rfl]
      rcases q with ⟨q1, q2⟩ | ⟨q1, q2, q3⟩
      · rw [if_pos ⟨q1, by omega⟩]; omega
      · omega
    · rw [f2, if_neg (show ¬ ((0 : Int) = 1) by omega)]
      rcases q with ⟨q1, q2⟩ | ⟨q1, q2, q3⟩
      · omega
      · rw [if_neg (fun w => by have := w.1; omega)]; omega
theorem un_all {L V A N g : Int → Int} {y : Int} (hR : RelR L V A N y g) (h8 : y ≤ 8) (hG : AllOk g) (hX : ∀ i, 20 ≤ i → i < 596 → 0 ≤ g i ∧ g i < 100) (hL : ∀ i, 0 ≤ L i ∧ L i ≤ 12) (hA : ∀ i, 0 ≤ A i ∧ A i < 10000) (hV : ∀ i, 0 ≤ V i ∧ V i < 3) (hN : ∀ i, 0 ≤ N i ∧ N i < 40000) (S : LSt) (hz : S.2.2.2.2.2.2 = 0) : ∀ n : Nat, (n : Int) ≤ y → (lnR V A N L (-1) n S).2.2.2.2.2.2 = sumI (fun a => sumI (fun b => if fsI g a b = 1 then 1 else 0) (g (10 + a)).toNat) n
  | 0, _ => hz
  | n + 1, hn => by
    have ih := un_all hR h8 hG hX hL hA hV hN S hz n (by omega)
    have a := hL n
    have tq := tab_all (e := -1) hR h8 hL hA hV hN S hz n (by omega)
    have e1 : lnR V A N L (-1) (n + 1) S = if (n : Int) = -1 then lnR V A N L (-1) n S else nP (lrS V A N) n (L n).toNat (lnC (lnR V A N L (-1) n S)) := rfl
    have e3 : sumI (fun a => sumI (fun b => if fsI g a b = 1 then 1 else 0) (g (10 + a)).toNat) (n + 1) = sumI (fun a => sumI (fun b => if fsI g a b = 1 then 1 else 0) (g (10 + a)).toNat) n + sumI (fun b => if fsI g (n : Int) b = 1 then 1 else 0) (g (10 + (n : Int))).toNat := rfl
    rw [e1, if_neg (by omega), e3, un_row (r := (n : Int)) (m := 12 * n) hR h8 hG hX hL hA hV hN (by omega) (by omega) (lnR V A N L (-1) n S) (by rw [(show ((n : Int)).toNat = n by omega)]; exact tq) (L n).toNat (by omega) (by omega), ih, hR.2.1 n (by omega) (by omega)]
theorem un_eq {L V A N g c1 b1 g1 t1 a1 d1 : Int → Int} {y z1 : Int} (hR : RelR L V A N y g) (hO : RowsOk L V A N y) (hX : ∀ i, 20 ≤ i → i < 596 → 0 ≤ g i ∧ g i < 100) (hG : AllOk g) {S : LSt} (hz : S.2.2.2.2.2.2 = 0) (hl : lnR V A N L (-1) y.toNat S = (c1, b1, g1, t1, a1, d1, z1)) : z1 = ctI g 5 := by
  obtain ⟨y0, y1, hL, hV, hA, hN⟩ := hO
  have u := un_all hR y1 hG hX hL hA hV hN S hz y.toNat (by omega)
  rw [hl] at u
  have u2 : z1 = sumI (fun a => sumI (fun b => if fsI g a b = 1 then 1 else 0) (g (10 + a)).toNat) y.toNat := u
  rw [u2]
  unfold ctI
  rw [if_neg (by omega), if_neg (by omega), if_pos rfl, hR.1]
