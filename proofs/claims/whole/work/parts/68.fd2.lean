/-! LAYER 2: held and fresh -/
theorem fk_cases {g : Int → Int} (hG : AllOk g) (hX : ∀ i, 20 ≤ i → i < 596 → 0 ≤ g i ∧ g i < 100) {f : Int} (hf : 0 ≤ f ∧ f < 2) (v b : Int) : ∀ n : Nat, n ≤ 5 → ((fkI g v f b n).1 = 5 ∨ (fkI g v f b n).1 = 6) ∨ ((0 ≤ (fkI g v f b n).1 ∧ (fkI g v f b n).1 ≤ 4) ∧ -200 ≤ (fkI g v f b n).2 ∧ (fkI g v f b n).2 ≤ 200)
  | 0, _ => by
    show ((if tbI g v f b = 1 then (5 : Int) else 6) = 5 ∨ (if tbI g v f b = 1 then (5 : Int) else 6) = 6) ∨ _
    left
    split <;> omega
  | n + 1, hn => by
    have ih := fk_cases hG hX hf v b n (by omega)
    have h := hsT_bd hG hX (x := 4 - n) (by omega) hf v b
    unfold fkI
    split
    · exact ih
    · right
      (try dsimp only)
      omega
theorem find_nrm (a : Int → Int) {z : Int} (hz : 0 ≤ z ∧ z ≤ 96) (v s : Int) : findI (nrmK 96 a 0) z v s = findI a z v s := by
  have o := find_spec a hz.1 v s
  have n := find_spec (nrmK 96 a 0) hz.1 v s
  rcases o with ⟨o1, o2⟩ | ⟨o1, o2, o3⟩
  · rcases n with ⟨n1, n2⟩ | ⟨n1, n2, n3⟩
    · rw [o1, n1]
    · rw [nrmK_in _ _ _ n1.1 (by omega)] at n2
      exact absurd n2 (o2 _ n1.1 n1.2)
  · rcases n with ⟨n1, n2⟩ | ⟨n1, n2, n3⟩
    · exact absurd (by rw [nrmK_in _ _ _ o1.1 (by omega)]; exact o2) (n2 _ o1.1 o1.2)
    · rw [nrmK_in _ _ _ n1.1 (by omega)] at n2
      rcases Int.lt_trichotomy (findI (nrmK 96 a 0) z v s) (findI a z v s) with w | w | w
      · exact absurd n2 (o3 _ n1.1 w)
      · exact w
      · exact absurd (by rw [nrmK_in _ _ _ o1.1 (by omega)]; exact o2) (n3 _ o1.1 w)
/-- a verb that leads somewhere is there -/
theorem verb_there {L V A N g t c : Int → Int} {y e z : Int} (hR : RelR L V A N y g) (h0 : 0 ≤ y) (hV : ∀ i, 0 ≤ V i ∧ V i < 3) (h : MacC L V N e y z t c) {st v : Int} (hs : 0 ≤ st ∧ st < 4) (hv : 0 ≤ v ∧ v < 3) (ht : t (st * 3 + v) ≠ -1) : thI g v e = 1 := by
  have src : ∀ k, 0 ≤ k → k < (tpF L V N e y.toNat).2.2.2 → ∃ r p, (0 ≤ r ∧ r < (y.toNat : Int)) ∧ r ≠ e ∧ (0 ≤ p ∧ p < L r) ∧ (tpF L V N e y.toNat).2.1 k = V (r * 12 + p) := by
    refine (nR_inv (f := tpS V N) (L := L) (b := e) (Q := fun S : TpT => 0 ≤ S.2.2.2 ∧ ∀ k, 0 ≤ k → k < S.2.2.2 → ∃ r p, (0 ≤ r ∧ r < (y.toNat : Int)) ∧ r ≠ e ∧ (0 ≤ p ∧ p < L r) ∧ S.2.1 k = V (r * 12 + p)) y.toNat (fun _ => 0, fun _ => 0, fun _ => 0, 0) ⟨Int.le_refl _, fun k k0 k1 => by dsimp only at k1; omega⟩ (fun r p S hr hb hp q => ⟨by show 0 ≤ S.2.2.2 + 1; have := q.1; omega, fun k k0 k1 => ?_⟩)).2
    have k1' : k < S.2.2.2 + 1 := k1
    by_cases w : k = S.2.2.2
    · exact ⟨r, p, hr, hb, hp, by rw [w]; exact upI_same _ _ _⟩
    · obtain ⟨r0, p0, a, b, c, d⟩ := q.2 k k0 (by omega)
      exact ⟨r0, p0, a, b, c, (upI_ne _ _ w).trans d⟩
  rcases h with ⟨_, _, h⟩ | ⟨_, hr, ⟨T, C, hB, h⟩, _⟩ | ⟨_, _, _, h⟩
  · exact absurd (h (st * 3 + v) (by omega)).1 ht
  · have e1 := (h (st * 3 + v) (by omega)).1
    rcases hB.2.1 (st * 3 + v) with q | ⟨k, hk, q⟩
    · exact absurd (e1.trans q) ht
    · have tv := tp_tv hV L e y.toNat (N := N) (k : Int)
      unfold cel at q
      obtain ⟨r, p, a, b, c', d⟩ := src (k : Int) (by omega) (by omega)
      have ev : V (r * 12 + p) = v := by rw [← d]; omega
      have g0 := hR.1
      have e2 := hR.2.2 r p a.1 (by omega) c'.1 c'.2
      have e3 := hR.2.1 r a.1 (by omega)
      refine nR_exit (fun r p (s : Int) => if g (20 + 72 * r + 6 * p + 0) = v then 1 else s) (fun r => g (10 + r)) e a.1 (show r < g 0 by omega) b c'.1 (show p < g (10 + r) by omega) ?_ (fun r p => by show (if _ then (1 : Int) else 1) = 1; split <;> rfl)
      rw [nP_up _ _ c'.1]
      exact if_pos (by rw [e2.1]; exact ev)
  · exact absurd (h (st * 3 + v) (by omega)).1 ht
theorem MacC.pos {L V N : Int → Int} {e y r : Int} {t c : Int → Int} (hN : ∀ i, 0 ≤ N i ∧ N i < 40000) (h : MacC L V N e y r t c) : ∀ j, 0 ≤ j → j < 12 → t j ≠ -1 → 0 ≤ c j := by
  have tc : ∀ i, 0 ≤ (tpF L V N e y.toNat).2.2.1 i := by
    refine nR_inv (f := tpS V N) (L := L) (b := e) (Q := fun S : TpT => ∀ i, 0 ≤ S.2.2.1 i) y.toNat _ (fun i => by show (0 : Int) ≤ 0; omega) (fun r p S _ _ _ q j => ?_)
    show 0 ≤ upI S.2.2.1 S.2.2.2 (N (r * 12 + p) / 10000) j
    have a := hN (r * 12 + p)
    have b := q j
    unfold upI
    split <;> omega
  intro j j0 j1 ht
  rcases h with ⟨_, _, h⟩ | ⟨_, hr, ⟨T, C, hB, h⟩, _⟩ | ⟨_, _, _, h⟩
  · exact absurd (h j ⟨j0, j1⟩).1 ht
  · have e1 := h j ⟨j0, j1⟩
    rcases hB.2.1 j with q | ⟨k, hk, q⟩
    · exact absurd (e1.1.trans q) ht
    · have e2 := hB.1 k hk
      have e3 := tc (k : Int)
      rw [q] at e2
      rw [e1.2, if_neg (by omega)]
      omega
  · exact absurd (h j ⟨j0, j1⟩).1 ht
/-- foretelling is making -/
theorem fore_eq {g k o a b c d : Int → Int} {z v f s e : Int} (hG : AllOk g) (hX : ∀ i, 20 ≤ i → i < 596 → 0 ≤ g i ∧ g i < 100) (hf : 0 ≤ f ∧ f < 2) (hs : 0 ≤ s ∧ s < 10000) (hk : k (v * 2 + f) = (rkI g v f e).1) (ho : o (v * 2 + f) = (rkI g v f e).2) (hth : thI g v e = 1) (hc : 0 ≤ c v) (hd : -1 ≤ d (s / 100)) (h5 : k (v * 2 + f) = 5 → findI a z v s ≠ -1 ∧ foI g v (s / 100) (s % 100) f e = fldI (b (findI a z v s)) f ∧ 0 ≤ foI g v (s / 100) (s % 100) f e) :
    fore k o a b z c d v f s = mdI (rkI g v f e).1 (rkI g v f e).2 (s / 100) (s % 100) (c v) (d (s / 100)) (foI g v (s / 100) (s % 100) f e) ∧ ((rkI g v f e).1 = 6 ∨ fore k o a b z c d v f s ≠ -1000) ∧ ((rkI g v f e).1 = 6 → fore k o a b z c d v f s = -1000) := by
  have r1 : rkI g v f e = fkI g v f e 5 := if_pos hth
  have cs := fk_cases hG hX hf v e 5 (Nat.le_refl _)
  rw [← r1] at cs
  generalize (rkI g v f e).1 = K at *
  generalize (rkI g v f e).2 = O at *
  unfold fore baseI mdI
  rw [hk, ho]
  rw [hk] at h5
  rcases cs with (q | q) | ⟨q, w⟩
  · have h6 := h5 q
    rw [if_pos q, if_neg h6.1, ← h6.2.1, if_neg (by omega), if_neg (by omega), if_neg (by omega), if_neg (by omega), if_neg (by omega), if_pos q]
    refine ⟨rfl, ?_, ?_⟩ <;> omega
  · rw [if_neg (by omega), if_pos (Or.inr q), if_neg (by omega), if_neg (by omega), if_neg (by omega), if_neg (by omega), if_neg (by omega), if_neg (by omega)]
    exact ⟨rfl, Or.inl q, fun _ => rfl⟩
  · rw [if_neg (by omega), if_neg (by omega)]
    rcases (show K = 0 ∨ K = 1 ∨ K = 2 ∨ K = 3 ∨ K = 4 by omega) with z1 | z1 | z1 | z1 | z1 <;> subst z1 <;> (refine ⟨?_, Or.inr ?_, fun k => absurd k (by omega)⟩ <;> ((repeat' split) <;> omega))
