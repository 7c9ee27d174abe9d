/-! LAYER 2: numbers against the reference's -/
/-- the rows: both sides -/
def RelR (L V A N : Int → Int) (y : Int) (g : Int → Int) : Prop :=
  g 0 = y ∧ (∀ r, 0 ≤ r → r < y → g (10 + r) = L r) ∧ ∀ r p, 0 ≤ r → r < y → 0 ≤ p → p < L r →
    g (20 + 72 * r + 6 * p + 0) = V (r * 12 + p) ∧ g (20 + 72 * r + 6 * p + 1) = A (r * 12 + p) / 100 ∧ g (20 + 72 * r + 6 * p + 2) = A (r * 12 + p) % 100 ∧ g (20 + 72 * r + 6 * p + 3) = N (r * 12 + p) / 10000 ∧ g (20 + 72 * r + 6 * p + 4) = N (r * 12 + p) / 100 % 100 ∧ g (20 + 72 * r + 6 * p + 5) = N (r * 12 + p) % 100
/-- two folds side by side -/
theorem nP_two {S S' : Type} {f : Int → Int → S → S} {f' : Int → Int → S' → S'} {Q : S → S' → Prop} {r : Int} : ∀ (n : Nat) (s : S) (s' : S'), Q s s' → (∀ p s s', 0 ≤ p ∧ p < (n : Int) → Q s s' → Q (f r p s) (f' r p s')) → Q (nP f r n s) (nP f' r n s')
  | 0, _, _, h, _ => h
  | n + 1, s, s', h, hs => hs n _ _ (by omega) (nP_two n s s' h (fun p s s' hp q => hs p s s' (by omega) q))
theorem nR_two {S S' : Type} {f : Int → Int → S → S} {f' : Int → Int → S' → S'} {L L' : Int → Int} {b : Int} {Q : S → S' → Prop} : ∀ (n : Nat) (s : S) (s' : S'), Q s s' → (∀ r, 0 ≤ r → r < (n : Int) → L r = L' r) → (∀ r p s s', 0 ≤ r ∧ r < (n : Int) → r ≠ b → 0 ≤ p ∧ p < L r → Q s s' → Q (f r p s) (f' r p s')) → Q (nR f L b n s) (nR f' L' b n s')
  | 0, _, _, h, _, _ => h
  | n + 1, s, s', h, hL, hs => by
    have ih := nR_two n s s' h (fun r h0 h1 => hL r h0 (by omega)) (fun r p s s' hr hb hp q => hs r p s s' (by omega) hb hp q)
    show Q (if (n : Int) = b then nR f L b n s else nP f n (L n).toNat (nR f L b n s)) (if (n : Int) = b then nR f' L' b n s' else nP f' n (L' n).toNat (nR f' L' b n s'))
    rw [← hL n (by omega) (by omega)]
    split
    · exact ih
    · rename_i hb
      exact nP_two _ _ _ ih (fun p s s' hp q => hs n p s s' (by omega) hb (by omega) q)
section TP
variable {ps vb cd ps' vb' cd' : Int → Int} {la : Nat}
theorem stt_cong (hp : ∀ k : Nat, k < la → ps k = ps' k) (hv : ∀ k : Nat, k < la → vb k = vb' k) (τ : Int → Int) : ∀ k : Nat, k < la → stt ps vb τ k = stt ps' vb' τ k
  | 0, _ => rfl
  | k + 1, hk => by
    have ih := stt_cong hp hv τ k (by omega)
    show (if ps ((k + 1 : Nat) : Int) = 0 then 0 else τ (3 * stt ps vb τ k + vb (k : Int))) = (if ps' ((k + 1 : Nat) : Int) = 0 then 0 else τ (3 * stt ps' vb' τ k + vb' (k : Int)))
    rw [ih, hp (k + 1) hk, hv k (by omega)]
theorem cel_cong (hp : ∀ k : Nat, k < la → ps k = ps' k) (hv : ∀ k : Nat, k < la → vb k = vb' k) (τ : Int → Int) {k : Nat} (hk : k < la) : cel ps vb τ k = cel ps' vb' τ k := by
  unfold cel
  rw [stt_cong hp hv τ k hk, hv k hk]
theorem SolP.cong (hp : ∀ k : Nat, k < la → ps k = ps' k) (hv : ∀ k : Nat, k < la → vb k = vb' k) (hc : ∀ k : Nat, k < la → cd k = cd' k) {n : Int} {τ : Int → Int} (h : SolP ps vb cd la n τ) : SolP ps' vb' cd' la n τ := by
  refine ⟨h.1, fun k k2 hk hk2 e => ?_⟩
  rw [← hc k hk, ← hc k2 hk2]
  exact h.2 k k2 hk hk2 (by rw [cel_cong hp hv τ hk, cel_cong hp hv τ hk2]; exact e)
theorem BestP.cong (hp : ∀ k : Nat, k < la → ps k = ps' k) (hv : ∀ k : Nat, k < la → vb k = vb' k) (hc : ∀ k : Nat, k < la → cd k = cd' k) {n : Int} {t c : Int → Int} (h : BestP ps vb cd la n t c) : BestP ps' vb' cd' la n t c := by
  have ce : ∀ k : Nat, k < la → cel ps' vb' t k = cel ps vb t k := fun k hk => (cel_cong hp hv t hk).symm
  refine ⟨fun k hk => ?_, fun m => ?_, fun k hk hf u u0 u1 τ hτ hag => ?_⟩
  · rw [ce k hk, ← hc k hk]; exact h.1 k hk
  · rcases h.2.1 m with q | ⟨k, hk, q⟩
    · exact Or.inl q
    · exact Or.inr ⟨k, hk, by rw [ce k hk]; exact q⟩
  · rw [ce k hk] at u1 ⊢
    refine h.2.2 k hk (fun k2 hk2 => ?_) u u0 u1 τ (SolP.cong (fun k hk => (hp k hk).symm) (fun k hk => (hv k hk).symm) (fun k hk => (hc k hk).symm) hτ) (fun k2 hk2 => ?_)
    · have := hf k2 hk2
      rw [ce k hk, ce k2 (by omega)] at this
      exact this
    · have := hag k2 hk2
      rw [ce k2 (by omega)] at this
      exact this
end TP
/-- the tapes are one -/
theorem tape_eq {L V A N g lr lp lr1 lp1 : Int → Int} {y e la1 : Int} (hR : RelR L V A N y g) (hy : 0 ≤ y) (hl : lyI g e lr lp = (lr1, lp1, la1)) : la1 = (tpF L V N e y.toNat).2.2.2 ∧ 0 ≤ la1 ∧ ∀ k : Nat, k < la1.toNat → tpP lp1 la1 k = (tpF L V N e y.toNat).1 k ∧ tpV g lr1 lp1 la1 k = (tpF L V N e y.toNat).2.1 k ∧ tpC g lr1 lp1 la1 k = (tpF L V N e y.toNat).2.2.1 k := by
  obtain ⟨h0, h1, h2⟩ := hR
  have key := nR_two (f := lyS) (f' := tpS V N) (L := fun r => g (10 + r)) (L' := L) (b := e) (Q := fun (S : (Int → Int) × (Int → Int) × Int) (U : TpT) => 0 ≤ S.2.2 ∧ S.2.2 = U.2.2.2 ∧ ∀ k, 0 ≤ k → k < S.2.2 → S.2.1 k = U.1 k ∧ g (20 + 72 * S.1 k + 6 * S.2.1 k + 0) = U.2.1 k ∧ g (20 + 72 * S.1 k + 6 * S.2.1 k + 3) = U.2.2.1 k) (g 0).toNat (lr, lp, 0) (fun _ => 0, fun _ => 0, fun _ => 0, 0) ⟨Int.le_refl _, rfl, fun k k0 k1 => by dsimp only at k1; omega⟩ (fun r r0 r1 => h1 r r0 (by omega)) (fun r p S U hr _ hp hq => by
    have hp2 : 0 ≤ p ∧ p < g (10 + r) := hp
    rw [h1 r hr.1 (by omega)] at hp2
    have e := h2 r p hr.1 (by omega) hp2.1 hp2.2
    obtain ⟨q0, q1, q2⟩ := hq
    refine ⟨by show 0 ≤ S.2.2 + 1; omega, by show S.2.2 + 1 = U.2.2.2 + 1; omega, fun k k0 k1 => ?_⟩
    have k1' : k < S.2.2 + 1 := k1
    show upI S.2.1 S.2.2 p k = upI U.1 U.2.2.2 p k ∧ g (20 + 72 * upI S.1 S.2.2 r k + 6 * upI S.2.1 S.2.2 p k + 0) = upI U.2.1 U.2.2.2 (V (r * 12 + p)) k ∧ g (20 + 72 * upI S.1 S.2.2 r k + 6 * upI S.2.1 S.2.2 p k + 3) = upI U.2.2.1 U.2.2.2 (N (r * 12 + p) / 10000) k
    rw [← q1]
    by_cases z : k = S.2.2
    · subst z
      rw [upI_same, upI_same, upI_same, upI_same, upI_same]
      exact ⟨rfl, e.1, e.2.2.2.1⟩
    · rw [upI_ne _ _ z, upI_ne _ _ z, upI_ne _ _ z, upI_ne _ _ z, upI_ne _ _ z]
      exact q2 k k0 (by omega))
  have e2 : nR lyS (fun r => g (10 + r)) e (g 0).toNat (lr, lp, 0) = (lr1, lp1, la1) := hl
  rw [e2, h0] at key
  have e3 : nR (tpS V N) L e y.toNat (fun _ => 0, fun _ => 0, fun _ => 0, 0) = tpF L V N e y.toNat := rfl
  rw [e3] at key
  obtain ⟨k0, k1, k2⟩ := key
  have k0' : 0 ≤ la1 := k0
  refine ⟨k1, k0, fun k hk => ?_⟩
  have a := k2 (k : Int) (by omega) (by show (k : Int) < la1; omega)
  unfold tpP tpV tpC
  rw [if_pos (by omega), if_pos (by omega), if_pos (by omega)]
  exact a
/-- the machines are one -/
theorem mac_eq {L V A N g lr lp lr1 lp1 t1 c1 t c : Int → Int} {y e la1 mr z : Int} (hR : RelR L V A N y g) (hy : 0 ≤ y) (hl : lyI g e lr lp = (lr1, lp1, la1)) (hm : MacR g e mr lr1 lp1 la1 t1 c1) (hc : MacC L V N e y z t c) : mr = z ∧ (1 ≤ mr → ∀ j, 0 ≤ j → j < 12 → t1 j = t j ∧ (t j ≠ -1 → c1 j = c j) ∧ (t j = -1 → c j = -1)) := by
  obtain ⟨h1, h2, h3⟩ := tape_eq (lr1 := lr1) (lp1 := lp1) hR hy hl
  have sol : ∀ n τ, SolP (tpP lp1 la1) (tpV g lr1 lp1 la1) (tpC g lr1 lp1 la1) la1.toNat n τ ↔ SolP (tpF L V N e y.toNat).1 (tpF L V N e y.toNat).2.1 (tpF L V N e y.toNat).2.2.1 (tpF L V N e y.toNat).2.2.2.toNat n τ := by
    intro n τ
    rw [← h1]
    exact ⟨SolP.cong (fun k hk => (h3 k hk).1) (fun k hk => (h3 k hk).2.1) (fun k hk => (h3 k hk).2.2), SolP.cong (fun k hk => (h3 k hk).1.symm) (fun k hk => (h3 k hk).2.1.symm) (fun k hk => (h3 k hk).2.2.symm)⟩
  rcases hm with ⟨a1, a2, a3⟩ | ⟨a1, a2, a3, a4⟩ | ⟨a1, a2, a3⟩
  · rcases hc with ⟨b1, b2, b3⟩ | ⟨b1, _⟩ | ⟨b1, _⟩
    · exact ⟨by omega, fun q => by omega⟩
    · omega
    · omega
  · have a5 : BestP (tpF L V N e y.toNat).1 (tpF L V N e y.toNat).2.1 (tpF L V N e y.toNat).2.2.1 (tpF L V N e y.toNat).2.2.2.toNat mr t1 c1 := by
      rw [← h1]
      exact BestP.cong (fun k hk => (h3 k hk).1) (fun k hk => (h3 k hk).2.1) (fun k hk => (h3 k hk).2.2) a3
    rcases hc with ⟨b1, b2, b3⟩ | ⟨b1, b2, ⟨T, C, b3, b4⟩, b5⟩ | ⟨b1, b2, b3, b4⟩
    · omega
    · have hz : mr = z := by
        rcases Int.lt_trichotomy mr z with q | q | q
        · exact absurd (BestP.sol (by omega) a5).1 (b5 mr (by omega) _)
        · exact q
        · exact absurd ((sol _ _).mpr (BestP.sol (by omega) b3).1) (a4 z (by omega) _)
      subst hz
      refine ⟨rfl, fun _ j j0 j1 => ?_⟩
      have u := BestP.uniq (by omega) a5 b3 j
      have w := b4 j ⟨j0, j1⟩
      rw [w.1, w.2]
      refine ⟨u.1, fun q => ?_, fun q => if_pos q⟩
      rw [if_neg q]
      exact u.2 (by rw [u.1]; exact q)
    · exact absurd (BestP.sol (by omega) a5).1 (b3 mr (by omega) _)
  · rcases hc with ⟨b1, b2, b3⟩ | ⟨b1, b2, ⟨T, C, b3, b4⟩, b5⟩ | ⟨b1, b2, b3, b4⟩
    · omega
    · exact absurd ((sol _ _).mpr (BestP.sol (by omega) b3).1) (a3 z (by omega) _)
    · exact ⟨by omega, fun q => by omega⟩
