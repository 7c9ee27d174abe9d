/-! LAYER 2: the run -/
def RunM (t n : Int → Int) (g : Int → Int) : Prop := ∀ j, 0 ≤ j → j < 12 → g (1190 + j) = t j ∧ (t j ≠ -1 → g (1202 + j) = n j ∧ 0 ≤ n j) ∧ (t j = -1 → n j = -1) ∧ -1 ≤ t j ∧ t j < 4
def RunU (k o : Int → Int) (g : Int → Int) : Prop := ∀ v f, 0 ≤ v ∧ v < 3 → 0 ≤ f ∧ f < 2 → k (v * 2 + f) = g (1220 + 4 * v + 2 * f) ∧ o (v * 2 + f) = g (1220 + 4 * v + 2 * f + 1) ∧ -1 ≤ k (v * 2 + f) ∧ k (v * 2 + f) ≤ 6
def RunT (a b : Int → Int) (z : Int) (g : Int → Int) : Prop := ∀ v s f, 0 ≤ v ∧ v < 3 → 0 ≤ s ∧ s < 10000 → 0 ≤ f ∧ f < 2 → (findI a z v s = -1 ∧ ofI g v (s / 100) (s % 100) f = -1) ∨ (0 ≤ findI a z v s ∧ ofI g v (s / 100) (s % 100) f = fldI (b (findI a z v s)) f ∧ 0 ≤ ofI g v (s / 100) (s % 100) f)
def RunE (c d : Int → Int) (g : Int → Int) : Prop := (∀ v, 0 ≤ v → v < 3 → c v = g (1340 + v) ∧ 0 ≤ c v) ∧ ∀ a, 0 ≤ a → a < 100 → d a = g (1240 + a) - 1 ∧ -1 ≤ d a
/-- the runs: off, or on and one -/
def RunR (t n k o a b : Int → Int) (z : Int) (c d l : Int → Int) (on st an un : Int) (g : Int → Int) : Prop :=
  (on = 0 ∧ g 1 = 0 ∧ g 5 = -1000 ∧ g 6 = -1000) ∨
  (on = 1 ∧ g 1 = 1 ∧ (g 2 = st ∧ g 3 = an ∧ g 4 = un ∧ g 5 = l 0 ∧ g 6 = l 1) ∧ (0 ≤ st ∧ st < 4) ∧ RunM t n g ∧ RunU k o g ∧ RunT a b z g ∧ RunE c d g)
theorem fore_md {k o a b c d : Int → Int} {z v f s K O T D E9 : Int} (hk : k (v * 2 + f) = K) (ho : o (v * 2 + f) = O) (hK : -1 ≤ K ∧ K ≤ 6) (hs : 0 ≤ s ∧ s < 10000) (hc : c v = D) (h0 : 0 ≤ D) (hd : d (s / 100) = E9) (h1 : -1 ≤ E9) (h5 : K = 5 → findI a z v s ≠ -1 ∧ T = fldI (b (findI a z v s)) f) : fore k o a b z c d v f s = mdI K O (s / 100) (s % 100) D E9 T := by
  unfold fore baseI mdI
  rw [hk, ho, hc, hd]
  rcases (show K = 5 ∨ (K = -1 ∨ K = 6) ∨ (0 ≤ K ∧ K ≤ 4) by omega) with q | q | q
  · have h6 := h5 q
    rw [if_pos q, if_neg h6.1, h6.2, if_neg (by omega), if_neg (by omega), if_neg (by omega), if_neg (by omega), if_neg (by omega), if_pos q]
  · rw [if_neg (by omega), if_pos q, if_neg (by omega), if_neg (by omega), if_neg (by omega), if_neg (by omega), if_neg (by omega), if_neg (by omega)]
  · rw [if_neg (by omega), if_neg (by omega)]
    rcases (show K = 0 ∨ K = 1 ∨ K = 2 ∨ K = 3 ∨ K = 4 by omega) with z1 | z1 | z1 | z1 | z1 <;> subst z1 <;> ((repeat' split) <;> omega)
theorem syI_at {g : Int → Int} {v s j : Int} (hv : 0 ≤ v ∧ v ≤ 2) (hs : 0 ≤ s ∧ s ≤ 9999) (h : j ≠ 2 ∧ j ≠ 3 ∧ j ≠ 5 ∧ j ≠ 6 ∧ j ≠ 1340 + v ∧ j ≠ 1240 + s / 100) : syI g v s j = g j := by
  unfold syI
  rw [upI_ne _ _ (by omega), upI_ne _ _ (by omega), upI_ne _ _ (by omega), upI_ne _ _ (by omega), upI_ne _ _ (by omega), upI_ne _ _ (by omega)]
theorem say_eq {t n k o a b c d l c9 d9 l9 g : Int → Int} {z st an un st9 an9 un9 v s r : Int} (h : RunR t n k o a b z c d l 1 st an un g) (hO : OldOk g) (hv : 0 ≤ v ∧ v ≤ 2) (hs : 0 ≤ s ∧ s ≤ 9999) (ha : AnS t n k o a b z c d l st an un v s r c9 d9 l9 st9 an9 un9) :
    (syK g v s ∧ r = g (1202 + (3 * g 2 + v)) ∧ RunR t n k o a b z c9 d9 l9 1 st9 an9 un9 (syI g v s)) ∨ (¬ syK g v s ∧ r = -2 ∧ RunR t n k o a b z c9 d9 l9 1 st9 an9 un9 (upI g 4 (g 4 + 1))) := by
  rcases h with h | ⟨_, g1, ⟨g2, g3, g4, g5, g6⟩, hst, hM, hU, hT, hE⟩
  · have := h.1; omega
  have m := hM (st * 3 + v) (by omega) (by omega)
  have u0 := hU v 0 (by omega) (by omega)
  have u1 := hU v 1 (by omega) (by omega)
  have f0 := hT v s 0 (by omega) (by omega) (by omega)
  have f1 := hT v s 1 (by omega) (by omega) (by omega)
  have e3 : 3 * g 2 + v = st * 3 + v := by omega
  have key : syK g v s ↔ ¬ (n (st * 3 + v) = -1 ∨ ((k (v * 2 + 0) = 5 ∨ k (v * 2 + 1) = 5) ∧ findI a z v s = -1)) := by
    unfold syK
    rw [e3, m.1, ← u0.1, ← u1.1]
    constructor
    · rintro ⟨k1, k2, k3⟩ q
      rcases q with q | ⟨q | q, q2⟩
      · have := (m.2.1 (by omega)).2; omega
      · have := k2 q; rcases f0 with w | w; (have := w.2; omega); (have := w.1; omega)
      · have := k3 q; rcases f1 with w | w; (have := w.2; omega); (have := w.1; omega)
    · intro q
      refine ⟨?_, fun w => ?_, fun w => ?_⟩
      · by_cases w : t (st * 3 + v) = -1
        · exact absurd (Or.inl (m.2.2.1 w)) q
        · omega
      · rcases f0 with w2 | w2
        · exact absurd (Or.inr ⟨Or.inl w, w2.1⟩) q
        · exact w2.2.2
      · rcases f1 with w2 | w2
        · exact absurd (Or.inr ⟨Or.inr w, w2.1⟩) q
        · exact w2.2.2
  rcases ha with ⟨h0, h1, h2, h3, h4, h5, h6, h7⟩ | ⟨h0, h1, h2, h3, h4, h5, h6, h7⟩
  · right
    refine ⟨fun q => (key.mp q) h0, h1, Or.inr ⟨rfl, ?_, ⟨?_, ?_, ?_, ?_, ?_⟩, by rw [h5]; exact hst, ?_, ?_, ?_, ?_⟩⟩
    · rw [upI_ne _ _ (by omega)]; exact g1
    · rw [upI_ne _ _ (by omega), h5]; exact g2
    · rw [upI_ne _ _ (by omega), h6]; exact g3
    · rw [upI_same, h7, g4]
    · rw [upI_ne _ _ (by omega), h4]; exact g5
    · rw [upI_ne _ _ (by omega), h4]; exact g6
    · intro j j0 j1
      rw [upI_ne _ _ (by omega), upI_ne _ _ (by omega)]; exact hM j j0 j1
    · intro v' f' hv' hf'
      rw [upI_ne _ _ (by omega), upI_ne _ _ (by omega)]; exact hU v' f' hv' hf'
    · intro v' s' f' hv' hs' hf'
      rw [ofI_cong hO (fun i i0 i1 => upI_ne _ _ (by omega)) (fun i i0 i1 => upI_ne _ _ (by omega)) _ _ _ _ hf']
      exact hT v' s' f' hv' hs' hf'
    · rw [h2, h3]
      refine ⟨fun v' a0 a1 => ?_, fun a' a0 a1 => ?_⟩
      · rw [upI_ne _ _ (by omega)]; exact hE.1 v' a0 a1
      · rw [upI_ne _ _ (by omega)]; exact hE.2 a' a0 a1
  · left
    have hn : n (st * 3 + v) ≠ -1 := fun q => h0 (Or.inl q)
    have ht : t (st * 3 + v) ≠ -1 := fun q => hn (m.2.2.1 q)
    have m2 := m.2.1 ht
    have cv := hE.1 v (by omega) (by omega)
    have dv := hE.2 (s / 100) (by omega) (by omega)
    have F0 := fore_md (T := ofI g v (s / 100) (s % 100) 0) u0.1 u0.2.1 (by have := u0.1; omega) (show 0 ≤ s ∧ s < 10000 by omega) cv.1 (by omega) dv.1 (by omega) (fun q => by
      rcases f0 with w | w
      · exact absurd (Or.inr ⟨Or.inl (by rw [u0.1]; exact q), w.1⟩) h0
      · exact ⟨by omega, w.2.1⟩) (a := a) (b := b) (z := z)
    have F1 := fore_md (T := ofI g v (s / 100) (s % 100) 1) u1.1 u1.2.1 (by have := u1.1; omega) (show 0 ≤ s ∧ s < 10000 by omega) cv.1 (by omega) dv.1 (by omega) (fun q => by
      rcases f1 with w | w
      · exact absurd (Or.inr ⟨Or.inr (by rw [u1.1]; exact q), w.1⟩) h0
      · exact ⟨by omega, w.2.1⟩) (a := a) (b := b) (z := z)
    have sat : ∀ j, (j ≠ 2 ∧ j ≠ 3 ∧ j ≠ 5 ∧ j ≠ 6 ∧ j ≠ 1340 + v ∧ j ≠ 1240 + s / 100) → syI g v s j = g j := fun j hj => syI_at hv hs hj
    have s2 : syI g v s 2 = t (st * 3 + v) := by
      unfold syI
      rw [upI_same, e3, m.1]
    have s3 : syI g v s 3 = an + 1 := by
      unfold syI
      rw [upI_ne _ _ (by omega), upI_same, g3]
    have s5 : syI g v s 5 = syM g v s 0 := by
      unfold syI
      rw [upI_ne _ _ (by omega), upI_ne _ _ (by omega), upI_ne _ _ (by omega), upI_ne _ _ (by omega), upI_ne _ _ (by omega)]
      exact upI_same _ _ _
    have s6 : syI g v s 6 = syM g v s 1 := by
      unfold syI
      rw [upI_ne _ _ (by omega), upI_ne _ _ (by omega), upI_ne _ _ (by omega), upI_ne _ _ (by omega)]
      exact upI_same _ _ _
    refine ⟨key.mpr h0, by rw [h1, e3, m2.1], Or.inr ⟨rfl, ?_, ⟨?_, ?_, ?_, ?_, ?_⟩, by rw [h5]; omega, ?_, ?_, ?_, ?_⟩⟩
    · rw [sat 1 (by omega)]; exact g1
    · rw [s2, h5]
    · rw [s3, h6]
    · rw [sat 4 (by omega), h7]; exact g4
    · rw [s5, h4, upI_ne _ _ (by omega), upI_same, F0]; rfl
    · rw [s6, h4, upI_same, F1]; rfl
    · intro j j0 j1
      rw [sat _ (by omega), sat _ (by omega)]; exact hM j j0 j1
    · intro v' f' hv' hf'
      rw [sat _ (by omega), sat _ (by omega)]; exact hU v' f' hv' hf'
    · intro v' s' f' hv' hs' hf'
      rw [ofI_cong hO (fun i i0 i1 => sat _ (by omega)) (fun i i0 i1 => sat _ (by omega)) _ _ _ _ hf']
      exact hT v' s' f' hv' hs' hf'
    · rw [h2, h3]
      refine ⟨fun v' a0 a1 => ?_, fun a' a0 a1 => ?_⟩
      · have e := hE.1 v' a0 a1
        by_cases w : v' = v
        · subst w
          have e2 : syI g v' s (1340 + v') = g (1340 + v') + 1 := by
            unfold syI
            rw [upI_ne _ _ (by omega), upI_ne _ _ (by omega), upI_same]
          rw [upI_same, e2]; omega
        · rw [upI_ne _ _ w, sat _ (by omega)]; exact e
      · have e := hE.2 a' a0 a1
        by_cases w : a' = s / 100
        · subst w
          have e2 : syI g v s (1240 + s / 100) = s % 100 + 1 := by
            unfold syI
            rw [upI_ne _ _ (by omega), upI_ne _ _ (by omega), upI_ne _ _ (by omega), upI_same]
          rw [upI_same, e2]; omega
        · rw [upI_ne _ _ w, sat _ (by omega)]; exact e
