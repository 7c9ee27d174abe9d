/-! LAYER 2: what the reference's numbers keep to -/
def GOk (g : Int → Int) (m : Int) : Prop := AllOk g ∧ VbOk g ∧ (∀ i, 20 ≤ i → i < 596 → 0 ≤ g i ∧ g i < 100) ∧ OldOk g ∧ RnOk g ∧ (g 1 = 0 ∨ g 1 = 1) ∧ (0 ≤ g 3 ∧ g 3 ≤ m) ∧ (0 ≤ g 4 ∧ g 4 ≤ m) ∧ ∀ v, 0 ≤ v → v < 3 → 0 ≤ g (1340 + v) ∧ g (1340 + v) ≤ m
def GU (i x m : Int) : Prop := (i = 0 ∧ 0 ≤ x ∧ x ≤ 8) ∨ (i = 1 ∧ (x = 0 ∨ x = 1)) ∨ (i = 2 ∧ 0 ≤ x ∧ x < 4) ∨ ((i = 3 ∨ i = 4) ∧ 0 ≤ x ∧ x ≤ m) ∨ ((i = 5 ∨ i = 6) ∧ -100000 ≤ x ∧ x ≤ 100000) ∨ ((10 ≤ i ∧ i < 18) ∧ 0 ≤ x ∧ x ≤ 12) ∨ ((20 ≤ i ∧ i < 596) ∧ (0 ≤ x ∧ x < 100) ∧ ((i - 20) % 6 = 0 → x < 3)) ∨ ((1240 ≤ i ∧ i < 1340) ∧ 0 ≤ x ∧ x ≤ 100) ∨ ((1340 ≤ i ∧ i < 1343) ∧ 0 ≤ x ∧ x ≤ m)
theorem GOk.mono {g : Int → Int} {m m2 : Int} (h : GOk g m) (hm : m ≤ m2) : GOk g m2 := by
  obtain ⟨h1, h2, h3, h4, h5, h6, h7, h8, h9⟩ := h
  exact ⟨h1, h2, h3, h4, h5, h6, by omega, by omega, fun v a b => by have := h9 v a b; omega⟩
theorem GOk.up {g : Int → Int} {m i x : Int} (h : GOk g m) (hm : m ≤ 50000) (hu : GU i x m) : GOk (upI g i x) m := by
  obtain ⟨⟨a1, a2, a3⟩, h2, h3, ⟨o1, o2⟩, ⟨n1, n2, n3, n4, n5⟩, h6, h7, h8, h9⟩ := h
  unfold GU at hu
  refine ⟨⟨fun j => ?_, ?_, fun r r0 r1 => ?_⟩, fun r p r0 r1 p0 p1 => ?_, fun j j0 j1 => ?_, ⟨fun r r0 r1 => ?_, fun j j0 j1 => ?_⟩, ⟨?_, fun j j0 j1 => ?_, fun j j0 j1 => ?_, fun j j0 j1 => ?_, fun j j0 j1 => ?_⟩, ?_, ?_, ?_, fun v v0 v1 => ?_⟩
  · have := a1 j; unfold upI; split <;> omega
  · unfold upI; split <;> omega
  · have := a3 r r0 r1; unfold upI; split <;> omega
  · have := h2 r p r0 r1 p0 p1; unfold upI; split <;> omega
  · have := h3 j j0 j1; unfold upI; split <;> omega
  · have := o1 r r0 r1; unfold upI; split <;> omega
  · have := o2 j j0 j1; unfold upI; split <;> omega
  · unfold upI; split <;> omega
  · have := n2 j j0 j1; unfold upI; split <;> omega
  · have := n3 j j0 j1; unfold upI; split <;> omega
  · have := n4 j j0 j1; unfold upI; split <;> omega
  · have := n5 j j0 j1; unfold upI; split <;> omega
  · unfold upI; split <;> omega
  · unfold upI; split <;> omega
  · unfold upI; split <;> omega
  · have := h9 v v0 v1; unfold upI; split <;> omega
theorem GOk.cong {g g' : Int → Int} {m : Int} (h : GOk g m) (hb : ∀ i, -100000 ≤ g' i ∧ g' i ≤ 100000) (he : ∀ i, 0 ≤ i → i < 1350 → g' i = g i) : GOk g' m := by
  obtain ⟨⟨a1, a2, a3⟩, h2, h3, ⟨o1, o2⟩, ⟨n1, n2, n3, n4, n5⟩, h6, h7, h8, h9⟩ := h
  refine ⟨⟨hb, ?_, fun r r0 r1 => ?_⟩, fun r p r0 r1 p0 p1 => ?_, fun j j0 j1 => ?_, ⟨fun r r0 r1 => ?_, fun j j0 j1 => ?_⟩, ⟨?_, fun j j0 j1 => ?_, fun j j0 j1 => ?_, fun j j0 j1 => ?_, fun j j0 j1 => ?_⟩, ?_, ?_, ?_, fun v v0 v1 => ?_⟩
  · rw [he _ (by omega) (by omega)]; exact a2
  · rw [he _ (by omega) (by omega)]; exact a3 r r0 r1
  · rw [he _ (by omega) (by omega)]; exact h2 r p r0 r1 p0 p1
  · rw [he _ (by omega) (by omega)]; exact h3 j j0 j1
  · rw [he _ (by omega) (by omega)]; exact o1 r r0 r1
  · rw [he _ (by omega) (by omega)]; exact o2 j j0 j1
  · rw [he _ (by omega) (by omega)]; exact n1
  · rw [he _ (by omega) (by omega)]; exact n2 j j0 j1
  · rw [he _ (by omega) (by omega)]; exact n3 j j0 j1
  · rw [he _ (by omega) (by omega)]; exact n4 j j0 j1
  · rw [he _ (by omega) (by omega)]; exact n5 j j0 j1
  · rw [he _ (by omega) (by omega)]; exact h6
  · rw [he _ (by omega) (by omega)]; exact h7
  · rw [he _ (by omega) (by omega)]; exact h8
  · rw [he _ (by omega) (by omega)]; exact h9 v v0 v1
theorem GOk.row {g : Int → Int} {m : Int} (h : GOk g m) (hm : m ≤ 50000) (h8 : g 0 ≠ 8) : GOk (upI (upI g (10 + g 0) 0) 0 (g 0 + 1)) m := by
  have a := h.1.2.1
  exact (h.up hm (by unfold GU; omega)).up hm (by unfold GU; omega)
theorem GOk.cut {g : Int → Int} {m s v : Int} (h : GOk g m) (hm : m ≤ 50000) (hs : 0 ≤ s ∧ s < 8) (hv : 0 ≤ v ∧ v ≤ 12) : GOk (upI g (10 + s) v) m := h.up hm (by unfold GU; omega)
theorem GOk.ex {g : Int → Int} {m x v s y : Int} (h : GOk g m) (hm : m ≤ 50000) (hx : 0 ≤ x ∧ x < 8) (hl : g (10 + x) < 12) (hv : 0 ≤ v ∧ v ≤ 2) (hs : 0 ≤ s ∧ s ≤ 9999) (hy : 0 ≤ y ∧ y ≤ 39999) : GOk (exI g x v s y) m := by
  have a := h.1.2.2 x hx.1 hx.2
  unfold exI exA
  refine GOk.up (GOk.up (GOk.up (GOk.up (GOk.up (GOk.up (GOk.up h hm ?_) hm ?_) hm ?_) hm ?_) hm ?_) hm ?_) hm ?_ <;> (unfold GU; omega)
theorem GOk.missed {g : Int → Int} {m : Int} (h : GOk g m) (hm : m + 1 ≤ 50000) : GOk (upI g 4 (g 4 + 1)) (m + 1) := by
  have a := h.2.2.2.2.2.2.2.1
  exact (h.mono (show m ≤ m + 1 by omega)).up hm (by unfold GU; omega)
theorem GOk.say {g : Int → Int} {m v s : Int} (h : GOk g m) (hm : m + 1 ≤ 50000) (hv : 0 ≤ v ∧ v ≤ 2) (hs : 0 ≤ s ∧ s ≤ 9999) (ht : 0 ≤ g (1190 + (3 * g 2 + v)) ∧ g (1190 + (3 * g 2 + v)) < 4) : GOk (syI g v s) (m + 1) := by
  have b0 := syM_bd h.2.2.2.2.1 h.2.2.2.1 hv hs 0 (by omega)
  have b1 := syM_bd h.2.2.2.2.1 h.2.2.2.1 hv hs 1 (by omega)
  have a3 := h.2.2.2.2.2.2.1
  have a9 := h.2.2.2.2.2.2.2.2 v (by omega) (by omega)
  unfold syI
  refine GOk.up (GOk.up (GOk.up (GOk.up (GOk.up (GOk.up (h.mono (show m ≤ m + 1 by omega)) hm ?_) hm ?_) hm ?_) hm ?_) hm ?_) hm ?_ <;> (unfold GU; omega)
theorem GOk.beg0 {g : Int → Int} {m : Int} (h : GOk g m) (h0 : 0 ≤ m) (hm : m ≤ 50000) : GOk (upI (upI (upI g 1 0) 5 (-1000)) 6 (-1000)) m := by
  refine GOk.up (GOk.up (GOk.up h hm ?_) hm ?_) hm ?_ <;> (unfold GU; omega)
theorem GOk.beg {g t c u : Int → Int} {m : Int} (h : GOk g m) (h0 : 0 ≤ m) (hm : m ≤ 50000) (ht : ∀ j, 0 ≤ j → j < 12 → -1 ≤ t j ∧ t j < 4) (hc : ∀ j, -100000 ≤ c j ∧ c j ≤ 100000) (hu : ∀ j, 0 ≤ j → j < 12 → -1000 ≤ u j ∧ u j ≤ 1000) : GOk (bgN g t c u) m := by
  have b1 := bgN_1 (g := g) (t := t) (c := c) (u := u)
  obtain ⟨⟨a1, a2, a3⟩, h2, h3, ⟨o1, o2⟩, ⟨n1, n2, n3, n4, n5⟩, h6, h7, h8, h9⟩ := h
  have len : ∀ r, 0 ≤ r → r < 8 → 0 ≤ bgN g t c u (600 + r) ∧ bgN g t c u (600 + r) ≤ 12 := by
    intro r r0 r1
    rw [bgN_len r0 r1]
    have := a3 r r0 r1
    split <;> omega
  have old : ∀ i, 610 ≤ i → i < 1186 → 0 ≤ bgN g t c u i ∧ bgN g t c u i < 100 := by
    intro i i0 i1
    rw [(show i = 610 + (i - 610) by omega), bgN_old (by omega) (by omega)]
    exact h3 _ (by omega) (by omega)
  refine ⟨⟨fun j => ?_, ?_, fun r r0 r1 => ?_⟩, fun r p r0 r1 p0 p1 => ?_, fun j j0 j1 => ?_, ⟨len, old⟩, ⟨by omega, fun j j0 j1 => ?_, fun j j0 j1 => ?_, fun j j0 j1 => ?_, fun j j0 j1 => ?_⟩, Or.inr b1.1, by omega, by omega, fun v v0 v1 => ?_⟩
  · unfold bgN bgK
    have q0 := a1 (10 + (j - 600))
    have q1 := a1 (20 + (j - 610))
    have q2 := a1 j
    have q3 := hc (j - 1202)
    have G : ∀ k, -100000 ≤ (upI (upI (upI (upI (upI (upI (upI g 1 0) 5 (-1000)) 6 (-1000)) 1 1) 2 0) 3 0) 4 0) k ∧ (upI (upI (upI (upI (upI (upI (upI g 1 0) 5 (-1000)) 6 (-1000)) 1 1) 2 0) 3 0) 4 0) k ≤ 100000 := by
      intro k
      have q := a1 k
      simp only [upI_ap]
      (repeat' split) <;> omega
    split
    · split
      · exact G _
      · omega
    · split
      · exact G _
      · split
        · rename_i w; have := ht (j - 1190) (by omega) (by omega); omega
        · split
          · exact q3
          · split
            · rename_i w; have := hu (j - 1220) (by omega) (by omega); omega
            · split
              · omega
              · split
                · omega
                · exact G _
  · rw [bgN_lo (by omega) (by omega)]; exact a2
  · rw [bgN_lo (by omega) (by omega)]; exact a3 r r0 r1
  · rw [bgN_lo (by omega) (by omega)]; exact h2 r p r0 r1 p0 p1
  · rw [bgN_lo (by omega) (by omega)]; exact h3 j j0 j1
  · rw [(show j = 1190 + (j - 1190) by omega), (bgN_t (by omega) (by omega)).1]; exact ht _ (by omega) (by omega)
  · rw [(show j = 1220 + (j - 1220) by omega), (bgN_t (by omega) (by omega)).2.2]; exact hu _ (by omega) (by omega)
  · rw [(show j = 1240 + (j - 1240) by omega), bgN_lat (by omega) (by omega)]; omega
  · rw [(show j = 1340 + (j - 1340) by omega), bgN_don (by omega) (by omega)]; omega
  · rw [bgN_don v0 v1]; omega
/-- relations hang of the first 1350 numbers alone -/
theorem RelR.cong {L V A N g g' : Int → Int} {y : Int} (hR : RelR L V A N y g) (h8 : y ≤ 8) (hL : ∀ i, 0 ≤ L i ∧ L i ≤ 12) (he : ∀ i, 0 ≤ i → i < 1350 → g' i = g i) : RelR L V A N y g' :=
  SameR.rel ⟨he 0 (by omega) (by omega), fun i a b => he i (by omega) (by omega)⟩ h8 hL hR
theorem RunR.cong {t n k o a b c d l g g' : Int → Int} {z on st an un : Int} (h : RunR t n k o a b z c d l on st an un g) (hO : OldOk g) (he : ∀ i, 0 ≤ i → i < 1350 → g' i = g i) : RunR t n k o a b z c d l on st an un g' := by
  rcases h with ⟨h0, h1, h2, h3⟩ | ⟨h0, h1, ⟨g2, g3, g4, g5, g6⟩, hst, hM, hU, hT, hE⟩
  · exact Or.inl ⟨h0, by rw [he 1 (by omega) (by omega)]; exact h1, by rw [he 5 (by omega) (by omega)]; exact h2, by rw [he 6 (by omega) (by omega)]; exact h3⟩
  · refine Or.inr ⟨h0, by rw [he 1 (by omega) (by omega)]; exact h1, ⟨by rw [he 2 (by omega) (by omega)]; exact g2, by rw [he 3 (by omega) (by omega)]; exact g3, by rw [he 4 (by omega) (by omega)]; exact g4, by rw [he 5 (by omega) (by omega)]; exact g5, by rw [he 6 (by omega) (by omega)]; exact g6⟩, hst, fun j j0 j1 => ?_, fun v f hv hf => ?_, fun v s f hv hs hf => ?_, fun v v0 v1 => ?_, fun a' a0 a1 => ?_⟩
    · rw [he _ (by omega) (by omega), he _ (by omega) (by omega)]; exact hM j j0 j1
    · rw [he _ (by omega) (by omega), he _ (by omega) (by omega)]; exact hU v f hv hf
    · rw [ofI_cong hO (fun i i0 i1 => he i (by omega) (by omega)) (fun i i0 i1 => he i (by omega) (by omega)) _ _ _ _ hf]; exact hT v s f hv hs hf
    · rw [he _ (by omega) (by omega)]; exact hE.1 v v0 v1
    · rw [he _ (by omega) (by omega)]; exact hE.2 a' a0 a1
