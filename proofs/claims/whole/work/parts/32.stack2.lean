theorem holes12 : ∀ (m n : Nat) (f : Nat → Nat), (∀ i, i < n → f i < m) → (∀ i j, i < j → j < n → f i ≠ f j) → n ≤ m
  | 0, n, f, h, _ => by
    rcases Nat.eq_zero_or_pos n with q | q
    · omega
    · exact absurd (h 0 q) (Nat.not_lt_zero _)
  | m + 1, n, f, h, hd => by
    rcases Nat.eq_zero_or_pos n with q | q
    · omega
    · -- leave the last place out; where a place has the value m, it takes the last one's
      have ih := holes12 m (n - 1) (fun i => if f i = m then f (n - 1) else f i) (fun i hi => by
        have h1 := h i (by omega)
        have h2 := h (n - 1) (by omega)
        have h3 := hd i (n - 1) (by omega) (by omega)
        show (if f i = m then f (n - 1) else f i) < m
        split <;> omega) (fun i j hij hj => by
        have h1 := hd i j hij (by omega)
        have h2 := hd i (n - 1) (by omega) (by omega)
        have h3 := hd j (n - 1) (by omega) (by omega)
        show (if f i = m then f (n - 1) else f i) ≠ (if f j = m then f (n - 1) else f j)
        (repeat' split) <;> omega)
      omega
/-- an item whose cell comes for the first time: its first target is 0 -/
theorem Srch.push {ps vb cd t c ac co cs ut : Int → Int} {la : Nat} {n ch us a m : Int} (hv : ∀ i, 0 ≤ vb i ∧ vb i < 3) (hn : n ≤ 4) (h : Srch ps vb cd la n t c ac co cs ut ch us a) (ha : a < la) (he : cel ps vb t a.toNat = m) (hm : t m = -1) : ch < 12 ∧ (0 ≤ m ∧ m < 12) ∧ Srch ps vb cd la n (upI t m 0) (upI c m (cd a)) (upI ac ch a) (upI co ch m) (upI cs ch 0) (upI ut ch us) (ch + 1) us (a + 1) := by
  obtain ⟨⟨h1, h2, h3, h4, h5, h6, h7⟩, s1, s2, s3, s4, s5⟩ := h
  have hco : ∀ j, 0 ≤ j ∧ j < ch → co j ≠ m := fun j hj q => by
    have := h3 j hj
    rw [q, hm] at this
    omega
  have b1 := hv ((a.toNat : Nat) : Int)
  have b2 := s5 a.toNat (by omega)
  have hm12 : 0 ≤ m ∧ m < 12 := by unfold cel at he; omega
  have hch : ch < 12 := by
    have := holes12 12 (ch.toNat + 1) (fun i => if (i : Int) < ch then (co i).toNat else m.toNat) (fun i hi => by
      show (if (i : Int) < ch then (co i).toNat else m.toNat) < 12
      split
      · have := h3 i (by omega); omega
      · omega) (fun i j hij hj => by
      show (if (i : Int) < ch then (co i).toNat else m.toNat) ≠ (if (j : Int) < ch then (co j).toNat else m.toNat)
      have a1 := h3 i (by omega)
      rw [if_pos (by omega)]
      split
      · have a2 := h3 j (by omega)
        have a3 := (h4 i j (by omega) (by omega) (by omega)).2.2
        omega
      · have a3 := hco i (by omega)
        omega)
    omega
  have hcel : ∀ q : Nat, (q : Int) ≤ a → cel ps vb (upI t m 0) q = cel ps vb t q ∧ stt ps vb (upI t m 0) q = stt ps vb t q := by
    intro q hq
    refine cel_up (fun k2 hk2 => ?_)
    obtain ⟨i, hi, _, e2, _⟩ := s3 k2 (by omega)
    rw [e2]
    exact hco i hi
  have u1 : ∀ (f : Int → Int) (x j : Int), j < ch → upI f ch x j = f j := fun f x j hj => upI_ne _ _ (by omega)
  have u2 : ∀ j, 0 ≤ j ∧ j < ch → upI t m 0 (co j) = t (co j) := fun j hj => upI_ne _ _ (hco j hj)
  have u3 : ∀ j, 0 ≤ j ∧ j < ch → upI c m (cd a) (co j) = c (co j) := fun j hj => upI_ne _ _ (hco j hj)
  have hit : ∀ q : Nat, (q : Int) < a → ∃ i, (0 ≤ i ∧ i < ch) ∧ cel ps vb (upI t m 0) q = upI co ch m i ∧ upI ac ch a i ≤ q ∧ upI c m (cd a) (upI co ch m i) = cd (q : Int) := by
    intro q hq
    obtain ⟨i, hi, e1, e2, e3⟩ := s3 q hq
    refine ⟨i, hi, ?_, ?_, ?_⟩
    · rw [(hcel q (by omega)).1, u1 co m i hi.2, e2]
    · rw [u1 ac a i hi.2]; exact e1
    · rw [u1 co m i hi.2, u3 i hi, e3]
  refine ⟨hch, hm12, ⟨by omega, fun x => ?_, fun j hj => ?_, fun i j hi hij hj => ?_, fun j hj => ?_, fun j hj q hq => ?_, fun j hj u hu1 hu2 τ hs hag => ?_⟩, by omega, s2, fun q hq => ?_, fun j hj => ?_, fun q hq => ?_⟩
  · by_cases z : x = m
    · exact Or.inr ⟨ch, by omega, by rw [upI_same]; exact z.symm⟩
    · rcases h2 x with y | ⟨j, hj, y⟩
      · exact Or.inl (by rw [upI_ne _ _ z]; exact y)
      · exact Or.inr ⟨j, by omega, by rw [u1 co m j hj.2]; exact y⟩
  · rcases (show j = ch ∨ (0 ≤ j ∧ j < ch) by omega) with z | z
    · subst z
      rw [upI_same, upI_same, upI_same, upI_same, upI_same]
      exact ⟨hm12, rfl, by omega, by omega, by omega, by omega, by omega, by omega⟩
    · rw [u1 co m j z.2, u1 cs 0 j z.2, u1 ut us j z.2, u1 ac a j z.2, u2 j z]
      exact h3 j z
  · rcases (show j = ch ∨ j < ch by omega) with z | z
    · subst z
      have a4 := s4 i (by omega)
      rw [upI_same, upI_same, upI_same, u1 ac a i hij, u1 cs 0 i hij, u1 co m i hij]
      exact ⟨a4.1, a4.2, hco i (by omega)⟩
    · rw [u1 ac a i (by omega), u1 ac a j z, u1 cs 0 i (by omega), u1 ut us j z, u1 co m i (by omega), u1 co m j z]
      exact h4 i j hi hij z
  · rcases (show j = ch ∨ (0 ≤ j ∧ j < ch) by omega) with z | z
    · subst z
      rw [upI_same, upI_same, upI_same]
      exact ⟨by rw [(hcel _ (by omega)).1]; exact he, rfl, hit⟩
    · have a5 := h5 j z
      have a3 := h3 j z
      have a4 := s4 j z
      rw [u1 ac a j z.2, u1 co m j z.2, u3 j z]
      refine ⟨by rw [(hcel _ (by omega)).1]; exact a5.1, a5.2.1, fun q hq => ?_⟩
      obtain ⟨i, hi, e1, e2, e3⟩ := a5.2.2 q hq
      refine ⟨i, hi, ?_, ?_, ?_⟩
      · rw [(hcel q (by omega)).1, u1 co m i (by omega), e1]
      · rw [u1 ac a i (by omega)]; exact e2
      · rw [u1 co m i (by omega), u3 i (by omega), e3]
  · rcases (show j = ch ∨ (0 ≤ j ∧ j < ch) by omega) with z | z
    · subst z
      rw [upI_same] at hq
      rw [upI_same, (hcel q hq).2]
      exact s5 q hq
    · rw [u1 ac a j z.2] at hq
      have a4 := s4 j z
      rw [u1 ut us j z.2, (hcel q (by omega)).2]
      exact h6 j z q hq
  · rcases (show j = ch ∨ (0 ≤ j ∧ j < ch) by omega) with z | z
    · subst z
      rw [upI_same] at hu2
      omega
    · rw [u1 cs 0 j z.2] at hu2
      rw [u1 co m j z.2]
      refine h7 j z u hu1 hu2 τ hs (fun i hi => ?_)
      have := hag i hi
      rw [u1 co m i (by omega), u2 i (by omega)] at this
      exact this
  · rcases (show (q : Int) = a ∨ (q : Int) < a by omega) with z | z
    · refine ⟨ch, by omega, ?_, ?_, ?_⟩
      · rw [upI_same]; omega
      · rw [upI_same, (hcel q (by omega)).1, (show q = a.toNat by omega)]; exact he
      · rw [upI_same, upI_same, z]
    · obtain ⟨i, hi, e1, e2, e3⟩ := hit q z
      exact ⟨i, by omega, e2, e1, e3⟩
  · rcases (show j = ch ∨ (0 ≤ j ∧ j < ch) by omega) with z | z
    · subst z; rw [upI_same, upI_same]; omega
    · have a4 := s4 j z
      rw [u1 ac a j z.2, u1 cs 0 j z.2]; omega
  · rcases (show (q : Int) = a + 1 ∨ (q : Int) ≤ a by omega) with z | z
    · have e : q = a.toNat + 1 := by omega
      subst e
      show 0 ≤ (if ps ((a.toNat + 1 : Nat) : Int) = 0 then 0 else upI t m 0 (cel ps vb (upI t m 0) a.toNat)) ∧ (if ps ((a.toNat + 1 : Nat) : Int) = 0 then 0 else upI t m 0 (cel ps vb (upI t m 0) a.toNat)) < us
      rw [(hcel a.toNat (by omega)).1, he, upI_same]
      split <;> omega
    · rw [(hcel q z).2]
      exact s5 q z
