/-! THE REFERENCE'S SEARCH: a stack of choices; what is kept of it -/
def Stk (ps vb cd : Int → Int) (la : Nat) (n : Int) (t c ac co cs ut : Int → Int) (ch : Int) : Prop :=
  (0 ≤ ch ∧ ch ≤ 12) ∧
  (∀ m, t m = -1 ∨ ∃ j, (0 ≤ j ∧ j < ch) ∧ co j = m) ∧
  (∀ j, 0 ≤ j ∧ j < ch → (0 ≤ co j ∧ co j < 12) ∧ t (co j) = cs j ∧ (0 ≤ cs j ∧ cs j < n) ∧ cs j ≤ ut j ∧ 1 ≤ ut j ∧ ut j ≤ n ∧ 0 ≤ ac j ∧ ac j < la) ∧
  (∀ i j, 0 ≤ i → i < j → j < ch → ac i < ac j ∧ cs i < ut j ∧ co i ≠ co j) ∧
  (∀ j, 0 ≤ j ∧ j < ch → cel ps vb t (ac j).toNat = co j ∧ c (co j) = cd (ac j) ∧ ∀ k : Nat, (k : Int) < ac j → ∃ i, (0 ≤ i ∧ i < j) ∧ cel ps vb t k = co i ∧ ac i ≤ k ∧ c (co i) = cd (k : Int)) ∧
  (∀ j, 0 ≤ j ∧ j < ch → ∀ k : Nat, (k : Int) ≤ ac j → 0 ≤ stt ps vb t k ∧ stt ps vb t k < ut j) ∧
  (∀ j, 0 ≤ j ∧ j < ch → ∀ u, 0 ≤ u → u < cs j → ∀ τ, SolP ps vb cd la n τ → (∀ i, 0 ≤ i ∧ i < j → τ (co i) = t (co i)) → τ (co j) ≠ u)
/-- no machine has all the choices -/
def NoAll (ps vb cd : Int → Int) (la : Nat) (n : Int) (t co : Int → Int) (ch : Int) : Prop := ∀ τ, SolP ps vb cd la n τ → (∀ i, 0 ≤ i ∧ i < ch → τ (co i) = t (co i)) → False
theorem swp_id {x y s : Int} (h1 : s ≠ x) (h2 : s ≠ y) : swp x y s = s := by unfold swp; rw [if_neg h1, if_neg h2]
theorem swp_y (x y : Int) : swp x y y = x := by unfold swp; split <;> omega
/-- the last choice has no other target left: no machine has the ones ahead of it -/
theorem Stk.popNo {ps vb cd t c ac co cs ut : Int → Int} {la : Nat} {n k : Int} (hv : ∀ i, 0 ≤ vb i ∧ vb i < 3) (h : Stk ps vb cd la n t c ac co cs ut (k + 1)) (hk : 0 ≤ k) (hno : NoAll ps vb cd la n t co (k + 1)) (hx : ¬ (cs k + 1 < ut k ∨ cs k + 1 = ut k ∧ cs k + 1 < n)) : NoAll ps vb cd la n t co k := by
  obtain ⟨h1, h2, h3, h4, h5, h6, h7⟩ := h
  intro τ hs ha
  have e3 := h3 k (by omega)
  have e0 := hs.1 (co k)
  rcases (show τ (co k) < cs k ∨ τ (co k) = cs k ∨ cs k < τ (co k) by omega) with q | q | q
  · exact h7 k (by omega) _ e0.1 q τ hs ha rfl
  · refine hno τ hs (fun i hi => ?_)
    rcases (show i = k ∨ (0 ≤ i ∧ i < k) by omega) with z | z
    · subst z; rw [q, e3.2.1]
    · exact ha i z
  · have hcu : cs k = ut k := by omega
    have hut : 0 < ut k ∧ ut k < n := by omega
    have hu : 0 < τ (co k) ∧ τ (co k) < n := by omega
    have key : ∀ i, 0 ≤ i ∧ i ≤ k → co i / 3 = stt ps vb t (ac i).toNat ∧ 0 ≤ stt ps vb t (ac i).toNat ∧ stt ps vb t (ac i).toNat < ut k := by
      intro i hi
      have a3 := h3 i (by omega)
      have a5 := (h5 i (by omega)).1
      have a6 := h6 k (by omega) (ac i).toNat (by
        rcases (show i = k ∨ i < k by omega) with z | z
        · subst z; omega
        · have := (h4 i k hi.1 z (by omega)).1; omega)
      have b1 := hv (((ac i).toNat : Nat) : Int)
      unfold cel at a5
      omega
    refine hno (cj (ut k) (τ (co k)) τ) (hs.cj hv hut hu) (fun i hi => ?_)
    have k1 := key i (by omega)
    have e4 : cj (ut k) (τ (co k)) τ (co i) = swp (ut k) (τ (co k)) (τ (co i)) := by
      unfold cj
      rw [k1.1, swp_id (x := ut k) (y := τ (co k)) (s := stt ps vb t (ac i).toNat) (by omega) (by omega), ← k1.1, (show 3 * (co i / 3) + co i % 3 = co i by omega)]
    rw [e4]
    rcases (show i = k ∨ (0 ≤ i ∧ i < k) by omega) with z | z
    · subst z
      rw [swp_y, e3.2.1, hcu]
    · rw [ha i z]
      have a3 := h3 i (by omega)
      have a4 := h4 i k z.1 z.2 (by omega)
      exact swp_id (by omega) (by omega)
/-- another target for a cell that comes at no item up to k: the same cells there -/
theorem cel_up {ps vb t : Int → Int} {m x : Int} {k : Nat} (h : ∀ k2 : Nat, k2 < k → cel ps vb t k2 ≠ m) : cel ps vb (upI t m x) k = cel ps vb t k ∧ stt ps vb (upI t m x) k = stt ps vb t k := by
  have e : ∀ k2 : Nat, k2 < k → t (cel ps vb t k2) = upI t m x (cel ps vb t k2) := fun k2 h2 => (upI_ne t x (h k2 h2)).symm
  exact ⟨(cel_agree e).symm, (stt_agree e).symm⟩
/-- the stack without its last choice -/
theorem Stk.pop {ps vb cd t c ac co cs ut : Int → Int} {la : Nat} {n k : Int} (h : Stk ps vb cd la n t c ac co cs ut (k + 1)) (hk : 0 ≤ k) : Stk ps vb cd la n (upI t (co k) (-1)) c ac co cs ut k ∧ ∀ i, 0 ≤ i ∧ i < k → upI t (co k) (-1) (co i) = t (co i) := by
  obtain ⟨h1, h2, h3, h4, h5, h6, h7⟩ := h
  have hne : ∀ i, 0 ≤ i ∧ i < k → co i ≠ co k := fun i hi => (h4 i k hi.1 hi.2 (by omega)).2.2
  have hsame : ∀ i, 0 ≤ i ∧ i < k → upI t (co k) (-1) (co i) = t (co i) := fun i hi => upI_ne _ _ (hne i hi)
  have hcel : ∀ j, 0 ≤ j ∧ j < k → ∀ q : Nat, (q : Int) ≤ ac j → cel ps vb (upI t (co k) (-1)) q = cel ps vb t q ∧ stt ps vb (upI t (co k) (-1)) q = stt ps vb t q := by
    intro j hj q hq
    refine cel_up (fun k2 hk2 => ?_)
    obtain ⟨i, hi, e, -⟩ := (h5 j (by omega)).2.2 k2 (by omega)
    rw [e]
    exact hne i (by omega)
  refine ⟨⟨by omega, fun m => ?_, fun j hj => ?_, fun i j hi hij hj => h4 i j hi hij (by omega), fun j hj => ?_, fun j hj q hq => ?_, fun j hj u hu1 hu2 τ hs ha => ?_⟩, hsame⟩
  · by_cases q : m = co k
    · subst q; exact Or.inl (upI_same _ _ _)
    · rcases h2 m with z | ⟨j, hj, z⟩
      · exact Or.inl (by rw [upI_ne _ _ q]; exact z)
      · exact Or.inr ⟨j, ⟨hj.1, by
          rcases (show j = k ∨ j < k by omega) with y | y
          · subst y; exact absurd z.symm q
          · exact y⟩, z⟩
  · have a := h3 j (by omega)
    exact ⟨a.1, by rw [hsame j hj]; exact a.2.1, a.2.2⟩
  · have a := h5 j (by omega)
    have b := h3 j (by omega)
    refine ⟨by rw [(hcel j hj _ (by omega)).1]; exact a.1, a.2.1, fun q hq => ?_⟩
    rw [(hcel j hj q (by omega)).1]
    exact a.2.2 q hq
  · rw [(hcel j hj q hq).2]
    exact h6 j (by omega) q hq
  · exact h7 j (by omega) u hu1 hu2 τ hs (fun i hi => by rw [ha i hi]; exact hsame i (by omega))
/-- the last choice's next target -/
theorem Stk.inc {ps vb cd t c ac co cs ut : Int → Int} {la : Nat} {n k : Int} (h : Stk ps vb cd la n t c ac co cs ut (k + 1)) (hk : 0 ≤ k) (hno : NoAll ps vb cd la n t co (k + 1)) (hx : cs k + 1 < ut k ∨ cs k + 1 = ut k ∧ cs k + 1 < n) : Stk ps vb cd la n (upI t (co k) (cs k + 1)) c ac co (upI cs k (cs k + 1)) ut (k + 1) ∧ ∀ q : Nat, (q : Int) ≤ ac k → cel ps vb (upI t (co k) (cs k + 1)) q = cel ps vb t q ∧ stt ps vb (upI t (co k) (cs k + 1)) q = stt ps vb t q := by
  obtain ⟨h1, h2, h3, h4, h5, h6, h7⟩ := h
  have hne : ∀ i, 0 ≤ i ∧ i < k → co i ≠ co k := fun i hi => (h4 i k hi.1 hi.2 (by omega)).2.2
  have hsame : ∀ i, 0 ≤ i ∧ i < k → upI t (co k) (cs k + 1) (co i) = t (co i) := fun i hi => upI_ne _ _ (hne i hi)
  have hcs : ∀ i, i < k → upI cs k (cs k + 1) i = cs i := fun i hi => upI_ne _ _ (by omega)
  have hac : ∀ j, 0 ≤ j ∧ j < k + 1 → ac j ≤ ac k := by
    intro j hj
    rcases (show j = k ∨ j < k by omega) with z | z
    · subst z; omega
    · have := (h4 j k hj.1 z (by omega)).1; omega
  have hcel : ∀ q : Nat, (q : Int) ≤ ac k → cel ps vb (upI t (co k) (cs k + 1)) q = cel ps vb t q ∧ stt ps vb (upI t (co k) (cs k + 1)) q = stt ps vb t q := by
    intro q hq
    refine cel_up (fun k2 hk2 => ?_)
    obtain ⟨i, hi, e, -⟩ := (h5 k (by omega)).2.2 k2 (by omega)
    rw [e]
    exact hne i hi
  refine ⟨⟨h1, fun m => ?_, fun j hj => ?_, fun i j hi hij hj => ?_, fun j hj => ?_, fun j hj q hq => ?_, fun j hj u hu1 hu2 τ hs ha => ?_⟩, hcel⟩
  · by_cases q : m = co k
    · exact Or.inr ⟨k, by omega, q.symm⟩
    · rcases h2 m with z | z
      · exact Or.inl (by rw [upI_ne _ _ q]; exact z)
      · exact Or.inr z
  · have a := h3 j hj
    have a0 := h3 k (by omega)
    rcases (show j = k ∨ j < k by omega) with z | z
    · subst z
      rw [upI_same, upI_same]
      exact ⟨a.1, rfl, by omega, by omega, a.2.2.2.2⟩
    · rw [hsame j (by omega), hcs j z]
      exact a
  · have a := h4 i j hi hij hj
    rw [hcs i (by omega)]
    exact a
  · have a := h5 j hj
    have b := h3 j hj
    have b2 := hac j hj
    refine ⟨by rw [(hcel _ (by omega)).1]; exact a.1, a.2.1, fun q hq => ?_⟩
    rw [(hcel q (by omega)).1]
    exact a.2.2 q hq
  · rw [(hcel q (by have := hac j hj; omega)).2]
    exact h6 j hj q hq
  · rcases (show j = k ∨ j < k by omega) with z | z
    · subst z
      rw [upI_same] at hu2
      have ha2 : ∀ i, 0 ≤ i ∧ i < j → τ (co i) = t (co i) := fun i hi => by rw [ha i hi]; exact hsame i hi
      rcases (show u < cs j ∨ u = cs j by omega) with y | y
      · exact h7 j hj u hu1 y τ hs ha2
      · intro e
        refine hno τ hs (fun i hi => ?_)
        rcases (show i = j ∨ (0 ≤ i ∧ i < j) by omega) with x | x
        · subst x; rw [e, y, (h3 i hj).2.1]
        · exact ha2 i x
    · rw [hcs j z] at hu2
      exact h7 j hj u hu1 hu2 τ hs (fun i hi => by rw [ha i hi]; exact hsame i (by omega))
/-- the search at item a: all items ahead of it are told -/
def Srch (ps vb cd : Int → Int) (la : Nat) (n : Int) (t c ac co cs ut : Int → Int) (ch us a : Int) : Prop :=
  Stk ps vb cd la n t c ac co cs ut ch ∧ (0 ≤ a ∧ a ≤ la) ∧ (1 ≤ us ∧ us ≤ n) ∧
  (∀ k : Nat, (k : Int) < a → ∃ j, (0 ≤ j ∧ j < ch) ∧ ac j ≤ k ∧ cel ps vb t k = co j ∧ c (co j) = cd (k : Int)) ∧
  (∀ j, 0 ≤ j ∧ j < ch → ac j < a ∧ cs j < us) ∧
  ∀ k : Nat, (k : Int) ≤ a → 0 ≤ stt ps vb t k ∧ stt ps vb t k < us
/-- a code that is another one -/
theorem Srch.conf {ps vb cd t c ac co cs ut : Int → Int} {la : Nat} {n ch us a : Int} (h : Srch ps vb cd la n t c ac co cs ut ch us a) (ha : a < la) {j : Int} (hj : 0 ≤ j ∧ j < ch) (he : cel ps vb t a.toNat = co j) (hc : c (co j) ≠ cd a) : NoAll ps vb cd la n t co ch := by
  obtain ⟨⟨h1, h2, h3, h4, h5, h6, h7⟩, s1, s2, s3, s4, s5⟩ := h
  intro τ hs hag
  have e : ∀ k : Nat, (k : Int) ≤ a → cel ps vb t k = cel ps vb τ k := by
    intro k hk
    refine cel_agree (fun k2 hk2 => ?_)
    obtain ⟨i, hi, _, e2, _⟩ := s3 k2 (by omega)
    rw [e2]
    exact (hag i hi).symm
  have a3 := h3 j hj
  have a5 := h5 j hj
  have a4 := s4 j hj
  have q := hs.2 a.toNat (ac j).toNat (by omega) (by omega) (by rw [← e _ (by omega), ← e _ (by omega), he, a5.1])
  rw [(show ((a.toNat : Nat) : Int) = a by omega), (show (((ac j).toNat : Nat) : Int) = ac j by omega)] at q
  exact hc (by rw [a5.2.1, q])
/-- an item whose cell is told, with its code -/
theorem Srch.adv {ps vb cd t c ac co cs ut : Int → Int} {la : Nat} {n ch us a : Int} (h : Srch ps vb cd la n t c ac co cs ut ch us a) (ha : a < la) {j : Int} (hj : 0 ≤ j ∧ j < ch) (hja : ac j ≤ a) (he : cel ps vb t a.toNat = co j) (hc : c (co j) = cd a) : Srch ps vb cd la n t c ac co cs ut ch us (a + 1) := by
  obtain ⟨h0, s1, s2, s3, s4, s5⟩ := h
  refine ⟨h0, by omega, s2, fun k hk => ?_, fun i hi => by have := s4 i hi; omega, fun k hk => ?_⟩
  · rcases (show (k : Int) = a ∨ (k : Int) < a by omega) with z | z
    · exact ⟨j, hj, by omega, by rw [(show k = a.toNat by omega)]; exact he, by rw [z]; exact hc⟩
    · exact s3 k z
  · rcases (show (k : Int) = a + 1 ∨ (k : Int) ≤ a by omega) with z | z
    · have e : k = a.toNat + 1 := by omega
      subst e
      have b1 := s4 j hj
      have b2 := h0.2.2.1 j hj
      show 0 ≤ (if ps ((a.toNat + 1 : Nat) : Int) = 0 then 0 else t (cel ps vb t a.toNat)) ∧ (if ps ((a.toNat + 1 : Nat) : Int) = 0 then 0 else t (cel ps vb t a.toNat)) < us
      rw [he, b2.2.1]
      split <;> omega
    · exact s5 k z
