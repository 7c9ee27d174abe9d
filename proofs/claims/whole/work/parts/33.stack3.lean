/-- the search goes on behind the last choice's item, with its next target -/
theorem Stk.resume {ps vb cd t c ac co cs ut : Int → Int} {la : Nat} {n k us2 : Int} (h : Stk ps vb cd la n t c ac co cs ut (k + 1)) (hk : 0 ≤ k) (hno : NoAll ps vb cd la n t co (k + 1)) (hx : cs k + 1 < ut k ∨ cs k + 1 = ut k ∧ cs k + 1 < n) (hus : (cs k + 1 = ut k → us2 = cs k + 1 + 1) ∧ (cs k + 1 ≠ ut k → us2 = ut k)) :
    Srch ps vb cd la n (upI t (co k) (cs k + 1)) c ac co (upI cs k (cs k + 1)) ut (k + 1) us2 (ac k + 1) ∧ stt ps vb (upI t (co k) (cs k + 1)) (ac k + 1).toNat = (if ps (ac k + 1) = 0 then 0 else cs k + 1) := by
  obtain ⟨hS, hcel⟩ := h.inc hk hno hx
  obtain ⟨h1, h2, h3, h4, h5, h6, h7⟩ := id h
  have a3 := h3 k (by omega)
  have a5 := h5 k (by omega)
  have e0 : stt ps vb (upI t (co k) (cs k + 1)) (ac k + 1).toNat = (if ps (ac k + 1) = 0 then 0 else cs k + 1) := by
    rw [(show (ac k + 1).toNat = (ac k).toNat + 1 by omega)]
    show (if ps (((ac k).toNat + 1 : Nat) : Int) = 0 then 0 else upI t (co k) (cs k + 1) (cel ps vb (upI t (co k) (cs k + 1)) (ac k).toNat)) = _
    rw [(hcel _ (by omega)).1, a5.1, upI_same, (show (((ac k).toNat + 1 : Nat) : Int) = ac k + 1 by omega)]
  refine ⟨⟨hS, by omega, by omega, fun q hq => ?_, fun j hj => ?_, fun q hq => ?_⟩, e0⟩
  · rcases (show (q : Int) = ac k ∨ (q : Int) < ac k by omega) with z | z
    · refine ⟨k, by omega, by omega, ?_, by rw [z]; exact a5.2.1⟩
      rw [(hcel q (by omega)).1, (show q = (ac k).toNat by omega)]
      exact a5.1
    · obtain ⟨i, hi, e1, e2, e3⟩ := a5.2.2 q z
      exact ⟨i, by omega, e2, by rw [(hcel q (by omega)).1]; exact e1, e3⟩
  · rcases (show j = k ∨ (0 ≤ j ∧ j < k) by omega) with z | z
    · subst z; rw [upI_same]; omega
    · have a4 := h4 j k z.1 z.2 (by omega)
      rw [upI_ne _ _ (by omega)]
      omega
  · rcases (show (q : Int) = ac k + 1 ∨ (q : Int) ≤ ac k by omega) with z | z
    · rw [(show q = (ac k + 1).toNat by omega), e0]
      split <;> omega
    · rw [(hcel q z).2]
      have := h6 k (by omega) q z
      omega
/-- all items are told -/
theorem Srch.done {ps vb cd t c ac co cs ut : Int → Int} {la : Nat} {n ch us : Int} (h : Srch ps vb cd la n t c ac co cs ut ch us la) : BestP ps vb cd la n t c := by
  obtain ⟨⟨h1, h2, h3, h4, h5, h6, h7⟩, s1, s2, s3, s4, s5⟩ := h
  refine ⟨fun k hk => ?_, fun m => ?_, fun k hk hf u hu1 hu2 τ hs hag => ?_⟩
  · obtain ⟨j, hj, e1, e2, e3⟩ := s3 k (by omega)
    have a := h3 j hj
    rw [e2, a.2.1]
    exact ⟨a.2.2.1.1, a.2.2.1.2, e3⟩
  · rcases h2 m with q | ⟨j, hj, q⟩
    · exact Or.inl q
    · have a := h3 j hj
      exact Or.inr ⟨(ac j).toNat, by omega, by rw [(h5 j hj).1, q]⟩
  · obtain ⟨j, hj, e1, e2, e3⟩ := s3 k (by omega)
    have a := h3 j hj
    have hja : ac j = k := by
      rcases (show ac j = k ∨ ac j < k by omega) with z | z
      · exact z
      · exact absurd (by rw [(h5 j hj).1, e2]) (hf (ac j).toNat (by omega))
    rw [e2, a.2.1] at hu2
    rw [e2]
    refine h7 j hj u hu1 hu2 τ hs (fun i hi => ?_)
    have b := h3 i (by omega)
    have b4 := (h4 i j hi.1 hi.2 hj.2).1
    have := hag (ac i).toNat (by omega)
    rw [(h5 i (by omega)).1] at this
    exact this
theorem NoAll.none {ps vb cd t co : Int → Int} {la : Nat} {n : Int} (h : NoAll ps vb cd la n t co 0) : ∀ τ, ¬ SolP ps vb cd la n τ := fun τ hs => h τ hs (fun i hi => by omega)
/-- how far the choices are -/
def loN (cs : Int → Int) : Nat → Int
  | 0 => 0
  | j + 1 => loN cs j + cs (j : Int) * ((4 ^ (11 - j) : Nat) : Int)
theorem loN_top (cs : Int → Int) (k : Nat) : ∀ d : Nat, k + d ≤ 12 → (∀ j, (k : Int) ≤ j ∧ j < ((k + d : Nat) : Int) → 0 ≤ cs j ∧ cs j < 4) → loN cs (k + d) + ((4 ^ (12 - (k + d)) : Nat) : Int) ≤ loN cs k + ((4 ^ (12 - k) : Nat) : Int)
  | 0, _, _ => Int.le_refl _
  | d + 1, hd, h => by
    have ih := loN_top cs k d (by omega) (fun j hj => h j (by omega))
    have hb := h ((k + d : Nat) : Int) (by omega)
    have e1 : 12 - (k + d) = (12 - (k + (d + 1))) + 1 := by omega
    have e2 : 11 - (k + d) = 12 - (k + (d + 1)) := by omega
    rw [e1, Nat.pow_succ] at ih
    show loN cs (k + d) + cs ((k + d : Nat) : Int) * ((4 ^ (11 - (k + d)) : Nat) : Int) + ((4 ^ (12 - (k + (d + 1))) : Nat) : Int) ≤ _
    rw [e2]
    generalize 4 ^ (12 - (k + (d + 1))) = p at ih ⊢
    have h3 : cs ((k + d : Nat) : Int) * (p : Int) ≤ 3 * (p : Int) := Int.mul_le_mul_of_nonneg_right (by omega) (by omega)
    omega
theorem loN_cong {cs cs2 : Int → Int} : ∀ k : Nat, (∀ j, 0 ≤ j ∧ j < (k : Int) → cs j = cs2 j) → loN cs k = loN cs2 k
  | 0, _ => rfl
  | k + 1, h => by
    show loN cs k + cs (k : Int) * _ = loN cs2 k + cs2 (k : Int) * _
    rw [loN_cong k (fun j hj => h j (by omega)), h k (by omega)]
theorem loN_nn {cs : Int → Int} : ∀ k : Nat, (∀ j, 0 ≤ j ∧ j < (k : Int) → 0 ≤ cs j) → 0 ≤ loN cs k
  | 0, _ => Int.le_refl _
  | k + 1, h => by
    have h1 := loN_nn k (fun j hj => h j (by omega))
    have h2 := Int.mul_nonneg (h k (by omega)) (Int.natCast_nonneg (4 ^ (11 - k)))
    show 0 ≤ loN cs k + cs (k : Int) * ((4 ^ (11 - k) : Nat) : Int)
    omega
/-- another target for choice k, fewer behind it: farther -/
theorem loN_inc {cs : Int → Int} {k ch : Nat} (hk : k < ch) (hc : ch ≤ 12) (h : ∀ j, 0 ≤ j ∧ j < (ch : Int) → 0 ≤ cs j ∧ cs j < 4) : loN cs ch < loN (upI cs (k : Int) (cs (k : Int) + 1)) (k + 1) := by
  have h1 := loN_top cs (k + 1) (ch - (k + 1)) (by omega) (fun j hj => h j (by omega))
  rw [(show k + 1 + (ch - (k + 1)) = ch by omega)] at h1
  have e1 : loN (upI cs (k : Int) (cs (k : Int) + 1)) (k + 1) = loN cs k + (cs (k : Int) + 1) * ((4 ^ (11 - k) : Nat) : Int) := by
    show loN (upI cs (k : Int) (cs (k : Int) + 1)) k + upI cs (k : Int) (cs (k : Int) + 1) (k : Int) * _ = _
    rw [upI_same, loN_cong k (fun j hj => upI_ne _ _ (by omega))]
  have e2 : loN cs (k + 1) = loN cs k + cs (k : Int) * ((4 ^ (11 - k) : Nat) : Int) := rfl
  rw [e1, Int.add_mul]
  rw [e2, (show 12 - (k + 1) = 11 - k by omega)] at h1
  have h3 : 0 < 4 ^ (12 - ch) := Nat.pow_pos (by decide)
  omega
