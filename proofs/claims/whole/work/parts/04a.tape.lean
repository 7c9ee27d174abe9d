/-! THE MACHINE, in pure words: a tape of items (place, verb, code); a row begins where the place is 0 -/
def stt (ps vb τ : Int → Int) : Nat → Int
  | 0 => 0
  | k + 1 => if ps ((k + 1 : Nat) : Int) = 0 then 0 else τ (3 * stt ps vb τ k + vb (k : Int))
def cel (ps vb τ : Int → Int) (k : Nat) : Int := 3 * stt ps vb τ k + vb (k : Int)
def SolP (ps vb cd : Int → Int) (la : Nat) (n : Int) (τ : Int → Int) : Prop := (∀ m, 0 ≤ τ m ∧ τ m < n) ∧ ∀ k k2 : Nat, k < la → k2 < la → cel ps vb τ k = cel ps vb τ k2 → cd (k : Int) = cd (k2 : Int)
theorem stt_agree {ps vb τ σ : Int → Int} : ∀ {k : Nat}, (∀ k2 : Nat, k2 < k → τ (cel ps vb τ k2) = σ (cel ps vb τ k2)) → stt ps vb τ k = stt ps vb σ k
  | 0, _ => rfl
  | k + 1, h => by
    have ih := stt_agree (k := k) (fun k2 h2 => h k2 (by omega))
    have h1 := h k (by omega)
    have e : cel ps vb τ k = cel ps vb σ k := by unfold cel; rw [ih]
    show (if ps ((k + 1 : Nat) : Int) = 0 then 0 else τ (cel ps vb τ k)) = (if ps ((k + 1 : Nat) : Int) = 0 then 0 else σ (cel ps vb σ k))
    rw [h1, e]
theorem cel_agree {ps vb τ σ : Int → Int} {k : Nat} (h : ∀ k2 : Nat, k2 < k → τ (cel ps vb τ k2) = σ (cel ps vb τ k2)) : cel ps vb τ k = cel ps vb σ k := by
  unfold cel
  rw [stt_agree h]
/-- the states x and y changed for each other -/
def swp (x y s : Int) : Int := if s = x then y else if s = y then x else s
theorem swp_swp (x y s : Int) : swp x y (swp x y s) = s := by
  unfold swp
  (repeat' split) <;> omega
def cj (x y : Int) (τ : Int → Int) : Int → Int := fun m => swp x y (τ (3 * swp x y (m / 3) + m % 3))
theorem stt_cj {ps vb τ : Int → Int} {x y : Int} (hx : x ≠ 0) (hy : y ≠ 0) (hv : ∀ i, 0 ≤ vb i ∧ vb i < 3) : ∀ k : Nat, stt ps vb (cj x y τ) k = swp x y (stt ps vb τ k)
  | 0 => by
    show (0 : Int) = swp x y 0
    unfold swp
    rw [if_neg (fun q => hx q.symm), if_neg (fun q => hy q.symm)]
  | k + 1 => by
    have ih := stt_cj hx hy hv k (ps := ps) (τ := τ)
    have h1 := hv (k : Int)
    show (if ps ((k + 1 : Nat) : Int) = 0 then 0 else cj x y τ (3 * stt ps vb (cj x y τ) k + vb (k : Int))) = swp x y (if ps ((k + 1 : Nat) : Int) = 0 then 0 else τ (3 * stt ps vb τ k + vb (k : Int)))
    split
    · unfold swp
      rw [if_neg (fun q => hx q.symm), if_neg (fun q => hy q.symm)]
    · rw [ih]
      unfold cj
      rw [(show (3 * swp x y (stt ps vb τ k) + vb (k : Int)) / 3 = swp x y (stt ps vb τ k) by omega), (show (3 * swp x y (stt ps vb τ k) + vb (k : Int)) % 3 = vb (k : Int) by omega), swp_swp]
theorem SolP.cj {ps vb cd τ : Int → Int} {la : Nat} {n x y : Int} (h : SolP ps vb cd la n τ) (hv : ∀ i, 0 ≤ vb i ∧ vb i < 3) (hx : 0 < x ∧ x < n) (hy : 0 < y ∧ y < n) : SolP ps vb cd la n (cj x y τ) := by
  refine ⟨fun m => ?_, fun k k2 hk hk2 e => ?_⟩
  · have h1 := h.1 (3 * swp x y (m / 3) + m % 3)
    show 0 ≤ swp x y (τ (3 * swp x y (m / 3) + m % 3)) ∧ swp x y (τ (3 * swp x y (m / 3) + m % 3)) < n
    generalize τ (3 * swp x y (m / 3) + m % 3) = s at h1 ⊢
    unfold swp
    (repeat' split) <;> omega
  · refine h.2 k k2 hk hk2 ?_
    have a1 := hv (k : Int)
    have a2 := hv (k2 : Int)
    unfold cel at e ⊢
    rw [stt_cj (by omega) (by omega) hv, stt_cj (by omega) (by omega) hv] at e
    have e1 : swp x y (stt ps vb τ k) = swp x y (stt ps vb τ k2) := by omega
    have e2 : stt ps vb τ k = stt ps vb τ k2 := by
      have := congrArg (swp x y) e1
      rwa [swp_swp, swp_swp] at this
    omega
/-- what is told: t leads, c tells; where a cell comes for the first time, no lesser target is left -/
def BestP (ps vb cd : Int → Int) (la : Nat) (n : Int) (t c : Int → Int) : Prop :=
  (∀ k : Nat, k < la → 0 ≤ t (cel ps vb t k) ∧ t (cel ps vb t k) < n ∧ c (cel ps vb t k) = cd (k : Int)) ∧
  (∀ m, t m = -1 ∨ ∃ k : Nat, k < la ∧ cel ps vb t k = m) ∧
  ∀ k : Nat, k < la → (∀ k2 : Nat, k2 < k → cel ps vb t k2 ≠ cel ps vb t k) → ∀ u, 0 ≤ u → u < t (cel ps vb t k) → ∀ τ, SolP ps vb cd la n τ → (∀ k2 : Nat, k2 < k → τ (cel ps vb t k2) = t (cel ps vb t k2)) → τ (cel ps vb t k) ≠ u
/-- a machine that is told, made whole -/
def ext0 (t : Int → Int) : Int → Int := fun m => if t m = -1 then 0 else t m
theorem BestP.sol {ps vb cd t c : Int → Int} {la : Nat} {n : Int} (hn : 0 < n) (h : BestP ps vb cd la n t c) : SolP ps vb cd la n (ext0 t) ∧ ∀ k : Nat, k < la → cel ps vb (ext0 t) k = cel ps vb t k ∧ ext0 t (cel ps vb t k) = t (cel ps vb t k) := by
  have h0 : ∀ k : Nat, k < la → ext0 t (cel ps vb t k) = t (cel ps vb t k) := fun k hk => if_neg (by have := (h.1 k hk).1; omega)
  have h1 : ∀ k : Nat, k < la → cel ps vb (ext0 t) k = cel ps vb t k := fun k hk => (cel_agree (fun k2 h2 => (h0 k2 (by omega)).symm)).symm
  refine ⟨⟨fun m => ?_, fun k k2 hk hk2 e => ?_⟩, fun k hk => ⟨h1 k hk, h0 k hk⟩⟩
  · unfold ext0
    split
    · omega
    · rcases h.2.1 m with q | ⟨k, hk, q⟩
      · omega
      · have := h.1 k hk
        rw [q] at this
        omega
  · rw [h1 k hk, h1 k2 hk2] at e
    rw [← (h.1 k hk).2.2, ← (h.1 k2 hk2).2.2, e]
theorem BestP.le {ps vb cd t c t2 c2 : Int → Int} {la : Nat} {n : Int} (hn : 0 < n) (h : BestP ps vb cd la n t c) (h2 : BestP ps vb cd la n t2 c2) {k : Nat} (hk : k < la) (hb : ∀ j : Nat, j < k → cel ps vb t j = cel ps vb t2 j ∧ t (cel ps vb t j) = t2 (cel ps vb t2 j)) (he : cel ps vb t k = cel ps vb t2 k) (hf : ∀ j : Nat, j < k → cel ps vb t2 j ≠ cel ps vb t2 k) : t2 (cel ps vb t2 k) ≤ t (cel ps vb t k) := by
  rcases Int.lt_or_le (t (cel ps vb t k)) (t2 (cel ps vb t2 k)) with q | q
  · obtain ⟨s1, s2⟩ := h.sol hn
    refine absurd ?_ (h2.2.2 k hk hf (t (cel ps vb t k)) (h.1 k hk).1 q (ext0 t) s1 (fun j hj => ?_))
    · rw [← he]
      exact (s2 k hk).2
    · rw [← (hb j hj).1, (s2 j (by omega)).2, (hb j hj).2, (hb j hj).1]
  · exact q
theorem BestP.same {ps vb cd t c t2 c2 : Int → Int} {la : Nat} {n : Int} (hn : 0 < n) (h : BestP ps vb cd la n t c) (h2 : BestP ps vb cd la n t2 c2) : ∀ k : Nat, k < la → cel ps vb t k = cel ps vb t2 k ∧ t (cel ps vb t k) = t2 (cel ps vb t2 k) := by
  intro k
  induction k using Nat.strongRecOn with
  | ind k ih =>
    intro hk
    have hb : ∀ j : Nat, j < k → cel ps vb t j = cel ps vb t2 j ∧ t (cel ps vb t j) = t2 (cel ps vb t2 j) := fun j hj => ih j hj (by omega)
    have he : cel ps vb t k = cel ps vb t2 k := cel_agree (fun j hj => by rw [(hb j hj).2, (hb j hj).1])
    refine ⟨he, ?_⟩
    by_cases hf : ∀ j : Nat, j < k → cel ps vb t2 j ≠ cel ps vb t2 k
    · have a1 := BestP.le hn h h2 hk hb he hf
      have a2 := BestP.le hn h2 h hk (fun j hj => ⟨(hb j hj).1.symm, (hb j hj).2.symm⟩) he.symm (fun j hj => by rw [(hb j hj).1, he]; exact hf j hj)
      omega
    · obtain ⟨j, hj⟩ : ∃ j, ¬ (j < k → cel ps vb t2 j ≠ cel ps vb t2 k) := Classical.not_forall.mp hf
      have hjk : j < k := Classical.byContradiction (fun q => hj (fun q2 => absurd q2 q))
      have e1 : cel ps vb t2 j = cel ps vb t2 k := Classical.byContradiction (fun q => hj (fun _ => q))
      rw [he, ← e1, ← (hb j hjk).1, (hb j hjk).2, (hb j hjk).1]
theorem BestP.uniq {ps vb cd t c t2 c2 : Int → Int} {la : Nat} {n : Int} (hn : 0 < n) (h : BestP ps vb cd la n t c) (h2 : BestP ps vb cd la n t2 c2) : ∀ m, t m = t2 m ∧ (t m ≠ -1 → c m = c2 m) := by
  have hs := BestP.same hn h h2
  intro m
  rcases h.2.1 m with q | ⟨k, hk, q⟩
  · refine ⟨?_, fun z => absurd q z⟩
    rcases h2.2.1 m with q2 | ⟨k, hk, q2⟩
    · rw [q, q2]
    · have a1 := hs k hk
      have a2 := (h.1 k hk).1
      rw [a1.1, q2, q] at a2
      omega
  · have a1 := hs k hk
    have b1 := (h.1 k hk).2.2
    have b2 := (h2.1 k hk).2.2
    rw [← a1.1, q] at b2
    rw [← a1.1, q] at a1
    rw [q] at b1
    exact ⟨a1.2, fun _ => by rw [b1, b2]⟩
