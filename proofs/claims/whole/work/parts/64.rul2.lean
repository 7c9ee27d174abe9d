/-! LAYER 2: the rules, decided -/
theorem th_eq {g : Int → Int} {v f e : Int} (hX : ∀ i, 20 ≤ i → i < 596 → 0 ≤ g i ∧ g i < 100) (hG : AllOk g) (hf : 0 ≤ f ∧ f < 2) : (hsT g 0 v f e = 1000 ∧ thI g v e = 0) ∨ (hsT g 0 v f e ≠ 1000 ∧ thI g v e = 1) := by
  refine nR_two (f := hsS g 0 v f) (f' := fun r p s => if g (20 + 72 * r + 6 * p + 0) = v then 1 else s) (L := fun r => g (10 + r)) (L' := fun r => g (10 + r)) (b := e) (Q := fun (o s : Int) => (o = 1000 ∧ s = 0) ∨ (o ≠ 1000 ∧ s = 1)) (g 0).toNat 1000 0 (Or.inl ⟨rfl, rfl⟩) (fun _ _ _ => rfl) (fun r p o s hr _ hp q => ?_)
  have a0 := hG.2.1
  have a := hG.2.2 r (by omega) (by omega)
  have hp2 : 0 ≤ p ∧ p < g (10 + r) := hp
  have e2 := hX (20 + 72 * r + 6 * p + (4 + f)) (by omega) (by omega)
  have b0 : bsN g 0 r p = 0 := if_pos rfl
  unfold hsS
  by_cases z : g (20 + 72 * r + 6 * p + 0) = v
  · rw [if_pos z, if_pos z, b0]
    right
    refine ⟨?_, rfl⟩
    unfold wgh
    (repeat' split) <;> omega
  · rw [if_neg z, if_neg z]
    exact q
/-- the first kind that stands -/
theorem qpl_step {dc : Int → Prop} {n : Nat} {p : Int} (h : ¬ dc p) : qpl (fun _ => False) dc (n + 1) p = qpl (fun _ => False) dc n (p + 1) := by
  show @ite Int False (Classical.propDecidable _) (-1) (@ite Int (dc p) (Classical.propDecidable _) p (qpl (fun _ => False) dc n (p + 1))) = _
  rw [if_neg (fun q => q), if_neg h]
theorem fst_un (g : Int → Int) (v f : Int) (m : Nat) (hm : m ≤ 5) (h : ∀ j, 0 ≤ j → j < (m : Int) → g ((v * 2 + f) * 5 + j) = 1000 ∨ g ((v * 2 + f) * 5 + j) = 1001) : fstK g v f = qpl (fun _ => False) (fun j => g ((v * 2 + f) * 5 + j) ≠ 1000 ∧ g ((v * 2 + f) * 5 + j) ≠ 1001) (5 - m) m := by
  induction m with
  | zero => rfl
  | succ i ih =>
    rw [ih (by omega) (fun j h0 h1 => h j h0 (by omega)), (show 5 - i = (5 - (i + 1)) + 1 by omega), qpl_step (fun q => by rcases h (i : Int) (by omega) (by omega) with z | z; exact q.1 z; exact q.2 z)]
    rw [(show ((i + 1 : Nat) : Int) = (i : Int) + 1 by omega)]
theorem fst_at {g : Int → Int} {v f : Int} (m : Nat) (hm : m < 5) (h : ∀ j, 0 ≤ j → j < (m : Int) → g ((v * 2 + f) * 5 + j) = 1000 ∨ g ((v * 2 + f) * 5 + j) = 1001) (hg : ¬ (g ((v * 2 + f) * 5 + (m : Int)) = 1000 ∨ g ((v * 2 + f) * 5 + (m : Int)) = 1001)) : fstK g v f = m := by
  rw [fst_un g v f m (by omega) h, (show 5 - m = (5 - (m + 1)) + 1 by omega)]
  show @ite Int False (Classical.propDecidable _) (-1) (@ite Int _ (Classical.propDecidable _) (m : Int) _) = _
  rw [if_neg (fun q => q), if_pos ⟨fun q => hg (Or.inl q), fun q => hg (Or.inr q)⟩]
/-- kinds and c's are one -/
theorem dec_eq {G g t : Int → Int} {v f e : Int} (hc : ∀ x, 0 ≤ x → x < 5 → G ((v * 2 + f) * 5 + x) = hsT g x v f e) (ht : t (v * 2 + f) = 1001 ↔ tbI g v f e ≠ 1) : (decK G t v f, decO G v f) = fkI g v f e 5 := by
  have hn : ∀ k : Nat, k ≤ 5 → (∀ j, 0 ≤ j → j < 5 - (k : Int) → G ((v * 2 + f) * 5 + j) = 1000 ∨ G ((v * 2 + f) * 5 + j) = 1001) → (decK G t v f, decO G v f) = fkI g v f e k := by
    intro k
    induction k with
    | zero =>
      intro _ h
      have e1 := fst_un G v f 5 (by omega) (fun j h0 h1 => h j h0 (by omega))
      have e2 : fstK G v f = -1 := by rw [e1]; rfl
      unfold decK decO
      rw [if_pos e2, if_pos e2]
      show _ = ((if tbI g v f e = 1 then (5 : Int) else 6), (-1000 : Int))
      by_cases q : tbI g v f e = 1
      · rw [if_pos q, if_neg (fun z => (ht.mp z) q)]
      · rw [if_neg q, if_pos (ht.mpr q)]
    | succ i ih =>
      intro hk h
      have hG := hc (4 - (i : Int)) (by omega) (by omega)
      show _ = (if hsT g (4 - (i : Int)) v f e = 1000 ∨ hsT g (4 - (i : Int)) v f e = 1001 then fkI g v f e i else (4 - (i : Int), hsT g (4 - (i : Int)) v f e))
      rw [← hG]
      by_cases q : G ((v * 2 + f) * 5 + (4 - (i : Int))) = 1000 ∨ G ((v * 2 + f) * 5 + (4 - (i : Int))) = 1001
      · rw [if_pos q]
        refine ih (by omega) (fun j h0 h1 => ?_)
        by_cases z : j = 4 - (i : Int)
        · rw [z]; exact q
        · exact h j h0 (by omega)
      · rw [if_neg q]
        have e5 : ((4 - i : Nat) : Int) = 4 - (i : Int) := by omega
        have e1 := fst_at (4 - i) (by omega) (fun j h0 h1 => h j h0 (by omega)) (by rw [e5]; exact q)
        rw [e5] at e1
        unfold decK decO
        rw [e1, if_neg (by omega), if_neg (by omega)]
  exact hn 5 (Nat.le_refl _) (fun j h0 h1 => by omega)
/-- the first that comes -/
theorem qf_spec (dc : Int → Prop) : ∀ (n : Nat) (p : Int), (qpl (fun _ => False) dc n p = -1 ∧ ∀ i, p ≤ i → i < p + n → ¬ dc i) ∨ ((p ≤ qpl (fun _ => False) dc n p ∧ qpl (fun _ => False) dc n p < p + n) ∧ dc (qpl (fun _ => False) dc n p) ∧ ∀ i, p ≤ i → i < qpl (fun _ => False) dc n p → ¬ dc i)
  | 0, _ => Or.inl ⟨rfl, fun i h0 h1 => by omega⟩
  | n + 1, p => by
    unfold qpl
    rw [if_neg (fun q => q)]
    by_cases h : dc p
    · rw [if_pos h]; exact Or.inr ⟨⟨Int.le_refl _, by omega⟩, h, fun i h0 h1 => by omega⟩
    · rw [if_neg h]
      rcases qf_spec dc n (p + 1) with ⟨q1, q2⟩ | ⟨q1, q2, q3⟩
      · refine Or.inl ⟨q1, fun i h0 h1 => ?_⟩
        by_cases z : i = p
        · rw [z]; exact h
        · exact q2 i (by omega) (by omega)
      · refine Or.inr ⟨by omega, q2, fun i h0 h1 => ?_⟩
        by_cases z : i = p
        · rw [z]; exact h
        · exact q3 i (by omega) h1
theorem find_spec (a : Int → Int) {z : Int} (hz : 0 ≤ z) (v s : Int) : (findI a z v s = -1 ∧ ∀ i, 0 ≤ i → i < z → a i ≠ v * 10000 + s) ∨ ((0 ≤ findI a z v s ∧ findI a z v s < z) ∧ a (findI a z v s) = v * 10000 + s ∧ ∀ i, 0 ≤ i → i < findI a z v s → a i ≠ v * 10000 + s) := by
  rcases qf_spec (fun i => a i = v * 10000 + s) z.toNat 0 with ⟨q1, q2⟩ | ⟨q1, q2, q3⟩
  · exact Or.inl ⟨q1, fun i h0 h1 => q2 i h0 (by omega)⟩
  · refine Or.inr ⟨⟨q1.1, ?_⟩, q2, q3⟩
    have q4 := q1.2
    have e : findI a z v s = qpl (fun _ => False) (fun i => a i = v * 10000 + s) z.toNat 0 := rfl
    omega
theorem find_up (a : Int → Int) {z : Int} (hz : 0 ≤ z) (k v s : Int) : findI (upI a z k) (z + 1) v s = if findI a z v s = -1 then (if k = v * 10000 + s then z else -1) else findI a z v s := by
  have o := find_spec a hz v s
  have n := find_spec (upI a z k) (show 0 ≤ z + 1 by omega) v s
  rcases o with ⟨o1, o2⟩ | ⟨o1, o2, o3⟩
  · rw [if_pos o1]
    by_cases q : k = v * 10000 + s
    · rw [if_pos q]
      rcases n with ⟨n1, n2⟩ | ⟨n1, n2, n3⟩
      · exact absurd (by rw [upI_same]; exact q) (n2 z hz (by omega))
      · by_cases w : findI (upI a z k) (z + 1) v s = z
        · exact w
        · rw [upI_ne _ _ w] at n2
          exact absurd n2 (o2 _ n1.1 (by omega))
    · rw [if_neg q]
      rcases n with ⟨n1, n2⟩ | ⟨n1, n2, n3⟩
      · exact n1
      · by_cases w : findI (upI a z k) (z + 1) v s = z
        · rw [w, upI_same] at n2; exact absurd n2 q
        · rw [upI_ne _ _ w] at n2
          exact absurd n2 (o2 _ n1.1 (by omega))
  · rw [if_neg (by omega)]
    rcases n with ⟨n1, n2⟩ | ⟨n1, n2, n3⟩
    · exact absurd (by rw [upI_ne _ _ (by omega)]; exact o2) (n2 (findI a z v s) o1.1 (by omega))
    · rcases Int.lt_trichotomy (findI (upI a z k) (z + 1) v s) (findI a z v s) with w | w | w
      · rw [upI_ne _ _ (by omega)] at n2
        exact absurd n2 (o3 _ n1.1 w)
      · exact w
      · exact absurd (by rw [upI_ne _ _ (by omega)]; exact o2) (n3 (findI a z v s) o1.1 w)
