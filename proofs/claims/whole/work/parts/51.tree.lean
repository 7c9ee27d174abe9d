/-! THE TREE and the tape of the rows' exchanges -/
abbrev TpT : Type := (Int → Int) × (Int → Int) × (Int → Int) × Int
/-- one more exchange on the tape: place, verb, code -/
def tpS (V N : Int → Int) (r p : Int) (S : TpT) : TpT := (upI S.1 S.2.2.2 p, upI S.2.1 S.2.2.2 (V (r * 12 + p)), upI S.2.2.1 S.2.2.2 (N (r * 12 + p) / 10000), S.2.2.2 + 1)
def tpF (L V N : Int → Int) (e : Int) (n : Nat) : TpT := nR (tpS V N) L e n (fun _ => 0, fun _ => 0, fun _ => 0, 0)
/-- tree and tape: no k = the node of item k -/
def TreeI (ps tv tc : Int → Int) (K : Int) (pa vb cd cn : Int → Int) (nd : Int) (no : Int → Int) : Prop :=
  (0 ≤ K ∧ 1 ≤ nd ∧ nd ≤ K + 1) ∧
  (∀ k, 0 ≤ k → k < K → (1 ≤ no k ∧ no k < nd) ∧ pa (no k) = (if ps k = 0 then 0 else no (k - 1)) ∧ vb (no k) = tv k ∧ cd (no k) = tc k) ∧
  (∀ k, 0 ≤ k → k < K → ∀ j, 1 ≤ j → j < no k → ∃ k2, (0 ≤ k2 ∧ k2 < k) ∧ no k2 = j) ∧
  (∀ j, 1 ≤ j → j < nd → ∃ k, (0 ≤ k ∧ k < K) ∧ no k = j) ∧
  (∀ j, 1 ≤ j → j < nd → (0 ≤ pa j ∧ pa j < j) ∧ cn (pa j * 3 + vb j) = j) ∧
  (∀ x v, 0 ≤ x → x < nd → 0 ≤ v → v < 3 → cn (x * 3 + v) = -1 ∨ ((1 ≤ cn (x * 3 + v) ∧ cn (x * 3 + v) < nd) ∧ pa (cn (x * 3 + v)) = x ∧ vb (cn (x * 3 + v)) = v)) ∧
  (∀ x v, nd ≤ x → x < 97 → 0 ≤ v → v < 3 → cn (x * 3 + v) = -1) ∧ (0 < K → ps 0 = 0)
theorem TreeI.init {ps tv tc pa vb cd cn : Int → Int} (h : ∀ i, 0 ≤ i → i < 291 → cn i = -1) (no : Int → Int) : TreeI ps tv tc 0 pa vb cd cn 1 no := by
  refine ⟨by omega, fun k h0 h1 => by omega, fun k h0 h1 => by omega, fun j h0 h1 => by omega, fun j h0 h1 => by omega, fun x v h0 h1 h2 h3 => Or.inl (h _ (by omega) (by omega)), fun x v h0 h1 h2 h3 => h _ (by omega) (by omega), fun h => by omega⟩
/-- the way from the root -/
theorem TreeI.tOk {ps tv tc pa vb cd cn no : Int → Int} {K nd : Int} (h : TreeI ps tv tc K pa vb cd cn nd no) {k : Int} (h0 : 0 ≤ k) (h1 : k < K) : ps k = 0 ∨ 1 ≤ k := by
  by_cases q : k = 0
  · left; rw [q]; exact h.2.2.2.2.2.2.2 (by omega)
  · right; omega
section TR
variable {ps tv tc pa vb cd cn no : Int → Int} {K nd : Int}
/-- one more item, at a node that is there and has its code -/
theorem TreeI.old (h : TreeI ps tv tc K pa vb cd cn nd no) {p x v y : Int} (hp : p = 0 ∧ x = 0 ∨ p ≠ 0 ∧ 0 < K ∧ x = no (K - 1)) (hv : 0 ≤ v ∧ v < 3) (hc : cn (x * 3 + v) ≠ -1) (hy : cd (cn (x * 3 + v)) = y) : TreeI (upI ps K p) (upI tv K v) (upI tc K y) (K + 1) pa vb cd cn nd (upI no K (cn (x * 3 + v))) := by
  obtain ⟨t1, t2, t3, t4, t5, t6, t7, t8⟩ := h
  have hx : 0 ≤ x ∧ x < nd := by
    rcases hp with q | q
    · omega
    · have := (t2 (K - 1) (by omega) (by omega)).1; omega
  have hr := t6 x v hx.1 hx.2 hv.1 hv.2
  rcases hr with hr | hr
  · exact absurd hr hc
  refine ⟨by omega, fun k h0 h1 => ?_, fun k h0 h1 j j0 j1 => ?_, fun j j0 j1 => ?_, t5, t6, t7, fun _ => ?_⟩
  · by_cases q : k = K
    · subst q
      rw [upI_same, upI_same, upI_same, upI_same, hr.2.1]
      refine ⟨hr.1, ?_, hr.2.2, hy⟩
      rcases hp with q | q
      · rw [if_pos q.1]; exact q.2
      · rw [if_neg q.1, upI_ne _ _ (by omega)]; exact q.2.2
    · rw [upI_ne _ _ q, upI_ne _ _ q, upI_ne _ _ q, upI_ne _ _ q, upI_ne _ _ (show k - 1 ≠ K by omega)]
      exact t2 k h0 (by omega)
  · by_cases q : k = K
    · subst q
      rw [upI_same] at j1
      obtain ⟨k2, a, b⟩ := t4 j j0 (by omega)
      exact ⟨k2, a, by rw [upI_ne _ _ (by omega)]; exact b⟩
    · rw [upI_ne _ _ q] at j1
      obtain ⟨k2, a, b⟩ := t3 k h0 (by omega) j j0 j1
      exact ⟨k2, a, by rw [upI_ne _ _ (by omega)]; exact b⟩
  · obtain ⟨k2, a, b⟩ := t4 j j0 j1
    exact ⟨k2, by omega, by rw [upI_ne _ _ (by omega)]; exact b⟩
  · by_cases q : K = 0
    · rcases hp with w | w
      · rw [q, upI_same]; exact w.1
      · omega
    · rw [upI_ne _ _ (by omega)]; exact t8 (by omega)
/-- one more item, at a new node -/
theorem TreeI.new (h : TreeI ps tv tc K pa vb cd cn nd no) {p x v y : Int} (hp : p = 0 ∧ x = 0 ∨ p ≠ 0 ∧ 0 < K ∧ x = no (K - 1)) (hv : 0 ≤ v ∧ v < 3) (hc : cn (x * 3 + v) = -1) (hn : nd < 97) : TreeI (upI ps K p) (upI tv K v) (upI tc K y) (K + 1) (upI pa nd x) (upI vb nd v) (upI cd nd y) (upI cn (x * 3 + v) nd) (nd + 1) (upI no K nd) := by
  obtain ⟨t1, t2, t3, t4, t5, t6, t7, t8⟩ := h
  have hx : 0 ≤ x ∧ x < nd := by
    rcases hp with q | q
    · omega
    · have := (t2 (K - 1) (by omega) (by omega)).1; omega
  refine ⟨by omega, fun k h0 h1 => ?_, fun k h0 h1 j j0 j1 => ?_, fun j j0 j1 => ?_, fun j j0 j1 => ?_, fun a b a0 a1 b0 b1 => ?_, fun a b a0 a1 b0 b1 => ?_, fun _ => ?_⟩
  · by_cases q : k = K
    · subst q
      rw [upI_same, upI_same, upI_same, upI_same, upI_same, upI_same, upI_same]
      refine ⟨by omega, ?_, rfl, rfl⟩
      rcases hp with q | q
      · rw [if_pos q.1]; exact q.2
      · rw [if_neg q.1, upI_ne _ _ (by omega)]; exact q.2.2
    · have e := t2 k h0 (by omega)
      rw [upI_ne _ _ q, upI_ne _ _ q, upI_ne _ _ q, upI_ne _ _ q, upI_ne _ _ (show k - 1 ≠ K by omega), upI_ne _ _ (by omega), upI_ne _ _ (by omega), upI_ne _ _ (by omega)]
      exact ⟨by omega, e.2⟩
  · by_cases q : k = K
    · subst q
      rw [upI_same] at j1
      obtain ⟨k2, a, b⟩ := t4 j j0 (by omega)
      exact ⟨k2, a, by rw [upI_ne _ _ (by omega)]; exact b⟩
    · rw [upI_ne _ _ q] at j1
      obtain ⟨k2, a, b⟩ := t3 k h0 (by omega) j j0 j1
      exact ⟨k2, a, by rw [upI_ne _ _ (by omega)]; exact b⟩
  · by_cases q : j = nd
    · exact ⟨K, by omega, by rw [upI_same]; exact q.symm⟩
    · obtain ⟨k2, a, b⟩ := t4 j j0 (by omega)
      exact ⟨k2, by omega, by rw [upI_ne _ _ (by omega)]; exact b⟩
  · by_cases q : j = nd
    · subst q
      rw [upI_same, upI_same, upI_same]
      exact ⟨by omega, rfl⟩
    · have e := t5 j j0 (by omega)
      rw [upI_ne _ _ q, upI_ne _ _ q, upI_ne _ _ (fun w => by rw [w, hc] at e; omega)]
      exact e
  · by_cases q : a * 3 + b = x * 3 + v
    · rw [q, upI_same, upI_same, upI_same]
      exact Or.inr ⟨by omega, by omega, by omega⟩
    · rw [upI_ne _ _ q]
      by_cases w : a = nd
      · left; exact t7 a b (by omega) (by omega) b0 b1
      · rcases t6 a b a0 (by omega) b0 b1 with e | e
        · exact Or.inl e
        · right
          rw [upI_ne _ _ (by omega), upI_ne _ _ (by omega)]
          exact ⟨by omega, e.2⟩
  · rw [upI_ne _ _ (by omega)]
    exact t7 a b (by omega) a1 b0 b1
  · by_cases q : K = 0
    · rcases hp with w | w
      · rw [q, upI_same]; exact w.1
      · omega
    · rw [upI_ne _ _ (by omega)]; exact t8 (by omega)
/-- items of one node have one cell, whatever leads -/
theorem TreeI.cel_eq (h : TreeI ps tv tc K pa vb cd cn nd no) (τ : Int → Int) : ∀ k k2 : Nat, (k : Int) < K → (k2 : Int) < K → no (k : Int) = no (k2 : Int) → cel ps tv τ k = cel ps tv τ k2
  | k, k2, hk, hk2, e => by
    have a := h.2.1 k (by omega) hk
    have b := h.2.1 k2 (by omega) hk2
    have v : tv (k : Int) = tv (k2 : Int) := by rw [← a.2.2.1, ← b.2.2.1, e]
    have p : (if ps (k : Int) = 0 then (0 : Int) else no ((k : Int) - 1)) = (if ps (k2 : Int) = 0 then 0 else no ((k2 : Int) - 1)) := by rw [← a.2.1, ← b.2.1, e]
    have s : stt ps tv τ k = stt ps tv τ k2 := by
      by_cases q : ps (k : Int) = 0
      · have z : stt ps tv τ k = 0 := by
          cases k with
          | zero => rfl
          | succ i => exact if_pos q
        have q2 : ps (k2 : Int) = 0 := by
          by_cases w : ps (k2 : Int) = 0
          · exact w
          · rw [if_pos q, if_neg w] at p
            have c := h.tOk (k := (k2 : Int)) (by omega) hk2
            have c2 : 1 ≤ (k2 : Int) := by rcases c with c | c; exact absurd c w; exact c
            have := (h.2.1 ((k2 : Int) - 1) (by omega) (by omega)).1
            omega
        have z2 : stt ps tv τ k2 = 0 := by
          cases k2 with
          | zero => rfl
          | succ i => exact if_pos q2
        rw [z, z2]
      · have c := h.tOk (k := (k : Int)) (by omega) hk
        have c2 : 1 ≤ (k : Int) := by rcases c with c | c; exact absurd c q; exact c
        have q2 : ps (k2 : Int) ≠ 0 := by
          intro w
          rw [if_neg q, if_pos w] at p
          have := (h.2.1 ((k : Int) - 1) (by omega) (by omega)).1
          omega
        have d := h.tOk (k := (k2 : Int)) (by omega) hk2
        have d2 : 1 ≤ (k2 : Int) := by rcases d with d | d; exact absurd d q2; exact d
        rw [if_neg q, if_neg q2] at p
        cases k with
        | zero => omega
        | succ i =>
          cases k2 with
          | zero => omega
          | succ i2 =>
            have ih := TreeI.cel_eq h τ i i2 (by omega) (by omega) (by
              have e1 : (((i + 1 : Nat) : Int) - 1) = (i : Int) := by omega
              have e2 : (((i2 + 1 : Nat) : Int) - 1) = (i2 : Int) := by omega
              rw [e1, e2] at p
              exact p)
            show (if ps ((i + 1 : Nat) : Int) = 0 then 0 else τ (cel ps tv τ i)) = (if ps ((i2 + 1 : Nat) : Int) = 0 then 0 else τ (cel ps tv τ i2))
            rw [if_neg q, if_neg q2, ih]
    unfold cel
    rw [s, v]
/-- an item at a node that is there and has another code: no way to lead -/
theorem TreeI.quar (h : TreeI ps tv tc K pa vb cd cn nd no) {p x v y : Int} (hp : p = 0 ∧ x = 0 ∨ p ≠ 0 ∧ 0 < K ∧ x = no (K - 1)) (hv : 0 ≤ v ∧ v < 3) (hc : cn (x * 3 + v) ≠ -1) (hy : cd (cn (x * 3 + v)) ≠ y)
    {ps2 tv2 tc2 : Int → Int} {la : Nat} (hla : K < (la : Int)) (e1 : ∀ k, 0 ≤ k → k < K + 1 → ps2 k = upI ps K p k) (e2 : ∀ k, 0 ≤ k → k < K + 1 → tv2 k = upI tv K v k) (e3 : ∀ k, 0 ≤ k → k < K + 1 → tc2 k = upI tc K y k) (n : Int) (τ : Int → Int) : ¬ SolP ps2 tv2 tc2 la n τ := by
  intro hs
  have h0 : TreeI ps tv (fun k => if 0 ≤ k ∧ k < K ∧ no k = cn (x * 3 + v) then y else tc k) K pa vb (upI cd (cn (x * 3 + v)) y) cn nd no := by
    obtain ⟨t1, t2, t3, t4, t5, t6, t7, t8⟩ := h
    refine ⟨t1, fun k h0 h1 => ?_, t3, t4, t5, t6, t7, t8⟩
    have e := t2 k h0 h1
    refine ⟨e.1, e.2.1, e.2.2.1, ?_⟩
    by_cases q : no k = cn (x * 3 + v)
    · (try dsimp only)
      rw [if_pos ⟨h0, h1, q⟩, q, upI_same]
    · (try dsimp only)
      rw [upI_ne _ _ q, if_neg (fun w => q w.2.2)]; exact e.2.2.2
  have hold := TreeI.old (p := p) h0 hp hv hc (upI_same _ _ _)
  obtain ⟨t1, t2, t3, t4, t5, t6, t7, t8⟩ := h
  have hx : 0 ≤ x ∧ x < nd := by
    rcases hp with q | q
    · omega
    · have := (t2 (K - 1) (by omega) (by omega)).1; omega
  rcases t6 x v hx.1 hx.2 hv.1 hv.2 with hr | hr
  · exact absurd hr hc
  obtain ⟨k, hk, ek⟩ := t4 (cn (x * 3 + v)) hr.1.1 hr.1.2
  have c1 := TreeI.cel_eq hold τ k.toNat K.toNat (by omega) (by omega) (by
    rw [(show ((k.toNat : Nat) : Int) = k by omega), (show ((K.toNat : Nat) : Int) = K by omega), upI_same, upI_ne _ _ (by omega)]; exact ek)
  have cg : ∀ j : Nat, (j : Int) < K + 1 → stt ps2 tv2 τ j = stt (upI ps K p) (upI tv K v) τ j := by
    intro j
    induction j with
    | zero => intro _; rfl
    | succ i ih =>
      intro hi
      have i1 := ih (by omega)
      show (if ps2 ((i + 1 : Nat) : Int) = 0 then 0 else τ (3 * stt ps2 tv2 τ i + tv2 (i : Int))) = (if upI ps K p ((i + 1 : Nat) : Int) = 0 then 0 else τ (3 * stt (upI ps K p) (upI tv K v) τ i + upI tv K v (i : Int)))
      rw [i1, e1 _ (by omega) (by omega), e2 _ (by omega) (by omega)]
  have cc : ∀ j : Nat, (j : Int) < K + 1 → cel ps2 tv2 τ j = cel (upI ps K p) (upI tv K v) τ j := by
    intro j hj
    unfold cel
    rw [cg j hj, e2 _ (by omega) hj]
  have fin := hs.2 k.toNat K.toNat (by omega) (by omega) (by rw [cc _ (by omega), cc _ (by omega)]; exact c1)
  rw [(show ((k.toNat : Nat) : Int) = k by omega), (show ((K.toNat : Nat) : Int) = K by omega), e3 _ (by omega) (by omega), e3 _ (by omega) (by omega), upI_same, upI_ne _ _ (by omega)] at fin
  have e4 := (t2 k hk.1 hk.2).2.2.2
  rw [ek] at e4
  exact hy (by rw [e4, fin])
/-- what leads, by the tree -/
theorem TreeI.trs (h : TreeI ps tv tc K pa vb cd cn nd no) (hvb : ∀ i, 0 ≤ vb i ∧ vb i < 3) (hcd : ∀ i, 0 ≤ cd i ∧ cd i < 4) (htv : ∀ i, 0 ≤ tv i ∧ tv i < 3) (hnd : nd ≤ 97) {al : Int} (hal : 1 ≤ al ∧ al ≤ 4) : ∃ ns : NsT, TrS pa vb cd nd al (SolP ps tv tc K.toNat al) ns := by
  have t4 := h.2.2.2.1
  obtain ⟨fi, hfi⟩ : ∃ fi : Int → Int, ∀ j, 1 ≤ j → j < nd → (0 ≤ fi j ∧ fi j < K) ∧ no (fi j) = j := by
    refine ⟨fun j => if q : 1 ≤ j ∧ j < nd then Classical.choose (t4 j q.1 q.2) else 0, fun j j0 j1 => ?_⟩
    have e := Classical.choose_spec (t4 j j0 j1)
    (try dsimp only)
    rw [dif_pos ⟨j0, j1⟩]
    exact e
  have key : ∀ (τ : Int → Int) (k : Int), 1 ≤ k → k < nd → stt ps tv τ (fi k).toNat = (if pa k = 0 then 0 else τ (cel ps tv τ (fi (pa k)).toNat)) := by
    intro τ k k0 k1
    have a := hfi k k0 k1
    have b := h.2.1 (fi k) a.1.1 a.1.2
    rw [a.2] at b
    by_cases q : ps (fi k) = 0
    · rw [if_pos q] at b
      rw [if_pos b.2.1]
      have hf : ((fi k).toNat : Int) = fi k := by omega
      cases hn : (fi k).toNat with
      | zero => rfl
      | succ i => rw [hn] at hf; exact if_pos (by rw [hf]; exact q)
    · rw [if_neg q] at b
      have c := h.tOk a.1.1 a.1.2
      have c2 : 1 ≤ fi k := by rcases c with c | c; exact absurd c q; exact c
      have d := (h.2.1 (fi k - 1) (by omega) (by omega)).1
      have hpk : 1 ≤ pa k ∧ pa k < nd := by rw [b.2.1]; exact d
      rw [if_neg (by omega)]
      have f := hfi (pa k) hpk.1 hpk.2
      have hf : ((fi k).toNat : Int) = fi k := by omega
      have ce := TreeI.cel_eq h τ ((fi k).toNat - 1) (fi (pa k)).toNat (by omega) (by omega) (by
        rw [(show (((fi k).toNat - 1 : Nat) : Int) = fi k - 1 by omega), (show (((fi (pa k)).toNat : Nat) : Int) = fi (pa k) by omega), f.2]; exact b.2.1.symm)
      rw [← ce]
      cases hn : (fi k).toNat with
      | zero => omega
      | succ i =>
        rw [hn] at hf
        show (if ps ((i + 1 : Nat) : Int) = 0 then 0 else τ (cel ps tv τ i)) = _
        rw [hf, if_neg q]
        rfl
  have mv : ∀ (τ : Int → Int) (k : Int), 1 ≤ k → k < nd → 3 * (if pa k = 0 then 0 else τ (cel ps tv τ (fi (pa k)).toNat)) + vb k = cel ps tv τ (fi k).toNat := by
    intro τ k k0 k1
    have a := hfi k k0 k1
    have b := h.2.1 (fi k) a.1.1 a.1.2
    rw [a.2] at b
    rw [← key τ k k0 k1, b.2.2.1]
    unfold cel
    rw [(show (((fi k).toNat : Nat) : Int) = fi k by omega)]
  refine ⟨fun τ k => if k = 0 then 0 else τ (cel ps tv τ (fi k).toNat), ⟨hal, ⟨h.1.2.1, hnd⟩, fun k k0 k1 => (h.2.2.2.2.1 k k0 k1).1, hvb, hcd⟩, fun τ hτ m => hτ.1 m, fun τ _ => if_pos rfl, fun τ _ k k0 k1 => ?_, fun τ hτ k k' k0 k1 k2 k3 e => ?_, fun τ x y hτ hx hy => SolP.cj hτ htv hx hy⟩
  · (try dsimp only)
    rw [if_neg (by omega), mv τ k k0 k1]
  · (try dsimp only at e)
    rw [mv τ k k0 k1, mv τ k' k2 k3] at e
    have a := hfi k k0 k1
    have b := hfi k' k2 k3
    have c := hτ.2 _ _ (by omega) (by omega) e
    rw [(show (((fi k).toNat : Nat) : Int) = fi k by omega), (show (((fi k').toNat : Nat) : Int) = fi k' by omega), ← (h.2.1 (fi k) a.1.1 a.1.2).2.2.2, ← (h.2.1 (fi k') b.1.1 b.1.2).2.2.2, a.2, b.2] at c
    exact c
/-- the walk's end is the best way to lead -/
theorem TreeI.best (h : TreeI ps tv tc K pa vb cd cn nd no) {ns : NsT} {al cm dp : Int} {T F St Ph c : Int → Int} (hS : TrS pa vb cd nd al (SolP ps tv tc K.toNat al) ns) (hW : WkI (SolP ps tv tc K.toNat al) ns pa vb cd nd al T F St Ph nd cm dp) (hc : ∀ m, 0 ≤ m → m < 12 → T m ≠ -1 → c m = cd (F m)) : BestP ps tv tc K.toNat al T c := by
  obtain ⟨w1, w2, w3, w4, w5, w6⟩ := hW
  have st : ∀ k : Nat, (k : Int) < K → stt ps tv T k = St (pa (no (k : Int))) ∧ cel ps tv T k = 3 * St (pa (no (k : Int))) + vb (no (k : Int)) := by
    intro k
    induction k with
    | zero =>
      intro hk
      have a := h.2.1 ((0 : Nat) : Int) (by omega) hk
      have z : ps ((0 : Nat) : Int) = 0 := h.2.2.2.2.2.2.2 (by omega)
      have s : stt ps tv T 0 = St (pa (no ((0 : Nat) : Int))) := by rw [a.2.1, if_pos z, w4]; rfl
      refine ⟨s, ?_⟩
      unfold cel
      rw [s, a.2.2.1]
    | succ i ih =>
      intro hk
      have a := h.2.1 ((i + 1 : Nat) : Int) (by omega) hk
      have s : stt ps tv T (i + 1) = St (pa (no ((i + 1 : Nat) : Int))) := by
        show (if ps ((i + 1 : Nat) : Int) = 0 then 0 else T (cel ps tv T i)) = _
        rw [a.2.1]
        by_cases q : ps ((i + 1 : Nat) : Int) = 0
        · rw [if_pos q, if_pos q, w4]
        · rw [if_neg q, if_neg q, (ih (by omega)).2, (show ((i + 1 : Nat) : Int) - 1 = (i : Int) by omega)]
          have b := (h.2.1 (i : Int) (by omega) (by omega)).1
          exact (w3 _ b.1 b.2).2.1.symm
      refine ⟨s, ?_⟩
      unfold cel
      rw [s, a.2.2.1]
  refine ⟨fun k hk => ?_, fun m => ?_, fun k hk hfirst u u0 u1 τ hτ hag => ?_⟩
  · have a := h.2.1 (k : Int) (by omega) (by omega)
    have b := (st k (by omega)).2
    have d := w3 _ a.1.1 a.1.2
    rw [← b] at d
    have e := WkT.lt w2 d.1
    refine ⟨d.1, by omega, ?_⟩
    rw [hc _ e.1.1 e.1.2 (by omega), ← d.2.2, a.2.2.2]
  · rcases w2 m with q | ⟨q1, q2, q3, q4, q5, q6⟩
    · exact Or.inl q
    · obtain ⟨k, hk, ek⟩ := h.2.2.2.1 (F m) q4.1 q4.2
      refine Or.inr ⟨k.toNat, by omega, ?_⟩
      rw [(st k.toNat (by omega)).2, (show ((k.toNat : Nat) : Int) = k by omega), ek]
      exact q5
  · have a := h.2.1 (k : Int) (by omega) (by omega)
    have b := (st k (by omega)).2
    have d := w3 _ a.1.1 a.1.2
    rw [← b] at d
    refine w6 _ d.1 u u0 u1 τ hτ (fun m' hm' hlt => ?_)
    rcases w2 (cel ps tv T k) with q | ⟨q1, q2, q3, q4, q5, q6⟩
    · omega
    have hle : F (cel ps tv T k) ≤ no (k : Int) := by
      by_cases z : no (k : Int) < F (cel ps tv T k)
      · exact absurd b.symm (q6 _ a.1.1 z)
      · omega
    rcases w2 m' with z | ⟨z1, z2, z3, z4, z5, z6⟩
    · omega
    obtain ⟨k2, hk2, ek2⟩ := h.2.2.1 (k : Int) (by omega) (by omega) (F m') z4.1 (by omega)
    have e2 := (st k2.toNat (by omega)).2
    rw [(show ((k2.toNat : Nat) : Int) = k2 by omega), ek2, z5] at e2
    have := hag k2.toNat (by omega)
    rw [e2] at this
    exact this
end TR
