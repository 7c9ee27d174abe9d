/-! PLANTING: the tree grows with the tape -/
def Pre (A B : TpT) : Prop := A.2.2.2 ≤ B.2.2.2 ∧ ∀ k, k < A.2.2.2 → B.1 k = A.1 k ∧ B.2.1 k = A.2.1 k ∧ B.2.2.1 k = A.2.2.1 k
theorem Pre.refl (A : TpT) : Pre A A := ⟨Int.le_refl _, fun _ _ => ⟨rfl, rfl, rfl⟩⟩
theorem Pre.trans {A B C : TpT} (h : Pre A B) (h2 : Pre B C) : Pre A C := by
  refine ⟨Int.le_trans h.1 h2.1, fun k hk => ?_⟩
  have a := h.2 k hk
  have b := h2.2 k (Int.lt_of_lt_of_le hk h.1)
  exact ⟨b.1.trans a.1, b.2.1.trans a.2.1, b.2.2.trans a.2.2⟩
theorem Pre.step (V N : Int → Int) (r p : Int) (S : TpT) : Pre S (tpS V N r p S) := by
  refine ⟨by show S.2.2.2 ≤ S.2.2.2 + 1; omega, fun k hk => ⟨upI_ne _ _ (by omega), upI_ne _ _ (by omega), upI_ne _ _ (by omega)⟩⟩
theorem Pre.ofP (V N : Int → Int) (r : Int) (S : TpT) (n : Nat) : ∀ m : Nat, Pre (nP (tpS V N) r n S) (nP (tpS V N) r (n + m) S)
  | 0 => Pre.refl _
  | m + 1 => (Pre.ofP V N r S n m).trans (Pre.step V N r ((n + m : Nat) : Int) _)
theorem Pre.ofR (L V N : Int → Int) (e : Int) (S : TpT) (n : Nat) : ∀ m : Nat, Pre (nR (tpS V N) L e n S) (nR (tpS V N) L e (n + m) S)
  | 0 => Pre.refl _
  | m + 1 => by
    refine (Pre.ofR L V N e S n m).trans ?_
    show Pre _ (if ((n + m : Nat) : Int) = e then nR (tpS V N) L e (n + m) S else nP (tpS V N) ((n + m : Nat) : Int) (L ((n + m : Nat) : Int)).toNat (nR (tpS V N) L e (n + m) S))
    split
    · exact Pre.refl _
    · have := Pre.ofP V N ((n + m : Nat) : Int) (nR (tpS V N) L e (n + m) S) 0 (L ((n + m : Nat) : Int)).toNat
      rw [Nat.zero_add] at this
      exact this
theorem tp_len (V N : Int → Int) (r : Int) (S : TpT) : ∀ n : Nat, (nP (tpS V N) r n S).2.2.2 = S.2.2.2 + n
  | 0 => by show S.2.2.2 = S.2.2.2 + ((0 : Nat) : Int); omega
  | n + 1 => by
    show (nP (tpS V N) r n S).2.2.2 + 1 = _
    rw [tp_len V N r S n]
    omega
/-- the tape's verbs are verbs -/
theorem tp_tv {V N : Int → Int} (hV : ∀ i, 0 ≤ V i ∧ V i < 3) (L : Int → Int) (e : Int) (n : Nat) (i : Int) : 0 ≤ (tpF L V N e n).2.1 i ∧ (tpF L V N e n).2.1 i < 3 := by
  refine nR_inv (f := tpS V N) (L := L) (b := e) (Q := fun S : TpT => ∀ i, 0 ≤ S.2.1 i ∧ S.2.1 i < 3) n _ (fun i => by show (0 : Int) ≤ 0 ∧ (0 : Int) < 3; omega) (fun r p S _ _ _ q => ?_) i
  intro j
  show 0 ≤ upI S.2.1 S.2.2.2 (V (r * 12 + p)) j ∧ upI S.2.1 S.2.2.2 (V (r * 12 + p)) j < 3
  have a := hV (r * 12 + p)
  have b := q j
  unfold upI
  split <;> omega
theorem tp_K {L V N : Int → Int} (hL : ∀ i, 0 ≤ L i ∧ L i ≤ 12) (e : Int) : ∀ n : Nat, 0 ≤ (tpF L V N e n).2.2.2 ∧ (tpF L V N e n).2.2.2 ≤ 12 * n
  | 0 => by show (0 : Int) ≤ 0 ∧ (0 : Int) ≤ 12 * ((0 : Nat) : Int); omega
  | n + 1 => by
    have ih := tp_K hL e n (V := V) (N := N)
    have a := hL n
    show 0 ≤ (if (n : Int) = e then tpF L V N e n else nP (tpS V N) n (L n).toNat (tpF L V N e n)).2.2.2 ∧ (if (n : Int) = e then tpF L V N e n else nP (tpS V N) n (L n).toNat (tpF L V N e n)).2.2.2 ≤ _
    split
    · omega
    · rw [tp_len]; omega
def TrT (S : TpT) (U : TSt) (no : Int → Int) : Prop := TreeI S.1 S.2.1 S.2.2.1 S.2.2.2 U.1 U.2.1 U.2.2.1 U.2.2.2.1 U.2.2.2.2.1 no
/-- one place of a row: the node behind it is there with the row's code, or quarrels -/
theorem pt_step {V N : Int → Int} {x : Int} {S : TpT} {U : TSt} {no : Int → Int} (hV : ∀ i, 0 ≤ V i ∧ V i < 3) (h : TrT S U no) {p : Int} (hn : p = 0 ∧ U.2.2.2.2.2 = 0 ∨ p ≠ 0 ∧ 0 < S.2.2.2 ∧ U.2.2.2.2.2 = no (S.2.2.2 - 1)) (hK : S.2.2.2 < 96) :
    ((ptS V N x p U).2.2.1 (ptS V N x p U).2.2.2.2.2 = N (x * 12 + p) / 10000 ∧ ∃ no', TrT (tpS V N x p S) (ptS V N x p U) no' ∧ (ptS V N x p U).2.2.2.2.2 = no' S.2.2.2) ∨
    ((ptS V N x p U).2.2.1 (ptS V N x p U).2.2.2.2.2 ≠ N (x * 12 + p) / 10000 ∧ 2 ≤ U.2.2.2.2.1 ∧ ∀ B : TpT, Pre (tpS V N x p S) B → ∀ n τ, ¬ SolP B.1 B.2.1 B.2.2.1 B.2.2.2.toNat n τ) := by
  obtain ⟨ps, tv, tc, K⟩ := S
  obtain ⟨pa, vb, cd, cn, nd, nx⟩ := U
  have hv := hV (x * 12 + p)
  have ht : TreeI ps tv tc K pa vb cd cn nd no := h
  have hn' : p = 0 ∧ nx = 0 ∨ p ≠ 0 ∧ 0 < K ∧ nx = no (K - 1) := hn
  have hK' : K < 96 := hK
  have e0 : ptS V N x p (pa, vb, cd, cn, nd, nx) = chS nx (V (x * 12 + p)) (N (x * 12 + p) / 10000) pa vb cd cn nd := rfl
  rw [e0]
  by_cases hc : cn (nx * 3 + V (x * 12 + p)) = -1
  · have e1 : chS nx (V (x * 12 + p)) (N (x * 12 + p) / 10000) pa vb cd cn nd = (upI pa nd nx, upI vb nd (V (x * 12 + p)), upI cd nd (N (x * 12 + p) / 10000), upI cn (nx * 3 + V (x * 12 + p)) nd, nd + 1, nd) := by
      unfold chS
      rw [if_neg (fun q => q hc), if_pos (by have := ht.1; omega)]
    rw [e1]
    exact Or.inl ⟨upI_same _ _ _, upI no K nd, TreeI.new ht hn' hv hc (by have := ht.1; omega), (upI_same _ _ _).symm⟩
  · have e1 : chS nx (V (x * 12 + p)) (N (x * 12 + p) / 10000) pa vb cd cn nd = (pa, vb, cd, cn, nd, cn (nx * 3 + V (x * 12 + p))) := if_pos hc
    rw [e1]
    by_cases hy : cd (cn (nx * 3 + V (x * 12 + p))) = N (x * 12 + p) / 10000
    · exact Or.inl ⟨hy, upI no K (cn (nx * 3 + V (x * 12 + p))), TreeI.old ht hn' hv hc hy, (upI_same _ _ _).symm⟩
    · have hx : 0 ≤ nx ∧ nx < nd := by
        rcases hn' with q | q
        · have := ht.1; omega
        · have := (ht.2.1 (K - 1) (by omega) (by omega)).1; omega
      refine Or.inr ⟨hy, ?_, fun B hB n τ => ?_⟩
      · show 2 ≤ nd
        rcases ht.2.2.2.2.2.1 nx _ hx.1 hx.2 hv.1 hv.2 with q | q
        · exact absurd q hc
        · omega
      · obtain ⟨b1, b2⟩ := hB
        have b1' : K + 1 ≤ B.2.2.2 := b1
        have hK0 := ht.1.1
        exact TreeI.quar ht hn' hv hc hy (by omega) (fun k _ k1 => (b2 k k1).1) (fun k _ k1 => (b2 k k1).2.1) (fun k _ k1 => (b2 k k1).2.2) n τ
/-- a row's first places -/
theorem pt_row {V N : Int → Int} {x : Int} {S : TpT} {pa vb cd cn : Int → Int} {nd : Int} {no : Int → Int} (hV : ∀ i, 0 ≤ V i ∧ V i < 3) (h : TreeI S.1 S.2.1 S.2.2.1 S.2.2.2 pa vb cd cn nd no) : ∀ j : Nat, S.2.2.2 + j ≤ 96 → (∀ i, 0 ≤ i ∧ i < (j : Int) → ptG V N x (pa, vb, cd, cn, nd, 0) i) → ∃ no', TrT (nP (tpS V N) x j S) (nP (ptS V N) x j (pa, vb, cd, cn, nd, 0)) no' ∧ ((j : Int) = 0 ∧ (nP (ptS V N) x j (pa, vb, cd, cn, nd, 0)).2.2.2.2.2 = 0 ∨ (j : Int) ≠ 0 ∧ 0 < (nP (tpS V N) x j S).2.2.2 ∧ (nP (ptS V N) x j (pa, vb, cd, cn, nd, 0)).2.2.2.2.2 = no' ((nP (tpS V N) x j S).2.2.2 - 1))
  | 0, _, _ => ⟨no, h, Or.inl ⟨rfl, rfl⟩⟩
  | j + 1, hK, hg => by
    obtain ⟨no1, a1, a2⟩ := pt_row hV h j (by omega) (fun i hi => hg i (by omega))
    have hl := tp_len V N x S j
    have hS0 := h.1.1
    have g := hg (j : Int) (by omega)
    have e : nP (ptS V N) x ((j : Int) + 1).toNat (pa, vb, cd, cn, nd, 0) = ptS V N x j (nP (ptS V N) x j (pa, vb, cd, cn, nd, 0)) := by
      rw [(show ((j : Int) + 1).toNat = j + 1 by omega)]
      rfl
    unfold ptG at g
    rw [e] at g
    rcases pt_step (x := x) (N := N) hV a1 a2 (by omega) with ⟨_, no2, b1, b2⟩ | ⟨b, _, _⟩
    · refine ⟨no2, b1, Or.inr ⟨by omega, ?_, ?_⟩⟩
      · show 0 < (nP (tpS V N) x j S).2.2.2 + 1
        omega
      · have e3 : (nP (tpS V N) x (j + 1) S).2.2.2 - 1 = (nP (tpS V N) x j S).2.2.2 := by
          show (nP (tpS V N) x j S).2.2.2 + 1 - 1 = _
          omega
        rw [e3]
        exact b2
    · exact absurd g b
theorem chS_nd (x v y : Int) (pa vb cd cn : Int → Int) (nd : Int) : nd ≤ (chS x v y pa vb cd cn nd).2.2.2.2.1 := by
  unfold chS
  (repeat' split) <;> (try dsimp only) <;> omega
theorem pt_nd (V N : Int → Int) (x : Int) (U : TSt) (n : Nat) : ∀ m : Nat, (nP (ptS V N) x n U).2.2.2.2.1 ≤ (nP (ptS V N) x (n + m) U).2.2.2.2.1
  | 0 => Int.le_refl _
  | m + 1 => Int.le_trans (pt_nd V N x U n m) (chS_nd _ _ _ _ _ _ _ _)
/-- a row planted: the tree is the tape's, or nothing can lead -/
theorem pl_row {V N : Int → Int} {x l : Int} {S : TpT} {pa vb cd cn pa1 vb1 cd1 cn1 no : Int → Int} {nd nd1 r : Int} (hV : ∀ i, 0 ≤ V i ∧ V i < 3) (h : TreeI S.1 S.2.1 S.2.2.1 S.2.2.2 pa vb cd cn nd no) (hl : 0 ≤ l ∧ S.2.2.2 + l ≤ 96) (hp : PlS V N x l pa vb cd cn nd r pa1 vb1 cd1 cn1 nd1) :
    (r = 1 ∧ ∃ no', TrT (nP (tpS V N) x l.toNat S) (pa1, vb1, cd1, cn1, nd1, 0) no') ∨ (r = 0 ∧ 2 ≤ nd1 ∧ ∀ B : TpT, Pre (nP (tpS V N) x l.toNat S) B → ∀ n τ, ¬ SolP B.1 B.2.1 B.2.2.1 B.2.2.2.toNat n τ) := by
  rcases hp with ⟨h1, nx, e, hg⟩ | ⟨h1, j, hj, nx, e, hg⟩
  · obtain ⟨no', a, _⟩ := pt_row (N := N) (x := x) hV h l.toNat (by omega) (fun i hi => hg i (by omega))
    rw [e] at a
    exact Or.inl ⟨h1, no', a⟩
  · right
    -- the least place that quarrels
    have least : ∀ m : Nat, ¬ ptG V N x (pa, vb, cd, cn, nd, 0) (m : Int) → ∃ m0 : Nat, m0 ≤ m ∧ ¬ ptG V N x (pa, vb, cd, cn, nd, 0) (m0 : Int) ∧ ∀ i, 0 ≤ i ∧ i < (m0 : Int) → ptG V N x (pa, vb, cd, cn, nd, 0) i := by
      intro m
      induction m using Nat.strongRecOn with
      | ind m ih =>
        intro hm
        by_cases q : ∃ i : Nat, i < m ∧ ¬ ptG V N x (pa, vb, cd, cn, nd, 0) (i : Int)
        · obtain ⟨i, i1, i2⟩ := q
          obtain ⟨m0, a, b, c⟩ := ih i i1 i2
          exact ⟨m0, by omega, b, c⟩
        · refine ⟨m, Nat.le_refl _, hm, fun i hi => ?_⟩
          by_cases w : ptG V N x (pa, vb, cd, cn, nd, 0) i
          · exact w
          · exact absurd ⟨i.toNat, by omega, by rw [(show ((i.toNat : Nat) : Int) = i by omega)]; exact w⟩ q
    obtain ⟨m0, a, b, c⟩ := least j.toNat (by rw [(show ((j.toNat : Nat) : Int) = j by omega)]; exact hg)
    obtain ⟨no1, a1, a2⟩ := pt_row (N := N) (x := x) hV h m0 (by omega) c
    have hl2 := tp_len V N x S m0
    have e0 : nP (ptS V N) x ((m0 : Int) + 1).toNat (pa, vb, cd, cn, nd, 0) = ptS V N x m0 (nP (ptS V N) x m0 (pa, vb, cd, cn, nd, 0)) := by
      rw [(show ((m0 : Int) + 1).toNat = m0 + 1 by omega)]
      rfl
    unfold ptG at b
    rw [e0] at b
    rcases pt_step (x := x) (N := N) hV a1 a2 (by omega) with ⟨w, _⟩ | ⟨_, w1, w2⟩
    · exact absurd w b
    · refine ⟨h1, ?_, fun B hB n τ => w2 B (Pre.trans ?_ hB) n τ⟩
      · have q := pt_nd V N x (pa, vb, cd, cn, nd, 0) m0 ((j + 1).toNat - m0)
        rw [(show m0 + ((j + 1).toNat - m0) = (j + 1).toNat by omega), e] at q
        exact Int.le_trans w1 q
      · have q := Pre.ofP V N x S (m0 + 1) (l.toNat - (m0 + 1))
        rw [(show m0 + 1 + (l.toNat - (m0 + 1)) = l.toNat by omega)] at q
        exact q
/-- what a machine tells of a tape -/
def MacG (ps tv tc : Int → Int) (la r : Int) (t c : Int → Int) : Prop :=
  (la = 0 ∧ r = 0 ∧ ∀ j, 0 ≤ j ∧ j < 12 → t j = -1 ∧ c j = -1) ∨
  (0 < la ∧ (1 ≤ r ∧ r ≤ 4) ∧ (∃ T C : Int → Int, BestP ps tv tc la.toNat r T C ∧ ∀ j, 0 ≤ j ∧ j < 12 → t j = T j ∧ c j = if T j = -1 then -1 else C j) ∧ ∀ n, 1 ≤ n ∧ n < r → ∀ τ, ¬ SolP ps tv tc la.toNat n τ) ∨
  (0 < la ∧ r = -1 ∧ (∀ n, 1 ≤ n ∧ n ≤ 4 → ∀ τ, ¬ SolP ps tv tc la.toNat n τ) ∧ ∀ j, 0 ≤ j ∧ j < 12 → t j = -1 ∧ c j = -1)
def MacC (L V N : Int → Int) (e y r : Int) (t c : Int → Int) : Prop := MacG (tpF L V N e y.toNat).1 (tpF L V N e y.toNat).2.1 (tpF L V N e y.toNat).2.2.1 (tpF L V N e y.toNat).2.2.2 r t c
/-- the rows planted so far -/
def SeI (L V N : Int → Int) (e y i q : Int) (pa vb cd cn : Int → Int) (nd : Int) : Prop :=
  (q = 0 ∧ ∃ no, TrT (tpF L V N e i.toNat) (pa, vb, cd, cn, nd, 0) no) ∨
  (q = 1 ∧ 2 ≤ nd ∧ 0 < (tpF L V N e y.toNat).2.2.2 ∧ ∀ n τ, ¬ SolP (tpF L V N e y.toNat).1 (tpF L V N e y.toNat).2.1 (tpF L V N e y.toNat).2.2.1 (tpF L V N e y.toNat).2.2.2.toNat n τ)
theorem SeI.init {L V N pa vb cd : Int → Int} (e y : Int) : SeI L V N e y 0 0 pa vb cd (fun _ => -1) 1 := Or.inl ⟨rfl, fun _ => 0, TreeI.init (fun _ _ _ => rfl) _⟩
theorem SeI.skip {L V N pa vb cd cn : Int → Int} {e y i nd : Int} (h : SeI L V N e y i 0 pa vb cd cn nd) (hi : 0 ≤ i) (he : i = e) : SeI L V N e y (i + 1) 0 pa vb cd cn nd := by
  rcases h with ⟨h1, no, h2⟩ | h
  · refine Or.inl ⟨rfl, no, ?_⟩
    have e1 : tpF L V N e (i + 1).toNat = tpF L V N e i.toNat := by
      unfold tpF
      rw [nR_up _ _ _ hi, if_pos he]
    rw [e1]; exact h2
  · have := h.1; omega
theorem SolP.pos {ps tv tc : Int → Int} {la : Nat} (h : ∀ n τ, ¬ SolP ps tv tc la n τ) : 0 < la := by
  cases la with
  | zero => exact absurd ⟨fun m => by (try dsimp only); omega, fun k k2 hk => by omega⟩ (h 1 (fun _ => 0))
  | succ n => omega
theorem SeI.row {L V N pa vb cd cn pa1 vb1 cd1 cn1 : Int → Int} {e y i nd nd1 r : Int} (hL : ∀ i, 0 ≤ L i ∧ L i ≤ 12) (hV : ∀ i, 0 ≤ V i ∧ V i < 3) (h : SeI L V N e y i 0 pa vb cd cn nd) (hi : 0 ≤ i ∧ i < y) (hy : y ≤ 8) (he : i ≠ e) (hp : PlS V N i (L i) pa vb cd cn nd r pa1 vb1 cd1 cn1 nd1) : (r = 1 → SeI L V N e y (i + 1) 0 pa1 vb1 cd1 cn1 nd1) ∧ (r = 0 → SeI L V N e y (i + 1) 1 pa1 vb1 cd1 cn1 nd1) := by
  rcases h with ⟨_, no, h2⟩ | h
  · have e1 : tpF L V N e (i + 1).toNat = nP (tpS V N) i (L i).toNat (tpF L V N e i.toNat) := by
      unfold tpF
      rw [nR_up _ _ _ hi.1, if_neg he]
    have k1 := tp_K hL e i.toNat (V := V) (N := N)
    have k2 := hL i
    rcases pl_row hV h2 (by omega) hp with ⟨a, no', b⟩ | ⟨a, b1, b2⟩
    · refine ⟨fun _ => Or.inl ⟨rfl, no', by rw [e1]; exact b⟩, fun q => by omega⟩
    · refine ⟨fun q => by omega, fun _ => ?_⟩
      have hB : ∀ n τ, ¬ SolP (tpF L V N e y.toNat).1 (tpF L V N e y.toNat).2.1 (tpF L V N e y.toNat).2.2.1 (tpF L V N e y.toNat).2.2.2.toNat n τ := by
        refine b2 _ ?_
        rw [← e1]
        have q := Pre.ofR L V N e (fun _ => 0, fun _ => 0, fun _ => 0, 0) (i + 1).toNat (y.toNat - (i + 1).toNat)
        rw [(show (i + 1).toNat + (y.toNat - (i + 1).toNat) = y.toNat by omega)] at q
        exact q
      refine Or.inr ⟨rfl, b1, ?_, hB⟩
      have := SolP.pos hB
      omega
  · have := h.1; omega
