/-! ARRIVALS at the moves, in pure words: a pile of nodes, how many of them wait at each move, and what they weigh -/
def cA (g : Int → Int) (m : Int) : Nat → Int
  | 0 => 0
  | n + 1 => cA g m n + (if g (n : Int) = m then 1 else 0)
def sA (g h : Int → Int) (m : Int) : Nat → Int
  | 0 => 0
  | n + 1 => sA g h m n + (if g (n : Int) = m then h (n : Int) else 0)
def sN (f : Int → Int) : Nat → Int
  | 0 => 0
  | n + 1 => sN f n + f (n : Int)
theorem cA_bd (g : Int → Int) (m : Int) : ∀ n : Nat, 0 ≤ cA g m n ∧ cA g m n ≤ n
  | 0 => by show (0 : Int) ≤ 0 ∧ (0 : Int) ≤ ((0 : Nat) : Int); omega
  | n + 1 => by
    have h := cA_bd g m n
    unfold cA
    split <;> omega
theorem cA_same {g g2 : Int → Int} {m : Int} : ∀ n : Nat, (∀ i, 0 ≤ i → i < (n : Int) → g i = g2 i) → cA g m n = cA g2 m n
  | 0, _ => rfl
  | n + 1, h => by
    unfold cA
    rw [cA_same n (fun i h0 h1 => h i h0 (by omega)), h n (by omega) (by omega)]
theorem sA_same {g g2 h h2 : Int → Int} {m : Int} : ∀ n : Nat, (∀ i, 0 ≤ i → i < (n : Int) → g i = g2 i ∧ h i = h2 i) → sA g h m n = sA g2 h2 m n
  | 0, _ => rfl
  | n + 1, q => by
    have a := q n (by omega) (by omega)
    unfold sA
    rw [sA_same n (fun i h0 h1 => q i h0 (by omega)), a.1, a.2]
theorem cA_mono (g : Int → Int) (m : Int) (n : Nat) : ∀ k : Nat, cA g m n ≤ cA g m (n + k)
  | 0 => Int.le_refl _
  | k + 1 => by
    have h := cA_mono g m n k
    show cA g m n ≤ cA g m (n + k) + _
    split <;> omega
theorem cA_lt {g : Int → Int} {m : Int} {i n : Nat} (h : i < n) (e : g (i : Int) = m) : cA g m i < cA g m n := by
  have a := cA_mono g m (i + 1) (n - (i + 1))
  rw [(show i + 1 + (n - (i + 1)) = n by omega)] at a
  have b : cA g m (i + 1) = cA g m i + 1 := by
    show cA g m i + (if g (i : Int) = m then 1 else 0) = _
    rw [if_pos e]
  omega
theorem cA_at {g : Int → Int} {m : Int} : ∀ (n : Nat) (c : Int), 0 ≤ c → c < cA g m n → ∃ i : Nat, i < n ∧ g (i : Int) = m ∧ cA g m i = c
  | 0, c, h0, h1 => by
    have : c < 0 := h1
    omega
  | n + 1, c, h0, h1 => by
    by_cases q : c < cA g m n
    · obtain ⟨i, a, b, d⟩ := cA_at n c h0 q
      exact ⟨i, by omega, b, d⟩
    · have h2 : c < cA g m n + (if g (n : Int) = m then 1 else 0) := h1
      by_cases w : g (n : Int) = m
      · rw [if_pos w] at h2
        exact ⟨n, by omega, w, by omega⟩
      · rw [if_neg w] at h2
        omega
theorem sA_nn {g h : Int → Int} {m : Int} : ∀ n : Nat, (∀ i, 0 ≤ i → i < (n : Int) → 0 ≤ h i) → 0 ≤ sA g h m n
  | 0, _ => by show (0 : Int) ≤ 0; omega
  | n + 1, q => by
    have a := q n (by omega) (by omega)
    have b := sA_nn (g := g) (h := h) (m := m) n (fun i h0 h1 => q i h0 (by omega))
    unfold sA
    split <;> omega
theorem sA_le {g h : Int → Int} {m : Int} : ∀ n : Nat, (∀ i, 0 ≤ i → i < (n : Int) → 0 ≤ h i) → sA g h m n ≤ sN h n
  | 0, _ => by show (0 : Int) ≤ 0; omega
  | n + 1, q => by
    have a := q n (by omega) (by omega)
    have b := sA_le (g := g) (h := h) (m := m) n (fun i h0 h1 => q i h0 (by omega))
    unfold sA sN
    split <;> omega
theorem sA_ge {g h : Int → Int} {m : Int} {i : Nat} (e : g (i : Int) = m) : ∀ n : Nat, i < n → (∀ j, 0 ≤ j → j < (n : Int) → 0 ≤ h j) → h (i : Int) ≤ sA g h m n
  | 0, q, _ => by omega
  | n + 1, q, hn => by
    have hq := hn n (by omega) (by omega)
    by_cases w : i = n
    · subst w
      have b := sA_nn (g := g) (h := h) (m := m) i (fun j h0 h1 => hn j h0 (by omega))
      unfold sA
      rw [if_pos e]
      omega
    · have b := sA_ge e n (by omega) (fun j h0 h1 => hn j h0 (by omega))
      unfold sA
      split <;> omega
theorem sN_same {f f2 : Int → Int} : ∀ n : Nat, (∀ i, 0 ≤ i → i < (n : Int) → f i = f2 i) → sN f n = sN f2 n
  | 0, _ => rfl
  | n + 1, h => by
    unfold sN
    rw [sN_same n (fun i h0 h1 => h i h0 (by omega)), h n (by omega) (by omega)]
theorem sN_up {f : Int → Int} {i : Int} (x : Int) (h0 : 0 ≤ i) : ∀ n : Nat, i < (n : Int) → sN (upI f i x) n = sN f n + (x - f i)
  | 0, h => by omega
  | n + 1, h => by
    unfold sN
    by_cases q : i = (n : Int)
    · rw [sN_same (f2 := f) n (fun j j0 j1 => upI_ne _ _ (by omega)), ← q, upI_same]
      omega
    · rw [sN_up x h0 n (by omega), upI_ne _ _ (fun z => q z.symm)]
      omega
theorem sN_nn {f : Int → Int} : ∀ n : Nat, (∀ i, 0 ≤ i → i < (n : Int) → 0 ≤ f i) → 0 ≤ sN f n
  | 0, _ => by show (0 : Int) ≤ 0; omega
  | n + 1, h => by
    have a := h n (by omega) (by omega)
    have b := sN_nn n (fun i h0 h1 => h i h0 (by omega))
    unfold sN
    omega
theorem sN_ge {f : Int → Int} {i : Int} (h0 : 0 ≤ i) : ∀ n : Nat, i < (n : Int) → (∀ j, 0 ≤ j → j < (n : Int) → 0 ≤ f j) → f i ≤ sN f n
  | 0, h, _ => by omega
  | n + 1, h, hn => by
    have a := hn n (by omega) (by omega)
    by_cases q : i = (n : Int)
    · have b := sN_nn n (fun j j0 j1 => hn j j0 (by omega))
      unfold sN
      rw [q]
      omega
    · have b := sN_ge h0 n (by omega) (fun j j0 j1 => hn j j0 (by omega))
      unfold sN
      omega
/-- what is left of f when the pile's nodes are taken away -/
def rmF (f Ar : Int → Int) : Nat → Int → Int
  | 0 => f
  | n + 1 => upI (rmF f Ar n) (Ar (n : Int)) 0
theorem rmF_at {f Ar : Int → Int} {j : Int} : ∀ n : Nat, (∀ i, 0 ≤ i → i < (n : Int) → Ar i ≠ j) → rmF f Ar n j = f j
  | 0, _ => rfl
  | n + 1, h => by
    show upI (rmF f Ar n) (Ar (n : Int)) 0 j = f j
    rw [upI_ne _ _ (fun q => h n (by omega) (by omega) q.symm), rmF_at n (fun i h0 h1 => h i h0 (by omega))]
theorem rmF_nn {f Ar : Int → Int} {j : Int} (hj : 0 ≤ f j) : ∀ n : Nat, 0 ≤ rmF f Ar n j
  | 0 => hj
  | n + 1 => by
    have a := rmF_nn hj n (Ar := Ar)
    show 0 ≤ upI (rmF f Ar n) (Ar (n : Int)) 0 j
    unfold upI
    split <;> omega
theorem sum_ar {f Ar : Int → Int} {N : Nat} : ∀ n : Nat, (∀ i, 0 ≤ i → i < (n : Int) → 0 ≤ Ar i ∧ Ar i < (N : Int)) → (∀ i j, 0 ≤ i → i < j → j < (n : Int) → Ar i ≠ Ar j) → sN (rmF f Ar n) N + sN (fun i => f (Ar i)) n = sN f N
  | 0, _, _ => by show sN f N + 0 = sN f N; omega
  | n + 1, h, hd => by
    have ih := sum_ar (f := f) n (fun i h0 h1 => h i h0 (by omega)) (fun i j h0 h1 h2 => hd i j h0 h1 (by omega))
    have a := h n (by omega) (by omega)
    have b := sN_up (f := rmF f Ar n) 0 a.1 N a.2
    have c := rmF_at (f := f) (Ar := Ar) (j := Ar (n : Int)) n (fun i h0 h1 => hd i n h0 h1 (by omega))
    show sN (upI (rmF f Ar n) (Ar (n : Int)) 0) N + (sN (fun i => f (Ar i)) n + f (Ar (n : Int))) = sN f N
    rw [b, c]
    omega
theorem sum_le {f Ar : Int → Int} {N : Nat} (hf : ∀ j, 0 ≤ j → j < (N : Int) → 0 ≤ f j) {n : Nat} (h : ∀ i, 0 ≤ i → i < (n : Int) → 0 ≤ Ar i ∧ Ar i < (N : Int)) (hd : ∀ i j, 0 ≤ i → i < j → j < (n : Int) → Ar i ≠ Ar j) : sN (fun i => f (Ar i)) n ≤ sN f N := by
  have a := sum_ar (f := f) n h hd
  have b := sN_nn (f := rmF f Ar n) N (fun j j0 j1 => rmF_nn (hf j j0 j1) n)
  omega
def one0 (j : Int) : Int := if j = 0 then 0 else 1
theorem sN_one : ∀ n : Nat, sN one0 (n + 1) = n
  | 0 => by decide
  | n + 1 => by
    have a := sN_one n
    show sN one0 (n + 1) + one0 ((n + 1 : Nat) : Int) = _
    unfold one0 at a ⊢
    rw [if_neg (by omega), a]
    omega
theorem sN_const {f : Int → Int} : ∀ n : Nat, (∀ i, 0 ≤ i → i < (n : Int) → f i = 1) → sN f n = n
  | 0, _ => rfl
  | n + 1, h => by
    have a := h n (by omega) (by omega)
    have b := sN_const n (fun i h0 h1 => h i h0 (by omega))
    unfold sN
    omega
/-- the pile -/
def ArS (nd : Int) (wt Mv Ar At An Mw : Int → Int) (n : Int) : Prop :=
  0 ≤ n ∧ (∀ i, 0 ≤ i → i < n → (1 ≤ Ar i ∧ Ar i < nd) ∧ (0 ≤ Mv (Ar i) ∧ Mv (Ar i) < 12)) ∧ (∀ i j, 0 ≤ i → i < j → j < n → Ar i ≠ Ar j) ∧
  (∀ m, 0 ≤ m → m < 12 → An m = cA (fun i => Mv (Ar i)) m n.toNat ∧ Mw m = sA (fun i => Mv (Ar i)) (fun i => wt (Ar i)) m n.toNat) ∧
  ∀ i, 0 ≤ i → i < n → At (Mv (Ar i) * 97 + cA (fun j => Mv (Ar j)) (Mv (Ar i)) i.toNat) = Ar i
def WtO (wt : Int → Int) : Prop := (∀ j, 0 ≤ j → j < 97 → 0 ≤ wt j) ∧ sN wt 97 ≤ 300000000
section AS
variable {nd n : Int} {wt Mv Ar At An Mw : Int → Int}
theorem ArS.len (h : ArS nd wt Mv Ar At An Mw n) (hnd : 1 ≤ nd) : n ≤ nd - 1 := by
  obtain ⟨h0, h1, h2, _, _⟩ := h
  have e : ((n.toNat : Nat) : Int) = n := by omega
  have f : ((nd.toNat : Nat) : Int) = nd := by omega
  have a := sum_le (f := one0) (Ar := Ar) (N := nd.toNat) (n := n.toNat) (fun j _ _ => by unfold one0; split <;> omega) (fun i i0 i1 => by have := (h1 i i0 (by omega)).1; omega) (fun i j i0 i1 i2 => h2 i j i0 i1 (by omega))
  have b := sN_const (f := fun i => one0 (Ar i)) n.toNat (fun i i0 i1 => if_neg (by have := (h1 i i0 (by omega)).1; omega))
  have c := sN_one (nd.toNat - 1)
  rw [(show nd.toNat - 1 + 1 = nd.toNat by omega)] at c
  rw [b, c] at a
  omega
theorem ArS.an (h : ArS nd wt Mv Ar At An Mw n) {m : Int} (h0 : 0 ≤ m) (h1 : m < 12) : 0 ≤ An m ∧ An m ≤ n := by
  have a := (h.2.2.2.1 m h0 h1).1
  have b := cA_bd (fun i => Mv (Ar i)) m n.toNat
  have c := h.1
  omega
theorem ArS.mw (h : ArS nd wt Mv Ar At An Mw n) (hnd : 1 ≤ nd ∧ nd ≤ 97) (hw : WtO wt) {m : Int} (h0 : 0 ≤ m) (h1 : m < 12) : 0 ≤ Mw m ∧ Mw m ≤ 300000000 := by
  have l := h.len hnd.1
  obtain ⟨q0, q1, q2, q3, _⟩ := h
  have hn : ∀ i, 0 ≤ i → i < ((n.toNat : Nat) : Int) → 0 ≤ (fun i => wt (Ar i)) i := fun i i0 i1 => hw.1 _ (by have := (q1 i i0 (by omega)).1; omega) (by have := (q1 i i0 (by omega)).1; omega)
  have a := (q3 m h0 h1).2
  have b := sA_nn (g := fun i => Mv (Ar i)) (m := m) n.toNat hn
  have c := sA_le (g := fun i => Mv (Ar i)) (m := m) n.toNat hn
  have d := sum_le (f := wt) (Ar := Ar) (N := 97) (n := n.toNat) (fun j j0 j1 => hw.1 j j0 j1) (fun i i0 i1 => by have := (q1 i i0 (by omega)).1; omega) (fun i j i0 i1 i2 => q2 i j i0 i1 (by omega))
  have e := hw.2
  omega
/-- an arrived node weighs no more than all that wait at its move -/
theorem ArS.ge (h : ArS nd wt Mv Ar At An Mw n) (hnd : nd ≤ 97) (hw : WtO wt) {i : Int} (h0 : 0 ≤ i) (h1 : i < n) : wt (Ar i) ≤ Mw (Mv (Ar i)) := by
  obtain ⟨q0, q1, q2, q3, _⟩ := h
  have hm := (q1 i h0 h1).2
  rw [(q3 _ hm.1 hm.2).2]
  have e : ((i.toNat : Nat) : Int) = i := by omega
  have a := sA_ge (g := fun i => Mv (Ar i)) (h := fun i => wt (Ar i)) (m := Mv (Ar i)) (i := i.toNat) (by rw [e]) n.toNat (by omega) (fun j j0 j1 => hw.1 _ (by have := (q1 j j0 (by omega)).1; omega) (by have := (q1 j j0 (by omega)).1; omega))
  rw [e] at a
  exact a
/-- what stands at a move's places -/
theorem ArS.at_ (h : ArS nd wt Mv Ar At An Mw n) {m c : Int} (h0 : 0 ≤ m) (h1 : m < 12) (hc : 0 ≤ c ∧ c < An m) : ∃ i, (0 ≤ i ∧ i < n) ∧ Mv (Ar i) = m ∧ cA (fun j => Mv (Ar j)) m i.toNat = c ∧ At (m * 97 + c) = Ar i := by
  obtain ⟨q0, q1, q2, q3, q4⟩ := h
  rw [(q3 m h0 h1).1] at hc
  obtain ⟨i, a, b, d⟩ := cA_at n.toNat c hc.1 hc.2
  have e := q4 (i : Int) (by omega) (by omega)
  have b' : Mv (Ar (i : Int)) = m := b
  rw [b', (show ((i : Int)).toNat = i by omega), d] at e
  exact ⟨(i : Int), by omega, b', by rw [(show ((i : Int)).toNat = i by omega)]; exact d, e⟩
theorem ArS.push (h : ArS nd wt Mv Ar At An Mw n) (hnd : 1 ≤ nd ∧ nd ≤ 97) {x m : Int} (hx : 1 ≤ x ∧ x < nd) (hm : 0 ≤ m ∧ m < 12) (hn : ∀ i, 0 ≤ i → i < n → Ar i ≠ x) : ArS nd wt (upI Mv x m) (upI Ar n x) (upI At (m * 97 + An m) x) (upI An m (An m + 1)) (upI Mw m (Mw m + wt x)) (n + 1) := by
  have l := h.len hnd.1
  have han := h.an hm.1 hm.2
  obtain ⟨q0, q1, q2, q3, q4⟩ := h
  have eA : ∀ i, 0 ≤ i → i < n → upI Ar n x i = Ar i := fun i i0 i1 => upI_ne _ _ (by omega)
  have eg : ∀ i, 0 ≤ i → i < n → upI Mv x m (upI Ar n x i) = Mv (Ar i) := fun i i0 i1 => by
    rw [eA i i0 i1]; exact upI_ne _ _ (hn i i0 i1)
  have en : upI Mv x m (upI Ar n x n) = m := by rw [upI_same, upI_same]
  have et : (n + 1).toNat = n.toNat + 1 := by omega
  have e : ((n.toNat : Nat) : Int) = n := by omega
  have ec : ∀ (m2 : Int) (k : Nat), (k : Int) ≤ n → cA (fun i => upI Mv x m (upI Ar n x i)) m2 k = cA (fun i => Mv (Ar i)) m2 k := fun m2 k hk => cA_same k (fun i i0 i1 => eg i i0 (by omega))
  have es : ∀ m2, sA (fun i => upI Mv x m (upI Ar n x i)) (fun i => wt (upI Ar n x i)) m2 n.toNat = sA (fun i => Mv (Ar i)) (fun i => wt (Ar i)) m2 n.toNat := fun m2 => sA_same n.toNat (fun i i0 i1 => ⟨eg i i0 (by omega), by (try dsimp only); rw [eA i i0 (by omega)]⟩)
  refine ⟨by omega, fun i i0 i1 => ?_, fun i j i0 i1 i2 => ?_, fun m2 m0 m1 => ?_, fun i i0 i1 => ?_⟩
  · by_cases w : i = n
    · rw [w, en, upI_same]; exact ⟨hx, hm⟩
    · rw [eg i i0 (by omega), eA i i0 (by omega)]; exact q1 i i0 (by omega)
  · rw [eA i i0 (by omega)]
    by_cases w : j = n
    · rw [w, upI_same]; exact hn i i0 (by omega)
    · rw [eA j (by omega) (by omega)]; exact q2 i j i0 i1 (by omega)
  · have a := q3 m2 m0 m1
    rw [et]
    show _ = cA (fun i => upI Mv x m (upI Ar n x i)) m2 n.toNat + (if upI Mv x m (upI Ar n x ((n.toNat : Nat) : Int)) = m2 then 1 else 0) ∧ _ = sA (fun i => upI Mv x m (upI Ar n x i)) (fun i => wt (upI Ar n x i)) m2 n.toNat + (if upI Mv x m (upI Ar n x ((n.toNat : Nat) : Int)) = m2 then wt (upI Ar n x ((n.toNat : Nat) : Int)) else 0)
    rw [e, en, ec m2 n.toNat (by omega), es m2, ← a.1, ← a.2, upI_same]
    by_cases w : m = m2
    · subst w
      rw [upI_same, upI_same, if_pos rfl, if_pos rfl]
      exact ⟨rfl, rfl⟩
    · rw [upI_ne _ _ (fun z => w z.symm), upI_ne _ _ (fun z => w z.symm), if_neg w, if_neg w]
      omega
  · by_cases w : i = n
    · rw [w, en, ec m n.toNat (by omega), ← (q3 m hm.1 hm.2).1, upI_same, upI_same]
    · have a := q1 i i0 (by omega)
      rw [eg i i0 (by omega), eA i i0 (by omega), ec _ i.toNat (by omega)]
      have b := cA_bd (fun j => Mv (Ar j)) (Mv (Ar i)) i.toNat
      rw [upI_ne _ _ ?_]
      · exact q4 i i0 (by omega)
      · intro z
        by_cases y : Mv (Ar i) = m
        · have c := cA_lt (g := fun j => Mv (Ar j)) (m := m) (i := i.toNat) (n := n.toNat) (by omega) (by (try dsimp only); rw [(show ((i.toNat : Nat) : Int) = i by omega)]; exact y)
          rw [← (q3 m hm.1 hm.2).1] at c
          rw [y] at z
          omega
        · omega
/-- less of the pile, with the counts of that less -/
theorem ArS.less (h : ArS nd wt Mv Ar At An Mw n) {m : Int} (h0 : 0 ≤ m) (h1 : m ≤ n) {An2 Mw2 : Int → Int} (hc : ∀ j, 0 ≤ j → j < 12 → An2 j = cA (fun i => Mv (Ar i)) j m.toNat ∧ Mw2 j = sA (fun i => Mv (Ar i)) (fun i => wt (Ar i)) j m.toNat) : ArS nd wt Mv Ar At An2 Mw2 m :=
  ⟨h0, fun i i0 i1 => h.2.1 i i0 (by omega), fun i j i0 i1 i2 => h.2.2.1 i j i0 i1 (by omega), hc, fun i i0 i1 => h.2.2.2.2 i i0 (by omega)⟩
/-- one off the pile -/
theorem ArS.pop (h : ArS nd wt Mv Ar At An Mw n) {a : Int} (h0 : 0 ≤ a) (h1 : a < n) {An2 Mw2 : Int → Int} (hc : ∀ j, 0 ≤ j → j < 12 → An2 j = cA (fun i => Mv (Ar i)) j (a + 1).toNat ∧ Mw2 j = sA (fun i => Mv (Ar i)) (fun i => wt (Ar i)) j (a + 1).toNat) : ∀ j, 0 ≤ j → j < 12 → upI An2 (Mv (Ar a)) (An2 (Mv (Ar a)) - 1) j = cA (fun i => Mv (Ar i)) j a.toNat ∧ upI Mw2 (Mv (Ar a)) (Mw2 (Mv (Ar a)) - wt (Ar a)) j = sA (fun i => Mv (Ar i)) (fun i => wt (Ar i)) j a.toNat := by
  intro j j0 j1
  have e : ((a.toNat : Nat) : Int) = a := by omega
  have et : (a + 1).toNat = a.toNat + 1 := by omega
  have q := hc j j0 j1
  rw [et] at q
  have c1 : cA (fun i => Mv (Ar i)) j (a.toNat + 1) = cA (fun i => Mv (Ar i)) j a.toNat + (if Mv (Ar a) = j then 1 else 0) := by
    show cA (fun i => Mv (Ar i)) j a.toNat + (if Mv (Ar ((a.toNat : Nat) : Int)) = j then 1 else 0) = _
    rw [e]
  have c2 : sA (fun i => Mv (Ar i)) (fun i => wt (Ar i)) j (a.toNat + 1) = sA (fun i => Mv (Ar i)) (fun i => wt (Ar i)) j a.toNat + (if Mv (Ar a) = j then wt (Ar a) else 0) := by
    show sA (fun i => Mv (Ar i)) (fun i => wt (Ar i)) j a.toNat + (if Mv (Ar ((a.toNat : Nat) : Int)) = j then wt (Ar ((a.toNat : Nat) : Int)) else 0) = _
    rw [e]
  rw [c1, c2] at q
  by_cases w : Mv (Ar a) = j
  · rw [if_pos w, if_pos w] at q
    rw [w, upI_same, upI_same]
    omega
  · rw [if_neg w, if_neg w] at q
    rw [upI_ne _ _ (fun z => w z.symm), upI_ne _ _ (fun z => w z.symm)]
    omega
end AS
