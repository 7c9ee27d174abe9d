/-! THE SEARCH, in pure words: masks of moves, the walk through the tree, what it leaves -/
def orI (a b : Int) : Int := (iI a ||| iI b).toInt
def andI (a b : Int) : Int := (iI a &&& iI b).toInt
def xorI (a b : Int) : Int := (iI a ^^^ iI b).toInt
def shlI (a b : Int) : Int := (iI a <<< (iI b &&& 31)).toInt
theorem iI_bk (x : Int32) : iI x.toInt = x := Int32.ofInt_toInt x
def bI (x : Int) (i : Nat) : Prop := (iI x).toBitVec.getLsbD i = true
theorem bI_or (a b : Int) (i : Nat) : bI (orI a b) i ↔ bI a i ∨ bI b i := by
  unfold bI orI
  rw [iI_bk, Int32.toBitVec_or, BitVec.getLsbD_or, Bool.or_eq_true]
theorem bI_and (a b : Int) (i : Nat) : bI (andI a b) i ↔ bI a i ∧ bI b i := by
  unfold bI andI
  rw [iI_bk, Int32.toBitVec_and, BitVec.getLsbD_and, Bool.and_eq_true]
theorem bI_m1 : ∀ i : Nat, i < 32 → bI (-1) i := by
  unfold bI
  decide +kernel
theorem bI_not (a : Int) {i : Nat} (hi : i < 32) : bI (xorI a (-1)) i ↔ ¬ bI a i := by
  have h := bI_m1 i hi
  unfold bI at h
  unfold bI xorI
  rw [iI_bk, Int32.toBitVec_xor, BitVec.getLsbD_xor, h]
  cases (iI a).toBitVec.getLsbD i <;> simp
theorem bI_lt {x : Int} {i : Nat} (h : bI x i) : i < 32 := by
  rcases Nat.lt_or_ge i 32 with q | q
  · exact q
  · unfold bI at h
    rw [BitVec.getLsbD_of_ge _ _ q] at h
    cases h
theorem bI_0 (i : Nat) : ¬ bI 0 i := by
  unfold bI
  show ¬ (0#32).getLsbD i = true
  rw [BitVec.getLsbD_zero]
  decide
theorem bI_own0 : ∀ m : Nat, m < 12 → ∀ i : Nat, i < 32 → ((iI 1 <<< (iI (m : Int) &&& 31)).toBitVec.getLsbD i = decide (i = m)) := by decide +kernel
theorem bI_own {m : Int} (h0 : 0 ≤ m) (h1 : m < 12) (i : Nat) : bI (shlI 1 m) i ↔ (i : Int) = m := by
  unfold shlI
  have e : ((m.toNat : Nat) : Int) = m := by omega
  constructor
  · intro h
    have hi := bI_lt h
    unfold bI at h
    rw [iI_bk] at h
    have q := bI_own0 m.toNat (by omega) i hi
    rw [e, h] at q
    have := of_decide_eq_true q.symm
    omega
  · intro h
    unfold bI
    rw [iI_bk]
    have q := bI_own0 m.toNat (by omega) i (by omega)
    rw [e] at q
    rw [q]
    exact decide_eq_true (by omega)
theorem toInt_rg (x : Int32) : -2147483648 ≤ x.toInt ∧ x.toInt < 2147483648 := ⟨Int32.le_toInt x, Int32.toInt_lt x⟩
theorem orI_rg (a b : Int) : -2147483648 ≤ orI a b ∧ orI a b < 2147483648 := toInt_rg _
theorem andI_rg (a b : Int) : -2147483648 ≤ andI a b ∧ andI a b < 2147483648 := toInt_rg _
theorem mask_ne {x : Int} (h : ∀ i, bI x i → i < 12) : x ≠ -1 := by
  intro e
  subst e
  have := h 31 (bI_m1 31 (by decide))
  omega
theorem and0 {a m : Int} (h0 : 0 ≤ m) (h1 : m < 12) (h : andI a (shlI 1 m) = 0) : ¬ bI a m.toNat := by
  intro q
  have e : bI (andI a (shlI 1 m)) m.toNat := (bI_and _ _ _).mpr ⟨q, (bI_own h0 h1 _).mpr (by omega)⟩
  rw [h] at e
  exact bI_0 _ e
/-- how many moves are settled -/
def cnT (T : Int → Int) : Nat → Int
  | 0 => 0
  | n + 1 => cnT T n + (if T (n : Int) = -1 then 0 else 1)
theorem cnT_bd (T : Int → Int) : ∀ n : Nat, 0 ≤ cnT T n ∧ cnT T n ≤ n
  | 0 => by show (0 : Int) ≤ 0 ∧ (0 : Int) ≤ ((0 : Nat) : Int); omega
  | n + 1 => by
    have h := cnT_bd T n
    unfold cnT
    split <;> omega
theorem cnT_lt {T : Int → Int} {m : Int} (hm : T m = -1) (h0 : 0 ≤ m) : ∀ n : Nat, m < n → cnT T n < n
  | 0, h => by omega
  | n + 1, h => by
    unfold cnT
    by_cases q : m = (n : Int)
    · rw [q] at hm
      rw [if_pos hm]
      have := cnT_bd T n
      omega
    · have := cnT_lt hm h0 n (by omega)
      split <;> omega
theorem cnT_same {T U : Int → Int} : ∀ n : Nat, (∀ m, 0 ≤ m → m < (n : Int) → T m = U m) → cnT T n = cnT U n
  | 0, _ => rfl
  | n + 1, h => by
    unfold cnT
    rw [cnT_same n (fun m h0 h1 => h m h0 (by omega)), h n (by omega) (by omega)]
theorem cnT_up {T : Int → Int} {m x : Int} (hm : T m = -1) (hx : x ≠ -1) (h0 : 0 ≤ m) : ∀ n : Nat, m < n → cnT (upI T m x) n = cnT T n + 1
  | 0, h => by omega
  | n + 1, h => by
    unfold cnT
    by_cases q : m = (n : Int)
    · rw [cnT_same (U := T) n (fun j h1 h2 => upI_ne _ _ (by omega)), ← q, upI_same, if_neg hx, if_pos hm]
      omega
    · rw [cnT_up hm hx h0 n (by omega), upI_ne _ _ (fun z => q z.symm)]
      omega
abbrev SoT : Type := (Int → Int) → Prop
abbrev NsT : Type := (Int → Int) → Int → Int
/-- what the tree says of the ways to lead on -/
def TrS (pa vb cd : Int → Int) (nd al : Int) (So : SoT) (ns : NsT) : Prop :=
  ((1 ≤ al ∧ al ≤ 4) ∧ (1 ≤ nd ∧ nd ≤ 97) ∧ (∀ k, 1 ≤ k → k < nd → 0 ≤ pa k ∧ pa k < k) ∧ (∀ k, 0 ≤ vb k ∧ vb k < 3) ∧ (∀ k, 0 ≤ cd k ∧ cd k < 4)) ∧
  (∀ τ, So τ → ∀ m, 0 ≤ τ m ∧ τ m < al) ∧ (∀ τ, So τ → ns τ 0 = 0) ∧ (∀ τ, So τ → ∀ k, 1 ≤ k → k < nd → ns τ k = τ (3 * ns τ (pa k) + vb k)) ∧
  (∀ τ, So τ → ∀ k k', 1 ≤ k → k < nd → 1 ≤ k' → k' < nd → 3 * ns τ (pa k) + vb k = 3 * ns τ (pa k') + vb k' → cd k = cd k') ∧
  ∀ τ x y, So τ → 0 < x ∧ x < al → 0 < y ∧ y < al → So (cj x y τ)
/-- the moves: settled or not -/
def WkT (pa vb : Int → Int) (T F St : Int → Int) (f cm : Int) : Prop :=
  ∀ m, T m = -1 ∨ ((0 ≤ m ∧ m < 12) ∧ (0 ≤ T m ∧ T m < cm) ∧ m / 3 < cm ∧ (1 ≤ F m ∧ F m < f) ∧ 3 * St (pa (F m)) + vb (F m) = m ∧ ∀ k, 1 ≤ k → k < F m → 3 * St (pa k) + vb k ≠ m)
/-- no lesser target is left where a move was settled -/
def WkE (So : SoT) (T F : Int → Int) : Prop :=
  ∀ m, 0 ≤ T m → ∀ u, 0 ≤ u → u < T m → ∀ τ, So τ → (∀ m', 0 ≤ T m' → F m' < F m → τ m' = T m') → τ m ≠ u
/-- the way to a node -/
def WkP (So : SoT) (ns : NsT) (T St Ph : Int → Int) (k : Int) : Prop :=
  (∀ i : Nat, bI (Ph k) i → 0 ≤ T (i : Int)) ∧ ∀ τ, So τ → (∀ i : Nat, bI (Ph k) i → τ (i : Int) = T (i : Int)) → ns τ k = St k
/-- a walk as far as node f -/
def WkI (So : SoT) (ns : NsT) (pa vb cd : Int → Int) (nd al : Int) (T F St Ph : Int → Int) (f cm dp : Int) : Prop :=
  ((1 ≤ f ∧ f ≤ nd) ∧ (1 ≤ cm ∧ cm ≤ al) ∧ cnT T 12 = dp) ∧ WkT pa vb T F St f cm ∧
  (∀ k, 1 ≤ k → k < f → 0 ≤ T (3 * St (pa k) + vb k) ∧ St k = T (3 * St (pa k) + vb k) ∧ cd k = cd (F (3 * St (pa k) + vb k))) ∧
  St 0 = 0 ∧ (∀ k, 0 ≤ k → k < f → WkP So ns T St Ph k) ∧ WkE So T F
section WK
variable {So : SoT} {ns : NsT} {pa vb cd T F St Ph : Int → Int} {nd al f cm dp : Int}
theorem WkT.lt (h : WkT pa vb T F St f cm) {m : Int} (hm : 0 ≤ T m) : (0 ≤ m ∧ m < 12) ∧ T m < cm ∧ m / 3 < cm ∧ 1 ≤ F m ∧ F m < f := by
  rcases h m with q | q
  · omega
  · exact ⟨q.1, q.2.1.2, q.2.2.1, q.2.2.2.1⟩
end WK
