/-! THE SEARCH, in pure words: masks of moves, the walk through the tree, what it leaves -/
def orI (a b : Int) : Int := (iI a ||| iI b).toInt
def andI (a b : Int) : Int := (iI a &&& iI b).toInt
def xorI (a b : Int) : Int := (iI a ^^^ iI b).toInt
def shlI (a b : Int) : Int := (iI a <<< (iI b &&& 31)).toInt
theorem iI_bk (x : Int32) : iI x.toInt = x := Int32.ofInt_toInt x
def bI (x : Int) (i : Nat) : Prop := (iI x).toBitVec.getLsbD i = true
theorem bI_or (a b : Int) (i : Nat) : bI (orI a b) i ↔ bI a i ∨ bI b i := by
  unfold bI orI
  rw [iI_bk, Int32.toBitVec_or, BitVec.getLsbD_or, Bool.or_eq_true]
theorem bI_and (a b : Int) (i : Nat) : bI (andI a b) i ↔ bI a i ∧ bI b i := by
  unfold bI andI
  rw [iI_bk, Int32.toBitVec_and, BitVec.getLsbD_and, Bool.and_eq_true]
theorem bI_m1 : ∀ i : Nat, i < 32 → bI (-1) i := by
  unfold bI
  decide +kernel
theorem bI_not (a : Int) {i : Nat} (hi : i < 32) : bI (xorI a (-1)) i ↔ ¬ bI a i := by
  have h := bI_m1 i hi
  unfold bI at h
  unfold bI xorI
  rw [iI_bk, Int32.toBitVec_xor, BitVec.getLsbD_xor, h]
  cases (iI a).toBitVec.getLsbD i <;> simp
theorem bI_lt {x : Int} {i : Nat} (h : bI x i) : i < 32 := by
  rcases Nat.lt_or_ge i 32 with q | q
  · exact q
  · unfold bI at h
    rw [BitVec.getLsbD_of_ge _ _ q] at h
    cases h
theorem bI_0 (i : Nat) : ¬ bI 0 i := by
  unfold bI
  show ¬ (0#32).getLsbD i = true
  rw [BitVec.getLsbD_zero]
  decide
theorem bI_own0 : ∀ m : Nat, m < 12 → ∀ i : Nat, i < 32 → ((iI 1 <<< (iI (m : Int) &&& 31)).toBitVec.getLsbD i = decide (i = m)) := by decide +kernel
theorem bI_own {m : Int} (h0 : 0 ≤ m) (h1 : m < 12) (i : Nat) : bI (shlI 1 m) i ↔ (i : Int) = m := by
  unfold shlI
  have e : ((m.toNat : Nat) : Int) = m := by omega
  constructor
  · intro h
    have hi := bI_lt h
    unfold bI at h
    rw [iI_bk] at h
    have q := bI_own0 m.toNat (by omega) i hi
    rw [e, h] at q
    have := of_decide_eq_true q.symm
    omega
  · intro h
    unfold bI
    rw [iI_bk]
    have q := bI_own0 m.toNat (by omega) i (by omega)
    rw [e] at q
    rw [q]
    exact decide_eq_true (by omega)
theorem toInt_rg (x : Int32) : -2147483648 ≤ x.toInt ∧ x.toInt < 2147483648 := ⟨Int32.le_toInt x, Int32.toInt_lt x⟩
theorem orI_rg (a b : Int) : -2147483648 ≤ orI a b ∧ orI a b < 2147483648 := toInt_rg _
theorem andI_rg (a b : Int) : -2147483648 ≤ andI a b ∧ andI a b < 2147483648 := toInt_rg _
theorem mask_ne {x : Int} (h : ∀ i, bI x i → i < 12) : x ≠ -1 := by
  intro e
  subst e
  have := h 31 (bI_m1 31 (by decide))
  omega
theorem and0 {a m : Int} (h0 : 0 ≤ m) (h1 : m < 12) (h : andI a (shlI 1 m) = 0) : ¬ bI a m.toNat := by
  intro q
  have e : bI (andI a (shlI 1 m)) m.toNat := (bI_and _ _ _).mpr ⟨q, (bI_own h0 h1 _).mpr (by omega)⟩
  rw [h] at e
  exact bI_0 _ e
/-- how many moves are settled -/
def cnT (T : Int → Int) : Nat → Int
  | 0 => 0
  | n + 1 => cnT T n + (if T (n : Int) = -1 then 0 else 1)
theorem cnT_bd (T : Int → Int) : ∀ n : Nat, 0 ≤ cnT T n ∧ cnT T n ≤ n
  | 0 => by show (0 : Int) ≤ 0 ∧ (0 : Int) ≤ ((0 : Nat) : Int); omega
  | n + 1 => by
    have h := cnT_bd T n
    unfold cnT
    split <;> omega
theorem cnT_lt {T : Int → Int} {m : Int} (hm : T m = -1) (h0 : 0 ≤ m) : ∀ n : Nat, m < n → cnT T n < n
  | 0, h => by omega
  | n + 1, h => by
    unfold cnT
    by_cases q : m = (n : Int)
    · rw [q] at hm
      rw [if_pos hm]
      have := cnT_bd T n
      omega
    · have := cnT_lt hm h0 n (by omega)
      split <;> omega
theorem cnT_same {T U : Int → Int} : ∀ n : Nat, (∀ m, 0 ≤ m → m < (n : Int) → T m = U m) → cnT T n = cnT U n
  | 0, _ => rfl
  | n + 1, h => by
    unfold cnT
    rw [cnT_same n (fun m h0 h1 => h m h0 (by omega)), h n (by omega) (by omega)]
theorem cnT_up {T : Int → Int} {m x : Int} (hm : T m = -1) (hx : x ≠ -1) (h0 : 0 ≤ m) : ∀ n : Nat, m < n → cnT (upI T m x) n = cnT T n + 1
  | 0, h => by omega
  | n + 1, h => by
    unfold cnT
    by_cases q : m = (n : Int)
    · rw [cnT_same (U := T) n (fun j h1 h2 => upI_ne _ _ (by omega)), ← q, upI_same, if_neg hx, if_pos hm]
      omega
    · rw [cnT_up hm hx h0 n (by omega), upI_ne _ _ (fun z => q z.symm)]
      omega
abbrev SoT : Type := (Int → Int) → Prop
abbrev NsT : Type := (Int → Int) → Int → Int
/-- what the tree says of the ways to lead on -/
def TrS (pa vb cd : Int → Int) (nd al : Int) (So : SoT) (ns : NsT) : Prop :=
  ((1 ≤ al ∧ al ≤ 4) ∧ (1 ≤ nd ∧ nd ≤ 97) ∧ (∀ k, 1 ≤ k → k < nd → 0 ≤ pa k ∧ pa k < k) ∧ (∀ k, 0 ≤ vb k ∧ vb k < 3) ∧ (∀ k, 0 ≤ cd k ∧ cd k < 4)) ∧
  (∀ τ, So τ → ∀ m, 0 ≤ τ m ∧ τ m < al) ∧ (∀ τ, So τ → ns τ 0 = 0) ∧ (∀ τ, So τ → ∀ k, 1 ≤ k → k < nd → ns τ k = τ (3 * ns τ (pa k) + vb k)) ∧
  (∀ τ, So τ → ∀ k k', 1 ≤ k → k < nd → 1 ≤ k' → k' < nd → 3 * ns τ (pa k) + vb k = 3 * ns τ (pa k') + vb k' → cd k = cd k') ∧
  ∀ τ x y, So τ → 0 < x ∧ x < al → 0 < y ∧ y < al → So (cj x y τ)
/-- the moves: settled or not -/
def WkT (pa vb : Int → Int) (T F St : Int → Int) (f cm : Int) : Prop :=
  ∀ m, T m = -1 ∨ ((0 ≤ m ∧ m < 12) ∧ (0 ≤ T m ∧ T m < cm) ∧ m / 3 < cm ∧ (1 ≤ F m ∧ F m < f) ∧ 3 * St (pa (F m)) + vb (F m) = m ∧ ∀ k, 1 ≤ k → k < F m → 3 * St (pa k) + vb k ≠ m)
/-- no lesser target is left where a move was settled -/
def WkE (So : SoT) (T F : Int → Int) : Prop :=
  ∀ m, 0 ≤ T m → ∀ u, 0 ≤ u → u < T m → ∀ τ, So τ → (∀ m', 0 ≤ T m' → F m' < F m → τ m' = T m') → τ m ≠ u
/-- the way to a node -/
def WkP (So : SoT) (ns : NsT) (T St Ph : Int → Int) (k : Int) : Prop :=
  (∀ i : Nat, bI (Ph k) i → 0 ≤ T (i : Int)) ∧ ∀ τ, So τ → (∀ i : Nat, bI (Ph k) i → τ (i : Int) = T (i : Int)) → ns τ k = St k
/-- a walk as far as node f -/
def WkI (So : SoT) (ns : NsT) (pa vb cd : Int → Int) (nd al : Int) (T F St Ph : Int → Int) (f cm dp : Int) : Prop :=
  ((1 ≤ f ∧ f ≤ nd) ∧ (1 ≤ cm ∧ cm ≤ al) ∧ cnT T 12 = dp) ∧ WkT pa vb T F St f cm ∧
  (∀ k, 1 ≤ k → k < f → 0 ≤ T (3 * St (pa k) + vb k) ∧ St k = T (3 * St (pa k) + vb k) ∧ cd k = cd (F (3 * St (pa k) + vb k))) ∧
  St 0 = 0 ∧ (∀ k, 0 ≤ k → k < f → WkP So ns T St Ph k) ∧ WkE So T F
/-- what a walk from node f on leaves -/
def WkR (So : SoT) (ns : NsT) (pa vb cd : Int → Int) (nd al : Int) (T F St Ph : Int → Int) (f r : Int) (T1 F1 St1 Ph1 : Int → Int) : Prop :=
  (r = -1 ∧ ∃ cm dp, WkI So ns pa vb cd nd al T1 F1 St1 Ph1 nd cm dp) ∨
  (r ≠ -1 ∧ (∀ i : Nat, bI r i → 0 ≤ T (i : Int)) ∧ (∀ τ, So τ → ¬ ∀ i : Nat, bI r i → τ (i : Int) = T (i : Int)) ∧
    (∀ m, T1 m = T m) ∧ (∀ m, 0 ≤ T m → F1 m = F m) ∧ ∀ k, 0 ≤ k → k < f → St1 k = St k ∧ Ph1 k = Ph k)
section WK
variable {So : SoT} {ns : NsT} {pa vb cd T F St Ph : Int → Int} {nd al f cm dp : Int}
theorem WkT.lt (h : WkT pa vb T F St f cm) {m : Int} (hm : 0 ≤ T m) : (0 ≤ m ∧ m < 12) ∧ T m < cm ∧ m / 3 < cm ∧ 1 ≤ F m ∧ F m < f := by
  rcases h m with q | q
  · omega
  · exact ⟨q.1, q.2.1.2, q.2.2.1, q.2.2.2.1⟩
theorem WkI.st (hS : TrS pa vb cd nd al So ns) (h : WkI So ns pa vb cd nd al T F St Ph f cm dp) {k : Int} (h0 : 0 ≤ k) (h1 : k < f) : 0 ≤ St k ∧ St k < cm := by
  by_cases q : k = 0
  · rw [q, h.2.2.2.1]; have := h.1; omega
  · have a := h.2.2.1 k (by omega) h1
    have b := WkT.lt h.2.1 a.1
    omega
/-- the move at node f -/
theorem WkI.mv (hS : TrS pa vb cd nd al So ns) (h : WkI So ns pa vb cd nd al T F St Ph f cm dp) (hf : f < nd) : (0 ≤ pa f ∧ pa f < f) ∧ (0 ≤ 3 * St (pa f) + vb f ∧ 3 * St (pa f) + vb f < 12) ∧ (3 * St (pa f) + vb f) / 3 < cm := by
  have a := hS.1.2.2.1 f (by have := h.1; omega) hf
  have b := h.st hS (k := pa f) a.1 a.2
  have c := hS.1.2.2.2.1 f
  have d := h.1
  have e := hS.1.1
  omega
theorem WkI.dep (hS : TrS pa vb cd nd al So ns) (h : WkI So ns pa vb cd nd al T F St Ph f cm dp) (hf : f < nd) (hm : T (3 * St (pa f) + vb f) = -1) : 0 ≤ dp ∧ dp < 12 := by
  have a := h.mv hS hf
  have b := cnT_lt hm a.2.1.1 12 (by omega)
  have c := cnT_bd T 12
  have d := h.1
  omega
theorem WkI.dp0 (h : WkI So ns pa vb cd nd al T F St Ph f cm dp) : 0 ≤ dp ∧ dp ≤ 12 := by
  have c := cnT_bd T 12
  have d := h.1
  omega
/-- a node whose move is settled, and tells its code -/
theorem WkI.go (hS : TrS pa vb cd nd al So ns) (h : WkI So ns pa vb cd nd al T F St Ph f cm dp) (hf : f < nd) {m : Int} (em : 3 * St (pa f) + vb f = m) (hm : T m ≠ -1) (hc : cd (F m) = cd f) : WkI So ns pa vb cd nd al T F (upI St f (T m)) (upI Ph f (orI (Ph (pa f)) (shlI 1 m))) (f + 1) cm dp := by
  have a := h.mv hS hf
  obtain ⟨h1, h2, h3, h4, h5, h6⟩ := h
  have b : 0 ≤ T m := by
    rcases h2 m with q | q
    · exact absurd q hm
    · exact q.2.1.1
  have c := WkT.lt h2 b
  have pk : ∀ k, 1 ≤ k → k < f → upI St f (T m) (pa k) = St (pa k) := fun k k1 k2 => upI_ne _ _ (by have := hS.1.2.2.1 k k1 (by omega); omega)
  have pf : upI St f (T m) (pa f) = St (pa f) := upI_ne _ _ (by omega)
  refine ⟨⟨by omega, h1.2⟩, fun z => ?_, fun k k1 k2 => ?_, ?_, fun k k1 k2 => ?_, h6⟩
  · rcases h2 z with q | ⟨q1, q2, q3, q4, q5, q6⟩
    · exact Or.inl q
    · refine Or.inr ⟨q1, q2, q3, by omega, ?_, fun k k1 k2 => ?_⟩
      · rw [pk _ q4.1 q4.2]; exact q5
      · rw [pk k k1 (by omega)]; exact q6 k k1 k2
  · by_cases q : k = f
    · subst q
      rw [pf, upI_same, em]
      exact ⟨b, rfl, hc.symm⟩
    · rw [pk k k1 (by omega), upI_ne _ _ q]
      exact h3 k k1 (by omega)
  · rw [upI_ne _ _ (by omega)]; exact h4
  · by_cases q : k = f
    · subst q
      have e := h5 (pa k) a.1.1 a.1.2
      unfold WkP
      rw [upI_same, upI_same]
      refine ⟨fun i hi => ?_, fun τ hτ hag => ?_⟩
      · rcases (bI_or _ _ _).mp hi with z | z
        · exact e.1 i z
        · rw [(bI_own c.1.1 c.1.2 i).mp z]; exact b
      · have e2 := e.2 τ hτ (fun i hi => hag i ((bI_or _ _ _).mpr (Or.inl hi)))
        have e3 := hag m.toNat ((bI_or _ _ _).mpr (Or.inr ((bI_own c.1.1 c.1.2 _).mpr (by omega))))
        rw [(show ((m.toNat : Nat) : Int) = m by omega)] at e3
        rw [hS.2.2.2.1 τ hτ k (by omega) hf, e2, em, e3]
    · have e := h5 k k1 (by omega)
      unfold WkP at e ⊢
      rw [upI_ne _ _ q, upI_ne _ _ q]
      exact e
/-- a node whose move is settled, and tells another code: the ways to both nodes are to blame -/
theorem WkI.bad (hS : TrS pa vb cd nd al So ns) (h : WkI So ns pa vb cd nd al T F St Ph f cm dp) (hf : f < nd) {m : Int} (em : 3 * St (pa f) + vb f = m) (hm : T m ≠ -1) (hc : cd (F m) ≠ cd f) : WkR So ns pa vb cd nd al T F St Ph f (orI (Ph (pa f)) (Ph (pa (F m)))) T F St Ph := by
  have a := h.mv hS hf
  obtain ⟨h1, h2, h3, h4, h5, h6⟩ := h
  rcases h2 m with q | ⟨q1, q2, q3, q4, q5, q6⟩
  · exact absurd q hm
  have p1 := hS.1.2.2.1 (F m) q4.1 (by omega)
  have e1 := h5 (pa f) a.1.1 a.1.2
  have e2 := h5 (pa (F m)) p1.1 (by omega)
  have hb : ∀ i : Nat, bI (orI (Ph (pa f)) (Ph (pa (F m)))) i → 0 ≤ T (i : Int) := by
    intro i hi
    rcases (bI_or _ _ _).mp hi with z | z
    · exact e1.1 i z
    · exact e2.1 i z
  refine Or.inr ⟨mask_ne (fun i hi => ?_), hb, fun τ hτ hag => hc ?_, fun _ => rfl, fun _ _ => rfl, fun _ _ _ => ⟨rfl, rfl⟩⟩
  · have := (WkT.lt h2 (hb i hi)).1; omega
  · have g1 := e1.2 τ hτ (fun i hi => hag i ((bI_or _ _ _).mpr (Or.inl hi)))
    have g2 := e2.2 τ hτ (fun i hi => hag i ((bI_or _ _ _).mpr (Or.inr hi)))
    exact hS.2.2.2.2.1 τ hτ (F m) f q4.1 (by omega) (by omega) hf (by rw [g1, g2]; omega)
/-- a choice's loop at target t: what the lesser targets left -/
def ChL (So : SoT) (ns : NsT) (pa vb cd : Int → Int) (nd al : Int) (T F St Ph : Int → Int) (f m cm : Int) (T1 F1 St1 Ph1 : Int → Int) (B t : Int) : Prop :=
  (0 ≤ t ∧ t ≤ al ∧ t ≤ cm + 1) ∧ (∀ j, j ≠ m → T1 j = T j) ∧ (F1 m = f ∧ ∀ j, 0 ≤ T j → F1 j = F j) ∧ (∀ k, 0 ≤ k → k < f → St1 k = St k ∧ Ph1 k = Ph k) ∧ Ph1 f = orI (Ph (pa f)) (shlI 1 m) ∧
  (∀ i : Nat, bI B i → (i : Int) = m ∨ 0 ≤ T (i : Int)) ∧ ∀ t', 0 ≤ t' → t' < t → ∀ τ, So τ → (∀ i : Nat, bI B i → (i : Int) ≠ m → τ (i : Int) = T (i : Int)) → τ m ≠ t'
theorem ChL.init (hS : TrS pa vb cd nd al So ns) (h : WkI So ns pa vb cd nd al T F St Ph f cm dp) (hf : f < nd) {m : Int} (em : 3 * St (pa f) + vb f = m) (hm : T m = -1) : ChL So ns pa vb cd nd al T F St Ph f m cm T (upI F m f) St (upI Ph f (orI (Ph (pa f)) (shlI 1 m))) 0 0 := by
  have h1 := h.1
  refine ⟨by omega, fun _ _ => rfl, ⟨upI_same _ _ _, fun j hj => upI_ne _ _ (fun q => by rw [q, hm] at hj; omega)⟩, fun k k0 k1 => ⟨rfl, upI_ne _ _ (by omega)⟩, upI_same _ _ _, fun i hi => absurd hi (bI_0 i), fun t' h0 h1 => by omega⟩
/-- a target tried -/
theorem ChL.try_ (hS : TrS pa vb cd nd al So ns) (h : WkI So ns pa vb cd nd al T F St Ph f cm dp) (hf : f < nd) {m : Int} (em : 3 * St (pa f) + vb f = m) (hm : T m = -1) {T1 F1 St1 Ph1 : Int → Int} {B t x : Int} (hL : ChL So ns pa vb cd nd al T F St Ph f m cm T1 F1 St1 Ph1 B t) (ht : t < al) (ht2 : t ≤ cm) (hx : (cm < t + 1 → x = t + 1) ∧ (t + 1 ≤ cm → x = cm)) : WkI So ns pa vb cd nd al (upI T1 m t) F1 (upI St1 f t) Ph1 (f + 1) x (dp + 1) := by
  have a := h.mv hS hf
  obtain ⟨h1, h2, h3, h4, h5, h6⟩ := h
  obtain ⟨l1, l2, l3, l4, l5, l6, l7⟩ := hL
  have eT : ∀ j, j ≠ m → upI T1 m t j = T j := fun j hj => by rw [upI_ne _ _ hj]; exact l2 j hj
  have eT0 : ∀ j, 0 ≤ T j → upI T1 m t j = T j := fun j hj => eT j (fun q => by rw [q, hm] at hj; omega)
  have pk : ∀ k, 0 ≤ k → k < f → upI St1 f t k = St k := fun k k1 k2 => by rw [upI_ne _ _ (by omega)]; exact (l4 k k1 k2).1
  have pp : ∀ k, 1 ≤ k → k < f → upI St1 f t (pa k) = St (pa k) := fun k k1 k2 => by have := hS.1.2.2.1 k k1 (by omega); exact pk _ (by omega) (by omega)
  have pf : upI St1 f t (pa f) = St (pa f) := pk _ a.1.1 a.1.2
  have hF : ∀ j, 0 ≤ T j → F1 j < f := fun j hj => by rw [l3.2 j hj]; exact (WkT.lt h2 hj).2.2.2.2
  refine ⟨⟨by omega, by omega, ?_⟩, fun z => ?_, fun k k1 k2 => ?_, ?_, fun k k1 k2 => ?_, fun z hz u u0 u1 τ hτ hag => ?_⟩
  · have e1 : cnT (upI T1 m t) 12 = cnT (upI T m t) 12 := cnT_same 12 (fun j _ _ => by
      by_cases q : j = m
      · rw [q, upI_same, upI_same]
      · rw [eT j q, upI_ne _ _ q])
    rw [e1, cnT_up hm (by omega) (by omega) 12 (by omega), h1.2.2]
  · by_cases q : z = m
    · rw [q, upI_same]
      refine Or.inr ⟨by omega, by omega, by omega, by rw [l3.1]; omega, by rw [l3.1, pf]; exact em, fun k k1 k2 => ?_⟩
      rw [l3.1] at k2
      rw [pp k k1 k2]
      intro q2
      have := (h3 k k1 k2).1
      rw [q2, hm] at this
      omega
    · rw [eT z q]
      rcases h2 z with w | ⟨q1, q2, q3, q4, q5, q6⟩
      · exact Or.inl w
      · have e := l3.2 z q2.1
        refine Or.inr ⟨q1, by omega, by omega, by omega, ?_, fun k k1 k2 => ?_⟩
        · rw [e, pp _ q4.1 q4.2]; exact q5
        · rw [e] at k2
          rw [pp k k1 (by omega)]; exact q6 k k1 k2
  · by_cases q : k = f
    · subst q
      rw [pf, em, upI_same, upI_same, l3.1]
      exact ⟨by omega, rfl, rfl⟩
    · have e := h3 k k1 (by omega)
      rw [pp k k1 (by omega), pk k (by omega) (by omega), eT0 _ e.1, l3.2 _ e.1]
      exact e
  · rw [pk 0 (by omega) (by omega)]; exact h4
  · by_cases q : k = f
    · subst q
      have e := h5 (pa k) a.1.1 a.1.2
      unfold WkP
      rw [upI_same, l5]
      refine ⟨fun i hi => ?_, fun τ hτ hag => ?_⟩
      · rcases (bI_or _ _ _).mp hi with z | z
        · have := e.1 i z; rw [eT0 _ this]; exact this
        · rw [(bI_own (by omega) (by omega) i).mp z, upI_same]; omega
      · have e2 := e.2 τ hτ (fun i hi => by rw [hag i ((bI_or _ _ _).mpr (Or.inl hi))]; exact eT0 _ (e.1 i hi))
        have e3 := hag m.toNat ((bI_or _ _ _).mpr (Or.inr ((bI_own (by omega) (by omega) _).mpr (by omega))))
        rw [(show ((m.toNat : Nat) : Int) = m by omega), upI_same] at e3
        rw [hS.2.2.2.1 τ hτ k (by omega) hf, e2, em, e3]
    · have e := h5 k k1 (by omega)
      have e4 := (l4 k k1 (by omega)).2
      unfold WkP at e ⊢
      rw [pk k k1 (by omega), e4]
      refine ⟨fun i hi => ?_, fun τ hτ hag => e.2 τ hτ (fun i hi => ?_)⟩
      · have := e.1 i hi; rw [eT0 _ this]; exact this
      · rw [hag i hi]; exact eT0 _ (e.1 i hi)
  · by_cases q : z = m
    · rw [q, upI_same] at u1
      rw [q]
      refine l7 u u0 u1 τ hτ (fun i hi hne => ?_)
      rcases l6 i hi with w | w
      · exact absurd w hne
      · rw [hag i (by rw [eT0 _ w]; exact w) (by rw [q, l3.1]; exact hF _ w)]
        exact eT0 _ w
    · rw [eT z q] at hz u1
      refine h6 z hz u u0 u1 τ hτ (fun m' hm' hlt => ?_)
      rw [hag m' (by rw [eT0 _ hm']; exact hm') (by rw [l3.2 _ hm', l3.2 _ hz]; exact hlt)]
      exact eT0 _ hm'
/-- the target failed, and its move is to blame: the next one -/
theorem ChL.next (hS : TrS pa vb cd nd al So ns) (h : WkI So ns pa vb cd nd al T F St Ph f cm dp) (hf : f < nd) {m : Int} (em : 3 * St (pa f) + vb f = m) (hm : T m = -1) {T1 F1 St1 Ph1 T2 F2 St2 Ph2 : Int → Int} {B t r : Int} (hL : ChL So ns pa vb cd nd al T F St Ph f m cm T1 F1 St1 Ph1 B t) (ht : t < al) (ht2 : t ≤ cm) (hr : WkR So ns pa vb cd nd al (upI T1 m t) F1 (upI St1 f t) Ph1 (f + 1) r T2 F2 St2 Ph2) (hn : r ≠ -1) : ChL So ns pa vb cd nd al T F St Ph f m cm T2 F2 St2 Ph2 (orI B r) (t + 1) := by
  have a := h.mv hS hf
  obtain ⟨l1, l2, l3, l4, l5, l6, l7⟩ := hL
  rcases hr with ⟨r1, _⟩ | ⟨r1, r2, r3, r4, r5, r6⟩
  · exact absurd r1 hn
  have eT : ∀ j, j ≠ m → upI T1 m t j = T j := fun j hj => by rw [upI_ne _ _ hj]; exact l2 j hj
  have eT0 : ∀ j, 0 ≤ T j → upI T1 m t j = T j := fun j hj => eT j (fun q => by rw [q, hm] at hj; omega)
  refine ⟨by omega, fun j hj => by rw [r4 j]; exact eT j hj, ⟨by rw [r5 m (by rw [upI_same]; omega)]; exact l3.1, fun j hj => by rw [r5 j (by rw [eT0 _ hj]; exact hj)]; exact l3.2 j hj⟩, fun k k0 k1 => ?_, ?_, fun i hi => ?_, fun t' h0 h1 τ hτ hag => ?_⟩
  · have e := r6 k k0 (by omega)
    have e2 := l4 k k0 k1
    rw [e.1, e.2, upI_ne _ _ (by omega)]
    exact e2
  · rw [(r6 f (by have := h.1; omega) (by omega)).2]; exact l5
  · rcases (bI_or _ _ _).mp hi with z | z
    · exact l6 i z
    · by_cases q : (i : Int) = m
      · exact Or.inl q
      · have := r2 i z; rw [eT _ q] at this; exact Or.inr this
  · by_cases q : t' = t
    · subst q
      intro hz
      refine r3 τ hτ (fun i hi => ?_)
      by_cases w : (i : Int) = m
      · rw [w, upI_same]; exact hz
      · rw [eT _ w]; exact hag i ((bI_or _ _ _).mpr (Or.inr hi)) w
    · exact l7 t' h0 (by omega) τ hτ (fun i hi hne => hag i ((bI_or _ _ _).mpr (Or.inl hi)) hne)
/-- the target failed, and its move isn't to blame -/
theorem ChL.out (hS : TrS pa vb cd nd al So ns) (h : WkI So ns pa vb cd nd al T F St Ph f cm dp) (hf : f < nd) {m : Int} (em : 3 * St (pa f) + vb f = m) (hm : T m = -1) {T1 F1 St1 Ph1 T2 F2 St2 Ph2 : Int → Int} {B t r : Int} (hL : ChL So ns pa vb cd nd al T F St Ph f m cm T1 F1 St1 Ph1 B t) (ht : t < al) (ht2 : t ≤ cm) (hr : WkR So ns pa vb cd nd al (upI T1 m t) F1 (upI St1 f t) Ph1 (f + 1) r T2 F2 St2 Ph2) (hn : r ≠ -1) (ho : andI r (shlI 1 m) = 0) : WkR So ns pa vb cd nd al T F St Ph f r (upI T2 m (-1)) F2 St2 Ph2 := by
  have a := h.mv hS hf
  have hL2 := ChL.next hS h hf em hm hL ht ht2 hr hn
  obtain ⟨l1, l2, l3, l4, l5, l6, l7⟩ := hL
  rcases hr with ⟨r1, _⟩ | ⟨r1, r2, r3, r4, r5, r6⟩
  · exact absurd r1 hn
  have hnb := and0 (show 0 ≤ m by omega) (show m < 12 by omega) ho
  have hne : ∀ i : Nat, bI r i → (i : Int) ≠ m := fun i hi q => hnb (by rw [(show m.toNat = i by omega)]; exact hi)
  have eT : ∀ j, j ≠ m → upI T1 m t j = T j := fun j hj => by rw [upI_ne _ _ hj]; exact l2 j hj
  refine Or.inr ⟨r1, fun i hi => ?_, fun τ hτ hag => r3 τ hτ (fun i hi => ?_), fun j => ?_, hL2.2.2.1.2, hL2.2.2.2.1⟩
  · have := r2 i hi; rw [eT _ (hne i hi)] at this; exact this
  · rw [eT _ (hne i hi)]; exact hag i hi
  · by_cases q : j = m
    · rw [q, upI_same, hm]
    · rw [upI_ne _ _ q]; exact hL2.2.1 j q
/-- all targets failed -/
theorem ChL.none (hS : TrS pa vb cd nd al So ns) (h : WkI So ns pa vb cd nd al T F St Ph f cm dp) (hf : f < nd) {m : Int} (em : 3 * St (pa f) + vb f = m) (hm : T m = -1) {T1 F1 St1 Ph1 : Int → Int} {B t : Int} (hL : ChL So ns pa vb cd nd al T F St Ph f m cm T1 F1 St1 Ph1 B t) (ht : al ≤ t ∨ cm < t) : WkR So ns pa vb cd nd al T F St Ph f (andI B (xorI (shlI 1 m) (-1))) (upI T1 m (-1)) F1 St1 Ph1 := by
  have a := h.mv hS hf
  have h1 := h.1
  have h2 := h.2.1
  obtain ⟨l1, l2, l3, l4, l5, l6, l7⟩ := hL
  have hb : ∀ i : Nat, bI (andI B (xorI (shlI 1 m) (-1))) i ↔ bI B i ∧ (i : Int) ≠ m := by
    intro i
    rw [bI_and]
    constructor
    · rintro ⟨z1, z2⟩
      exact ⟨z1, fun q => ((bI_not _ (bI_lt z1)).mp z2) ((bI_own (by omega) (by omega) i).mpr q)⟩
    · rintro ⟨z1, z2⟩
      exact ⟨z1, (bI_not _ (bI_lt z1)).mpr (fun q => z2 ((bI_own (by omega) (by omega) i).mp q))⟩
  have hb2 : ∀ i : Nat, bI (andI B (xorI (shlI 1 m) (-1))) i → 0 ≤ T (i : Int) := by
    intro i hi
    have := (hb i).mp hi
    rcases l6 i this.1 with w | w
    · exact absurd w this.2
    · exact w
  refine Or.inr ⟨mask_ne (fun i hi => ?_), hb2, fun τ hτ hag => ?_, fun j => ?_, l3.2, l4⟩
  · have := (WkT.lt h2 (hb2 i hi)).1; omega
  · have ag : ∀ i : Nat, bI B i → (i : Int) ≠ m → τ (i : Int) = T (i : Int) := fun i hi hne => hag i ((hb i).mpr ⟨hi, hne⟩)
    have r0 := hS.2.1 τ hτ m
    by_cases q : τ m < t
    · exact l7 (τ m) r0.1 q τ hτ ag rfl
    · have hcm : t = cm + 1 := by omega
      have hso := hS.2.2.2.2.2 τ cm (τ m) hτ (by omega) (by omega)
      refine l7 cm (by omega) (by omega) _ hso (fun i hi hne => ?_) ?_
      · have w : 0 ≤ T (i : Int) := by
          rcases l6 i hi with w | w
          · exact absurd w hne
          · exact w
        have e := WkT.lt h2 w
        have e2 : swp cm (τ m) ((i : Int) / 3) = (i : Int) / 3 := by unfold swp; rw [if_neg (by omega), if_neg (by omega)]
        show swp cm (τ m) (τ (3 * swp cm (τ m) ((i : Int) / 3) + (i : Int) % 3)) = _
        rw [e2, (show 3 * ((i : Int) / 3) + (i : Int) % 3 = (i : Int) by omega), ag i hi hne]
        unfold swp
        rw [if_neg (by omega), if_neg (by omega)]
      · have e2 : swp cm (τ m) (m / 3) = m / 3 := by unfold swp; rw [if_neg (by omega), if_neg (by omega)]
        show swp cm (τ m) (τ (3 * swp cm (τ m) (m / 3) + m % 3)) = _
        rw [e2, (show 3 * (m / 3) + m % 3 = m by omega)]
        unfold swp
        by_cases z : τ m = cm
        · rw [if_pos z, z]
        · rw [if_neg z, if_pos rfl]
  · by_cases q : j = m
    · rw [q, upI_same, hm]
    · rw [upI_ne _ _ q]; exact l2 j q
theorem WkR.yes {T1 F1 St1 Ph1 : Int → Int} (h : WkI So ns pa vb cd nd al T1 F1 St1 Ph1 f cm dp) (hf : nd ≤ f) : WkR So ns pa vb cd nd al T F St Ph f (-1) T1 F1 St1 Ph1 := by
  have h1 := h.1
  have e : f = nd := by omega
  subst e
  exact Or.inl ⟨rfl, cm, dp, h⟩
theorem WkR.yesf {St0 Ph0 : Int → Int} {f0 : Int} (h : WkI So ns pa vb cd nd al T F St Ph f cm dp) (hf : nd ≤ f) : WkR So ns pa vb cd nd al T F St0 Ph0 f0 (-1) T F St Ph := by
  have h1 := h.1
  have e : f = nd := by omega
  subst e
  exact Or.inl ⟨rfl, cm, dp, h⟩
theorem WkI.bd (hS : TrS pa vb cd nd al So ns) (h : WkI So ns pa vb cd nd al T F St Ph f cm dp) (m : Int) : -1 ≤ T m ∧ T m < 4 := by
  have a := h.1
  have b := hS.1.1
  rcases h.2.1 m with q | q
  · omega
  · have := q.2.1; omega
theorem WkR.up {T1 F1 St1 Ph1 T2 F2 St2 Ph2 : Int → Int} {f2 r : Int} (h : WkR So ns pa vb cd nd al T1 F1 St1 Ph1 f2 r T2 F2 St2 Ph2) (hr : r = -1) : WkR So ns pa vb cd nd al T F St Ph f (-1) T2 F2 St2 Ph2 := by
  rcases h with h | h
  · exact Or.inl ⟨rfl, h.2⟩
  · exact absurd hr h.1
/-- nodes ahead that were walked -/
theorem WkR.more {St0 Ph0 T1 F1 St1 Ph1 : Int → Int} {f2 r : Int} (h : WkR So ns pa vb cd nd al T F St Ph f2 r T1 F1 St1 Ph1) (hf : f ≤ f2) (he : ∀ k, 0 ≤ k → k < f → St k = St0 k ∧ Ph k = Ph0 k) : WkR So ns pa vb cd nd al T F St0 Ph0 f r T1 F1 St1 Ph1 := by
  rcases h with h | ⟨h1, h2, h3, h4, h5, h6⟩
  · exact Or.inl h
  · exact Or.inr ⟨h1, h2, h3, h4, h5, fun k k0 k1 => by have a := h6 k k0 (by omega); have b := he k k0 k1; rw [a.1, a.2]; exact b⟩
end WK
