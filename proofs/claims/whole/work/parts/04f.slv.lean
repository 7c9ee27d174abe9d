/-! SOLVING: is a machine left? -/
def LeftP (So : SoT) (T : Int → Int) : Prop := ∃ τ, So τ ∧ ∀ m, 0 ≤ T m → τ m = T m
/-- where the open moves weigh nothing, a machine is left -/
def TrQ (pa vb cd : Int → Int) (nd al : Int) (So : SoT) (wt : Int → Int) : Prop :=
  ∀ (T St : Int → Int) (A : Int → Prop), (∀ m, T m = -1 ∨ (0 ≤ T m ∧ T m < al)) → St 0 = 0 →
    (∀ k, 1 ≤ k → k < nd → (pa k = 0 ∨ (A (pa k) ∧ 0 ≤ T (3 * St (pa (pa k)) + vb (pa k)))) → A k) →
    (∀ k, 1 ≤ k → k < nd → A k → 0 ≤ T (3 * St (pa k) + vb k) → St k = T (3 * St (pa k) + vb k)) →
    (∀ k k2, 1 ≤ k → k < nd → 1 ≤ k2 → k2 < nd → A k → A k2 → 3 * St (pa k) + vb k = 3 * St (pa k2) + vb k2 → cd k = cd k2) →
    (∀ k, 1 ≤ k → k < nd → A k → T (3 * St (pa k) + vb k) = -1 → wt k ≤ 0) → LeftP So T
def SvR (So : SoT) (T : Int → Int) (r : Int) : Prop := (r = -1 ∧ LeftP So T) ∨ BadM So T r
/-- the targets below t have failed, by the moves of B -/
def SvM (So : SoT) (T : Int → Int) (m B t : Int) : Prop :=
  (∀ i : Nat, bI B i → (i : Int) = m ∨ 0 ≤ T (i : Int)) ∧ ∀ t', 0 ≤ t' → t' < t → ∀ τ, So τ → (∀ i : Nat, bI B i → (i : Int) ≠ m → τ (i : Int) = T (i : Int)) → τ m ≠ t'
section SV
variable {So : SoT} {ns : NsT} {pa vb cd cn wt T St Ph Mv Ar At An Mw : Int → Int} {nd al n cm m B t r : Int} {Se : Int → Prop}
theorem SvM.init : SvM So T m 0 0 := ⟨fun i hi => absurd hi (bI_0 i), fun t' h0 h1 => by omega⟩
theorem SvM.next (h : SvM So T m B t) (hr : BadM So (upI T m t) r) : SvM So T m (orI B r) (t + 1) := by
  obtain ⟨h1, h2⟩ := h
  obtain ⟨_, r2, r3⟩ := hr
  refine ⟨fun i hi => ?_, fun t' h0 h1' τ hτ hag => ?_⟩
  · rcases (bI_or _ _ _).mp hi with z | z
    · exact h1 i z
    · by_cases q : (i : Int) = m
      · exact Or.inl q
      · have := r2 i z; rw [upI_ne _ _ q] at this; exact Or.inr this
  · by_cases q : t' = t
    · subst q
      intro hz
      refine r3 τ hτ (fun i hi => ?_)
      by_cases w : (i : Int) = m
      · rw [w, upI_same]; exact hz
      · rw [upI_ne _ _ w]; exact hag i ((bI_or _ _ _).mpr (Or.inr hi)) w
    · exact h2 t' h0 (by omega) τ hτ (fun i hi hne => hag i ((bI_or _ _ _).mpr (Or.inl hi)) hne)
theorem BadM.out (hm : 0 ≤ m ∧ m < 12) (hr : BadM So (upI T m t) r) (ho : andI r (shlI 1 m) = 0) : BadM So T r := by
  obtain ⟨r1, r2, r3⟩ := hr
  have hnb := and0 hm.1 hm.2 ho
  have hne : ∀ i : Nat, bI r i → (i : Int) ≠ m := fun i hi q => hnb (by rw [(show m.toNat = i by omega)]; exact hi)
  refine ⟨r1, fun i hi => ?_, fun τ hτ hag => r3 τ hτ (fun i hi => ?_)⟩
  · have := r2 i hi; rw [upI_ne _ _ (hne i hi)] at this; exact this
  · rw [upI_ne _ _ (hne i hi)]; exact hag i hi
/-- a target that hasn't come, changed for the least of them -/
theorem swap_left (hS : TrS pa vb cd nd al So ns) (hT : ArT T cm) (hcm : 1 ≤ cm) (hm : 0 ≤ m ∧ m < 12) (hc : m / 3 < cm) {τ : Int → Int} (hτ : So τ) (hq : cm ≤ τ m) (Q : Int → Prop) (hQ : ∀ i, Q i → 0 ≤ T i ∧ τ i = T i) : ∃ σ, So σ ∧ σ m = cm ∧ ∀ i, Q i → σ i = T i := by
  have r0 := hS.2.1 τ hτ m
  refine ⟨cj cm (τ m) τ, hS.2.2.2.2.2 τ cm (τ m) hτ (by omega) (by omega), ?_, fun i hi => ?_⟩
  · have e2 : swp cm (τ m) (m / 3) = m / 3 := by unfold swp; rw [if_neg (by omega), if_neg (by omega)]
    show swp cm (τ m) (τ (3 * swp cm (τ m) (m / 3) + m % 3)) = _
    rw [e2, (show 3 * (m / 3) + m % 3 = m by omega)]
    unfold swp
    by_cases z : τ m = cm
    · rw [if_pos z, z]
    · rw [if_neg z, if_pos rfl]
  · have w := hQ i hi
    have e := hT.lt w.1
    have e2 : swp cm (τ m) (i / 3) = i / 3 := by unfold swp; rw [if_neg (by omega), if_neg (by omega)]
    show swp cm (τ m) (τ (3 * swp cm (τ m) (i / 3) + i % 3)) = _
    rw [e2, (show 3 * (i / 3) + i % 3 = i by omega), w.2]
    unfold swp
    rw [if_neg (by omega), if_neg (by omega)]
theorem SvM.none (hS : TrS pa vb cd nd al So ns) (hT : ArT T cm) (hcm : 1 ≤ cm) (hm : 0 ≤ m ∧ m < 12) (hc : m / 3 < cm) (h : SvM So T m B t) (h0 : 0 ≤ t) (ht : al ≤ t ∨ cm < t) (htc : t ≤ cm + 1) : BadM So T (andI B (xorI (shlI 1 m) (-1))) := by
  obtain ⟨l6, l7⟩ := h
  have hb : ∀ i : Nat, bI (andI B (xorI (shlI 1 m) (-1))) i ↔ bI B i ∧ (i : Int) ≠ m := by
    intro i
    rw [bI_and]
    constructor
    · rintro ⟨z1, z2⟩
      exact ⟨z1, fun q => ((bI_not _ (bI_lt z1)).mp z2) ((bI_own hm.1 hm.2 i).mpr q)⟩
    · rintro ⟨z1, z2⟩
      exact ⟨z1, (bI_not _ (bI_lt z1)).mpr (fun q => z2 ((bI_own hm.1 hm.2 i).mp q))⟩
  have hb2 : ∀ i : Nat, bI (andI B (xorI (shlI 1 m) (-1))) i → 0 ≤ T (i : Int) := by
    intro i hi
    have := (hb i).mp hi
    rcases l6 i this.1 with w | w
    · exact absurd w this.2
    · exact w
  refine ⟨mask_ne (fun i hi => ?_), hb2, fun τ hτ hag => ?_⟩
  · have := (hT.lt (hb2 i hi)).1; omega
  · have ag : ∀ i : Nat, bI B i → (i : Int) ≠ m → τ (i : Int) = T (i : Int) := fun i hi hne => hag i ((hb i).mpr ⟨hi, hne⟩)
    have r0 := hS.2.1 τ hτ m
    by_cases q : τ m < t
    · exact l7 (τ m) r0.1 q τ hτ ag rfl
    · obtain ⟨σ, s1, s2, s3⟩ := swap_left hS hT hcm hm hc hτ (by omega) (fun j => ∃ i : Nat, (i : Int) = j ∧ bI B i ∧ (i : Int) ≠ m) (fun j hj => by
        obtain ⟨i, e, hi, hne⟩ := hj
        subst e
        refine ⟨?_, ag i hi hne⟩
        rcases l6 i hi with w | w
        · exact absurd w hne
        · exact w)
      exact l7 cm (by omega) (by omega) σ s1 (fun i hi hne => s3 _ ⟨i, rfl, hi, hne⟩) s2
theorem LeftP.of (h : LeftP So (upI T m t)) (hT : T m = -1) : LeftP So T := by
  obtain ⟨τ, h1, h2⟩ := h
  refine ⟨τ, h1, fun j hj => ?_⟩
  have w : j ≠ m := fun q => by rw [q, hT] at hj; omega
  have := h2 j (by rw [upI_ne _ _ w]; exact hj)
  rw [upI_ne _ _ w] at this
  exact this
theorem BadM.not (h : BadM So T r) : ¬ LeftP So T := by
  rintro ⟨τ, h1, h2⟩
  exact h.2.2 τ h1 (fun i hi => h2 _ (h.2.1 i hi))
theorem ArF.quiet (hQ : TrQ pa vb cd nd al So wt) (hnd : 1 ≤ nd ∧ nd ≤ 97) (hv : ∀ k, 0 ≤ vb k ∧ vb k < 3) (hpa : ∀ k, 1 ≤ k → k < nd → 0 ≤ pa k ∧ pa k < k) (hw : WtO wt) (h : ArF So ns pa vb cd nd al wt T St Ph Mv Ar At An Mw n cm Se) (hq : ∀ m, 0 ≤ m → m < 12 → T m = -1 → Mw m ≤ 0) : LeftP So T := by
  obtain ⟨g1, ⟨⟨h1, hT⟩, h2, h3, h4, h5, h6⟩, g3, g4, g5⟩ := h
  have mv : ∀ k, ArA Ar n k → Mv k = 3 * St (pa k) + vb k := by
    rintro k ⟨i, hi, e⟩
    have a := (h4 i hi.1 hi.2).2
    rw [e] at a
    exact a
  have ful : ∀ k, ArA Ar n k → 0 ≤ T (Mv k) → Se k := by
    rintro k ⟨i, hi, e⟩ q
    have a := g5 i hi.1 hi.2
    rw [e] at a
    exact a q
  refine hQ T St (ArA Ar n) (fun m => ?_) h2.2 (fun k k0 k1 hk => ?_) (fun k k0 k1 hA ht => ?_) (fun k k2 k0 k1 k3 k4 hA hA2 e => ?_) (fun k k0 k1 hA ht => ?_)
  · rcases hT m with q | q
    · exact Or.inl q
    · exact Or.inr (by omega)
  · have s : Se (pa k) := by
      rcases hk with q | q
      · rw [q]; exact h2.1
      · exact ful _ q.1 (by rw [mv _ q.1]; exact q.2)
    rcases h5 k k0 k1 s with w | w
    · exact w
    · exact absurd w (fun z => z)
  · rw [← mv k hA] at ht ⊢
    rcases h3 k (ful k hA ht) with w | w
    · omega
    · exact w.2.2
  · rw [← mv k hA, ← mv k2 hA2] at e
    obtain ⟨i, hi, ei⟩ := hA
    obtain ⟨j, hj, ej⟩ := hA2
    have := h6 i j hi.1 hi.2 hj.1 hj.2 (by rw [ei, ej]; exact e)
    rw [ei, ej] at this
    exact this
  · rw [← mv k hA] at ht
    obtain ⟨i, hi, ei⟩ := hA
    have a := ArS.ge g1 hnd.2 hw hi.1 hi.2
    have b := (g1.2.1 i hi.1 hi.2).2
    rw [ei] at a b
    have := hq _ b.1 b.2 ht
    omega
/-- the heaviest open move is one that a node has come to -/
theorem ArF.hvy (h : ArF So ns pa vb cd nd al wt T St Ph Mv Ar At An Mw n cm Se) (hv : ∀ k, 0 ≤ vb k ∧ vb k < 3) (hm : 0 ≤ m ∧ m < 12) (hw : 0 < Mw m) : m / 3 < cm := by
  have a := (h.1.2.2.2.1 m hm.1 hm.2)
  have b : 0 < cA (fun i => Mv (Ar i)) m n.toNat := by
    have key : ∀ k : Nat, cA (fun i => Mv (Ar i)) m k = 0 → sA (fun i => Mv (Ar i)) (fun i => wt (Ar i)) m k = 0 := by
      intro k
      induction k with
      | zero => intro _; rfl
      | succ k ih =>
        intro q
        have q2 : cA (fun i => Mv (Ar i)) m k + (if Mv (Ar (k : Int)) = m then 1 else 0) = 0 := q
        have c := cA_bd (fun i => Mv (Ar i)) m k
        show sA (fun i => Mv (Ar i)) (fun i => wt (Ar i)) m k + (if Mv (Ar (k : Int)) = m then wt (Ar (k : Int)) else 0) = 0
        by_cases w : Mv (Ar (k : Int)) = m
        · rw [if_pos w] at q2; omega
        · rw [if_neg w] at q2 ⊢
          have := ih (by omega)
          omega
    have c := cA_bd (fun i => Mv (Ar i)) m n.toNat
    by_cases w : cA (fun i => Mv (Ar i)) m n.toNat = 0
    · have := key _ w; omega
    · omega
  obtain ⟨i, w1, w2, w3, w4⟩ := h.1.at_ (m := m) (c := 0) hm.1 hm.2 (by omega)
  have e := h.2.1.bd hv w1.1 w1.2
  rw [w2] at e
  exact e.2
end SV
/-! SETTLING IN ORDER -/
/-- as far as node k: what was settled was settled in order, and a machine is left -/
def OrI (So : SoT) (ns : NsT) (pa vb cd : Int → Int) (nd al : Int) (wt T St Ph Mv Ar At An Mw : Int → Int) (n cm k : Int) : Prop :=
  ∃ (Se : Int → Prop) (F : Int → Int), ArF So ns pa vb cd nd al wt T St Ph Mv Ar At An Mw n cm Se ∧ LeftP So T ∧ WkT pa vb T F St k cm ∧ WkE So T F ∧ ∀ j, 1 ≤ j → j < k → 0 ≤ T (3 * St (pa j) + vb j)
/-- at node k, whose move m is open: the targets below t are out -/
def OrJ (So : SoT) (T : Int → Int) (m t : Int) : Prop := ∀ u, 0 ≤ u → u < t → ∀ τ, So τ → (∀ j, 0 ≤ T j → τ j = T j) → τ m ≠ u
section OR
variable {So : SoT} {ns : NsT} {pa vb cd cn wt T St Ph Mv Ar At An Mw St1 Ph1 Mv1 Ar1 At1 An1 Mw1 F : Int → Int} {nd al n n1 cm m t k x : Int} {Se : Int → Prop}
theorem ArF.all (h : ArF So ns pa vb cd nd al wt T St Ph Mv Ar At An Mw n cm Se) (hpa : ∀ k, 1 ≤ k → k < nd → 0 ≤ pa k ∧ pa k < k) (hk : k ≤ nd) (hj : ∀ j, 1 ≤ j → j < k → 0 ≤ T (3 * St (pa j) + vb j)) : ∀ j : Nat, (j : Int) < k → Se (j : Int) := by
  obtain ⟨g1, ⟨h1, h2, h3, h4, h5, h6⟩, g3, g4, g5⟩ := h
  intro j
  induction j using Nat.strongRecOn with
  | ind j ih =>
    intro hjk
    by_cases w : j = 0
    · subst w; exact h2.1
    · have p := hpa (j : Int) (by omega) (by omega)
      have s := ih (pa (j : Int)).toNat (by omega) (by omega)
      rw [(show (((pa (j : Int)).toNat : Nat) : Int) = pa (j : Int) by omega)] at s
      rcases h5 (j : Int) (by omega) (by omega) s with ⟨i, hi, e⟩ | q
      · have a := h4 i hi.1 hi.2
        have b := g5 i hi.1 hi.2
        rw [e] at a b
        exact b (by rw [a.2]; exact hj (j : Int) (by omega) hjk)
      · exact absurd q (fun z => z)
/-- node k has arrived at its move -/
theorem ArF.mv (h : ArF So ns pa vb cd nd al wt T St Ph Mv Ar At An Mw n cm Se) (hpa : ∀ k, 1 ≤ k → k < nd → 0 ≤ pa k ∧ pa k < k) (hk : 1 ≤ k ∧ k < nd) (hj : ∀ j, 1 ≤ j → j < k → 0 ≤ T (3 * St (pa j) + vb j)) : Se (pa k) ∧ ArA Ar n k ∧ Mv k = 3 * St (pa k) + vb k := by
  have p := hpa k hk.1 hk.2
  have s := h.all hpa (by omega) hj (pa k).toNat (by omega)
  rw [(show (((pa k).toNat : Nat) : Int) = pa k by omega)] at s
  rcases h.2.1.2.2.2.2.1 k hk.1 hk.2 s with ⟨i, hi, e⟩ | q
  · have a := (h.2.1.2.2.2.1 i hi.1 hi.2).2
    rw [e] at a
    exact ⟨s, ⟨i, hi, e⟩, a⟩
  · exact absurd q (fun z => z)
/-- node k's move is settled -/
theorem OrI.go (h : OrI So ns pa vb cd nd al wt T St Ph Mv Ar At An Mw n cm k) (hk : 1 ≤ k) (hm : 0 ≤ T (3 * St (pa k) + vb k)) (hx : (cm < T (3 * St (pa k) + vb k) + 1 → x = T (3 * St (pa k) + vb k) + 1) ∧ (T (3 * St (pa k) + vb k) + 1 ≤ cm → x = cm)) : OrI So ns pa vb cd nd al wt T St Ph Mv Ar At An Mw n x (k + 1) := by
  obtain ⟨Se, F, h1, h2, h3, h4, h5⟩ := h
  have a := h3.lt hm
  have e : x = cm := by omega
  subst e
  refine ⟨Se, F, h1, h2, fun z => ?_, h4, fun j j0 j1 => ?_⟩
  · rcases h3 z with q | ⟨q1, q2, q3, q4, q5⟩
    · exact Or.inl q
    · exact Or.inr ⟨q1, q2, q3, by omega, q5⟩
  · by_cases w : j = k
    · rw [w]; exact hm
    · exact h5 j j0 (by omega)
theorem OrJ.init : OrJ So T m 0 := fun u u0 u1 => by omega
theorem OrJ.next (h : OrJ So T m t) (hT : T m = -1) (hb : ¬ LeftP So (upI T m t)) : OrJ So T m (t + 1) := by
  intro u u0 u1 τ hτ hag hz
  by_cases w : u = t
  · subst w
    refine hb ⟨τ, hτ, fun j hj => ?_⟩
    by_cases y : j = m
    · rw [y, upI_same]; exact hz
    · rw [upI_ne _ _ y] at hj ⊢
      exact hag j hj
  · exact h u u0 (by omega) τ hτ hag hz
/-- some target is left -/
theorem OrJ.end_ (hS : TrS pa vb cd nd al So ns) (hT : ArT T cm) (hcm : 1 ≤ cm) (hm : 0 ≤ m ∧ m < 12) (hc : m / 3 < cm) (hl : LeftP So T) (h : OrJ So T m t) (h0 : 0 ≤ t) (ht : al ≤ t ∨ cm < t) (htc : t ≤ cm + 1) : False := by
  obtain ⟨τ, h1, h2⟩ := hl
  have r0 := hS.2.1 τ h1 m
  by_cases q : τ m < t
  · exact h (τ m) r0.1 q τ h1 h2 rfl
  · obtain ⟨σ, s1, s2, s3⟩ := swap_left hS hT hcm hm hc h1 (by omega) (fun j => 0 ≤ T j) (fun j hj => ⟨hj, h2 j hj⟩)
    exact h cm (by omega) (by omega) σ s1 s3 s2
/-- the move of node k was settled just now -/
theorem OrI.new {Se1 : Int → Prop} (hpa : ∀ k, 1 ≤ k → k < nd → 0 ≤ pa k ∧ pa k < k) (hv : ∀ k, 0 ≤ vb k ∧ vb k < 3) (h1 : ArF So ns pa vb cd nd al wt T St Ph Mv Ar At An Mw n cm Se) (h3 : WkT pa vb T F St k cm) (h4 : WkE So T F) (h5 : ∀ j, 1 ≤ j → j < k → 0 ≤ T (3 * St (pa j) + vb j)) (hk : 1 ≤ k ∧ k < nd) (em : 3 * St (pa k) + vb k = m) (hT : T m = -1) (hJ : OrJ So T m t) (ht : 0 ≤ t)
    (hK : ∀ j, Se j → St1 j = St j) (hF : ArF So ns pa vb cd nd al wt (upI T m t) St1 Ph1 Mv1 Ar1 At1 An1 Mw1 n1 x Se1) (hx : (cm < t + 1 → x = t + 1) ∧ (t + 1 ≤ cm → x = cm)) (hl : LeftP So (upI T m t)) : OrI So ns pa vb cd nd al wt (upI T m t) St1 Ph1 Mv1 Ar1 At1 An1 Mw1 n1 x (k + 1) := by
  have sk := h1.mv hpa hk h5
  have ss : ∀ j, 1 ≤ j → j ≤ k → St1 (pa j) = St (pa j) := by
    intro j j0 j1
    have p := hpa j j0 (by omega)
    have s := h1.all hpa (show k ≤ nd by omega) h5 (pa j).toNat (by omega)
    rw [(show (((pa j).toNat : Nat) : Int) = pa j by omega)] at s
    exact hK _ s
  have sp := h1.2.1.st sk.1
  have vk := hv k
  have hm : 0 ≤ m ∧ m < 12 := by
    obtain ⟨i, hi, e⟩ := sk.2.1
    have := (h1.1.2.1 i hi.1 hi.2).2
    rw [e, sk.2.2, em] at this
    exact this
  refine ⟨Se1, upI F m k, hF, hl, fun z => ?_, fun z hz u u0 u1 τ hτ hag => ?_, fun j j0 j1 => ?_⟩
  · by_cases w : z = m
    · rw [w, upI_same, upI_same]
      refine Or.inr ⟨hm, by omega, by omega, by omega, by rw [ss k hk.1 (by omega)]; exact em, fun j j0 j1 => ?_⟩
      rw [ss j j0 (by omega)]
      intro q
      have := h5 j j0 j1
      rw [q, hT] at this
      omega
    · rw [upI_ne _ _ w, upI_ne _ _ w]
      rcases h3 z with q | ⟨q1, q2, q3, q4, q5, q6⟩
      · exact Or.inl q
      · refine Or.inr ⟨q1, by omega, by omega, by omega, by rw [ss _ q4.1 (by omega)]; exact q5, fun j j0 j1 => ?_⟩
        rw [ss j j0 (by omega)]
        exact q6 j j0 j1
  · by_cases w : z = m
    · rw [w, upI_same] at u1
      rw [w]
      refine hJ u u0 u1 τ hτ (fun j hj => ?_)
      have y : j ≠ m := fun q => by rw [q, hT] at hj; omega
      have := hag j (by rw [upI_ne _ _ y]; exact hj) (by rw [w, upI_same, upI_ne _ _ y]; have := h3.lt hj; omega)
      rw [upI_ne _ _ y] at this
      exact this
    · rw [upI_ne _ _ w] at hz u1
      refine h4 z hz u u0 u1 τ hτ (fun j hj hlt => ?_)
      have y : j ≠ m := fun q => by rw [q, hT] at hj; omega
      have := hag j (by rw [upI_ne _ _ y]; exact hj) (by rw [upI_ne _ _ y, upI_ne _ _ w]; exact hlt)
      rw [upI_ne _ _ y] at this
      exact this
  · rw [ss j j0 (by omega)]
    by_cases w : j = k
    · rw [w, em, upI_same]; exact ht
    · have a := h5 j j0 (by omega)
      have y : 3 * St (pa j) + vb j ≠ m := fun q => by rw [q, hT] at a; omega
      rw [upI_ne _ _ y]; exact a
/-- at the end it is a walk to its end -/
theorem OrI.walk (h : OrI So ns pa vb cd nd al wt T St Ph Mv Ar At An Mw n cm nd) (hnd : 1 ≤ nd) (hpa : ∀ k, 1 ≤ k → k < nd → 0 ≤ pa k ∧ pa k < k) : ∃ F, WkI So ns pa vb cd nd al T F St Ph nd cm (cnT T 12) ∧ ∀ m, 0 ≤ T m → (0 ≤ m ∧ m < 12) ∧ (1 ≤ At (m * 97) ∧ At (m * 97) < nd) ∧ cd (At (m * 97)) = cd (F m) := by
  obtain ⟨Se, F, h1, h2, h3, h4, h5⟩ := h
  have al' := h1.all hpa (Int.le_refl nd) h5
  have sl : ∀ k, 0 ≤ k → k < nd → Se k := fun k k0 k1 => by
    have := al' k.toNat (by omega)
    rw [(show ((k.toNat : Nat) : Int) = k by omega)] at this
    exact this
  have arr : ∀ k, 1 ≤ k → k < nd → ArA Ar n k ∧ Mv k = 3 * St (pa k) + vb k := fun k k0 k1 => (h1.mv hpa ⟨k0, k1⟩ (fun j j0 j1 => h5 j j0 (by omega))).2
  have cds : ∀ k k2, 1 ≤ k → k < nd → 1 ≤ k2 → k2 < nd → 3 * St (pa k) + vb k = 3 * St (pa k2) + vb k2 → cd k = cd k2 := by
    intro k k2 a0 a1 b0 b1 e
    obtain ⟨⟨i, hi, ei⟩, e1⟩ := arr k a0 a1
    obtain ⟨⟨j, hj, ej⟩, e2⟩ := arr k2 b0 b1
    have := h1.2.1.2.2.2.2.2 i j hi.1 hi.2 hj.1 hj.2 (by rw [ei, ej, e1, e2]; exact e)
    rw [ei, ej] at this
    exact this
  refine ⟨F, ⟨⟨by omega, ⟨h1.2.1.1.1, h1.2.2.2.1⟩, rfl⟩, h3, fun k k0 k1 => ?_, h1.2.1.2.1.2, fun k k0 k1 => h1.2.2.1 k (sl k k0 k1), h4⟩, fun m hm => ?_⟩
  · have a := h5 k k0 k1
    refine ⟨a, ?_, ?_⟩
    · rcases h1.2.1.2.2.1 k (sl k (by omega) k1) with w | w
      · omega
      · rw [← (arr k k0 k1).2]; exact w.2.2
    · rcases h3 (3 * St (pa k) + vb k) with q | ⟨q1, q2, q3, q4, q5, q6⟩
      · omega
      · exact cds k _ k0 k1 q4.1 q4.2 q5.symm
  · rcases h3 m with q | ⟨q1, q2, q3, q4, q5, q6⟩
    · omega
    · obtain ⟨⟨i, hi, ei⟩, e1⟩ := arr (F m) q4.1 q4.2
      have em : Mv (Ar i) = m := by rw [ei, e1, q5]
      have a := (h1.1.2.2.2.1 m q1.1 q1.2).1
      have b := cA_lt (g := fun j => Mv (Ar j)) (m := m) (i := i.toNat) (n := n.toNat) (by omega) (by (try dsimp only); rw [(show ((i.toNat : Nat) : Int) = i by omega)]; exact em)
      have c := cA_bd (fun j => Mv (Ar j)) m i.toNat
      obtain ⟨i2, w1, w2, w3, w4⟩ := h1.1.at_ (m := m) (c := 0) q1.1 q1.2 (by omega)
      rw [(show m * 97 + 0 = m * 97 by omega)] at w4
      rw [w4]
      refine ⟨q1, (h1.1.2.1 i2 w1.1 w1.2).1, ?_⟩
      rw [← ei]
      exact h1.2.1.2.2.2.2.2 i2 i w1.1 w1.2 hi.1 hi.2 (by rw [w2, em])
theorem OrI.start (h : ArF So ns pa vb cd nd al wt T St Ph Mv Ar At An Mw n cm Se) (hl : LeftP So T) (hT : ∀ m, T m = -1) : OrI So ns pa vb cd nd al wt T St Ph Mv Ar At An Mw n cm 1 :=
  ⟨Se, fun _ => 0, h, hl, fun m => Or.inl (hT m), fun m hm => by have := hT m; omega, fun j j0 j1 => by omega⟩
end OR
section OX
variable {So : SoT} {ns : NsT} {pa vb cd cn wt T St Ph Mv Ar At An Mw St1 Ph1 Mv1 Ar1 At1 An1 Mw1 F : Int → Int} {nd al n n1 cm m t k x sd r : Int} {Se : Int → Prop}
theorem SvR.bad (h : SvR So T r) (hr : r ≠ -1) : BadM So T r := by
  rcases h with q | q
  · exact absurd q.1 hr
  · exact q
theorem SvR.left (h : SvR So T r) (hr : r = -1) : LeftP So T := by
  rcases h with q | q
  · exact q.2
  · exact absurd hr q.1
/-- the loop over the targets at node k, whose move is m -/
def OrX (So : SoT) (ns : NsT) (pa vb cd : Int → Int) (nd al : Int) (wt T St Ph Mv Ar At An Mw : Int → Int) (n cm k m t sd : Int) : Prop :=
  (sd = 0 ∧ OrI So ns pa vb cd nd al wt T St Ph Mv Ar At An Mw n cm k ∧ 3 * St (pa k) + vb k = m ∧ T m = -1 ∧ OrJ So T m t) ∨
  (sd = 1 ∧ (0 ≤ T m ∧ T m < 4) ∧ ∀ x, (cm < T m + 1 → x = T m + 1) ∧ (T m + 1 ≤ cm → x = cm) → OrI So ns pa vb cd nd al wt T St Ph Mv Ar At An Mw n x (k + 1))
theorem OrX.yes (h : OrI So ns pa vb cd nd al wt T St Ph Mv Ar At An Mw n cm k) (hk : 1 ≤ k) (em : 3 * St (pa k) + vb k = m) (hm : 0 ≤ T m ∧ T m < 4) : OrX So ns pa vb cd nd al wt T St Ph Mv Ar At An Mw n cm k m t 1 := by
  subst em
  exact Or.inr ⟨rfl, hm, fun x hx => OrI.go h hk hm.1 hx⟩
theorem OrX.open_ (h : OrX So ns pa vb cd nd al wt T St Ph Mv Ar At An Mw n cm k m t sd) (hs : sd = 0) : OrI So ns pa vb cd nd al wt T St Ph Mv Ar At An Mw n cm k ∧ 3 * St (pa k) + vb k = m ∧ T m = -1 ∧ OrJ So T m t := by
  rcases h with q | q
  · exact q.2
  · omega
theorem OrX.fin (hS : TrS pa vb cd nd al So ns) (h : OrX So ns pa vb cd nd al wt T St Ph Mv Ar At An Mw n cm k m t sd) (hm : 0 ≤ m ∧ m < 12) (hc : m / 3 < cm) (h0 : 0 ≤ t) (ht : (al ≤ t ∨ cm < t) ∨ sd ≠ 0) (htc : t ≤ cm + 1) : (0 ≤ T m ∧ T m < 4) ∧ ∀ x, (cm < T m + 1 → x = T m + 1) ∧ (T m + 1 ≤ cm → x = cm) → OrI So ns pa vb cd nd al wt T St Ph Mv Ar At An Mw n x (k + 1) := by
  rcases h with ⟨q1, ⟨Se, F, q2, q3, q4, q5, q6⟩, q7, q8, q9⟩ | q
  · exfalso
    rcases ht with w | w
    · exact OrJ.end_ hS q2.2.1.1.2 q2.2.1.1.1 hm hc q3 q9 h0 w htc
    · exact w q1
  · exact q.2
/-- a target that is out: all is as it was -/
theorem OrX.again (hpa : ∀ k, 1 ≤ k → k < nd → 0 ≤ pa k ∧ pa k < k) (hk : 1 ≤ k ∧ k < nd) (p1 : ArF So ns pa vb cd nd al wt T St Ph Mv Ar At An Mw n cm Se) (p2 : LeftP So T) (p3 : WkT pa vb T F St k cm) (p4 : WkE So T F) (p5 : ∀ j, 1 ≤ j → j < k → 0 ≤ T (3 * St (pa j) + vb j)) (em : 3 * St (pa k) + vb k = m) (hT : T m = -1) (hJ : OrJ So T m t) (hK : KeA n Se St Ph Mv Ar St1 Ph1 Mv1 Ar1) (hs : ArS nd wt Mv1 Ar1 At1 An1 Mw1 n) (hb : ¬ LeftP So (upI T m t)) : OrX So ns pa vb cd nd al wt T St1 Ph1 Mv1 Ar1 At1 An1 Mw1 n cm k m (t + 1) 0 := by
  have ss : ∀ j, 1 ≤ j → j ≤ k → St1 (pa j) = St (pa j) := by
    intro j j0 j1
    have p := hpa j j0 (by omega)
    have s := p1.all hpa (show k ≤ nd by omega) p5 (pa j).toNat (by omega)
    rw [(show (((pa j).toNat : Nat) : Int) = pa j by omega)] at s
    exact (hK.2 _ s).1
  refine Or.inl ⟨rfl, ⟨Se, F, p1.back hK hs, p2, fun z => ?_, p4, fun j j0 j1 => ?_⟩, by rw [ss k hk.1 (Int.le_refl _)]; exact em, hT, OrJ.next hJ hT hb⟩
  · rcases p3 z with q | ⟨q1, q2, q3, q4, q5, q6⟩
    · exact Or.inl q
    · refine Or.inr ⟨q1, q2, q3, q4, by rw [ss _ q4.1 (by omega)]; exact q5, fun j j0 j1 => ?_⟩
      rw [ss j j0 (by omega)]
      exact q6 j j0 j1
  · rw [ss j j0 (by omega)]
    exact p5 j j0 j1
/-- a target that is left -/
theorem OrX.took {Se1 : Int → Prop} (hpa : ∀ k, 1 ≤ k → k < nd → 0 ≤ pa k ∧ pa k < k) (hv : ∀ k, 0 ≤ vb k ∧ vb k < 3) (h1 : ArF So ns pa vb cd nd al wt T St Ph Mv Ar At An Mw n cm Se) (h3 : WkT pa vb T F St k cm) (h4 : WkE So T F) (h5 : ∀ j, 1 ≤ j → j < k → 0 ≤ T (3 * St (pa j) + vb j)) (hk : 1 ≤ k ∧ k < nd) (em : 3 * St (pa k) + vb k = m) (hT : T m = -1) (hJ : OrJ So T m t) (ht : 0 ≤ t ∧ t < 4)
    (hK : KeA n Se St Ph Mv Ar St1 Ph1 Mv1 Ar1) (hF : ArF So ns pa vb cd nd al wt (upI T m t) St1 Ph1 Mv1 Ar1 At1 An1 Mw1 n1 x Se1) (hx : (cm < t + 1 → x = t + 1) ∧ (t + 1 ≤ cm → x = cm)) (hl : LeftP So (upI T m t)) {t2 : Int} : OrX So ns pa vb cd nd al wt (upI T m t) St1 Ph1 Mv1 Ar1 At1 An1 Mw1 n1 cm k m t2 1 := by
  refine Or.inr ⟨rfl, by rw [upI_same]; exact ht, fun y hy => ?_⟩
  rw [upI_same] at hy
  have e : y = x := by omega
  subst e
  exact OrI.new hpa hv h1 h3 h4 h5 hk em hT hJ ht.1 (fun j hj => (hK.2 j hj).1) hF hx hl
end OX
