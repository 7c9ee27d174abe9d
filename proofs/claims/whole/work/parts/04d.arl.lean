/-! ARRIVALS: which nodes have a state, and what follows from the moves that are settled -/
def ArA (Ar : Int → Int) (n k : Int) : Prop := ∃ i, (0 ≤ i ∧ i < n) ∧ Ar i = k
/-- the children of a node -/
def TrC (pa vb cn : Int → Int) (nd : Int) : Prop :=
  (∀ x v, 0 ≤ x → x < nd → 0 ≤ v → v < 3 → cn (x * 3 + v) = -1 ∨ ((1 ≤ cn (x * 3 + v) ∧ cn (x * 3 + v) < nd) ∧ pa (cn (x * 3 + v)) = x ∧ vb (cn (x * 3 + v)) = v)) ∧
  ∀ k, 1 ≤ k → k < nd → cn (pa k * 3 + vb k) = k
/-- bounds of the moves -/
def ArT (T : Int → Int) (cm : Int) : Prop := ∀ m, T m = -1 ∨ ((0 ≤ m ∧ m < 12) ∧ (0 ≤ T m ∧ T m < cm) ∧ m / 3 < cm)
/-- the nodes of Se have their states; their children have arrived, but for those of Pd -/
def ArL (pa vb cd : Int → Int) (nd : Int) (T St Mv Ar : Int → Int) (n cm : Int) (Se Pd : Int → Prop) : Prop :=
  (1 ≤ cm ∧ ArT T cm) ∧ (Se 0 ∧ St 0 = 0) ∧
  (∀ k, Se k → k = 0 ∨ (ArA Ar n k ∧ 0 ≤ T (Mv k) ∧ St k = T (Mv k))) ∧
  (∀ i, 0 ≤ i → i < n → Se (pa (Ar i)) ∧ Mv (Ar i) = 3 * St (pa (Ar i)) + vb (Ar i)) ∧
  (∀ k, 1 ≤ k → k < nd → Se (pa k) → ArA Ar n k ∨ Pd k) ∧
  ∀ i j, 0 ≤ i → i < n → 0 ≤ j → j < n → Mv (Ar i) = Mv (Ar j) → cd (Ar i) = cd (Ar j)
def nPd : Int → Prop := fun _ => False
def cPd (pa vb : Int → Int) (x v : Int) : Int → Prop := fun k => pa k = x ∧ v ≤ vb k
def aSe (Se : Int → Prop) (x : Int) : Int → Prop := fun k => k = x ∨ Se k
theorem ArT.lt {T : Int → Int} {cm m : Int} (h : ArT T cm) (hm : 0 ≤ T m) : (0 ≤ m ∧ m < 12) ∧ T m < cm ∧ m / 3 < cm := by
  rcases h m with q | q
  · omega
  · exact ⟨q.1, q.2.1.2, q.2.2⟩
theorem ArT.bd {T : Int → Int} {cm : Int} (h : ArT T cm) (hc : cm ≤ 4) (m : Int) : -1 ≤ T m ∧ T m < 4 := by
  rcases h m with q | q
  · omega
  · have := q.2.1; omega
theorem ArT.set {T : Int → Int} {cm m t x : Int} (h : ArT T cm) (hm : 0 ≤ m ∧ m < 12) (hc : m / 3 < cm) (ht : 0 ≤ t ∧ t ≤ cm) (hx : (cm < t + 1 → x = t + 1) ∧ (t + 1 ≤ cm → x = cm)) : ArT (upI T m t) x := by
  intro j
  by_cases q : j = m
  · rw [q, upI_same]; exact Or.inr ⟨hm, by omega, by omega⟩
  · rw [upI_ne _ _ q]
    rcases h j with w | w
    · exact Or.inl w
    · exact Or.inr ⟨w.1, by omega, by omega⟩
section AL
variable {pa vb cd cn T St Mv Ar : Int → Int} {nd n cm : Int} {Se Pd : Int → Prop}
theorem ArL.st (h : ArL pa vb cd nd T St Mv Ar n cm Se Pd) {k : Int} (hk : Se k) : 0 ≤ St k ∧ St k < cm := by
  rcases h.2.2.1 k hk with q | q
  · rw [q, h.2.1.2]; have := h.1.1; omega
  · have := h.1.2.lt q.2.1; omega
theorem ArL.bd (h : ArL pa vb cd nd T St Mv Ar n cm Se Pd) (hv : ∀ k, 0 ≤ vb k ∧ vb k < 3) {i : Int} (h0 : 0 ≤ i) (h1 : i < n) : 0 ≤ Mv (Ar i) ∧ Mv (Ar i) / 3 < cm := by
  have a := h.2.2.2.1 i h0 h1
  have b := h.st a.1
  have c := hv (Ar i)
  omega
/-- a move is settled -/
theorem ArL.set (h : ArL pa vb cd nd T St Mv Ar n cm Se Pd) {m t x : Int} (hT : T m = -1) (hm : 0 ≤ m ∧ m < 12) (hc : m / 3 < cm) (ht : 0 ≤ t ∧ t ≤ cm) (hx : (cm < t + 1 → x = t + 1) ∧ (t + 1 ≤ cm → x = cm)) : ArL pa vb cd nd (upI T m t) St Mv Ar n x Se Pd := by
  obtain ⟨h1, h2, h3, h4, h5, h6⟩ := h
  refine ⟨⟨by omega, h1.2.set hm hc ht hx⟩, h2, fun k hk => ?_, h4, h5, h6⟩
  rcases h3 k hk with q | ⟨q1, q2, q3⟩
  · exact Or.inl q
  · have w : Mv k ≠ m := fun z => by rw [z, hT] at q2; omega
    exact Or.inr ⟨q1, by rw [upI_ne _ _ w]; exact q2, by rw [upI_ne _ _ w]; exact q3⟩
/-- a node gets its state -/
theorem ArL.ent (h : ArL pa vb cd nd T St Mv Ar n cm Se nPd) (hv : ∀ k, 0 ≤ vb k ∧ vb k < 3) {x : Int} (hx : ArA Ar n x) (ht : 0 ≤ T (Mv x)) (hn : ¬ Se x) : ArL pa vb cd nd T (upI St x (T (Mv x))) Mv Ar n cm (aSe Se x) (cPd pa vb x 0) ∧ ∀ k, 1 ≤ k → k < nd → pa k = x → 0 ≤ vb k → ¬ ArA Ar n k := by
  obtain ⟨h1, h2, h3, h4, h5, h6⟩ := h
  have ne : ∀ k, Se k → k ≠ x := fun k hk z => hn (by rw [← z]; exact hk)
  refine ⟨⟨h1, ⟨Or.inr h2.1, ?_⟩, fun k hk => ?_, fun i i0 i1 => ?_, fun k k0 k1 hk => ?_, h6⟩, fun k k0 k1 hk _ hA => ?_⟩
  · rw [upI_ne _ _ (ne 0 h2.1)]; exact h2.2
  · rcases hk with q | q
    · rw [q, upI_same]; exact Or.inr ⟨hx, ht, rfl⟩
    · rw [upI_ne _ _ (ne k q)]; exact h3 k q
  · have a := h4 i i0 i1
    rw [upI_ne _ _ (ne _ a.1)]
    exact ⟨Or.inr a.1, a.2⟩
  · rcases hk with q | q
    · exact Or.inr ⟨q, (hv k).1⟩
    · rcases h5 k k0 k1 q with w | w
      · exact Or.inl w
      · exact absurd w (fun z => z)
  · obtain ⟨i, hi, e⟩ := hA
    have a := (h4 i hi.1 hi.2).1
    rw [e, hk] at a
    exact hn a
theorem ArL.root (hv : ∀ k, 0 ≤ vb k ∧ vb k < 3) (St Mv Ar : Int → Int) : ArL pa vb cd nd (fun _ => -1) (upI St 0 0) Mv Ar 0 1 (fun k => k = 0) (cPd pa vb 0 0) := by
  refine ⟨⟨by omega, fun m => Or.inl rfl⟩, ⟨rfl, upI_same _ _ _⟩, fun k hk => Or.inl hk, fun i i0 i1 => by omega, fun k k0 k1 hk => Or.inr ⟨hk, (hv k).1⟩, fun i j i0 i1 => by omega⟩
/-- no child by this verb -/
theorem ArL.skip {x v : Int} (h : ArL pa vb cd nd T St Mv Ar n cm Se (cPd pa vb x v)) (hC : TrC pa vb cn nd) (hc : cn (x * 3 + v) = -1) : ArL pa vb cd nd T St Mv Ar n cm Se (cPd pa vb x (v + 1)) := by
  obtain ⟨h1, h2, h3, h4, h5, h6⟩ := h
  refine ⟨h1, h2, h3, h4, fun k k0 k1 hk => ?_, h6⟩
  rcases h5 k k0 k1 hk with q | q
  · exact Or.inl q
  · refine Or.inr ⟨q.1, ?_⟩
    have a := hC.2 k k0 k1
    rw [q.1] at a
    have b : v ≤ vb k := q.2
    by_cases w : vb k = v
    · rw [w, hc] at a; omega
    · omega
theorem ArL.all {x : Int} (h : ArL pa vb cd nd T St Mv Ar n cm Se (cPd pa vb x 3)) (hv : ∀ k, 0 ≤ vb k ∧ vb k < 3) : ArL pa vb cd nd T St Mv Ar n cm Se nPd := by
  obtain ⟨h1, h2, h3, h4, h5, h6⟩ := h
  refine ⟨h1, h2, h3, h4, fun k k0 k1 hk => ?_, h6⟩
  rcases h5 k k0 k1 hk with q | q
  · exact Or.inl q
  · have := q.2; have := hv k; omega
/-- a child arrives -/
theorem ArL.psh {x v c m : Int} (h : ArL pa vb cd nd T St Mv Ar n cm Se (cPd pa vb x v)) (hC : TrC pa vb cn nd) (h0 : 0 ≤ n) (hx : Se x) (hc : 1 ≤ c ∧ c < nd) (hp : pa c = x) (hb : vb c = v) (hm : 3 * St x + v = m) (hn : ∀ i, 0 ≤ i → i < n → Ar i ≠ c) (he : ∀ i, 0 ≤ i → i < n → Mv (Ar i) = m → cd (Ar i) = cd c) : ArL pa vb cd nd T St (upI Mv c m) (upI Ar n c) (n + 1) cm Se (cPd pa vb x (v + 1)) := by
  obtain ⟨h1, h2, h3, h4, h5, h6⟩ := h
  have eA : ∀ i, 0 ≤ i → i < n → upI Ar n c i = Ar i := fun i i0 i1 => upI_ne _ _ (by omega)
  have eM : ∀ i, 0 ≤ i → i < n → upI Mv c m (upI Ar n c i) = Mv (Ar i) := fun i i0 i1 => by rw [eA i i0 i1]; exact upI_ne _ _ (hn i i0 i1)
  have en : upI Mv c m (upI Ar n c n) = m := by rw [upI_same, upI_same]
  have up : ∀ k, ArA Ar n k → ArA (upI Ar n c) (n + 1) k := by
    rintro k ⟨i, hi, e⟩
    exact ⟨i, by omega, by rw [eA i hi.1 hi.2]; exact e⟩
  refine ⟨h1, h2, fun k hk => ?_, fun i i0 i1 => ?_, fun k k0 k1 hk => ?_, fun i j i0 i1 j0 j1 e => ?_⟩
  · rcases h3 k hk with q | ⟨q1, q2, q3⟩
    · exact Or.inl q
    · have w : k ≠ c := by
        obtain ⟨i, hi, e⟩ := q1
        rw [← e]; exact hn i hi.1 hi.2
      rw [upI_ne _ _ w]
      exact Or.inr ⟨up k q1, q2, q3⟩
  · by_cases w : i = n
    · rw [w, en, upI_same, hp, hb]; exact ⟨hx, hm.symm⟩
    · rw [eM i i0 (by omega), eA i i0 (by omega)]; exact h4 i i0 (by omega)
  · rcases h5 k k0 k1 hk with q | q
    · exact Or.inl (up k q)
    · by_cases w : vb k = v
      · left
        have a := hC.2 k k0 k1
        have b := hC.2 c hc.1 hc.2
        rw [q.1, w] at a
        rw [hp, hb, a] at b
        exact ⟨n, by omega, by rw [upI_same]; exact b.symm⟩
      · refine Or.inr ⟨q.1, ?_⟩
        have b : v ≤ vb k := q.2
        omega
  · by_cases w : i = n
    · by_cases z : j = n
      · rw [w, z]
      · rw [w, en, eM j j0 (by omega)] at e
        rw [w, upI_same, eA j j0 (by omega)]
        exact (he j j0 (by omega) e.symm).symm
    · by_cases z : j = n
      · rw [z, en, eM i i0 (by omega)] at e
        rw [z, upI_same, eA i i0 (by omega)]
        exact he i i0 (by omega) e
      · rw [eM i i0 (by omega), eM j j0 (by omega)] at e
        rw [eA i i0 (by omega), eA j j0 (by omega)]
        exact h6 i j i0 (by omega) j0 (by omega) e
end AL
/-- what was there stays -/
def KeA (n : Int) (Se : Int → Prop) (St Ph Mv Ar St1 Ph1 Mv1 Ar1 : Int → Int) : Prop :=
  (∀ i, 0 ≤ i → i < n → Ar1 i = Ar i ∧ Mv1 (Ar i) = Mv (Ar i)) ∧ ∀ k, Se k → St1 k = St k ∧ Ph1 k = Ph k
theorem KeA.refl (n : Int) (Se : Int → Prop) (St Ph Mv Ar : Int → Int) : KeA n Se St Ph Mv Ar St Ph Mv Ar := ⟨fun _ _ _ => ⟨rfl, rfl⟩, fun _ _ => ⟨rfl, rfl⟩⟩
theorem KeA.trans {n n1 : Int} {Se Se1 : Int → Prop} {St Ph Mv Ar St1 Ph1 Mv1 Ar1 St2 Ph2 Mv2 Ar2 : Int → Int} (h : KeA n Se St Ph Mv Ar St1 Ph1 Mv1 Ar1) (h2 : KeA n1 Se1 St1 Ph1 Mv1 Ar1 St2 Ph2 Mv2 Ar2) (hn : n ≤ n1) (hs : ∀ k, Se k → Se1 k) : KeA n Se St Ph Mv Ar St2 Ph2 Mv2 Ar2 := by
  refine ⟨fun i i0 i1 => ?_, fun k hk => ?_⟩
  · have a := h.1 i i0 i1
    have b := h2.1 i i0 (by omega)
    rw [a.1] at b
    exact ⟨b.1, b.2.trans a.2⟩
  · have a := h.2 k hk
    have b := h2.2 k (hs k hk)
    exact ⟨b.1.trans a.1, b.2.trans a.2⟩
/-- a mask that nothing gets by -/
def BadM (So : SoT) (T : Int → Int) (r : Int) : Prop := r ≠ -1 ∧ (∀ i : Nat, bI r i → 0 ≤ T (i : Int)) ∧ ∀ τ, So τ → ¬ ∀ i : Nat, bI r i → τ (i : Int) = T (i : Int)
/-- two nodes that came to one move with unlike codes -/
def CfA (pa vb cd : Int → Int) (nd : Int) (St Ph : Int → Int) (Se : Int → Prop) (r : Int) : Prop :=
  ∃ f c, (1 ≤ f ∧ f < nd) ∧ (1 ≤ c ∧ c < nd) ∧ Se (pa f) ∧ Se (pa c) ∧ 3 * St (pa f) + vb f = 3 * St (pa c) + vb c ∧ cd f ≠ cd c ∧ r = orI (Ph (pa c)) (Ph (pa f))
theorem CfA.bad {So : SoT} {ns : NsT} {pa vb cd T St Ph : Int → Int} {nd al cm r : Int} {Se : Int → Prop} (hS : TrS pa vb cd nd al So ns) (hT : ArT T cm) (hP : ∀ k, Se k → WkP So ns T St Ph k) (h : CfA pa vb cd nd St Ph Se r) : BadM So T r := by
  obtain ⟨f, c, hf, hc, s1, s2, e, ne, er⟩ := h
  have e1 := hP _ s1
  have e2 := hP _ s2
  have hb : ∀ i : Nat, bI r i → 0 ≤ T (i : Int) := by
    intro i hi
    rw [er] at hi
    rcases (bI_or _ _ _).mp hi with z | z
    · exact e2.1 i z
    · exact e1.1 i z
  refine ⟨mask_ne (fun i hi => ?_), hb, fun τ hτ hag => ne ?_⟩
  · have := (hT.lt (hb i hi)).1; omega
  · rw [er] at hag
    have g2 := e2.2 τ hτ (fun i hi => hag i ((bI_or _ _ _).mpr (Or.inl hi)))
    have g1 := e1.2 τ hτ (fun i hi => hag i ((bI_or _ _ _).mpr (Or.inr hi)))
    exact hS.2.2.2.2.1 τ hτ f c hf.1 hf.2 hc.1 hc.2 (by rw [g1, g2]; exact e)
/-- between two calls: all that follows has been done -/
def ArF (So : SoT) (ns : NsT) (pa vb cd : Int → Int) (nd al : Int) (wt T St Ph Mv Ar At An Mw : Int → Int) (n cm : Int) (Se : Int → Prop) : Prop :=
  ArS nd wt Mv Ar At An Mw n ∧ ArL pa vb cd nd T St Mv Ar n cm Se nPd ∧ (∀ k, Se k → WkP So ns T St Ph k) ∧ cm ≤ al ∧ ∀ i, 0 ≤ i → i < n → 0 ≤ T (Mv (Ar i)) → Se (Ar i)
/-- on the way: the pile's nodes that have their states are those of D -/
def MidA (So : SoT) (ns : NsT) (pa vb cd : Int → Int) (nd : Int) (T St Ph Mv Ar : Int → Int) (n cm : Int) (Se : Int → Prop) (D : Int → Prop) : Prop :=
  ∃ Se1 : Int → Prop, (∀ k, Se k → Se1 k) ∧ ArL pa vb cd nd T St Mv Ar n cm Se1 nPd ∧ (∀ k, Se1 k → WkP So ns T St Ph k) ∧ ∀ i, 0 ≤ i → i < n → (Se1 (Ar i) ↔ D i)
section AF
variable {So : SoT} {ns : NsT} {pa vb cd cn wt T St Ph Mv Ar At An Mw St1 Ph1 Mv1 Ar1 At1 An1 Mw1 St2 Ph2 Mv2 Ar2 At2 An2 Mw2 : Int → Int} {nd al n n1 n2 cm : Int} {Se Se1 : Int → Prop} {D : Int → Prop}
theorem WkP.same {k : Int} (h : WkP So ns T St Ph k) (h1 : St1 k = St k) (h2 : Ph1 k = Ph k) : WkP So ns T St1 Ph1 k := by
  unfold WkP at h ⊢
  rw [h1, h2]
  exact h
theorem WkP.set {k m t : Int} (h : WkP So ns T St Ph k) (hT : T m = -1) : WkP So ns (upI T m t) St Ph k := by
  have e : ∀ i : Nat, bI (Ph k) i → upI T m t (i : Int) = T (i : Int) := fun i hi => upI_ne _ _ (fun q => by have := h.1 i hi; rw [q, hT] at this; omega)
  refine ⟨fun i hi => by rw [e i hi]; exact h.1 i hi, fun τ hτ hag => h.2 τ hτ (fun i hi => ?_)⟩
  rw [hag i hi]; exact e i hi
/-- the way to a node whose move is settled -/
theorem WkP.go (hS : TrS pa vb cd nd al So ns) {x m : Int} (hx : 1 ≤ x ∧ x < nd) (h : WkP So ns T St Ph (pa x)) (hm : 0 ≤ m ∧ m < 12) (em : 3 * St (pa x) + vb x = m) (ht : 0 ≤ T m) : WkP So ns T (upI St x (T m)) (upI Ph x (orI (Ph (pa x)) (shlI 1 m))) x := by
  unfold WkP
  rw [upI_same, upI_same]
  refine ⟨fun i hi => ?_, fun τ hτ hag => ?_⟩
  · rcases (bI_or _ _ _).mp hi with z | z
    · exact h.1 i z
    · rw [(bI_own hm.1 hm.2 i).mp z]; exact ht
  · have e2 := h.2 τ hτ (fun i hi => hag i ((bI_or _ _ _).mpr (Or.inl hi)))
    have e3 := hag m.toNat ((bI_or _ _ _).mpr (Or.inr ((bI_own hm.1 hm.2 _).mpr (by omega))))
    rw [(show ((m.toNat : Nat) : Int) = m by omega)] at e3
    rw [hS.2.2.2.1 τ hτ x hx.1 hx.2, e2, em, e3]
theorem ArF.back (h : ArF So ns pa vb cd nd al wt T St Ph Mv Ar At An Mw n cm Se) (hk : KeA n Se St Ph Mv Ar St1 Ph1 Mv1 Ar1) (hs : ArS nd wt Mv1 Ar1 At1 An1 Mw1 n) : ArF So ns pa vb cd nd al wt T St1 Ph1 Mv1 Ar1 At1 An1 Mw1 n cm Se := by
  obtain ⟨g1, ⟨h1, h2, h3, h4, h5, h6⟩, g3, g4, g5⟩ := h
  obtain ⟨k1, k2⟩ := hk
  have up : ∀ k, ArA Ar n k → ArA Ar1 n k ∧ Mv1 k = Mv k := by
    rintro k ⟨i, hi, e⟩
    have a := k1 i hi.1 hi.2
    rw [e] at a
    exact ⟨⟨i, hi, a.1⟩, a.2⟩
  refine ⟨hs, ⟨h1, ⟨h2.1, by rw [(k2 0 h2.1).1]; exact h2.2⟩, fun k hk => ?_, fun i i0 i1 => ?_, fun k k0 k1' hk => ?_, fun i j i0 i1 j0 j1 e => ?_⟩, fun k hk => (g3 k hk).same (k2 k hk).1 (k2 k hk).2, g4, fun i i0 i1 hi => ?_⟩
  · rcases h3 k hk with q | ⟨q1, q2, q3⟩
    · exact Or.inl q
    · have u := up k q1
      rw [u.2, (k2 k hk).1]
      exact Or.inr ⟨u.1, q2, q3⟩
  · have a := k1 i i0 i1
    have b := h4 i i0 i1
    rw [a.1, a.2, (k2 _ b.1).1]
    exact b
  · rcases h5 k k0 k1' hk with q | q
    · exact Or.inl (up k q).1
    · exact Or.inr q
  · have a := k1 i i0 i1
    have b := k1 j j0 j1
    rw [a.1, b.1, a.2, b.2] at e
    rw [a.1, b.1]
    exact h6 i j i0 i1 j0 j1 e
  · have a := k1 i i0 i1
    rw [a.1, a.2] at hi
    rw [a.1]
    exact g5 i i0 i1 hi
theorem MidA.iff {D2 : Int → Prop} (h : MidA So ns pa vb cd nd T St Ph Mv Ar n cm Se D) (hd : ∀ i, 0 ≤ i → i < n → (D i ↔ D2 i)) : MidA So ns pa vb cd nd T St Ph Mv Ar n cm Se D2 := by
  obtain ⟨Se1, a, b, c, d⟩ := h
  exact ⟨Se1, a, b, c, fun i i0 i1 => (d i i0 i1).trans (hd i i0 i1)⟩
/-- a node of the pile got its state, and its children arrived -/
theorem MidA.ok (hS : TrS pa vb cd nd al So ns) (hs : ArS nd wt Mv Ar At An Mw n) (hs2 : ArS nd wt Mv2 Ar2 At2 An2 Mw2 n2) {j : Int} (hj : 0 ≤ j ∧ j < n) (a1 : ∀ k, Se k → Se1 k) (a2 : ArL pa vb cd nd T St Mv Ar n cm Se1 nPd) (a3 : ∀ k, Se1 k → WkP So ns T St Ph k) (a4 : ∀ i, 0 ≤ i → i < n → (Se1 (Ar i) ↔ D i)) (ht : 0 ≤ T (Mv (Ar j))) (hn : ¬ D j) (hD : ∀ i, D i → i < n) (hpre : n ≤ n2 ∧ ∀ i, 0 ≤ i → i < n → Ar2 i = Ar i ∧ Mv2 (Ar i) = Mv (Ar i))
    (hL : ArL pa vb cd nd T (upI St (Ar j) (T (Mv (Ar j)))) Mv2 Ar2 n2 cm (aSe Se1 (Ar j)) nPd) : MidA So ns pa vb cd nd T (upI St (Ar j) (T (Mv (Ar j)))) (upI Ph (Ar j) (orI (Ph (pa (Ar j))) (shlI 1 (Mv (Ar j))))) Mv2 Ar2 n2 cm Se (fun i => i = j ∨ D i) := by
  have hne : ∀ k, Se1 k → k ≠ Ar j := fun k hk q => hn ((a4 j hj.1 hj.2).mp (by rw [← q]; exact hk))
  have b1 := hs.2.1 j hj.1 hj.2
  have b2 := a2.2.2.2.1 j hj.1 hj.2
  refine ⟨aSe Se1 (Ar j), fun k hk => Or.inr (a1 k hk), hL, fun k hk => ?_, fun i i0 i1 => ?_⟩
  · rcases hk with q | q
    · rw [q]
      exact WkP.go hS b1.1 (a3 _ b2.1) b1.2 b2.2.symm ht
    · exact (a3 k q).same (upI_ne _ _ (hne k q)) (upI_ne _ _ (hne k q))
  · by_cases w : i < n
    · rw [(hpre.2 i i0 w).1]
      constructor
      · rintro (q | q)
        · left
          rcases Int.lt_trichotomy i j with z | z | z
          · exact absurd q (hs.2.2.1 i j i0 z hj.2)
          · exact z
          · exact absurd q.symm (hs.2.2.1 j i hj.1 z w)
        · exact Or.inr ((a4 i i0 w).mp q)
      · rintro (q | q)
        · exact Or.inl (by rw [q])
        · exact Or.inr ((a4 i i0 w).mpr q)
    · constructor
      · intro q
        exfalso
        have nA : ∀ k, ArA Ar n k → Ar2 i ≠ k := by
          rintro k ⟨i3, hi3, e3⟩ z
          have c := hpre.2 i3 hi3.1 hi3.2
          exact hs2.2.2.1 i3 i hi3.1 (by omega) i1 (by rw [c.1, e3, z])
        rcases q with q | q
        · exact nA _ ⟨j, hj, rfl⟩ q
        · rcases a2.2.2.1 _ q with z | z
          · have := (hs2.2.1 i i0 i1).1; omega
          · exact nA _ z.1 rfl
      · rintro (q | q)
        · omega
        · have := hD i q; omega
end AF
