/-! SETTLING a move, SOLVING, and settling in order -/
/-- what settling a move leaves -/
def SeR (So : SoT) (ns : NsT) (pa vb cd : Int → Int) (nd al : Int) (wt T St Ph Mv Ar : Int → Int) (n cm : Int) (Se : Int → Prop) (m t r : Int) (St1 Ph1 Mv1 Ar1 At1 An1 Mw1 : Int → Int) (n1 : Int) : Prop :=
  n ≤ n1 ∧ ArS nd wt Mv1 Ar1 At1 An1 Mw1 n1 ∧ KeA n Se St Ph Mv Ar St1 Ph1 Mv1 Ar1 ∧
  ((r = -1 ∧ ∀ x, (cm < t + 1 → x = t + 1) ∧ (t + 1 ≤ cm → x = cm) → ∃ Se1 : Int → Prop, (∀ k, Se k → Se1 k) ∧ ArF So ns pa vb cd nd al wt (upI T m t) St1 Ph1 Mv1 Ar1 At1 An1 Mw1 n1 x Se1) ∨ BadM So (upI T m t) r)
/-- its first loop at place a of the move's nodes, its second at place a of the pile -/
def SeD1 (Mv Ar : Int → Int) (n : Int) (Se : Int → Prop) (m a : Int) : Int → Prop := fun i => i < n ∧ (Se (Ar i) ∨ (Mv (Ar i) = m ∧ cA (fun j => Mv (Ar j)) m i.toNat < a))
def SeD2 (T Mv1 Ar1 : Int → Int) (a : Int) : Int → Prop := fun i => i < a ∧ 0 ≤ T (Mv1 (Ar1 i))
def SeL (So : SoT) (ns : NsT) (pa vb cd : Int → Int) (nd : Int) (wt T St Ph Mv Ar : Int → Int) (n x : Int) (Se : Int → Prop) (D : Int → Prop) (r : Int) (St1 Ph1 Mv1 Ar1 At1 An1 Mw1 : Int → Int) (n1 : Int) : Prop :=
  n ≤ n1 ∧ ArS nd wt Mv1 Ar1 At1 An1 Mw1 n1 ∧ KeA n Se St Ph Mv Ar St1 Ph1 Mv1 Ar1 ∧
  ((r = -1 ∧ MidA So ns pa vb cd nd T St1 Ph1 Mv1 Ar1 n1 x Se D) ∨ BadM So T r)
/-- what entering a node leaves -/
def EnR (pa vb cd : Int → Int) (nd : Int) (wt T St Ph Mv Ar : Int → Int) (n cm : Int) (Se : Int → Prop) (r : Int) (Mv1 Ar1 At1 An1 Mw1 : Int → Int) (n1 : Int) : Prop :=
  (n ≤ n1 ∧ ∀ i, 0 ≤ i → i < n → Ar1 i = Ar i ∧ Mv1 (Ar i) = Mv (Ar i)) ∧ ArS nd wt Mv1 Ar1 At1 An1 Mw1 n1 ∧
  ((r = -1 ∧ ArL pa vb cd nd T St Mv1 Ar1 n1 cm Se nPd) ∨ CfA pa vb cd nd St Ph Se r)
/-- entering at verb v -/
def EnL (pa vb cd : Int → Int) (nd : Int) (wt T St Mv Ar : Int → Int) (n cm : Int) (Se : Int → Prop) (x v : Int) (Mv1 Ar1 At1 An1 Mw1 : Int → Int) (n1 : Int) : Prop :=
  (n ≤ n1 ∧ ∀ i, 0 ≤ i → i < n → Ar1 i = Ar i ∧ Mv1 (Ar i) = Mv (Ar i)) ∧ ArS nd wt Mv1 Ar1 At1 An1 Mw1 n1 ∧
  ArL pa vb cd nd T St Mv1 Ar1 n1 cm Se (cPd pa vb x v) ∧ ∀ k, 1 ≤ k → k < nd → pa k = x → v ≤ vb k → ¬ ArA Ar1 n1 k
section EN
variable {So : SoT} {ns : NsT} {pa vb cd cn wt T St Ph Mv Ar At An Mw St1 Ph1 Mv1 Ar1 At1 An1 Mw1 Mv2 Ar2 At2 An2 Mw2 : Int → Int} {nd al n n1 n2 cm x v r : Int} {Se Se1 : Int → Prop} {D : Int → Prop}
theorem EnL.init (hs : ArS nd wt Mv Ar At An Mw n) (hL : ArL pa vb cd nd T St Mv Ar n cm Se (cPd pa vb x 0)) (hN : ∀ k, 1 ≤ k → k < nd → pa k = x → 0 ≤ vb k → ¬ ArA Ar n k) : EnL pa vb cd nd wt T St Mv Ar n cm Se x 0 Mv Ar At An Mw n := ⟨⟨Int.le_refl _, fun _ _ _ => ⟨rfl, rfl⟩⟩, hs, hL, hN⟩
theorem EnL.skip (h : EnL pa vb cd nd wt T St Mv Ar n cm Se x v Mv1 Ar1 At1 An1 Mw1 n1) (hC : TrC pa vb cn nd) (hc : cn (x * 3 + v) = -1) : EnL pa vb cd nd wt T St Mv Ar n cm Se x (v + 1) Mv1 Ar1 At1 An1 Mw1 n1 := ⟨h.1, h.2.1, h.2.2.1.skip hC hc, fun k k0 k1 hk hv => h.2.2.2 k k0 k1 hk (by omega)⟩
theorem EnL.kid (hC : TrC pa vb cn nd) (hx : 0 ≤ x ∧ x < nd) (hv : 0 ≤ v ∧ v < 3) (hc : cn (x * 3 + v) ≠ -1) : (1 ≤ cn (x * 3 + v) ∧ cn (x * 3 + v) < nd) ∧ pa (cn (x * 3 + v)) = x ∧ vb (cn (x * 3 + v)) = v := by
  rcases hC.1 x v hx.1 hx.2 hv.1 hv.2 with q | q
  · exact absurd q hc
  · exact q
theorem EnL.psh (h : EnL pa vb cd nd wt T St Mv Ar n cm Se x v Mv1 Ar1 At1 An1 Mw1 n1) (hnd : 1 ≤ nd ∧ nd ≤ 97) (hC : TrC pa vb cn nd) (hx : 0 ≤ x ∧ x < nd) (hv : 0 ≤ v ∧ v < 3) (hs : Se x) (hc : cn (x * 3 + v) ≠ -1) {m : Int} (hm : 3 * St x + v = m) (hm2 : 0 ≤ m ∧ m < 12) (he : 0 < An1 m → cd (At1 (m * 97)) = cd (cn (x * 3 + v))) : EnL pa vb cd nd wt T St Mv Ar n cm Se x (v + 1) (upI Mv1 (cn (x * 3 + v)) m) (upI Ar1 n1 (cn (x * 3 + v))) (upI At1 (m * 97 + An1 m) (cn (x * 3 + v))) (upI An1 m (An1 m + 1)) (upI Mw1 m (Mw1 m + wt (cn (x * 3 + v)))) (n1 + 1) := by
  have kd := EnL.kid hC hx hv hc
  obtain ⟨h1, h2, h3, h4⟩ := h
  have nA := h4 _ kd.1.1 kd.1.2 kd.2.1 (by omega)
  have hn : ∀ i, 0 ≤ i → i < n1 → Ar1 i ≠ cn (x * 3 + v) := fun i i0 i1 q => nA ⟨i, ⟨i0, i1⟩, q⟩
  refine ⟨⟨by omega, fun i i0 i1 => ?_⟩, h2.push hnd kd.1 hm2 hn, h3.psh hC h2.1 hs kd.1 kd.2.1 kd.2.2 hm hn (fun i i0 i1 e => ?_), fun k k0 k1 hk hvk => ?_⟩
  · have a := h1.2 i i0 i1
    have b := hn i i0 (by omega)
    rw [a.1] at b
    rw [upI_ne _ _ (by omega), upI_ne _ _ b]
    exact a
  · have a := (h2.2.2.2.1 m hm2.1 hm2.2).1
    have b := cA_lt (g := fun j => Mv1 (Ar1 j)) (m := m) (i := i.toNat) (n := n1.toNat) (by omega) (by (try dsimp only); rw [(show ((i.toNat : Nat) : Int) = i by omega)]; exact e)
    have c := cA_bd (fun j => Mv1 (Ar1 j)) m i.toNat
    obtain ⟨i2, w1, w2, w3, w4⟩ := h2.at_ (m := m) (c := 0) hm2.1 hm2.2 (by omega)
    rw [(show m * 97 + 0 = m * 97 by omega)] at w4
    rw [← he (by omega), w4]
    exact h3.2.2.2.2.2 i i2 i0 i1 w1.1 w1.2 (by rw [e, w2])
  · rintro ⟨i, hi, e⟩
    by_cases w : i = n1
    · rw [w, upI_same] at e
      have := kd.2.2
      rw [e] at this
      omega
    · rw [upI_ne _ _ w] at e
      exact h4 k k0 k1 hk (by omega) ⟨i, by omega, e⟩
theorem EnL.bad (h : EnL pa vb cd nd wt T St Mv Ar n cm Se x v Mv1 Ar1 At1 An1 Mw1 n1) (hC : TrC pa vb cn nd) (hx : 0 ≤ x ∧ x < nd) (hv : 0 ≤ v ∧ v < 3) (hs : Se x) (hc : cn (x * 3 + v) ≠ -1) {m : Int} (hm : 3 * St x + v = m) (hm2 : 0 ≤ m ∧ m < 12) (ha : 0 < An1 m) (he : cd (At1 (m * 97)) ≠ cd (cn (x * 3 + v))) (hr : r = orI (Ph x) (Ph (pa (At1 (m * 97))))) : EnR pa vb cd nd wt T St Ph Mv Ar n cm Se r Mv1 Ar1 At1 An1 Mw1 n1 := by
  have kd := EnL.kid hC hx hv hc
  obtain ⟨h1, h2, h3, h4⟩ := h
  obtain ⟨i2, w1, w2, w3, w4⟩ := h2.at_ (m := m) (c := 0) hm2.1 hm2.2 (by omega)
  rw [(show m * 97 + 0 = m * 97 by omega)] at w4
  have a := h3.2.2.2.1 i2 w1.1 w1.2
  have b := h2.2.1 i2 w1.1 w1.2
  rw [w4] at he hr
  refine ⟨h1, h2, Or.inr ⟨Ar1 i2, cn (x * 3 + v), b.1, kd.1, a.1, by rw [kd.2.1]; exact hs, ?_, he, by rw [kd.2.1]; exact hr⟩⟩
  rw [← a.2, w2, kd.2.1, kd.2.2, hm]
theorem EnL.done (h : EnL pa vb cd nd wt T St Mv Ar n cm Se x v Mv1 Ar1 At1 An1 Mw1 n1) (hv3 : v = 3) (hvb : ∀ k, 0 ≤ vb k ∧ vb k < 3) : EnR pa vb cd nd wt T St Ph Mv Ar n cm Se (-1) Mv1 Ar1 At1 An1 Mw1 n1 := by
  subst hv3
  exact ⟨h.1, h.2.1, Or.inl ⟨rfl, h.2.2.1.all hvb⟩⟩
theorem EnL.fst (h : EnL pa vb cd nd wt T St Mv Ar n cm Se x v Mv1 Ar1 At1 An1 Mw1 n1) {m : Int} (hm : 0 ≤ m ∧ m < 12) (ha : 0 < An1 m) : 1 ≤ At1 (m * 97) ∧ At1 (m * 97) < nd := by
  obtain ⟨i2, w1, w2, w3, w4⟩ := h.2.1.at_ (m := m) (c := 0) hm.1 hm.2 (by omega)
  rw [(show m * 97 + 0 = m * 97 by omega)] at w4
  rw [w4]
  exact (h.2.1.2.1 i2 w1.1 w1.2).1
/-! settle -/
theorem SeL.init (h : ArF So ns pa vb cd nd al wt T St Ph Mv Ar At An Mw n cm Se) {m t : Int} (hT : T m = -1) (hm : 0 ≤ m ∧ m < 12) (hc : m / 3 < cm) (ht : 0 ≤ t ∧ t ≤ cm) (hx : (cm < t + 1 → x = t + 1) ∧ (t + 1 ≤ cm → x = cm)) : SeL So ns pa vb cd nd wt (upI T m t) St Ph Mv Ar n x Se (SeD1 Mv Ar n Se m 0) (-1) St Ph Mv Ar At An Mw n := by
  obtain ⟨g1, g2, g3, g4, g5⟩ := h
  refine ⟨Int.le_refl _, g1, KeA.refl _ _ _ _ _ _, Or.inl ⟨rfl, Se, fun _ q => q, g2.set hT hm hc ht hx, fun k hk => (g3 k hk).set hT, fun i i0 i1 => ?_⟩⟩
  have b := cA_bd (fun j => Mv (Ar j)) m i.toNat
  constructor
  · intro q; exact ⟨i1, Or.inl q⟩
  · rintro ⟨_, q | q⟩
    · exact q
    · omega
/-- one node more of the first loop, or of the second, entered -/
theorem SeL.ent (hS : TrS pa vb cd nd al So ns) {j : Int} (h : SeL So ns pa vb cd nd wt T St Ph Mv Ar n x Se D r St1 Ph1 Mv1 Ar1 At1 An1 Mw1 n1) (hj : 0 ≤ j ∧ j < n1) (a1 : ∀ k, Se k → Se1 k) (a2 : ArL pa vb cd nd T St1 Mv1 Ar1 n1 x Se1 nPd) (a3 : ∀ k, Se1 k → WkP So ns T St1 Ph1 k) (a4 : ∀ i, 0 ≤ i → i < n1 → (Se1 (Ar1 i) ↔ D i)) (ht : 0 ≤ T (Mv1 (Ar1 j))) (hn : ¬ D j) (hD : ∀ i, D i → i < n1) {r2 : Int} {D2 : Int → Prop}
    (hE : EnR pa vb cd nd wt T (upI St1 (Ar1 j) (T (Mv1 (Ar1 j)))) (upI Ph1 (Ar1 j) (orI (Ph1 (pa (Ar1 j))) (shlI 1 (Mv1 (Ar1 j))))) Mv1 Ar1 n1 x (aSe Se1 (Ar1 j)) r2 Mv2 Ar2 At2 An2 Mw2 n2) (hd : ∀ i, 0 ≤ i → i < n2 → ((i = j ∨ D i) ↔ D2 i)) : SeL So ns pa vb cd nd wt T St Ph Mv Ar n x Se D2 r2 (upI St1 (Ar1 j) (T (Mv1 (Ar1 j)))) (upI Ph1 (Ar1 j) (orI (Ph1 (pa (Ar1 j))) (shlI 1 (Mv1 (Ar1 j))))) Mv2 Ar2 At2 An2 Mw2 n2 := by
  obtain ⟨h1, h2, h3, _⟩ := h
  obtain ⟨e1, e2, e3⟩ := hE
  have hne : ∀ k, Se1 k → k ≠ Ar1 j := fun k hk q => hn ((a4 j hj.1 hj.2).mp (by rw [← q]; exact hk))
  have b1 := h2.2.1 j hj.1 hj.2
  have b2 := a2.2.2.2.1 j hj.1 hj.2
  refine ⟨by omega, e2, KeA.trans h3 (Se1 := Se) ⟨fun i i0 i1 => e1.2 i i0 (by omega), fun k hk => ⟨upI_ne _ _ (hne k (a1 k hk)), upI_ne _ _ (hne k (a1 k hk))⟩⟩ (Int.le_refl _) (fun _ q => q), ?_⟩
  rcases e3 with ⟨q1, q2⟩ | q
  · exact Or.inl ⟨q1, (MidA.ok hS h2 e2 hj a1 a2 a3 a4 ht hn hD e1 q2).iff hd⟩
  · refine Or.inr (CfA.bad hS a2.1.2 (fun k hk => ?_) q)
    rcases hk with w | w
    · rw [w]; exact WkP.go hS b1.1 (a3 _ b2.1) b1.2 b2.2.symm ht
    · exact (a3 k w).same (upI_ne _ _ (hne k w)) (upI_ne _ _ (hne k w))
/-- a node that waits stays -/
theorem SeL.stay {D2 : Int → Prop} (h : SeL So ns pa vb cd nd wt T St Ph Mv Ar n x Se D r St1 Ph1 Mv1 Ar1 At1 An1 Mw1 n1) (hd : ∀ i, 0 ≤ i → i < n1 → (D i ↔ D2 i)) : SeL So ns pa vb cd nd wt T St Ph Mv Ar n x Se D2 r St1 Ph1 Mv1 Ar1 At1 An1 Mw1 n1 := by
  refine ⟨h.1, h.2.1, h.2.2.1, ?_⟩
  rcases h.2.2.2 with q | q
  · exact Or.inl ⟨q.1, q.2.iff hd⟩
  · exact Or.inr q
theorem SeL.mid (h : SeL So ns pa vb cd nd wt T St Ph Mv Ar n x Se D r St1 Ph1 Mv1 Ar1 At1 An1 Mw1 n1) (hr : r = -1) : MidA So ns pa vb cd nd T St1 Ph1 Mv1 Ar1 n1 x Se D := by
  rcases h.2.2.2 with q | q
  · exact q.2
  · exact absurd hr q.1
/-- the move's nodes are through: the pile's next -/
theorem SeL.half (hF : ArF So ns pa vb cd nd al wt T St Ph Mv Ar At An Mw n cm Se) {m t a : Int} (hT : T m = -1) (hm : 0 ≤ m ∧ m < 12) (ht : 0 ≤ t) (h : SeL So ns pa vb cd nd wt (upI T m t) St Ph Mv Ar n x Se (SeD1 Mv Ar n Se m a) r St1 Ph1 Mv1 Ar1 At1 An1 Mw1 n1) (ha : An m ≤ a ∨ r ≠ -1) : SeL So ns pa vb cd nd wt (upI T m t) St Ph Mv Ar n x Se (SeD2 (upI T m t) Mv1 Ar1 n) r St1 Ph1 Mv1 Ar1 At1 An1 Mw1 n1 := by
  obtain ⟨g1, g2, g3, g4, g5⟩ := hF
  have hk := h.2.2.1.1
  refine ⟨h.1, h.2.1, h.2.2.1, ?_⟩
  rcases h.2.2.2 with q | q
  · refine Or.inl ⟨q.1, q.2.iff (fun i i0 i1 => ?_)⟩
    unfold SeD1 SeD2
    constructor
    · rintro ⟨w, z⟩
      have e := hk i i0 w
      rw [e.1, e.2]
      refine ⟨w, ?_⟩
      rcases z with z | z
      · rcases g2.2.2.1 _ z with y | y
        · have := (g1.2.1 i i0 w).1; omega
        · by_cases u : Mv (Ar i) = m
          · rw [u, upI_same]; exact ht
          · rw [upI_ne _ _ u]; exact y.2.1
      · rw [z.1, upI_same]; exact ht
    · rintro ⟨w, z⟩
      have e := hk i i0 w
      rw [e.1, e.2] at z
      refine ⟨w, ?_⟩
      by_cases u : Mv (Ar i) = m
      · right
        have c := cA_lt (g := fun j => Mv (Ar j)) (m := m) (i := i.toNat) (n := n.toNat) (by omega) (by (try dsimp only); rw [(show ((i.toNat : Nat) : Int) = i by omega)]; exact u)
        rw [← (g1.2.2.2.1 m hm.1 hm.2).1] at c
        refine ⟨u, ?_⟩
        rcases ha with y | y
        · omega
        · exact absurd q.1 y
      · rw [upI_ne _ _ u] at z
        exact Or.inl (g5 i i0 w z)
  · exact Or.inr q
theorem SeL.done (hF : ArF So ns pa vb cd nd al wt T St Ph Mv Ar At An Mw n cm Se) {m t a : Int} (hal : t < al) (hx : (cm < t + 1 → x = t + 1) ∧ (t + 1 ≤ cm → x = cm)) (h : SeL So ns pa vb cd nd wt (upI T m t) St Ph Mv Ar n x Se (SeD2 (upI T m t) Mv1 Ar1 a) r St1 Ph1 Mv1 Ar1 At1 An1 Mw1 n1) (ha : n1 ≤ a ∨ r ≠ -1) : SeR So ns pa vb cd nd al wt T St Ph Mv Ar n cm Se m t r St1 Ph1 Mv1 Ar1 At1 An1 Mw1 n1 := by
  have hc := hF.2.2.2.1
  refine ⟨h.1, h.2.1, h.2.2.1, ?_⟩
  rcases h.2.2.2 with ⟨q1, Se1, a1, a2, a3, a4⟩ | q
  · refine Or.inl ⟨q1, fun y hy => ?_⟩
    have e : y = x := by omega
    subst e
    refine ⟨Se1, a1, h.2.1, a2, a3, by omega, fun i i0 i1 hi => (a4 i i0 i1).mpr ⟨?_, hi⟩⟩
    rcases ha with w | w
    · omega
    · exact absurd q1 w
  · exact Or.inr q
end EN
section SE2
variable {So : SoT} {ns : NsT} {pa vb cd cn wt T St Ph Mv Ar At An Mw St1 Ph1 Mv1 Ar1 At1 An1 Mw1 Mv2 Ar2 At2 An2 Mw2 : Int → Int} {nd al n n1 n2 cm x v r m a : Int} {Se Se1 : Int → Prop} {D : Int → Prop}
/-- the move's node of place a -/
theorem SeL.nod (hF : ArF So ns pa vb cd nd al wt T St Ph Mv Ar At An Mw n cm Se) {T1 : Int → Int} (h : SeL So ns pa vb cd nd wt T1 St Ph Mv Ar n x Se D r St1 Ph1 Mv1 Ar1 At1 An1 Mw1 n1) (hm : 0 ≤ m ∧ m < 12) (ha : 0 ≤ a ∧ a < An m) : ∃ j, (0 ≤ j ∧ j < n) ∧ Mv (Ar j) = m ∧ cA (fun i => Mv (Ar i)) m j.toNat = a ∧ Ar1 j = Ar j ∧ Mv1 (Ar1 j) = m ∧ At1 (m * 97 + a) = Ar1 j := by
  obtain ⟨j, j1, j2, j3, j4⟩ := hF.1.at_ hm.1 hm.2 ha
  have k := h.2.2.1.1
  have kj := k j j1.1 j1.2
  have hn := h.1
  have e5 : Mv1 (Ar1 j) = m := by rw [kj.1, kj.2]; exact j2
  have e6 := h.2.1.2.2.2.2 j j1.1 (by omega)
  have ec : cA (fun i => Mv1 (Ar1 i)) m j.toNat = cA (fun i => Mv (Ar i)) m j.toNat := cA_same _ (fun i i0 i1 => by
    have q := k i i0 (by omega)
    (try dsimp only)
    rw [q.1, q.2])
  rw [e5, ec, j3] at e6
  exact ⟨j, j1, j2, j3, kj.1, e5, e6⟩
theorem SeD1.nD (hF : ArF So ns pa vb cd nd al wt T St Ph Mv Ar At An Mw n cm Se) (hT : T m = -1) {j : Int} (hj : 0 ≤ j ∧ j < n) (j2 : Mv (Ar j) = m) (j3 : cA (fun i => Mv (Ar i)) m j.toNat = a) : ¬ SeD1 Mv Ar n Se m a j := by
  rintro ⟨_, q | q⟩
  · rcases hF.2.1.2.2.1 _ q with w | w
    · have := (hF.1.2.1 j hj.1 hj.2).1; omega
    · have := w.2.1; rw [j2, hT] at this; omega
  · have := q.2; omega
theorem SeD1.next {j : Int} (hj : 0 ≤ j ∧ j < n) (hn : n ≤ n2) (j2 : Mv (Ar j) = m) (j3 : cA (fun i => Mv (Ar i)) m j.toNat = a) : ∀ i, 0 ≤ i → i < n2 → ((i = j ∨ SeD1 Mv Ar n Se m a i) ↔ SeD1 Mv Ar n Se m (a + 1) i) := by
  intro i i0 i1
  unfold SeD1
  constructor
  · rintro (q | ⟨q1, q2 | q2⟩)
    · subst q; exact ⟨hj.2, Or.inr ⟨j2, by omega⟩⟩
    · exact ⟨q1, Or.inl q2⟩
    · exact ⟨q1, Or.inr ⟨q2.1, by omega⟩⟩
  · rintro ⟨q1, q2 | q2⟩
    · exact Or.inr ⟨q1, Or.inl q2⟩
    · by_cases w : cA (fun j => Mv (Ar j)) m i.toNat < a
      · exact Or.inr ⟨q1, Or.inr ⟨q2.1, w⟩⟩
      · left
        have q3 := q2.2
        rcases Int.lt_trichotomy i j with z | z | z
        · have c := cA_lt (g := fun j => Mv (Ar j)) (m := m) (i := i.toNat) (n := j.toNat) (by omega) (by (try dsimp only); rw [(show ((i.toNat : Nat) : Int) = i by omega)]; exact q2.1)
          omega
        · exact z
        · have c := cA_lt (g := fun j => Mv (Ar j)) (m := m) (i := j.toNat) (n := i.toNat) (by omega) (by (try dsimp only); rw [(show ((j.toNat : Nat) : Int) = j by omega)]; exact j2)
          omega
theorem SeD1.lt (hn : n ≤ n1) : ∀ i, SeD1 Mv Ar n Se m a i → i < n1 := fun i q => by have := q.1; omega
theorem SeD2.lt (hn : a ≤ n1) : ∀ i, SeD2 T Mv1 Ar1 a i → i < n1 := fun i q => by have := q.1; omega
theorem SeD2.next (ha : a < n1) (ht : 0 ≤ T (Mv1 (Ar1 a))) (hp : ∀ i, 0 ≤ i → i < n1 → Ar2 i = Ar1 i ∧ Mv2 (Ar1 i) = Mv1 (Ar1 i)) : ∀ i, 0 ≤ i → i < n2 → ((i = a ∨ SeD2 T Mv1 Ar1 a i) ↔ SeD2 T Mv2 Ar2 (a + 1) i) := by
  intro i i0 i1
  unfold SeD2
  by_cases w : i < n1
  · have q := hp i i0 w
    rw [q.1, q.2]
    constructor
    · rintro (z | z)
      · subst z; exact ⟨by omega, ht⟩
      · exact ⟨by omega, z.2⟩
    · rintro ⟨z1, z2⟩
      by_cases y : i = a
      · exact Or.inl y
      · exact Or.inr ⟨by omega, z2⟩
  · constructor
    · rintro (z | z)
      · omega
      · omega
    · rintro ⟨z1, z2⟩
      omega
theorem SeD2.stay (ht : T (Mv1 (Ar1 a)) = -1) : ∀ i, 0 ≤ i → i < n1 → (SeD2 T Mv1 Ar1 a i ↔ SeD2 T Mv1 Ar1 (a + 1) i) := by
  intro i i0 i1
  unfold SeD2
  constructor
  · rintro ⟨z1, z2⟩; exact ⟨by omega, z2⟩
  · rintro ⟨z1, z2⟩
    refine ⟨?_, z2⟩
    by_cases y : i = a
    · rw [y, ht] at z2; omega
    · omega
/-- what entering asks for -/
theorem SeL.pre (hv : ∀ k, 0 ≤ vb k ∧ vb k < 3) {j y t : Int} (hj : 0 ≤ j ∧ j < n1) (hy : y = Ar1 j) (et : T (Mv1 (Ar1 j)) = t) (a2 : ArL pa vb cd nd T St1 Mv1 Ar1 n1 x Se1 nPd) (a4 : ∀ i, 0 ≤ i → i < n1 → (Se1 (Ar1 i) ↔ D i)) (ht : 0 ≤ t) (hn : ¬ D j) : ArL pa vb cd nd T (upI St1 y t) Mv1 Ar1 n1 x (aSe Se1 y) (cPd pa vb y 0) ∧ ∀ k, 1 ≤ k → k < nd → pa k = y → 0 ≤ vb k → ¬ ArA Ar1 n1 k := by
  subst hy
  subst et
  exact ArL.ent a2 hv ⟨j, hj, rfl⟩ ht (fun q => hn ((a4 j hj.1 hj.2).mp q))
theorem SeL.ent2 (hS : TrS pa vb cd nd al So ns) {j y t mm : Int} (h : SeL So ns pa vb cd nd wt T St Ph Mv Ar n x Se D r St1 Ph1 Mv1 Ar1 At1 An1 Mw1 n1) (hj : 0 ≤ j ∧ j < n1) (hy : y = Ar1 j) (et : T (Mv1 (Ar1 j)) = t) (em : Mv1 (Ar1 j) = mm) (a1 : ∀ k, Se k → Se1 k) (a2 : ArL pa vb cd nd T St1 Mv1 Ar1 n1 x Se1 nPd) (a3 : ∀ k, Se1 k → WkP So ns T St1 Ph1 k) (a4 : ∀ i, 0 ≤ i → i < n1 → (Se1 (Ar1 i) ↔ D i)) (ht : 0 ≤ t) (hn : ¬ D j) (hD : ∀ i, D i → i < n1) {r2 : Int} {D2 : Int → Prop}
    (hE : EnR pa vb cd nd wt T (upI St1 y t) (upI Ph1 y (orI (Ph1 (pa y)) (shlI 1 mm))) Mv1 Ar1 n1 x (aSe Se1 y) r2 Mv2 Ar2 At2 An2 Mw2 n2) (hd : ∀ i, 0 ≤ i → i < n2 → ((i = j ∨ D i) ↔ D2 i)) : SeL So ns pa vb cd nd wt T St Ph Mv Ar n x Se D2 r2 (upI St1 y t) (upI Ph1 y (orI (Ph1 (pa y)) (shlI 1 mm))) Mv2 Ar2 At2 An2 Mw2 n2 := by
  subst hy
  subst em
  subst et
  exact SeL.ent hS h hj a1 a2 a3 a4 ht hn hD hE hd
theorem SeR.ok {t : Int} (h : SeR So ns pa vb cd nd al wt T St Ph Mv Ar n cm Se m t r St1 Ph1 Mv1 Ar1 At1 An1 Mw1 n1) (hr : r = -1) : ∀ x, (cm < t + 1 → x = t + 1) ∧ (t + 1 ≤ cm → x = cm) → ∃ Se1 : Int → Prop, (∀ k, Se k → Se1 k) ∧ ArF So ns pa vb cd nd al wt (upI T m t) St1 Ph1 Mv1 Ar1 At1 An1 Mw1 n1 x Se1 := by
  rcases h.2.2.2 with q | q
  · exact q.2
  · exact absurd hr q.1
theorem SeR.bad {t : Int} (h : SeR So ns pa vb cd nd al wt T St Ph Mv Ar n cm Se m t r St1 Ph1 Mv1 Ar1 At1 An1 Mw1 n1) (hr : r ≠ -1) : BadM So (upI T m t) r := by
  rcases h.2.2.2 with q | q
  · exact absurd q.1 hr
  · exact q
/-- the root entered -/
theorem ArS.zero (nd : Int) (wt Mv Ar At : Int → Int) (h : ∀ j, 0 ≤ j → j < 12 → An j = 0 ∧ Mw j = 0) : ArS nd wt Mv Ar At An Mw 0 :=
  ⟨Int.le_refl _, fun i i0 i1 => by omega, fun i j i0 i1 i2 => by omega, fun j j0 j1 => h j j0 j1, fun i i0 i1 => by omega⟩
theorem EnR.root (hC : TrC pa vb cn nd) (h : EnR pa vb cd nd wt T St Ph Mv Ar n cm (fun k => k = 0) r Mv1 Ar1 At1 An1 Mw1 n1) : ArS nd wt Mv1 Ar1 At1 An1 Mw1 n1 ∧ ArL pa vb cd nd T St Mv1 Ar1 n1 cm (fun k => k = 0) nPd := by
  refine ⟨h.2.1, ?_⟩
  rcases h.2.2 with q | ⟨f, c, hf, hc, s1, s2, e, ne, _⟩
  · exact q.2
  · exfalso
    have a := hC.2 f hf.1 hf.2
    have b := hC.2 c hc.1 hc.2
    have s1' : pa f = 0 := s1
    have s2' : pa c = 0 := s2
    rw [s1', s2'] at e
    have e2 : vb f = vb c := by omega
    rw [s1', e2] at a
    rw [s2'] at b
    have fc : f = c := a.symm.trans b
    exact ne (by rw [fc])
theorem ArF.base (hS : TrS pa vb cd nd al So ns) (hs : ArS nd wt Mv Ar At An Mw n) (hL : ArL pa vb cd nd (fun _ => -1) St Mv Ar n 1 (fun k => k = 0) nPd) (hp : Ph 0 = 0) : ArF So ns pa vb cd nd al wt (fun _ => -1) St Ph Mv Ar At An Mw n 1 (fun k => k = 0) := by
  refine ⟨hs, hL, fun k hk => ?_, hS.1.1.1, fun i i0 i1 q => ?_⟩
  · have e : k = 0 := hk
    subst e
    unfold WkP
    rw [hp]
    exact ⟨fun i hi => absurd hi (bI_0 i), fun τ hτ _ => by rw [hS.2.2.1 τ hτ, hL.2.1.2]⟩
  · have : (0 : Int) ≤ -1 := q
    omega
end SE2
