/-! MINI KIT 9: the law's walk: the script is read, never written -/
def GdL (E : qE) (own : String) (cc : ByteArray) (nL : Nat) (Ts : List Cond) (R : Room) (Rt : Option Value → va_W → Prop) (mc ms : Nat) (b L : Nat) (xs : Nat → Int32) (P : qP) : Prop :=
  ∃ (p : Program) (e : Env) (s : State) (m : MethodId) (args : Array Value) (below : List Frame) (meth : Method) (c : Code) (A : Nat → Prop) (Q : State → Prop),
    (Gx E own cc nL Ts p s m args c A ∧ (false = true → meth.name = "<init>") ∧
    (∀ k n w pc lv st, P k n w pc lv st ↔ ∀ (H : Heap) (locs : List Loc) (ls : Array Slot), va_P E.2.1 vwCl w H → va_D A w → va_S A s.heap H locs → lv_has ls nL lv → W p E.1 e R s m args below meth c H locs k n Q (F0 m pc ls st)) ∧
    ∀ (v : Option Value) (w : va_W) (H : Heap) (locs : List Loc) (ls : Array Slot) (pc : Nat), Rt v w → va_P E.2.1 vwCl w H → va_D A w → va_S A s.heap H locs → decode cc pc = .ok (retOf v, 1) → W p E.1 e R s m args below meth c H locs mc ms Q (F0 m pc ls v.toList)) ∧
    va_X b L xs s s.heap ∧ b < s.heap.size ∧ ¬ A b
section KL
variable {E : qE} {own : String} {cc : ByteArray} {nL : Nat} {Ts : List Cond} {R : Room} {Rt : Option Value → va_W → Prop} {mc ms : Nat} {P : qP} {k n : Nat} {w : va_W} {pc : Nat} {lv : List (Nat × Value)} {st : List Value} {b L : Nat} {xs : Nat → Int32}
theorem GdL.gd (G : GdL E own cc nL Ts R Rt mc ms b L xs P) : Gd E own cc nL Ts R false Rt mc ms P := by
  obtain ⟨p, e, s, m, args, below, meth, c, A, Q, h, _⟩ := G
  exact ⟨p, e, s, m, args, below, meth, c, A, Q, h⟩
/-- the script's int at i -/
theorem g_sld (G : GdL E own cc nL Ts R Rt mc ms b L xs P) {i : Int} (d : decode cc pc = .ok (.iaload, 1)) (h0 : 0 ≤ i) (h1 : i < L) (hL : (L : Int) < 2147483648) (kk : P k n w (pc + 1) lv (.int (iI (xs i.toNat).toInt) :: st)) : P k n w pc lv (.int (iI i) :: .ref b :: st) := by
  obtain ⟨p, e, s, m, args, below, meth, c, A, Q, ⟨⟨hx, hb, hml, hown, hts, hE, hA⟩, hini, hP, hR⟩, hX, hbl, hbA⟩ := G
  refine (hP _ _ _ _ _ _).mpr (fun H locs ls g1 g2 g3 g4 => va_sld hx hb hX hbl hbA g3 (iI_in h0 h1 hL) d ?_)
  have e1 : (iI i).toNatClampNeg = i.toNat := iI_clamp h0 (by omega)
  have := (hP _ _ _ _ _ _).mp kk H locs ls g1 g2 g3 g4
  rw [e1]
  rw [iI_bk] at this
  exact this
theorem g_slen (G : GdL E own cc nL Ts R Rt mc ms b L xs P) (d : decode cc pc = .ok (.arraylength, 1)) (kk : P k n w (pc + 1) lv (.int (iI (L : Int)) :: st)) : P k n w pc lv (.ref b :: st) := by
  obtain ⟨p, e, s, m, args, below, meth, c, A, Q, ⟨⟨hx, hb, hml, hown, hts, hE, hA⟩, hini, hP, hR⟩, hX, hbl, hbA⟩ := G
  refine (hP _ _ _ _ _ _).mpr (fun H locs ls g1 g2 g3 g4 => va_slen hx hb hX hbl hbA g3 d ?_)
  exact (hP _ _ _ _ _ _).mp kk H locs ls g1 g2 g3 g4
end KL
theorem xs_rg (x : Int32) : -2147483648 ≤ x.toInt ∧ x.toInt < 2147483648 := toInt_rg x
