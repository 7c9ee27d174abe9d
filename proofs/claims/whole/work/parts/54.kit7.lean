/-! MINI KIT 7: the switch by keys, arrays of references -/
def upO (f : Int → Option Nat) (i : Int) (v : Option Nat) : Int → Option Nat := fun j => if j = i then v else f j
theorem upO_same (f : Int → Option Nat) (i : Int) (v : Option Nat) : upO f i v i = v := if_pos rfl
theorem upO_ne (f : Int → Option Nat) {i j : Int} (v : Option Nat) (h : j ≠ i) : upO f i v j = f j := if_neg h
section K7
variable {E : qE} {own : String} {cc : ByteArray} {nL : Nat} {Ts : List Cond} {R : Room} {ini : Bool} {Rt : Option Value → va_W → Prop} {mc ms : Nat} {P : qP} {k n : Nat} {w : va_W} {pc : Nat} {lv : List (Nat × Value)} {st : List Value}
theorem g_ls (G : Gd E own cc nL Ts R ini Rt mc ms P) {a dflt : Int} {ps : Array (Int × Int)} {len : Nat} (off : Int) (tgt : Nat) (d : decode cc pc = .ok (.lookupswitch dflt ps, len)) (hp : (ps.toList.zip (ps.toList.drop 1)).all (fun (a, next) => a.1 < next.1) = true) (hr : -2147483648 ≤ a ∧ a < 2147483648) (ho : Op.lookupswitch.offset ps.toList dflt a = off) (ht : (pc : Int) + off = (tgt : Int)) (kk : P k n w tgt lv st) : P k n w pc lv (.int (iI a) :: st) :=
  G.one (fun _ _ _ _ _ _ _ _ _ _ _ _ hx hb _ _ h => lv_lookup hx hb d hp (by rw [iI_toInt hr]; exact ho) ht h) kk
theorem g_aaldN (G : Gd E own cc nL Ts R ini Rt mc ms P) (q0 : Nat) {a N : Nat} {f : Int → Option Nat} {i : Int} (d : decode cc pc = .ok (.aaload, 1)) (ha : w[q0]? = some (a, qa E N f)) (h0 : 0 ≤ i) (h1 : i < N) (hN : (N : Int) < 2147483648) (hf : f i = none) (kk : P k n w (pc + 1) lv (.null :: st)) : P k n w pc lv (.int (iI i) :: .ref a :: st) := by
  obtain ⟨p, e, s, m, args, below, meth, c, A, Q, ⟨hx, hb, hml, hown, hts, hE, hA⟩, hini, hP, hR⟩ := G
  refine (hP _ _ _ _ _ _).mpr (fun H locs ls g1 g2 g3 g4 => va_aldq hx hb hE.1 g1 q0 2 ha rfl (iI_in h0 h1 hN) d ?_)
  have e1 : (((iI i).toNatClampNeg : Nat) : Int) = i := by rw [iI_clamp h0 (by omega)]; omega
  have := (hP _ _ _ _ _ _).mp kk H locs ls g1 g2 g3 g4
  rw [e1, hf]
  exact this
theorem g_aaldS (G : Gd E own cc nL Ts R ini Rt mc ms P) (q0 : Nat) {a N : Nat} {f : Int → Option Nat} {i : Int} (v : Nat) (d : decode cc pc = .ok (.aaload, 1)) (ha : w[q0]? = some (a, qa E N f)) (h0 : 0 ≤ i) (h1 : i < N) (hN : (N : Int) < 2147483648) (hf : f i = some v) (kk : P k n w (pc + 1) lv (.ref v :: st)) : P k n w pc lv (.int (iI i) :: .ref a :: st) := by
  obtain ⟨p, e, s, m, args, below, meth, c, A, Q, ⟨hx, hb, hml, hown, hts, hE, hA⟩, hini, hP, hR⟩ := G
  refine (hP _ _ _ _ _ _).mpr (fun H locs ls g1 g2 g3 g4 => va_aldq hx hb hE.1 g1 q0 2 ha rfl (iI_in h0 h1 hN) d ?_)
  have e1 : (((iI i).toNatClampNeg : Nat) : Int) = i := by rw [iI_clamp h0 (by omega)]; omega
  have := (hP _ _ _ _ _ _).mp kk H locs ls g1 g2 g3 g4
  rw [e1, hf]
  exact this
theorem upO_up (f : Int → Option Nat) {i : Int} (v : Option Nat) (h0 : 0 ≤ i) (h1 : i < 2147483648) : va_up (fun k : Nat => f (k : Int)) (iI i).toNatClampNeg v = fun k : Nat => upO f i v (k : Int) := by
  funext k
  unfold va_up upO
  rw [iI_clamp h0 h1]
  by_cases q : (k : Int) = i
  · rw [if_pos q, if_pos (by omega)]
  · rw [if_neg q, if_neg (by omega)]
theorem g_aast (G : Gd E own cc nL Ts R ini Rt mc ms P) (q0 qk : Nat) {a N v : Nat} {f : Int → Option Nat} {i : Int} {vs : List Value} (w' : va_W) (d : decode cc pc = .ok (.aastore, 1)) (ha : w[q0]? = some (a, qa E N f)) (hv : w[qk]? = some (v, .inr (0, vs))) (h0 : 0 ≤ i) (h1 : i < N) (hN : (N : Int) < 2147483648) (hw : w.set q0 (a, qa E N (upO f i (some v))) = w') (kk : P k n w' (pc + 1) lv st) : P k n w pc lv (.ref v :: .int (iI i) :: .ref a :: st) := by
  obtain ⟨p, e, s, m, args, below, meth, c, A, Q, ⟨hx, hb, hml, hown, hts, hE, hA⟩, hini, hP, hR⟩ := G
  subst hw
  refine (hP _ _ _ _ _ _).mpr (fun H locs ls g1 g2 g3 g4 => va_astq hx hb hE.1 g1 g2 g3 q0 2 qk 0 (r := (RX0, TX0, 2)) ha rfl hv rfl (iI_in h0 h1 hN) d ?_)
  rw [upO_up f (some v) h0 (by omega)]
  exact fun H locs g1 g2 g3 => (hP _ _ _ _ _ _).mp kk H locs ls g1 g2 g3 g4
theorem g_nnS (G : Gd E own cc nL Ts R ini Rt mc ms P) {x : Nat} {off : Int} (tgt : Nat) (d : decode cc pc = .ok (.ifnonnull off, 3)) (ht : (pc : Int) + off = (tgt : Int)) (kk : P k n w tgt lv st) : P k n w pc lv (.ref x :: st) :=
  G.one (fun _ _ _ _ _ _ _ _ _ _ _ _ hx hb _ _ h => lv_ifnonnull hx hb d ht h) kk
theorem g_nnN (G : Gd E own cc nL Ts R ini Rt mc ms P) {off : Int} (d : decode cc pc = .ok (.ifnonnull off, 3)) (kk : P k n w (pc + 3) lv st) : P k n w pc lv (.null :: st) :=
  G.one (fun _ _ _ _ _ _ _ _ _ _ _ _ hx hb _ _ h => lv_ifnonnullN hx hb d h) kk
end K7
