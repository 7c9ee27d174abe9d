section G6
variable {E : qE} {own : String} {cc : ByteArray} {nL : Nat} {Ts : List Cond} {R : Room} {ini : Bool} {Rt : Option Value → va_W → Prop} {mc ms : Nat} {P : qP} {k n : Nat} {w : va_W} {pc : Nat} {lv : List (Nat × Value)} {st : List Value}
theorem vp_nar_1 : vp_nar .boolean (iI 1) = iI 1 := by decide +kernel
theorem g_zast1 (G : Gd E own cc nL Ts R ini Rt mc ms P) (q0 : Nat) {a N : Nat} {V : Int → Int} {i : Int} (w' : va_W) (d : decode cc pc = .ok (.bastore, 1)) (ha : w[q0]? = some (a, za E N V)) (h0 : 0 ≤ i) (h1 : i < N) (hN : (N : Int) < 2147483648) (hw : w.set q0 (a, za E N (upI V i 1)) = w') (kk : P k n w' (pc + 1) lv st) : P k n w pc lv (.int (iI 1) :: .int (iI i) :: .ref a :: st) := by
  obtain ⟨p, e, s, m, args, below, meth, c, A, Q, ⟨hx, hb, hml, hown, hts, hE, hA⟩, hini, hP, hR⟩ := G
  subst hw
  refine (hP _ _ _ _ _ _).mpr (fun H locs ls g1 g2 g3 g4 => va_zast hx hb hE.1 g1 g2 g3 q0 1 ha rfl (iI_in h0 h1 hN) d ?_)
  rw [vp_nar_1, upI_upd V 1 h0 (by omega)]
  exact fun H locs g1 g2 g3 => (hP _ _ _ _ _ _).mp kk H locs ls g1 g2 g3 g4
end G6
