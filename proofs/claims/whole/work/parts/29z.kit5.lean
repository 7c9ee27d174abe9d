theorem ia_ext {E : qE} {N : Nat} {V W : Int → Int} (h : ∀ j : Int, 0 ≤ j → j < N → V j = W j) : vp_cell E.2.2.1 (N, .inl (fun k : Nat => iI (V (k : Int)))) = vp_cell E.2.2.1 (N, .inl (fun k : Nat => iI (W (k : Int)))) := by
  show arrV E.2.2.1 N (fun j => .int (iI (V (j : Int)))) = arrV E.2.2.1 N (fun j => .int (iI (W (j : Int))))
  unfold arrV
  congr 1
  apply Array.ext
  · simp
  · intro i h1 h2
    simp only [Array.getElem_ofFn]
    rw [h (i : Int) (by omega) (by simp at h1; omega)]
section G7
variable {E : qE} {own : String} {cc : ByteArray} {nL : Nat} {Ts : List Cond} {R : Room} {ini : Bool} {Rt : Option Value → va_W → Prop} {mc ms : Nat} {P : qP} {k n : Nat} {w : va_W} {pc : Nat} {lv : List (Nat × Value)} {st : List Value}
/-- what an array's words say beyond its places is free -/
theorem g_norm (G : Gd E own cc nL Ts R ini Rt mc ms P) (q0 : Nat) {a N : Nat} {V : Int → Int} (V' : Int → Int) (w' : va_W) (ha : w[q0]? = some (a, ia E N V)) (h : ∀ j : Int, 0 ≤ j → j < N → V j = V' j) (hw : w.set q0 (a, ia E N V') = w') (kk : P k n w' pc lv st) : P k n w pc lv st := by
  obtain ⟨p, e, s, m, args, below, meth, c, A, Q, ⟨hx, hb, hml, hown, hts, hE, hA⟩, hini, hP, hR⟩ := G
  subst hw
  refine (hP _ _ _ _ _ _).mpr (fun H locs ls g1 g2 g3 g4 => (hP _ _ _ _ _ _).mp kk H locs ls ?_ (g2.set ha) g3 g4)
  have hl := (List.getElem?_eq_some_iff.mp ha).1
  intro i q hq
  by_cases hi : i = q0
  · subst hi
    rw [List.getElem?_set_self hl] at hq
    cases hq
    have h5 : H[a]? = some (vp_cell E.2.2.1 (N, .inl (fun k : Nat => iI (V (k : Int))))) := g1 i _ ha
    show H[a]? = some (vp_cell E.2.2.1 (N, .inl (fun k : Nat => iI (V' (k : Int)))))
    rw [← ia_ext h]
    exact h5
  · rw [List.getElem?_set_ne (Ne.symm hi)] at hq
    exact g1 i q hq
end G7
