/-! the law's surroundings -/
theorem law_Q {s : State} {args : Array Value} {C : String} (h : (Cond.arrayOver (.object C)).before args s = true) : ∃ cA : ClassId, ArrOfT s cA (.object C) ∧ va_RA s cA (.object C) := by
  obtain ⟨comp, cA, kA, hcomp, hidx, hk, hkind, hname⟩ := Cond.arrayOver_spec h
  exact ⟨cA, fun n z => ⟨fun k h => (by cases h), kA, hk, comp, hkind⟩, kA, comp, hk, hkind, hcomp, hname⟩
theorem law_E {s : State} {args : Array Value} (l : Launch) (hts : ∀ w ∈ wsL_law, w.before args s = true) (h1 : (Cond.arrayClass .int).before args s = true) (h2 : (Cond.arrayClass .boolean).before args s = true) (h3 : (Cond.arrayOver (.object RX0)).before args s = true) (hn : ∀ w ∈ NW, va_Nw w s) : ∃ E : qE, E.1 = l ∧ Ev E s := by
  obtain ⟨D, hD⟩ := law_D hts
  obtain ⟨c1, a1, b1⟩ := law_A h1
  obtain ⟨c2, a2, b2⟩ := law_A h2
  obtain ⟨c3, a3, b3⟩ := law_Q h3
  refine ⟨(l, D, c1, c2, c3), rfl, ⟨hD, fun k q hq => ?_⟩, hn, va_AO.of h3⟩
  match k, hq with
  | 0, hq => cases hq; exact ⟨a1, b1⟩
  | 1, hq => cases hq; exact ⟨a2, b2⟩
  | 2, hq => cases hq; exact ⟨a3, b3⟩
  | n + 3, hq => cases hq
