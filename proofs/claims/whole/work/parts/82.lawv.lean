/-! the law's surroundings out of the tables' words -/
theorem nw_in : ∀ w ∈ NW, w ∈ lw_tbl := by decide +kernel
theorem arI_in : Cond.arrayClass .int ∈ lw_tbl := by decide +kernel
theorem arZ_in : Cond.arrayClass .boolean ∈ lw_tbl := by decide +kernel
theorem arQ_in : Cond.arrayOver (.object RX0) ∈ lw_tbl := by decide +kernel
theorem law_Ev {s : State} {args : Array Value} (l : Launch) (hts : ∀ w ∈ lw_tbl, w.before args s = true) (hin : ∀ w ∈ wsL_law, w ∈ lw_tbl) : ∃ E : qE, E.1 = l ∧ Ev E s := by
  refine law_E l (fun w hw => hts w (hin w hw)) (hts _ arI_in) (hts _ arZ_in) (hts _ arQ_in) (fun w hw => ?_)
  have h := hts w (nw_in w hw)
  rcases nw_kind w hw with ⟨a, i, b, n, d, z, rfl⟩ | ⟨a, i, x, z, rfl⟩
  · exact va_any rfl h
  · exact va_any rfl h
