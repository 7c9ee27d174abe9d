/-! MINI KIT 8: a call over a world whose tail is untouched -/
section LT
variable {α : Type}
theorem mapq_in {w : List α} {ps : List Nat} {wc : List α} (h : ps.map (fun i => w[i]?) = wc.map some) {i : Nat} (hi : i ∈ ps) : i < w.length := by
  obtain ⟨j, hj⟩ := List.getElem?_of_mem hi
  have h1 : (ps.map (fun i => w[i]?))[j]? = some (w[i]?) := by rw [List.getElem?_map, hj]; rfl
  rw [h, List.getElem?_map] at h1
  cases hw : wc[j]? with
  | none => rw [hw] at h1; cases h1
  | some q =>
    rw [hw] at h1
    have h2 : w[i]? = some q := (Option.some.inj h1).symm
    exact (List.getElem?_eq_some_iff.mp h2).1
theorem mapq_app {w wt : List α} {ps : List Nat} {wc : List α} (h : ps.map (fun i => w[i]?) = wc.map some) : ps.map (fun i => (w ++ wt)[i]?) = wc.map some := by
  rw [← h]
  refine List.map_congr_left (fun i hi => ?_)
  exact List.getElem?_append_left (mapq_in h hi)
theorem mapq_tail (w wt : List α) : ∀ (k : Nat) (w2 : List α), wt.drop k = w2 → (List.range' (w.length + k) w2.length).map (fun i => (w ++ wt)[i]?) = w2.map some
  | _, [], _ => rfl
  | k, a :: w2, h => by
    have h1 : wt[k]? = some a := by
      have := congrArg (fun l => l[0]?) h
      rw [List.getElem?_drop] at this
      simpa using this
    have h2 : wt.drop (k + 1) = w2 := by
      have := congrArg List.tail h
      rw [List.tail_drop] at this
      exact this
    have ih := mapq_tail w wt (k + 1) w2 h2
    show (w ++ wt)[w.length + k]? :: (List.range' (w.length + k + 1) w2.length).map (fun i => (w ++ wt)[i]?) = some a :: w2.map some
    rw [Nat.add_assoc, ih, List.getElem?_append_right (by omega), (show w.length + k - w.length = k by omega), h1]
end LT
theorem cov_app {ps rs : List Nat} {N m : Nat} (h : cov ps rs N = true) : cov ps (rs ++ List.range' N m) (N + m) = true := by
  unfold cov at h ⊢
  refine List.all_eq_true.mpr (fun i hi => ?_)
  have hlt := List.mem_range.mp hi
  by_cases q : i < N
  · have := List.all_eq_true.mp h i (List.mem_range.mpr q)
    simp only [Bool.or_eq_true, decide_eq_true_eq, List.mem_append] at this ⊢
    rcases this with z | z
    · exact Or.inl z
    · exact Or.inr (Or.inl z)
  · simp only [Bool.or_eq_true, decide_eq_true_eq, List.mem_append]
    exact Or.inr (Or.inr (List.mem_range'_1.mpr ⟨by omega, by omega⟩))
theorem Wn.app {ps rs : List Nat} {N : Nat} {wr wc w1 w' : va_W} (h : Wn ps rs N wr wc w1 w') (wt : va_W) : Wn ps (rs ++ List.range' N wt.length) (N + wt.length) (wr ++ wt) wc w1 (w' ++ wt) := by
  obtain ⟨h1, h2, h3, h4⟩ := h
  refine ⟨h1, mapq_app h2, ?_, by rw [List.length_append, h4]⟩
  rw [List.map_append, List.map_append, mapq_app h3]
  have t := mapq_tail w' wt 0 wt rfl
  rw [h4, Nat.add_zero] at t
  rw [t]
section K8
variable {E : qE} {own : String} {cc : ByteArray} {nL : Nat} {Ts : List Cond} {R : Room} {ini : Bool} {Rt : Option Value → va_W → Prop} {mc ms : Nat} {P : qP} {k n : Nat} {w0 : va_W} {pc : Nat} {lv : List (Nat × Value)} {st : List Value}
variable {y : MethodName} {ws ws' : List Cond} {rm : Room} {index maxL b : Nat} {C : String} {bytes : ByteArray} {ret : Option FieldType} {wc : va_W} {RtC : Option Value → va_W → Prop} {mc' ms' : Nat}
theorem g_callVT (G : Gd E own cc nL Ts R ini Rt mc ms P) (wt : va_W) (ps rs : List Nat) (N : Nat) (wr : va_W) (As rest : List Value) (hC : Cn E y ws rm (.ref b :: As) wc RtC mc' ms') (d : decode cc pc = .ok (.invokevirtual index, 3)) (hg : GoodIn Ts (wsV own index C y ws)) (hcw : Cw Ts R k n y ws ws' rm bytes maxL ret As.length mc' ms' rest) (hy : y.cls = C)
    {ci : Nat} {fs : List Value} {qc : vw_C} (he : wc[0]? = some (b, .inr (ci, fs))) (hc : vwCl[ci]? = some qc) (hq : qc.1 = C) (hps : ps.map (fun i => w0[i]?) = wc.map some) (hnd : va_nd ps = true) (hRR : rs.map (fun i => w0[i]?) = wr.map some) (hcov : cov ps rs N = true) (hN : w0.length = N) (hst : st = As.reverse ++ .ref b :: rest)
    (kk : ∀ (v : Option Value) (w1 : va_W), RtC v w1 → ∃ w', Wn ps rs N wr wc w1 w' ∧ P (k + mc') (n + ms') (w' ++ wt) (pc + 3) lv (v.toList ++ rest)) : P k n (w0 ++ wt) pc lv st := by
  refine g_callV G ps (rs ++ List.range' N wt.length) (N + wt.length) (wr ++ wt) As rest hC d hg hcw hy he hc hq (mapq_app hps) hnd ?_ (cov_app hcov) hst (fun v w1 h => ?_)
  · rw [List.map_append, List.map_append, mapq_app hRR]
    have t := mapq_tail w0 wt 0 wt rfl
    rw [hN, Nat.add_zero] at t
    rw [t]
  · obtain ⟨w', a, b⟩ := kk v w1 h
    exact ⟨w' ++ wt, a.app wt, b⟩
end K8
