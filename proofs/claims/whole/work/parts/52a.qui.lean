/-! QUIET: where all open moves weigh nothing, whatever they get, a machine is left -/
def thr : Nat → Int
  | 0 => 109
  | n + 1 => thr n * 2 / 3
theorem thr_pos : ∀ n : Nat, n < 11 → 1 ≤ thr n := by decide
def PsO (ps : Int → Int) (K : Int) : Prop := ∀ k, 0 ≤ k → k < K → (0 ≤ ps k ∧ ps k < 12) ∧ (ps k ≠ 0 → 0 < k ∧ ps (k - 1) = ps k - 1)
section QU
variable {ps tv tc pa vb cd cn wt no : Int → Int} {K nd al : Int}
theorem PsO.back (h : PsO ps K) {k : Int} (h0 : 0 ≤ k) (h1 : k < K) : ∀ t : Nat, (t : Int) ≤ ps k → 0 ≤ k - t ∧ ps (k - t) = ps k - t
  | 0, _ => by rw [(show k - ((0 : Nat) : Int) = k by omega)]; omega
  | t + 1, q => by
    have a := PsO.back h h0 h1 t (by omega)
    have b := (h (k - t) a.1 (by omega)).2 (by omega)
    rw [(show k - ((t + 1 : Nat) : Int) = k - t - 1 by omega)]
    omega
theorem wg_chain (h : TreeI ps tv tc K pa vb cd cn nd no) (hp : PsO ps K) (hv : ∀ k, 0 ≤ vb k ∧ vb k < 3) (hc : ∀ k, 0 ≤ cd k ∧ cd k < 4) (hnd : nd ≤ 97) (hw : WtO wt) (hg : WgF pa vb cd nd wt) {k k2 : Int} (h0 : 0 ≤ k) (h1 : k < K) (hk2 : 1 ≤ k2 ∧ k2 < nd) (e : vb k2 = vb (no k)) (ne : cd k2 ≠ cd (no k)) : ∀ t : Nat, (t : Int) + 1 ≤ ps k → thr t ≤ wt (no (k - (t + 1)))
  | 0, q => by
    obtain ⟨kc, g1, g2⟩ := hg
    have n1 : 1 ≤ nd := h.1.2.1
    have a := h.2.1 k h0 h1
    rw [if_neg (by omega)] at a
    have b := g2 (no k) a.1.1 a.1.2
    rw [a.2.1] at b
    have c := rar_ge g1 ⟨n1, hnd⟩ hv hc a.1 hk2 e ne
    have d := hw.1 (no k) (by omega) (by omega)
    rw [(show k - (((0 : Nat) : Int) + 1) = k - 1 by omega)]
    show (109 : Int) ≤ _
    omega
  | t + 1, q => by
    have ih := wg_chain h hp hv hc hnd hw hg h0 h1 hk2 e ne t (by omega)
    obtain ⟨kc, g1, g2⟩ := hg
    have n1 : 1 ≤ nd := h.1.2.1
    have bk := hp.back h0 h1 (t + 1) (by omega)
    rw [(show ((t + 1 : Nat) : Int) = (t : Int) + 1 by omega)] at bk
    have a := h.2.1 (k - (t + 1)) bk.1 (by omega)
    rw [if_neg (by omega)] at a
    have b := g2 _ a.1.1 a.1.2
    rw [a.2.1] at b
    have c := rar_bd g1 ⟨n1, hnd⟩ (hv (no (k - (t + 1)))) (hc (no (k - (t + 1))))
    rw [(show k - (((t + 1 : Nat) : Int) + 1) = k - (t + 1) - 1 by omega)]
    show thr t * 2 / 3 ≤ _
    omega
theorem TreeI.quiet (h : TreeI ps tv tc K pa vb cd cn nd no) (hp : PsO ps K) (hv : ∀ k, 0 ≤ vb k ∧ vb k < 3) (hc : ∀ k, 0 ≤ cd k ∧ cd k < 4) (htv : ∀ i, 0 ≤ tv i ∧ tv i < 3) (hnd : nd ≤ 97) (hal : 1 ≤ al) (hw : WtO wt) (hg : WgF pa vb cd nd wt) : TrQ pa vb cd nd al (SolP ps tv tc K.toNat al) wt := by
  intro T St A q1 q2 q3 q4 q5 q6
  have τb : ∀ m, 0 ≤ (if T m = -1 then 0 else T m) ∧ (if T m = -1 then 0 else T m) < al := fun m => by
    rcases q1 m with q | q
    · rw [if_pos q]; omega
    · rw [if_neg (by omega)]; omega
  have key : ∀ k : Nat, (k : Int) < K → (A (no k) ∧ stt ps tv (fun m => if T m = -1 then 0 else T m) k = St (pa (no k))) ∨ ∃ t : Nat, (t : Int) + 1 ≤ ps k ∧ A (no (k - (t + 1))) ∧ T (3 * St (pa (no (k - (t + 1)))) + vb (no (k - (t + 1)))) = -1 := by
    intro k
    induction k with
    | zero =>
      intro hk
      have z := h.2.2.2.2.2.2.2 (by omega)
      have a := h.2.1 ((0 : Nat) : Int) (by omega) hk
      have z' : ps ((0 : Nat) : Int) = 0 := z
      rw [if_pos z'] at a
      left
      refine ⟨q3 _ a.1.1 a.1.2 (Or.inl a.2.1), ?_⟩
      rw [a.2.1, q2]
      rfl
    | succ i ih =>
      intro hk
      have a := h.2.1 ((i + 1 : Nat) : Int) (by omega) hk
      by_cases z : ps ((i + 1 : Nat) : Int) = 0
      · rw [if_pos z] at a
        left
        refine ⟨q3 _ a.1.1 a.1.2 (Or.inl a.2.1), ?_⟩
        rw [a.2.1, q2]
        exact if_pos z
      · rw [if_neg z, (show ((i + 1 : Nat) : Int) - 1 = (i : Int) by omega)] at a
        have p := hp ((i + 1 : Nat) : Int) (by omega) hk
        have p2 := (p.2 z).2
        rw [(show ((i + 1 : Nat) : Int) - 1 = (i : Int) by omega)] at p2
        have b := h.2.1 (i : Int) (by omega) (by omega)
        rcases ih (by omega) with ⟨c1, c2⟩ | ⟨t, c1, c2, c3⟩
        · by_cases w : T (3 * St (pa (no (i : Int))) + vb (no (i : Int))) = -1
          · right
            refine ⟨0, by omega, ?_⟩
            rw [(show ((i + 1 : Nat) : Int) - (((0 : Nat) : Int) + 1) = (i : Int) by omega)]
            exact ⟨c1, w⟩
          · left
            have w2 : 0 ≤ T (3 * St (pa (no (i : Int))) + vb (no (i : Int))) := by
              rcases q1 (3 * St (pa (no (i : Int))) + vb (no (i : Int))) with y | y
              · exact absurd y w
              · exact y.1
            refine ⟨q3 _ a.1.1 a.1.2 (Or.inr (by rw [a.2.1]; exact ⟨c1, w2⟩)), ?_⟩
            have d := q4 _ b.1.1 b.1.2 c1 w2
            rw [a.2.1, d]
            show (if ps ((i + 1 : Nat) : Int) = 0 then 0 else (fun m => if T m = -1 then 0 else T m) (3 * stt ps tv (fun m => if T m = -1 then 0 else T m) i + tv (i : Int))) = _
            rw [if_neg z, c2, ← b.2.2.1]
            exact if_neg w
        · right
          refine ⟨t + 1, by omega, ?_⟩
          rw [(show ((i + 1 : Nat) : Int) - (((t + 1 : Nat) : Int) + 1) = (i : Int) - ((t : Int) + 1) by omega)]
          exact ⟨c2, c3⟩
  have one : ∀ k k2 : Nat, (k : Int) < K → (k2 : Int) < K → tv (k : Int) = tv (k2 : Int) → (∃ t : Nat, (t : Int) + 1 ≤ ps k ∧ A (no (k - (t + 1))) ∧ T (3 * St (pa (no (k - (t + 1)))) + vb (no (k - (t + 1)))) = -1) → tc (k : Int) = tc (k2 : Int) := by
    rintro k k2 hk hk2 ev ⟨t, c1, c2, c3⟩
    have a := h.2.1 (k : Int) (by omega) hk
    have b := h.2.1 (k2 : Int) (by omega) hk2
    by_cases w : tc (k : Int) = tc (k2 : Int)
    · exact w
    · exfalso
      have d := wg_chain h hp hv hc hnd hw hg (k := (k : Int)) (k2 := no (k2 : Int)) (by omega) hk b.1 (by rw [a.2.2.1, b.2.2.1, ev]) (by rw [a.2.2.2, b.2.2.2]; exact fun z => w z.symm) t c1
      have p := (hp (k : Int) (by omega) hk).1
      have bk := hp.back (k := (k : Int)) (by omega) hk (t + 1) (by omega)
      rw [(show ((t + 1 : Nat) : Int) = (t : Int) + 1 by omega)] at bk
      have f := h.2.1 ((k : Int) - (t + 1)) bk.1 (by omega)
      have g := q6 _ f.1.1 f.1.2 c2 c3
      have th := thr_pos t (by omega)
      omega
  refine ⟨fun m => if T m = -1 then 0 else T m, ⟨τb, fun k k2 hk hk2 e => ?_⟩, fun m hm => if_neg (by omega)⟩
  have v1 := htv (k : Int)
  have v2 := htv (k2 : Int)
  have e' : 3 * stt ps tv (fun m => if T m = -1 then 0 else T m) k + tv (k : Int) = 3 * stt ps tv (fun m => if T m = -1 then 0 else T m) k2 + tv (k2 : Int) := e
  have ev : tv (k : Int) = tv (k2 : Int) := by omega
  rcases key k (by omega) with c | c
  · rcases key k2 (by omega) with d | d
    · have a := h.2.1 (k : Int) (by omega) (by omega)
      have b := h.2.1 (k2 : Int) (by omega) (by omega)
      rw [← a.2.2.2, ← b.2.2.2]
      refine q5 _ _ a.1.1 a.1.2 b.1.1 b.1.2 c.1 d.1 ?_
      rw [← c.2, ← d.2, a.2.2.1, b.2.2.1]
      exact e'
    · exact (one k2 k (by omega) (by omega) ev.symm d).symm
  · exact one k k2 (by omega) (by omega) ev c
end QU
/-- the tape's places count up, and a row has twelve -/
theorem tp_ps {V N : Int → Int} {L : Int → Int} (hL : ∀ i, 0 ≤ L i ∧ L i ≤ 12) (e : Int) : ∀ n : Nat, PsO (tpF L V N e n).1 (tpF L V N e n).2.2.2 ∧ 0 ≤ (tpF L V N e n).2.2.2
  | 0 => ⟨fun k h0 h1 => by
      have : k < 0 := h1
      omega, Int.le_refl _⟩
  | n + 1 => by
    have ih := tp_ps hL e n (V := V) (N := N)
    have a := hL n
    have key : ∀ S : TpT, PsO S.1 S.2.2.2 → 0 ≤ S.2.2.2 → ∀ m : Nat, m ≤ 12 → PsO (nP (tpS V N) n m S).1 (nP (tpS V N) n m S).2.2.2 ∧ (0 < m → 0 < (nP (tpS V N) n m S).2.2.2 ∧ (nP (tpS V N) n m S).1 ((nP (tpS V N) n m S).2.2.2 - 1) = (m : Int) - 1) ∧ 0 ≤ (nP (tpS V N) n m S).2.2.2 := by
      intro S hS h0 m
      induction m with
      | zero => exact fun _ => ⟨hS, fun q => by omega, h0⟩
      | succ m ih2 =>
        intro hm
        have b := ih2 (by omega)
        generalize hU : nP (tpS V N) n m S = U at b
        have eU : nP (tpS V N) n (m + 1) S = tpS V N n m U := by rw [← hU]; rfl
        rw [eU]
        show PsO (upI U.1 U.2.2.2 (m : Int)) (U.2.2.2 + 1) ∧ (0 < m + 1 → 0 < U.2.2.2 + 1 ∧ upI U.1 U.2.2.2 (m : Int) (U.2.2.2 + 1 - 1) = ((m + 1 : Nat) : Int) - 1) ∧ 0 ≤ U.2.2.2 + 1
        refine ⟨fun k k0 k1 => ?_, fun _ => ⟨by omega, ?_⟩, by omega⟩
        · by_cases w : k = U.2.2.2
          · rw [w, upI_same]
            refine ⟨by omega, fun z => ?_⟩
            have c := b.2.1 (by omega)
            rw [upI_ne _ _ (by omega)]
            exact c
          · rw [upI_ne _ _ w, upI_ne _ _ (show k - 1 ≠ U.2.2.2 by omega)]
            exact b.1 k k0 (by omega)
        · rw [(show U.2.2.2 + 1 - 1 = U.2.2.2 by omega), upI_same]
          omega
    show PsO (if (n : Int) = e then tpF L V N e n else nP (tpS V N) n (L n).toNat (tpF L V N e n)).1 (if (n : Int) = e then tpF L V N e n else nP (tpS V N) n (L n).toNat (tpF L V N e n)).2.2.2 ∧ 0 ≤ (if (n : Int) = e then tpF L V N e n else nP (tpS V N) n (L n).toNat (tpF L V N e n)).2.2.2
    split
    · exact ih
    · have b := key (tpF L V N e n) ih.1 ih.2 (L n).toNat (by omega)
      exact ⟨b.1, b.2.2⟩
