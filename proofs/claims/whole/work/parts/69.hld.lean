/-! LAYER 2: held and fresh, place by place -/
/-- the two stand-ins are one: machine, rules and first answers -/
def HlH (L V A N g t1 c1 U mt mn rk_ ro ra rb : Int → Int) (y e rz : Int) : Prop :=
  RelR L V A N y g ∧ RowsOk L V A N y ∧ (∀ i, 20 ≤ i → i < 596 → 0 ≤ g i ∧ g i < 100) ∧ AllOk g ∧
  (∀ j, 0 ≤ j → j < 12 → t1 j = mt j ∧ (mt j ≠ -1 → c1 j = mn j) ∧ (mt j = -1 → mn j = -1) ∧ (mt j ≠ -1 → 0 ≤ mn j) ∧ -1 ≤ mt j ∧ mt j < 4) ∧
  (∀ st v, 0 ≤ st ∧ st < 4 → 0 ≤ v ∧ v < 3 → mt (st * 3 + v) ≠ -1 → thI g v e = 1) ∧
  (∀ v f, 0 ≤ v ∧ v < 3 → 0 ≤ f ∧ f < 2 → U (4 * v + 2 * f) = (rkI g v f e).1 ∧ U (4 * v + 2 * f + 1) = (rkI g v f e).2) ∧
  (∀ v f, 0 ≤ v ∧ v < 3 → 0 ≤ f ∧ f < 2 → rk_ (v * 2 + f) = (rkI g v f e).1 ∧ ro (v * 2 + f) = (rkI g v f e).2) ∧
  (∀ v s f, 0 ≤ v ∧ v < 3 → 0 ≤ s ∧ s < 10000 → 0 ≤ f ∧ f < 2 → (findI ra rz v s = -1 ∧ foI g v (s / 100) (s % 100) f e = -1) ∨ (0 ≤ findI ra rz v s ∧ foI g v (s / 100) (s % 100) f e = fldI (rb (findI ra rz v s)) f ∧ 0 ≤ foI g v (s / 100) (s % 100) f e)) ∧
  0 ≤ rz ∧ rz ≤ 96
theorem cntC_nn (V : Int → Int) (r v : Int) : ∀ n : Nat, 0 ≤ cntC V r v n
  | 0 => Int.le_refl _
  | n + 1 => by
    have := cntC_nn V r v n
    unfold cntC
    split <;> omega
theorem latC_bd {A : Int → Int} (hA : ∀ i, 0 ≤ A i ∧ A i < 10000) (r a : Int) : ∀ n : Nat, -1 ≤ latC A r a n ∧ latC A r a n < 100
  | 0 => by show -1 ≤ (-1 : Int) ∧ (-1 : Int) < 100; omega
  | n + 1 => by
    have := latC_bd hA r a n
    have h2 := hA (r * 12 + n)
    unfold latC
    split <;> omega
theorem df_arith {mn X t K0 K1 fo0 fo1 F0 F1 g4 g5 : Int} (hmn : 0 ≤ mn) (ht : 0 ≤ t) (w0 : K0 = 5 → 0 ≤ fo0) (w1 : K1 = 5 → 0 ≤ fo1) (p0 : (K0 = 6 ∨ F0 ≠ -1000) ∧ (K0 = 6 → F0 = -1000)) (p1 : (K1 = 6 ∨ F1 ≠ -1000) ∧ (K1 = 6 → F1 = -1000)) : (if mn = -2 then 0 else if mn ≠ X then 1 else if F0 ≠ -1000 ∧ F0 ≠ g4 then 2 else if F1 ≠ -1000 ∧ F1 ≠ g5 then 3 else (-1 : Int)) = (if t < 0 then 0 else if K0 = 5 ∧ fo0 < 0 then 0 else if K1 = 5 ∧ fo1 < 0 then 0 else if mn ≠ X then 1 else if K0 ≠ 6 ∧ F0 ≠ g4 then 2 + 0 else if K1 ≠ 6 ∧ F1 ≠ g5 then 2 + 1 else -1) := by
  rw [if_neg (show ¬ mn = -2 by omega), if_neg (show ¬ t < 0 by omega), if_neg (show ¬ (K0 = 5 ∧ fo0 < 0) from fun k => by have := w0 k.1; omega), if_neg (show ¬ (K1 = 5 ∧ fo1 < 0) from fun k => by have := w1 k.1; omega)]
  by_cases q : mn ≠ X
  · rw [if_pos q, if_pos q]
  · rw [if_neg q, if_neg q]
    have c0 : (F0 ≠ -1000 ∧ F0 ≠ g4) = (K0 ≠ 6 ∧ F0 ≠ g4) := propext ⟨fun k => ⟨fun z => k.1 (p0.2 z), k.2⟩, fun k => ⟨by rcases p0.1 with z | z; exact absurd z k.1; exact z, k.2⟩⟩
    have c1 : (F1 ≠ -1000 ∧ F1 ≠ g5) = (K1 ≠ 6 ∧ F1 ≠ g5) := propext ⟨fun k => ⟨fun z => k.1 (p1.2 z), k.2⟩, fun k => ⟨by rcases p1.1 with z | z; exact absurd z k.1; exact z, k.2⟩⟩
    simp only [c0, c1]
    rfl
theorem fd_step {L V A N g t1 c1 U mt mn rk_ ro ra rb : Int → Int} {y e rz : Int} (H : HlH L V A N g t1 c1 U mt mn rk_ ro ra rb y e rz) {f p st an un : Int} {c d l : Int → Int} (hf : 0 ≤ f ∧ f < y) (hp : 0 ≤ p ∧ p < L f) (hst : 0 ≤ st ∧ st < 4) (hc : ∀ v, 0 ≤ v → v < 3 → c v = cntC V f v p.toNat) (hd : ∀ a, 0 ≤ a → a < 100 → d a = latC A f a p.toNat) {rr : Int} {S1 : RSt}
    (e1 : ansS (nrmK 12 mt (-1)) (nrmK 12 mn (-1)) (nrmK 6 rk_ (-1)) (nrmK 6 ro (-1000)) (nrmK 96 ra 0) (nrmK 96 rb 0) rz (V (f * 12 + p)) (A (f * 12 + p)) (c, d, l, st, an, un) = (rr, S1)) :
    dfC rr S1.2.2.1 (N (f * 12 + p)) = diI g U t1 c1 f p st e ∧ (dfC rr S1.2.2.1 (N (f * 12 + p)) = -1 → S1.2.2.2.1 = t1 (3 * st + g (20 + 72 * f + 6 * p + 0)) ∧ (0 ≤ S1.2.2.2.1 ∧ S1.2.2.2.1 < 4) ∧ S1.1 = upI c (V (f * 12 + p)) (c (V (f * 12 + p)) + 1) ∧ S1.2.1 = upI d (A (f * 12 + p) / 100) (A (f * 12 + p) % 100)) := by
  obtain ⟨hR, hO, hX, hG, hT, hTh, hU, hK, hF, hz⟩ := H
  obtain ⟨y0, y1, hL, hV, hA, hN⟩ := hO
  have v0 := hV (f * 12 + p)
  have a0 := hA (f * 12 + p)
  have n0 := hN (f * 12 + p)
  have ge := hR.2.2 f p hf.1 hf.2 hp.1 hp.2
  have hj := hT (st * 3 + V (f * 12 + p)) (by omega) (by omega)
  have hth := hTh st (V (f * 12 + p)) hst v0
  have u0 := hU (V (f * 12 + p)) 0 v0 (by omega)
  have u1 := hU (V (f * 12 + p)) 1 v0 (by omega)
  have k0 := hK (V (f * 12 + p)) 0 v0 (by omega)
  have k1 := hK (V (f * 12 + p)) 1 v0 (by omega)
  have f0 := hF (V (f * 12 + p)) (A (f * 12 + p)) 0 v0 a0 (by omega)
  have f1 := hF (V (f * 12 + p)) (A (f * 12 + p)) 1 v0 a0 (by omega)
  have ah := ah_eq hR hf.1 hf.2 hp.1 hp.2
  have lt := lt_eq hR hf.1 hf.2 hp.1 hp.2
  have cv := hc (V (f * 12 + p)) v0.1 v0.2
  have dv := hd (A (f * 12 + p) / 100) (by omega) (by omega)
  have c0 := cntC_nn V f (V (f * 12 + p)) p.toNat
  have d0 := latC_bd hA f (A (f * 12 + p) / 100) p.toNat
  have fl0 := fld_eq (f := 0) hR hf.1 hf.2 hp.1 hp.2 (by omega)
  have fl1 := fld_eq (f := 1) hR hf.1 hf.2 hp.1 hp.2 (by omega)
  have ndi : nrmK 12 mt (-1) (st * 3 + V (f * 12 + p)) = mt (st * 3 + V (f * 12 + p)) := nrmK_in _ _ _ (by omega) (by omega)
  have ndn : nrmK 12 mn (-1) (st * 3 + V (f * 12 + p)) = mn (st * 3 + V (f * 12 + p)) := nrmK_in _ _ _ (by omega) (by omega)
  have nk0 : nrmK 6 rk_ (-1) (V (f * 12 + p) * 2 + 0) = rk_ (V (f * 12 + p) * 2 + 0) := nrmK_in _ _ _ (by omega) (by omega)
  have nk1 : nrmK 6 rk_ (-1) (V (f * 12 + p) * 2 + 1) = rk_ (V (f * 12 + p) * 2 + 1) := nrmK_in _ _ _ (by omega) (by omega)
  have no0 : nrmK 6 ro (-1000) (V (f * 12 + p) * 2 + 0) = ro (V (f * 12 + p) * 2 + 0) := nrmK_in _ _ _ (by omega) (by omega)
  have no1 : nrmK 6 ro (-1000) (V (f * 12 + p) * 2 + 1) = ro (V (f * 12 + p) * 2 + 1) := nrmK_in _ _ _ (by omega) (by omega)
  have nf := find_nrm ra hz (V (f * 12 + p)) (A (f * 12 + p))
  have e3 : 3 * st + V (f * 12 + p) = st * 3 + V (f * 12 + p) := by omega
  unfold ansS at e1
  (try dsimp only at e1)
  rw [ndn, nk0, nk1, nf] at e1
  by_cases hun : mn (st * 3 + V (f * 12 + p)) = -1 ∨ ((rk_ (V (f * 12 + p) * 2 + 0) = 5 ∨ rk_ (V (f * 12 + p) * 2 + 1) = 5) ∧ findI ra rz (V (f * 12 + p)) (A (f * 12 + p)) = -1)
  · rw [if_pos hun] at e1
    cases e1
    have ed : dfC (-2) l (N (f * 12 + p)) = 0 := if_pos rfl
    (try dsimp only)
    rw [ed]
    refine ⟨?_, fun k => absurd k (by decide)⟩
    unfold diI
    rw [ge.1, e3, hj.1, ge.2.1, ge.2.2.1, u0.1, u1.1]
    rw [k0.1, k1.1] at hun
    by_cases w : mt (st * 3 + V (f * 12 + p)) < 0
    · rw [if_pos w]
    · rw [if_neg w]
      rcases hun with q | ⟨q, q2⟩
      · have := hj.2.2.2.1 (by omega); omega
      · rcases q with q | q
        · rw [if_pos ⟨q, by rcases f0 with z | z; (have := z.2; omega); (have := z.1; omega)⟩]
        · by_cases w2 : (rkI g (V (f * 12 + p)) 0 e).1 = 5 ∧ foI g (V (f * 12 + p)) (A (f * 12 + p) / 100) (A (f * 12 + p) % 100) 0 e < 0
          · rw [if_pos w2]
          · rw [if_neg w2, if_pos ⟨q, by rcases f1 with z | z; (have := z.2; omega); (have := z.1; omega)⟩]
  · rw [if_neg hun] at e1
    cases e1
    have hmn : mn (st * 3 + V (f * 12 + p)) ≠ -1 := fun q => hun (Or.inl q)
    have hmt : mt (st * 3 + V (f * 12 + p)) ≠ -1 := fun q => hmn (hj.2.2.1 q)
    have hm0 := hj.2.2.2.1 hmt
    have hth2 := hth hmt
    have g5 : ∀ f9, 0 ≤ f9 ∧ f9 < 2 → rk_ (V (f * 12 + p) * 2 + f9) = 5 → findI ra rz (V (f * 12 + p)) (A (f * 12 + p)) ≠ -1 := by
      intro f9 hf9 q q2
      refine hun (Or.inr ⟨?_, q2⟩)
      rcases (show f9 = 0 ∨ f9 = 1 by omega) with z | z
      · subst z; exact Or.inl q
      · subst z; exact Or.inr q
    have nb : findI ra rz (V (f * 12 + p)) (A (f * 12 + p)) ≠ -1 → nrmK 96 rb 0 (findI ra rz (V (f * 12 + p)) (A (f * 12 + p))) = rb (findI ra rz (V (f * 12 + p)) (A (f * 12 + p))) := by
      intro q
      have o := find_spec ra hz.1 (V (f * 12 + p)) (A (f * 12 + p))
      exact nrmK_in _ _ _ (by omega) (by omega)
    have F0 := fore_eq (k := nrmK 6 rk_ (-1)) (o := nrmK 6 ro (-1000)) (a := nrmK 96 ra 0) (b := nrmK 96 rb 0) (c := c) (d := d) (z := rz) (v := V (f * 12 + p)) (f := 0) (s := A (f * 12 + p)) (e := e) hG hX (by omega) a0 (by rw [nk0]; exact k0.1) (by rw [no0]; exact k0.2) hth2 (by rw [cv]; exact c0) (by rw [dv]; exact d0.1) (by
      intro q
      rw [nk0] at q
      have q2 := g5 0 (by omega) q
      rw [nf, nb q2]
      rcases f0 with z | z
      · exact absurd z.1 q2
      · exact ⟨q2, z.2⟩)
    have F1 := fore_eq (k := nrmK 6 rk_ (-1)) (o := nrmK 6 ro (-1000)) (a := nrmK 96 ra 0) (b := nrmK 96 rb 0) (c := c) (d := d) (z := rz) (v := V (f * 12 + p)) (f := 1) (s := A (f * 12 + p)) (e := e) hG hX (by omega) a0 (by rw [nk1]; exact k1.1) (by rw [no1]; exact k1.2) hth2 (by rw [cv]; exact c0) (by rw [dv]; exact d0.1) (by
      intro q
      rw [nk1] at q
      have q2 := g5 1 (by omega) q
      rw [nf, nb q2]
      rcases f1 with z | z
      · exact absurd z.1 q2
      · exact ⟨q2, z.2⟩)
    (try dsimp only)
    rw [ndi, ge.1, e3, hj.1]
    refine ⟨?_, fun _ => ⟨rfl, by omega, rfl, rfl⟩⟩
    unfold diI dfC
    rw [upI_same, upI_ne _ _ (show (0 : Int) ≠ 1 by omega), upI_same, ge.1, e3, hj.1, hj.2.1 hmt, ge.2.1, ge.2.2.1, ge.2.2.2.1, u0.1, u0.2, u1.1, u1.2, ah, lt, ← cv, ← dv, ← fl0, ← fl1, ← F0.1, ← F1.1]
    have w0 : (rkI g (V (f * 12 + p)) 0 e).1 = 5 → 0 ≤ foI g (V (f * 12 + p)) (A (f * 12 + p) / 100) (A (f * 12 + p) % 100) 0 e := by
      intro q
      rcases f0 with z | z
      · exact absurd z.1 (g5 0 (by omega) (by rw [k0.1]; exact q))
      · exact z.2.2
    have w1 : (rkI g (V (f * 12 + p)) 1 e).1 = 5 → 0 ≤ foI g (V (f * 12 + p)) (A (f * 12 + p) / 100) (A (f * 12 + p) % 100) 1 e := by
      intro q
      rcases f1 with z | z
      · exact absurd z.1 (g5 1 (by omega) (by rw [k1.1]; exact q))
      · exact z.2.2
    have p0 := F0.2
    have p1 := F1.2
    generalize fore (nrmK 6 rk_ (-1)) (nrmK 6 ro (-1000)) (nrmK 96 ra 0) (nrmK 96 rb 0) rz c d (V (f * 12 + p)) 0 (A (f * 12 + p)) = X0 at p0 ⊢
    generalize fore (nrmK 6 rk_ (-1)) (nrmK 6 ro (-1000)) (nrmK 96 ra 0) (nrmK 96 rb 0) rz c d (V (f * 12 + p)) 1 (A (f * 12 + p)) = X1 at p1 ⊢
    exact df_arith hm0 (by omega) w0 w1 p0 p1
theorem fd_eq {L V A N g t1 c1 U mt mn rk_ ro ra rb : Int → Int} {y e rz : Int} (H : HlH L V A N g t1 c1 U mt mn rk_ ro ra rb y e rz) {f : Int} (hf : 0 ≤ f ∧ f < y) : ∀ (m : Nat) (p st an un : Int) (c d l : Int → Int), 0 ≤ p → p + m = L f → 0 ≤ st ∧ st < 4 → (∀ v, 0 ≤ v → v < 3 → c v = cntC V f v p.toNat) → (∀ a, 0 ≤ a → a < 100 → d a = latC A f a p.toNat) → fdI V A N (nrmK 12 mt (-1)) (nrmK 12 mn (-1)) (nrmK 6 rk_ (-1)) (nrmK 6 ro (-1000)) (nrmK 96 ra 0) (nrmK 96 rb 0) rz f m p (c, d, l, st, an, un) = pwI g U t1 c1 f e m p st
  | 0, _, _, _, _, _, _, _, _, _, _, _, _ => rfl
  | m + 1, p, st, an, un, c, d, l, hp0, hpm, hst, hc, hd => by
    obtain ⟨rr, S1, e1⟩ : ∃ rr S1, ansS (nrmK 12 mt (-1)) (nrmK 12 mn (-1)) (nrmK 6 rk_ (-1)) (nrmK 6 ro (-1000)) (nrmK 96 ra 0) (nrmK 96 rb 0) rz (V (f * 12 + p)) (A (f * 12 + p)) (c, d, l, st, an, un) = (rr, S1) := ⟨_, _, rfl⟩
    have fs := fd_step H hf ⟨hp0, by omega⟩ hst hc hd e1
    have up := fdI_up V A N (nrmK 12 mt (-1)) (nrmK 12 mn (-1)) (nrmK 6 rk_ (-1)) (nrmK 6 ro (-1000)) (nrmK 96 ra 0) (nrmK 96 rb 0) rz f (m := p + ((m + 1 : Nat) : Int)) (p := p) (by omega) e1
    rw [(show (p + ((m + 1 : Nat) : Int) - p).toNat = m + 1 by omega), (show (p + ((m + 1 : Nat) : Int) - (p + 1)).toNat = m by omega)] at up
    rw [up, fs.1]
    have db := diI_bd g U t1 c1 f p st e
    show _ = if 0 ≤ diI g U t1 c1 f p st e then 4 * p + diI g U t1 c1 f p st e else pwI g U t1 c1 f e m (p + 1) (t1 (3 * st + g (20 + 72 * f + 6 * p + 0)))
    by_cases q : diI g U t1 c1 f p st e = -1
    · rw [if_pos q, if_neg (by omega)]
      obtain ⟨s1, s2, s3, s4⟩ := fs.2 (by rw [fs.1]; exact q)
      obtain ⟨c9, d9, l9, st9, an9, un9⟩ := S1
      have s1' : st9 = t1 (3 * st + g (20 + 72 * f + 6 * p + 0)) := s1
      have s3' : c9 = upI c (V (f * 12 + p)) (c (V (f * 12 + p)) + 1) := s3
      have s4' : d9 = upI d (A (f * 12 + p) / 100) (A (f * 12 + p) % 100) := s4
      rw [← s1']
      refine fd_eq H hf m (p + 1) st9 an9 un9 c9 d9 l9 (by omega) (by omega) s2 (fun v h0 h1 => ?_) (fun a h0 h1 => ?_)
      · rw [s3', (show (p + 1).toNat = p.toNat + 1 by omega)]
        show _ = cntC V f v p.toNat + (if V (f * 12 + ((p.toNat : Nat) : Int)) = v then 1 else 0)
        rw [(show ((p.toNat : Nat) : Int) = p by omega)]
        by_cases w : V (f * 12 + p) = v
        · rw [if_pos w, w, upI_same, hc v h0 h1]
        · rw [if_neg w, upI_ne _ _ (fun k => w k.symm), hc v h0 h1, Int.add_zero]
      · rw [s4', (show (p + 1).toNat = p.toNat + 1 by omega)]
        show _ = if A (f * 12 + ((p.toNat : Nat) : Int)) / 100 = a then A (f * 12 + ((p.toNat : Nat) : Int)) % 100 else latC A f a p.toNat
        rw [(show ((p.toNat : Nat) : Int) = p by omega)]
        by_cases w : A (f * 12 + p) / 100 = a
        · rw [if_pos w, w, upI_same]
        · rw [if_neg w, upI_ne _ _ (fun k => w k.symm), hd a h0 h1]
    · rw [if_neg q, if_pos (by omega)]
