/-! LAYER 2: which fields are tables -/
/-- the first answer to a place's ask, of the places ahead of it -/
def preF (g : Int → Int) (v f e r p : Int) : Int := nP (foS g v (g (20 + 72 * r + 6 * p + 1)) (g (20 + 72 * r + 6 * p + 2)) f) r p.toNat (nR (foS g v (g (20 + 72 * r + 6 * p + 1)) (g (20 + 72 * r + 6 * p + 2)) f) (fun r => g (10 + r)) e r.toNat (-1))
/-- a place whose field isn't that of its ask's first answer -/
def preC (g : Int → Int) (v f e r p : Int) : Prop := g (20 + 72 * r + 6 * p + 0) = v ∧ preF g v f e r p ≠ -1 ∧ preF g v f e r p ≠ g (20 + 72 * r + 6 * p + (4 + f))
noncomputable def preS (g : Int → Int) (v f e : Int) (r p s : Int) : Int := @ite _ (s = 1 ∧ preC g v f e r p) (Classical.propDecidable _) 0 s
theorem tBk_at (t : Int → Int) (v f fa x j : Int) : tBk t v f fa x j = if j = v * 2 + f ∧ fldI fa f ≠ fldI x f then 1001 else t j := by
  unfold tBk
  by_cases q : fldI fa f = fldI x f
  · rw [if_pos q, if_neg (fun k => k.2 q)]
  · rw [if_neg q]
    unfold upI
    by_cases w : j = v * 2 + f
    · rw [if_pos w, if_pos ⟨w, q⟩]
    · rw [if_neg w, if_neg (fun k => w k.1)]
theorem tb_step {L V A N g : Int → Int} {y r p m v f e : Int} {U : LSt} {Fo : Int → Int → Int → Int} (hR : RelR L V A N y g) (hA : ∀ i, 0 ≤ A i ∧ A i < 10000) (hV : ∀ i, 0 ≤ V i ∧ V i < 3) (h0 : 0 ≤ r) (h1 : r < y) (hp : 0 ≤ p) (hp2 : p < L r) (hv : 0 ≤ v ∧ v < 3) (hf : 0 ≤ f ∧ f < 2) (h : QT U m Fo) (hF : Fo v (A (r * 12 + p)) f = preF g v f e r p) : (preC g v f e r p → (lrS V A N r p U).2.2.2.1 (v * 2 + f) = 1001) ∧ (¬ preC g v f e r p → (lrS V A N r p U).2.2.2.1 (v * 2 + f) = U.2.2.2.1 (v * 2 + f)) := by
  obtain ⟨c, b, G, t, a, d, z⟩ := U
  have e1 := hR.2.2 r p h0 h1 hp hp2
  have a0 := hA (r * 12 + p)
  have v0 := hV (r * 12 + p)
  have fe := fld_eq (f := f) hR h0 h1 hp hp2 hf
  have q : (findI a z v (A (r * 12 + p)) = -1 ∧ Fo v (A (r * 12 + p)) f = -1) ∨ (0 ≤ findI a z v (A (r * 12 + p)) ∧ Fo v (A (r * 12 + p)) f = fldI (d (findI a z v (A (r * 12 + p)))) f ∧ 0 ≤ Fo v (A (r * 12 + p)) f) := h.2 v (A (r * 12 + p)) f hv a0 hf
  rw [hF] at q
  have et : (lrS V A N r p (c, b, G, t, a, d, z)).2.2.2.1 (v * 2 + f) = tBk (tBk t (V (r * 12 + p)) 0 (if findI a z (V (r * 12 + p)) (A (r * 12 + p)) = -1 then N (r * 12 + p) else d (findI a z (V (r * 12 + p)) (A (r * 12 + p)))) (N (r * 12 + p))) (V (r * 12 + p)) 1 (if findI a z (V (r * 12 + p)) (A (r * 12 + p)) = -1 then N (r * 12 + p) else d (findI a z (V (r * 12 + p)) (A (r * 12 + p)))) (N (r * 12 + p)) (v * 2 + f) := rfl
  have eU : (c, b, G, t, a, d, z).2.2.2.1 (v * 2 + f) = t (v * 2 + f) := rfl
  rw [et, eU]
  by_cases hvv : V (r * 12 + p) = v
  · rw [hvv, tBk_at, tBk_at]
    have key : preC g v f e r p ↔ fldI (if findI a z v (A (r * 12 + p)) = -1 then N (r * 12 + p) else d (findI a z v (A (r * 12 + p)))) f ≠ fldI (N (r * 12 + p)) f := by
      unfold preC
      rw [e1.1, hvv, ← fe]
      rcases q with ⟨q1, q2⟩ | ⟨q1, q2, q3⟩
      · rw [if_pos q1]
        exact ⟨fun k => absurd q2 k.2.1, fun k => absurd rfl k⟩
      · rw [if_neg (by omega), ← q2]
        exact ⟨fun k => k.2.2, fun k => ⟨rfl, by omega, k⟩⟩
    generalize (if findI a z v (A (r * 12 + p)) = -1 then N (r * 12 + p) else d (findI a z v (A (r * 12 + p)))) = fa at key ⊢
    rw [key]
    rcases (show f = 0 ∨ f = 1 by omega) with w | w
    · subst w
      rw [if_neg (fun k => by omega)]
      exact ⟨fun k => if_pos ⟨rfl, k⟩, fun k => if_neg (fun j => k j.2)⟩
    · subst w
      refine ⟨fun k => if_pos ⟨rfl, k⟩, fun k => ?_⟩
      rw [if_neg (fun j => k j.2), if_neg (fun j => by omega)]
  · have hnc : ¬ preC g v f e r p := fun k => hvv (by rw [← e1.1]; exact k.1)
    refine ⟨fun k => absurd k hnc, fun _ => ?_⟩
    rw [tBk_at, tBk_at, if_neg (fun k => by omega), if_neg (fun k => by omega)]
def mmx (s : Int) : Int := if s = 1 then 1000 else 1001
theorem mmx_step (g : Int → Int) (v f e r p s : Int) (hs : s = 0 ∨ s = 1) {t t' : Int} (ht : t = mmx s) (h1 : preC g v f e r p → t' = 1001) (h2 : ¬ preC g v f e r p → t' = t) : t' = mmx (preS g v f e r p s) ∧ (preS g v f e r p s = 0 ∨ preS g v f e r p s = 1) := by
  unfold preS
  by_cases q : preC g v f e r p
  · rcases hs with w | w
    · rw [if_neg (fun k => by omega)]
      exact ⟨by rw [h1 q, w]; rfl, Or.inl w⟩
    · rw [if_pos ⟨w, q⟩]
      exact ⟨by rw [h1 q]; rfl, Or.inl rfl⟩
  · rw [if_neg (fun k => q k.2)]
    exact ⟨by rw [h2 q]; exact ht, hs⟩
theorem tb_row {L V A N g : Int → Int} {y r m v f e : Int} (hR : RelR L V A N y g) (hA : ∀ i, 0 ≤ A i ∧ A i < 10000) (hV : ∀ i, 0 ≤ V i ∧ V i < 3) (hN : ∀ i, 0 ≤ N i ∧ N i < 40000) (h0 : 0 ≤ r) (h1 : r < y) (hv : 0 ≤ v ∧ v < 3) (hf : 0 ≤ f ∧ f < 2) (S : LSt) (h : QT S m (fun v s f => nR (foS g v (s / 100) (s % 100) f) (fun r => g (10 + r)) e r.toNat (-1))) {s : Int} (hs : s = 0 ∨ s = 1) (ht : S.2.2.2.1 (v * 2 + f) = mmx s) : ∀ n : Nat, (n : Int) ≤ L r → m + n ≤ 96 → (nP (lrS V A N) r n (lnC S)).2.2.2.1 (v * 2 + f) = mmx (nP (preS g v f e) r n s) ∧ (nP (preS g v f e) r n s = 0 ∨ nP (preS g v f e) r n s = 1)
  | 0, _, _ => ⟨ht, hs⟩
  | n + 1, hn, hm => by
    have ih := tb_row hR hA hV hN h0 h1 hv hf S h hs ht n (by omega) (by omega)
    have tr := tab_row hR hA hV hN h0 h1 S h n (by omega) (by omega)
    have e1 := hR.2.2 r (n : Int) h0 h1 (by omega) (by omega)
    have st := tb_step (p := (n : Int)) (e := e) hR hA hV h0 h1 (by omega) (by omega) hv hf tr (by
      unfold preF
      rw [e1.2.1, e1.2.2.1, (show ((n : Int)).toNat = n by omega)])
    exact mmx_step g v f e r (n : Int) _ ih.2 ih.1 st.1 st.2
theorem tb_all {L V A N g : Int → Int} {y v f e : Int} (hR : RelR L V A N y g) (hy : y ≤ 8) (hL : ∀ i, 0 ≤ L i ∧ L i ≤ 12) (hA : ∀ i, 0 ≤ A i ∧ A i < 10000) (hV : ∀ i, 0 ≤ V i ∧ V i < 3) (hN : ∀ i, 0 ≤ N i ∧ N i < 40000) (hv : 0 ≤ v ∧ v < 3) (hf : 0 ≤ f ∧ f < 2) (S : LSt) (hz : S.2.2.2.2.2.2 = 0) (ht : S.2.2.2.1 (v * 2 + f) = 1000) : ∀ n : Nat, (n : Int) ≤ y → (lnR V A N L e n S).2.2.2.1 (v * 2 + f) = mmx (nR (preS g v f e) (fun r => g (10 + r)) e n 1) ∧ (nR (preS g v f e) (fun r => g (10 + r)) e n 1 = 0 ∨ nR (preS g v f e) (fun r => g (10 + r)) e n 1 = 1)
  | 0, _ => ⟨ht, Or.inr rfl⟩
  | n + 1, hn => by
    have ih := tb_all hR hy hL hA hV hN hv hf S hz ht n (by omega) (e := e)
    have a := hL n
    have tq := tab_all (e := e) hR hy hL hA hV hN S hz n (by omega)
    have e1 : lnR V A N L e (n + 1) S = if (n : Int) = e then lnR V A N L e n S else nP (lrS V A N) n (L n).toNat (lnC (lnR V A N L e n S)) := rfl
    have e2 : nR (preS g v f e) (fun r => g (10 + r)) e (n + 1) 1 = if (n : Int) = e then nR (preS g v f e) (fun r => g (10 + r)) e n 1 else nP (preS g v f e) n (g (10 + (n : Int))).toNat (nR (preS g v f e) (fun r => g (10 + r)) e n 1) := rfl
    rw [e1, e2]
    by_cases q : (n : Int) = e
    · rw [if_pos q, if_pos q]; exact ih
    · rw [if_neg q, if_neg q, hR.2.1 n (by omega) (by omega)]
      exact tb_row (r := (n : Int)) (m := 12 * n) hR hA hV hN (by omega) (by omega) hv hf (lnR V A N L e n S) (by rw [(show ((n : Int)).toNat = n by omega)]; exact tq) ih.2 ih.1 (L n).toNat (by omega) (by omega)
/-- where a first answer comes from -/
theorem fo_src (g : Int → Int) (v x y f e : Int) (r p : Nat) (hp : (p : Int) ≤ g (10 + (r : Int))) (he : (r : Int) ≠ e) : nP (foS g v x y f) r p (nR (foS g v x y f) (fun r => g (10 + r)) e r (-1)) = -1 ∨ ∃ r0 p0, (0 ≤ r0 ∧ r0 ≤ (r : Int)) ∧ r0 ≠ e ∧ (0 ≤ p0 ∧ p0 < g (10 + r0)) ∧ g (20 + 72 * r0 + 6 * p0 + 0) = v ∧ g (20 + 72 * r0 + 6 * p0 + 1) = x ∧ g (20 + 72 * r0 + 6 * p0 + 2) = y ∧ g (20 + 72 * r0 + 6 * p0 + (4 + f)) = nP (foS g v x y f) r p (nR (foS g v x y f) (fun r => g (10 + r)) e r (-1)) := by
  have st : ∀ (r1 p1 s : Int), (0 ≤ r1 ∧ r1 ≤ (r : Int)) → r1 ≠ e → (0 ≤ p1 ∧ p1 < g (10 + r1)) → (s = -1 ∨ ∃ r0 p0, (0 ≤ r0 ∧ r0 ≤ (r : Int)) ∧ r0 ≠ e ∧ (0 ≤ p0 ∧ p0 < g (10 + r0)) ∧ g (20 + 72 * r0 + 6 * p0 + 0) = v ∧ g (20 + 72 * r0 + 6 * p0 + 1) = x ∧ g (20 + 72 * r0 + 6 * p0 + 2) = y ∧ g (20 + 72 * r0 + 6 * p0 + (4 + f)) = s) → (foS g v x y f r1 p1 s = -1 ∨ ∃ r0 p0, (0 ≤ r0 ∧ r0 ≤ (r : Int)) ∧ r0 ≠ e ∧ (0 ≤ p0 ∧ p0 < g (10 + r0)) ∧ g (20 + 72 * r0 + 6 * p0 + 0) = v ∧ g (20 + 72 * r0 + 6 * p0 + 1) = x ∧ g (20 + 72 * r0 + 6 * p0 + 2) = y ∧ g (20 + 72 * r0 + 6 * p0 + (4 + f)) = foS g v x y f r1 p1 s) := by
    intro r1 p1 s hr1 he1 hp1 hq
    unfold foS
    split
    · rename_i k
      exact Or.inr ⟨r1, p1, hr1, he1, hp1, k.2.1, k.2.2.1, k.2.2.2, rfl⟩
    · exact hq
  refine nP_inv (f := foS g v x y f) (Q := fun s => s = -1 ∨ ∃ r0 p0, (0 ≤ r0 ∧ r0 ≤ (r : Int)) ∧ r0 ≠ e ∧ (0 ≤ p0 ∧ p0 < g (10 + r0)) ∧ g (20 + 72 * r0 + 6 * p0 + 0) = v ∧ g (20 + 72 * r0 + 6 * p0 + 1) = x ∧ g (20 + 72 * r0 + 6 * p0 + 2) = y ∧ g (20 + 72 * r0 + 6 * p0 + (4 + f)) = s) p _ ?_ (fun p1 s hp1 q => st r p1 s (by omega) he (by omega) q)
  exact nR_inv (f := foS g v x y f) (Q := fun s => s = -1 ∨ ∃ r0 p0, (0 ≤ r0 ∧ r0 ≤ (r : Int)) ∧ r0 ≠ e ∧ (0 ≤ p0 ∧ p0 < g (10 + r0)) ∧ g (20 + 72 * r0 + 6 * p0 + 0) = v ∧ g (20 + 72 * r0 + 6 * p0 + 1) = x ∧ g (20 + 72 * r0 + 6 * p0 + 2) = y ∧ g (20 + 72 * r0 + 6 * p0 + (4 + f)) = s) r _ (Or.inl rfl) (fun r1 p1 s hr1 he1 hp1 q => st r1 p1 s (by omega) he1 hp1 q)
/-- a place with an ask: ahead of it the ask's first answer, or it is the first -/
theorem fo_pre {g : Int → Int} {v f e r p : Int} (hX : ∀ i, 20 ≤ i → i < 596 → 0 ≤ g i ∧ g i < 100) (hG : AllOk g) (hf : 0 ≤ f ∧ f < 2) (h0 : 0 ≤ r) (h1 : r < g 0) (he : r ≠ e) (hp : 0 ≤ p) (hp2 : p < g (10 + r)) (hv : g (20 + 72 * r + 6 * p + 0) = v) (hd : g (20 + 72 * r + 6 * p + (4 + f)) ≠ foI g v (g (20 + 72 * r + 6 * p + 1)) (g (20 + 72 * r + 6 * p + 2)) f e) : preC g v f e r p := by
  have a0 := hG.2.1
  have a1 := hG.2.2 r h0 (by omega)
  have e4 := hX (20 + 72 * r + 6 * p + (4 + f)) (by omega) (by omega)
  have up := nP_up (foS g v (g (20 + 72 * r + 6 * p + 1)) (g (20 + 72 * r + 6 * p + 2)) f) r hp (nR (foS g v (g (20 + 72 * r + 6 * p + 1)) (g (20 + 72 * r + 6 * p + 2)) f) (fun r => g (10 + r)) e r.toNat (-1))
  have ab : ∀ m, m ≠ -1 → ∀ r1 p1, foS g v (g (20 + 72 * r + 6 * p + 1)) (g (20 + 72 * r + 6 * p + 2)) f r1 p1 m = m := fun m hm r1 p1 => if_neg (fun k => hm k.1)
  have up2 : nP (foS g v (g (20 + 72 * r + 6 * p + 1)) (g (20 + 72 * r + 6 * p + 2)) f) r (p + 1).toNat (nR (foS g v (g (20 + 72 * r + 6 * p + 1)) (g (20 + 72 * r + 6 * p + 2)) f) (fun r => g (10 + r)) e r.toNat (-1)) = foS g v (g (20 + 72 * r + 6 * p + 1)) (g (20 + 72 * r + 6 * p + 2)) f r p (preF g v f e r p) := up
  by_cases q : preF g v f e r p = -1
  · exfalso
    refine hd ?_
    have e5 : foS g v (g (20 + 72 * r + 6 * p + 1)) (g (20 + 72 * r + 6 * p + 2)) f r p (preF g v f e r p) = g (20 + 72 * r + 6 * p + (4 + f)) := by
      rw [q]; exact if_pos ⟨rfl, hv, rfl, rfl⟩
    rw [e5] at up2
    exact (nR_exit _ _ e h0 h1 he hp hp2 up2 (ab _ (by omega))).symm
  · rw [ab _ q] at up2
    have e6 := nR_exit (z := g 0) _ _ e h0 h1 he hp hp2 up2 (ab _ q)
    have e7 : foI g v (g (20 + 72 * r + 6 * p + 1)) (g (20 + 72 * r + 6 * p + 2)) f e = preF g v f e r p := e6
    rw [e7] at hd
    exact ⟨hv, q, fun k => hd k.symm⟩
/-- the tables are one -/
theorem tb_eq {L V A N g c1 b1 g1 t1 a1 d1 : Int → Int} {y e z1 v f : Int} (hR : RelR L V A N y g) (h0 : 0 ≤ y) (hy : y ≤ 8) (hX : ∀ i, 20 ≤ i → i < 596 → 0 ≤ g i ∧ g i < 100) (hG : AllOk g) (hL : ∀ i, 0 ≤ L i ∧ L i ≤ 12) (hA : ∀ i, 0 ≤ A i ∧ A i < 10000) (hV : ∀ i, 0 ≤ V i ∧ V i < 3) (hN : ∀ i, 0 ≤ N i ∧ N i < 40000) {S : LSt} (hz : S.2.2.2.2.2.2 = 0) (hv : 0 ≤ v ∧ v < 3) (hf : 0 ≤ f ∧ f < 2) (ht : S.2.2.2.1 (v * 2 + f) = 1000) (hl : lnR V A N L e y.toNat S = (c1, b1, g1, t1, a1, d1, z1)) : t1 (v * 2 + f) = 1001 ↔ tbI g v f e ≠ 1 := by
  have a := tb_all (e := e) hR hy hL hA hV hN hv hf S hz ht y.toNat (by omega)
  rw [hl] at a
  have a1 : t1 (v * 2 + f) = mmx (nR (preS g v f e) (fun r => g (10 + r)) e y.toNat 1) := a.1
  have fl := @nR_flag (preC g v f e) (fun r p => Classical.propDecidable _) (preS g v f e) (fun r p s => by
    unfold preS
    by_cases q : s = 1 ∧ preC g v f e r p
    · rw [if_pos q, if_pos q]
    · rw [if_neg q, if_neg q]) (fun r => g (10 + r)) e y.toNat
  have t0 := @nR_flag (fun r p => g (20 + 72 * r + 6 * p + 0) = v ∧ nR (tbS2 g v f r p) (fun r => g (10 + r)) e (g 0).toNat 1 = 0) (fun r p => Classical.propDecidable _) (tbS g v f e) (fun r p s => by
    unfold tbS
    by_cases q : s = 1 ∧ g (20 + 72 * r + 6 * p + 0) = v ∧ nR (tbS2 g v f r p) (fun r => g (10 + r)) e (g 0).toNat 1 = 0
    · rw [if_pos q, if_pos q]
    · rw [if_neg q, if_neg q]) (fun r => g (10 + r)) e (g 0).toNat
  have t2 := fun r p => @nR_flag (fun r2 p2 => g (20 + 72 * r2 + 6 * p2 + 0) = v ∧ g (20 + 72 * r2 + 6 * p2 + 1) = g (20 + 72 * r + 6 * p + 1) ∧ g (20 + 72 * r2 + 6 * p2 + 2) = g (20 + 72 * r + 6 * p + 2) ∧ g (20 + 72 * r2 + 6 * p2 + (4 + f)) ≠ g (20 + 72 * r + 6 * p + (4 + f))) (fun r p => Classical.propDecidable _) (tbS2 g v f r p) (fun r2 p2 s => by
    unfold tbS2
    by_cases q : s = 1 ∧ g (20 + 72 * r2 + 6 * p2 + 0) = v ∧ g (20 + 72 * r2 + 6 * p2 + 1) = g (20 + 72 * r + 6 * p + 1) ∧ g (20 + 72 * r2 + 6 * p2 + 2) = g (20 + 72 * r + 6 * p + 2) ∧ g (20 + 72 * r2 + 6 * p2 + (4 + f)) ≠ g (20 + 72 * r + 6 * p + (4 + f))
    · rw [if_pos q, if_pos q]
    · rw [if_neg q, if_neg q]) (fun r => g (10 + r)) e (g 0).toNat
  have tb : tbI g v f e = nR (tbS g v f e) (fun r => g (10 + r)) e (g 0).toNat 1 := rfl
  rw [a1, tb]
  have g0 := hR.1
  have e3 : (g 0).toNat = y.toNat := by rw [g0]
  constructor
  · intro hM
    rcases fl with ⟨f1, r, p, hr, he, hp, hC⟩ | ⟨f1, _⟩
    · rcases t0 with ⟨q, _⟩ | ⟨q, hno⟩
      · omega
      · exfalso
        obtain ⟨c0, c1', c2⟩ := hC
        have src := fo_src g v (g (20 + 72 * r + 6 * p + 1)) (g (20 + 72 * r + 6 * p + 2)) f e r.toNat p.toNat (by rw [(show ((r.toNat : Nat) : Int) = r by omega)]; omega) (by rw [(show ((r.toNat : Nat) : Int) = r by omega)]; exact he)
        rw [(show ((r.toNat : Nat) : Int) = r by omega)] at src
        have pe : nP (foS g v (g (20 + 72 * r + 6 * p + 1)) (g (20 + 72 * r + 6 * p + 2)) f) r p.toNat (nR (foS g v (g (20 + 72 * r + 6 * p + 1)) (g (20 + 72 * r + 6 * p + 2)) f) (fun r => g (10 + r)) e r.toNat (-1)) = preF g v f e r p := rfl
        rw [pe] at src
        rcases src with w | ⟨r0, p0, s1, s2, s3, s4, s5, s6, s7⟩
        · exact c1' w
        · refine hno r p hr.1 (by omega) he hp.1 hp.2 ⟨c0, ?_⟩
          rcases t2 r p with ⟨q2, _⟩ | ⟨_, q3⟩
          · exact q2
          · exact absurd ⟨s4, s5, s6, by rw [s7]; exact c2⟩ (q3 r0 p0 s1.1 (by omega) s2 s3.1 s3.2)
    · rw [f1] at hM
      exact absurd hM (by decide)
  · intro hM
    rcases t0 with ⟨_, r, p, hr, he, hp, hC⟩ | ⟨q, _⟩
    · rcases t2 r p with ⟨_, r2, p2, hr2, he2, hp2, hC2⟩ | ⟨q2, _⟩
      · have hex : ∃ r9 p9, (0 ≤ r9 ∧ r9 < (y.toNat : Int)) ∧ r9 ≠ e ∧ (0 ≤ p9 ∧ p9 < g (10 + r9)) ∧ preC g v f e r9 p9 := by
          by_cases w : g (20 + 72 * r + 6 * p + (4 + f)) = foI g v (g (20 + 72 * r + 6 * p + 1)) (g (20 + 72 * r + 6 * p + 2)) f e
          · refine ⟨r2, p2, by omega, he2, hp2, fo_pre hX hG hf hr2.1 (by omega) he2 hp2.1 hp2.2 hC2.1 ?_⟩
            rw [hC2.2.1, hC2.2.2.1, ← w]
            exact hC2.2.2.2
          · exact ⟨r, p, by omega, he, hp, fo_pre hX hG hf hr.1 (by omega) he hp.1 hp.2 hC.1 w⟩
        obtain ⟨r9, p9, k1, k2, k3, k4⟩ := hex
        rcases fl with ⟨f1, _⟩ | ⟨_, f2⟩
        · rw [f1]; rfl
        · exact absurd k4 (f2 r9 p9 k1.1 k1.2 k2 k3.1 k3.2)
      · rw [hC.2] at q2
        exact absurd q2 (by decide)
    · exact absurd q hM
