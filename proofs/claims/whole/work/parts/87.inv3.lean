/-! LAYER 3: what stands between class and reference at the law's loop -/
def S0I : LSt := (fun _ => 0, fun _ => 0, fiI (fun _ => 0) 30 1000, fiI (fun _ => 0) 6 1000, fun _ => 0, fun _ => 0, 0)
def RwK (L V A N : Int → Int) (y : Int) (g : Int → Int) : Prop := RelR L V A N y g ∧ RowsOk L V A N y ∧ AllOk g ∧ ∀ i, 20 ≤ i → i < 596 → 0 ≤ g i ∧ g i < 100
noncomputable def lnK (U : LSt) (v f : Int) : Int × Int := (if U.2.2.1 ((v * 2 + f) * 5) = 1000 then -1 else decK U.2.2.1 U.2.2.2.1 v f, if U.2.2.1 ((v * 2 + f) * 5) = 1000 then -1000 else decO U.2.2.1 v f)
noncomputable def lnF (U : LSt) (v s f : Int) : Int := if findI U.2.2.2.2.1 U.2.2.2.2.2.2 v s = -1 then -1 else fldI (U.2.2.2.2.2.1 (findI U.2.2.2.2.1 U.2.2.2.2.2.2 v s)) f
section IV
variable {L V A N g : Int → Int} {y e : Int}
theorem rk_ln (h : RwK L V A N y g) {v f : Int} (hv : 0 ≤ v ∧ v < 3) (hf : 0 ≤ f ∧ f < 2) : rkI g v f e = lnK (lnR V A N L e y.toNat S0I) v f := by
  obtain ⟨hR, hO, hG, hX⟩ := h
  obtain ⟨c1, b1, g1, t1, a1, d1, z1, hl⟩ : ∃ c1 b1 g1 t1 a1 d1 z1, lnR V A N L e y.toNat S0I = (c1, b1, g1, t1, a1, d1, z1) := ⟨_, _, _, _, _, _, _, rfl⟩
  have hq : ∀ v f : Int, 0 ≤ f ∧ f < 2 → (v * 2 + f) / 2 = v ∧ (v * 2 + f) % 2 = f := fun v f h => by omega
  have q := rul_eq (k1 := fun j => (lnK (c1, b1, g1, t1, a1, d1, z1) (j / 2) (j % 2)).1) (o1 := fun j => (lnK (c1, b1, g1, t1, a1, d1, z1) (j / 2) (j % 2)).2) hR hO hX hG hl (fun v f hv hf => by
    have z := hq v f hf
    show (lnK (c1, b1, g1, t1, a1, d1, z1) ((v * 2 + f) / 2) ((v * 2 + f) % 2)).1 = _ ∧ (lnK (c1, b1, g1, t1, a1, d1, z1) ((v * 2 + f) / 2) ((v * 2 + f) % 2)).2 = _
    rw [z.1, z.2]
    exact ⟨rfl, rfl⟩) v f hv hf
  have q1 : (lnK (c1, b1, g1, t1, a1, d1, z1) ((v * 2 + f) / 2) ((v * 2 + f) % 2)).1 = (rkI g v f e).1 := q.1
  have q2 : (lnK (c1, b1, g1, t1, a1, d1, z1) ((v * 2 + f) / 2) ((v * 2 + f) % 2)).2 = (rkI g v f e).2 := q.2
  rw [(hq v f hf).1, (hq v f hf).2] at q1 q2
  rw [hl]
  exact Prod.ext q1.symm q2.symm
theorem fo_ln (h : RwK L V A N y g) {v s f : Int} (hv : 0 ≤ v ∧ v < 3) (hs : 0 ≤ s ∧ s < 10000) (hf : 0 ≤ f ∧ f < 2) : foI g v (s / 100) (s % 100) f e = lnF (lnR V A N L e y.toNat S0I) v s f := by
  obtain ⟨hR, ⟨h0, h8, hL, hV, hA, hN⟩, hG, hX⟩ := h
  obtain ⟨c1, b1, g1, t1, a1, d1, z1, hl⟩ : ∃ c1 b1 g1 t1 a1 d1 z1, lnR V A N L e y.toNat S0I = (c1, b1, g1, t1, a1, d1, z1) := ⟨_, _, _, _, _, _, _, rfl⟩
  have q := fo_eq hR h0 h8 hL hA hV hN (S := S0I) rfl hl hv hs hf
  rw [hl]
  show _ = if findI a1 z1 v s = -1 then -1 else fldI (d1 (findI a1 z1 v s)) f
  rcases q with ⟨p1, p2⟩ | ⟨p1, p2, _⟩
  · rw [if_pos p1, p2]
  · rw [if_neg (by omega), p2]
theorem un_ln (h : RwK L V A N y g) : (lnR V A N L (-1) y.toNat S0I).2.2.2.2.2.2 = ctI g 5 := by
  obtain ⟨hR, hO, hG, hX⟩ := h
  obtain ⟨c1, b1, g1, t1, a1, d1, z1, hl⟩ : ∃ c1 b1 g1 t1 a1 d1 z1, lnR V A N L (-1) y.toNat S0I = (c1, b1, g1, t1, a1, d1, z1) := ⟨_, _, _, _, _, _, _, rfl⟩
  rw [hl]
  exact un_eq hR hO hX hG (S := S0I) rfl hl
theorem lnF_2 {U U' : LSt} (h : U.2.2 = U'.2.2) (v s f : Int) : lnF U v s f = lnF U' v s f := by unfold lnF; rw [h]
theorem lnK_2 {U U' : LSt} (h : U.2.2 = U'.2.2) (v f : Int) : lnK U v f = lnK U' v f := by unfold lnK; rw [h]
theorem stu_to {L' V' A' N' g' : Int → Int} {y' : Int} (h : RwK L V A N y g) (h' : RwK L' V' A' N' y' g') (hU : (lnR V A N L e y.toNat S0I).2.2 = (lnR V' A' N' L' e y'.toNat S0I).2.2) : (∀ v f, 0 ≤ v ∧ v < 3 → 0 ≤ f ∧ f < 2 → rkI g' v f e = rkI g v f e) ∧ (∀ v s f, 0 ≤ v ∧ v < 3 → 0 ≤ s ∧ s < 10000 → 0 ≤ f ∧ f < 2 → foI g' v (s / 100) (s % 100) f e = foI g v (s / 100) (s % 100) f e) ∧ (e = -1 → ctI g' 5 = ctI g 5) := by
  refine ⟨fun v f hv hf => ?_, fun v s f hv hs hf => ?_, fun he => ?_⟩
  · rw [rk_ln h hv hf, rk_ln h' hv hf, lnK_2 hU]
  · rw [fo_ln h hv hs hf, fo_ln h' hv hs hf, lnF_2 hU]
  · subst he
    rw [← un_ln h, ← un_ln h', hU]
theorem StuR.to {L' V' A' N' g' : Int → Int} {y' rk rz : Int} {rk_ ro ra rb : Int → Int} (h : RwK L V A N y g) (h' : RwK L' V' A' N' y' g') (hU : (lnR V A N L e y.toNat S0I).2.2 = (lnR V' A' N' L' e y'.toNat S0I).2.2) (hs : StuR g e rk rz rk_ ro ra rb) : StuR g' e rk rz rk_ ro ra rb := by
  have z := stu_to h h' hU
  refine fun q => ⟨fun v f hv hf => ?_, fun v s f hv hs9 hf => ?_⟩
  · rw [z.1 v f hv hf]; exact (hs q).1 v f hv hf
  · rw [z.2.1 v s f hv hs9 hf]; exact (hs q).2 v s f hv hs9 hf
end IV
theorem lnR_cong (V A N : Int → Int) (e : Int) {L L' : Int → Int} (S : LSt) : ∀ n : Nat, (∀ r : Int, 0 ≤ r → r < (n : Int) → L r = L' r) → lnR V A N L e n S = lnR V A N L' e n S
  | 0, _ => rfl
  | n + 1, h => by
    have ih := lnR_cong V A N e S n (fun r a b => h r a (by omega))
    show (if (n : Int) = e then lnR V A N L e n S else nP (lrS V A N) n (L n).toNat (lnC (lnR V A N L e n S))) = (if (n : Int) = e then lnR V A N L' e n S else nP (lrS V A N) n (L' n).toNat (lnC (lnR V A N L' e n S)))
    rw [ih, h n (by omega) (by omega)]
theorem lnR_row (V A N L : Int → Int) (e : Int) {y : Int} (h0 : 0 ≤ y) (S : LSt) : (lnR V A N L e y.toNat S).2.2 = (lnR V A N (upI L y 0) e (y + 1).toNat S).2.2 := by
  have c : lnR V A N (upI L y 0) e y.toNat S = lnR V A N L e y.toNat S := lnR_cong V A N e S y.toNat (fun r a b => upI_ne _ _ (by omega))
  rw [lnR_up _ _ _ _ _ h0, c, upI_same]
  split <;> rfl
theorem nR_len {S : Type} (f : Int → Int → S → S) (e : Int) {L L' : Int → Int} (s : S) : ∀ n : Nat, (∀ r : Int, 0 ≤ r → r < (n : Int) → L r = L' r) → nR f L e n s = nR f L' e n s
  | 0, _ => rfl
  | n + 1, h => by
    have ih := nR_len f e s n (fun r a b => h r a (by omega))
    show (if (n : Int) = e then nR f L e n s else nP f n (L n).toNat (nR f L e n s)) = (if (n : Int) = e then nR f L' e n s else nP f n (L' n).toNat (nR f L' e n s))
    rw [ih, h n (by omega) (by omega)]
theorem tpF_row (L V N : Int → Int) (e : Int) {y : Int} (h0 : 0 ≤ y) : tpF (upI L y 0) V N e (y + 1).toNat = tpF L V N e y.toNat := by
  have c : nR (tpS V N) (upI L y 0) e y.toNat (fun _ => 0, fun _ => 0, fun _ => 0, 0) = nR (tpS V N) L e y.toNat (fun _ => 0, fun _ => 0, fun _ => 0, 0) := nR_len (tpS V N) e _ y.toNat (fun r a b => upI_ne _ _ (by omega))
  unfold tpF
  rw [(show (y + 1).toNat = y.toNat + 1 by omega)]
  show (if ((y.toNat : Nat) : Int) = e then nR (tpS V N) (upI L y 0) e y.toNat (fun _ => 0, fun _ => 0, fun _ => 0, 0) else nP (tpS V N) ((y.toNat : Nat) : Int) (upI L y 0 ((y.toNat : Nat) : Int)).toNat (nR (tpS V N) (upI L y 0) e y.toNat (fun _ => 0, fun _ => 0, fun _ => 0, 0))) = _
  rw [(show ((y.toNat : Nat) : Int) = y by omega), upI_same, c]
  split <;> rfl
theorem MacC.row {L V N t c : Int → Int} {e y r : Int} (h0 : 0 ≤ y) (h : MacC L V N e y r t c) : MacC (upI L y 0) V N e (y + 1) r t c := by
  unfold MacC
  rw [tpF_row L V N e h0]
  exact h
/-- a study: what is known of it is right -/
def StE (L V A N : Int → Int) (y : Int) (g : Int → Int) (e mk rk : Int) (pa vb cd lg lt lc lb mt mn : Int → Int) (mz : Int) (rk_ ro ra rb : Int → Int) (rz : Int) : Prop :=
  ((∀ i, 0 ≤ pa i ∧ pa i < 97) ∧ (∀ i, 0 ≤ vb i ∧ vb i < 3) ∧ ∀ i, 0 ≤ cd i ∧ cd i < 4) ∧ (-2147483648 ≤ e ∧ e < 2147483648) ∧ (mk = 0 ∨ mk = 1) ∧ LOk 12 lc lb lg lt ra rb 0 ∧ ((∀ i, -1 ≤ rk_ i ∧ rk_ i ≤ 6) ∧ ∀ i, -1000 ≤ ro i ∧ ro i ≤ 1000) ∧ (rk = 0 ∨ rk = 1) ∧ (rk ≠ 0 → 0 ≤ rz ∧ rz ≤ 96) ∧ StuM L V N y e mk mz mt mn ∧ StuR g e rk rz rk_ ro ra rb ∧ (e = -1 → rk ≠ 0 → rz = ctI g 5)
section ST
variable {L V A N g : Int → Int} {y e mk rk : Int} {pa vb cd lg lt lc lb mt mn : Int → Int} {mz : Int} {rk_ ro ra rb : Int → Int} {rz : Int}
theorem StE.forget (h : StE L V A N y g e mk rk pa vb cd lg lt lc lb mt mn mz rk_ ro ra rb rz) {L' V' A' N' g' : Int → Int} {y' : Int} {e' : Int} (he : -2147483648 ≤ e' ∧ e' < 2147483648) : StE L' V' A' N' y' g' e' 0 0 pa vb cd lg lt lc lb mt mn mz rk_ ro ra rb rz := by
  obtain ⟨h1, h2, h3, h4, h5, h6, h7, h8, h9, h10⟩ := h
  exact ⟨h1, he, Or.inl rfl, h4, h5, Or.inl rfl, fun q => absurd rfl q, fun q => absurd rfl q, fun q => absurd rfl q, fun _ q => absurd rfl q⟩
theorem StE.to (h : StE L V A N y g e mk rk pa vb cd lg lt lc lb mt mn mz rk_ ro ra rb rz) {g' : Int → Int} (w : RwK L V A N y g) (w' : RwK L V A N y g') : StE L V A N y g' e mk rk pa vb cd lg lt lc lb mt mn mz rk_ ro ra rb rz := by
  obtain ⟨h1, h2, h3, h4, h5, h6, h7, h8, h9, h10⟩ := h
  exact ⟨h1, h2, h3, h4, h5, h6, h7, h8, h9.to w w' rfl, fun q1 q2 => by rw [(stu_to w w' rfl).2.2 q1]; exact h10 q1 q2⟩
theorem StE.row (h : StE L V A N y g e mk rk pa vb cd lg lt lc lb mt mn mz rk_ ro ra rb rz) {g' : Int → Int} (w : RwK L V A N y g) (w' : RwK (upI L y 0) V A N (y + 1) g') : StE (upI L y 0) V A N (y + 1) g' e mk rk pa vb cd lg lt lc lb mt mn mz rk_ ro ra rb rz := by
  obtain ⟨h1, h2, h3, h4, h5, h6, h7, h8, h9, h10⟩ := h
  have y0 := w.2.1.1
  exact ⟨h1, h2, h3, h4, h5, h6, h7, fun q => (h8 q).row y0, h9.to w w' (lnR_row V A N L e y0 S0I), fun q1 q2 => by rw [(stu_to w w' (lnR_row V A N L e y0 S0I)).2.2 q1]; exact h10 q1 q2⟩
theorem StE.mzr (h : StE L V A N y g e mk rk pa vb cd lg lt lc lb mt mn mz rk_ ro ra rb rz) : mk ≠ 0 → -1 ≤ mz ∧ mz ≤ 4 := fun q => (h.2.2.2.2.2.2.2.1 q).rng
theorem StE.mo (h : StE L V A N y g e mk rk pa vb cd lg lt lc lb mt mn mz rk_ ro ra rb rz) (hO : RowsOk L V A N y) : mk ≠ 0 → MkO mt mn := fun q => (h.2.2.2.2.2.2.2.1 q).mk hO.2.2.2.2.2
theorem StE.mac (h : StE L V A N y g e mk rk pa vb cd lg lt lc lb mt mn mz rk_ ro ra rb rz) {mk1 mz1 : Int} {pa1 vb1 cd1 mt1 mn1 : Int → Int} (hb : (∀ i, 0 ≤ pa1 i ∧ pa1 i < 97) ∧ (∀ i, 0 ≤ vb1 i ∧ vb1 i < 3) ∧ ∀ i, 0 ≤ cd1 i ∧ cd1 i < 4) (hs : (mk ≠ 0 ∧ mk1 = mk ∧ mt1 = mt ∧ mn1 = mn ∧ mz1 = mz) ∨ (mk = 0 ∧ mk1 = 1 ∧ MacC L V N e y mz1 mt1 mn1)) : StE L V A N y g e mk1 rk pa1 vb1 cd1 lg lt lc lb mt1 mn1 mz1 rk_ ro ra rb rz ∧ MacC L V N e y mz1 mt1 mn1 := by
  obtain ⟨h1, h2, h3, h4, h5, h6, h7, h8, h9, h10⟩ := h
  have z := h8.of hs
  refine ⟨⟨hb, h2, ?_, h4, h5, h6, h7, fun _ => z, h9, h10⟩, z⟩
  rcases hs with q | q
  · rw [q.2.1]; exact h3
  · exact Or.inr q.2.1
theorem StE.bd (h : StE L V A N y g e mk rk pa vb cd lg lt lc lb mt mn mz rk_ ro ra rb rz) {pa1 vb1 cd1 : Int → Int} (hb : (∀ i, 0 ≤ pa1 i ∧ pa1 i < 97) ∧ (∀ i, 0 ≤ vb1 i ∧ vb1 i < 3) ∧ ∀ i, 0 ≤ cd1 i ∧ cd1 i < 4) : StE L V A N y g e mk rk pa1 vb1 cd1 lg lt lc lb mt mn mz rk_ ro ra rb rz := ⟨hb, h.2⟩
theorem nrm_nrm (m : Int) (k : Int → Int) (z : Int) : nrmK m (nrmK m k z) z = nrmK m k z := by
  funext j
  unfold nrmK
  split <;> rfl
theorem RlS.nrm {rk1 rz1 : Int} {lg1 lt1 lc1 lb1 ra1 rb1 rk_1 ro1 : Int → Int} (h : RlS V A N L e y rk lg lt lc lb ra rb rz rk_ ro rk1 lg1 lt1 lc1 lb1 ra1 rb1 rz1 rk_1 ro1) : RlS V A N L e y rk lg lt lc lb ra rb rz rk_ ro rk1 lg1 lt1 lc1 lb1 ra1 rb1 rz1 (nrmK 6 rk_1 (-1)) (nrmK 6 ro1 (-1000)) := by
  rcases h with ⟨h1, h2, h3, h4, h5, h6, h7, h8, h9, h10, h11⟩ | ⟨h1, h2, h3, h4, h5⟩
  · exact Or.inl ⟨h1, h2, h3, h4, h5, h6, h7, h8, h9, by rw [h10, nrm_nrm], by rw [h11, nrm_nrm]⟩
  · refine Or.inr ⟨h1, h2, h3, h4, fun v f hv hf => ?_⟩
    have q := h5 v f hv hf
    rw [nrmK_in _ _ _ (by omega) (by omega), nrmK_in _ _ _ (by omega) (by omega)]
    exact q
theorem StE.rul (h : StE L V A N y g e mk rk pa vb cd lg lt lc lb mt mn mz rk_ ro ra rb rz) (w : RwK L V A N y g) {rk1 rz1 : Int} {lg1 lt1 lc1 lb1 ra1 rb1 rk_1 ro1 : Int → Int} (hs : RlS V A N L e y rk lg lt lc lb ra rb rz rk_ ro rk1 lg1 lt1 lc1 lb1 ra1 rb1 rz1 rk_1 ro1) : StE L V A N y g e mk rk1 pa vb cd lg1 lt1 lc1 lb1 mt mn mz (nrmK 6 rk_1 (-1)) (nrmK 6 ro1 (-1000)) ra1 rb1 rz1 ∧ rk1 ≠ 0 ∧ StuR g e rk1 rz1 rk_1 ro1 ra1 rb1 ∧ (0 ≤ rz1 ∧ rz1 ≤ 96) ∧ RulesOk (nrmK 6 rk_1 (-1)) (nrmK 6 ro1 (-1000)) ra1 rb1 rz1 := by
  obtain ⟨h1, h2, h3, h4, h5, h6, h7, h8, h9, h10⟩ := h
  obtain ⟨hR, hO, hG, hX⟩ := w
  have k := RlS.ok hO h4 h5 h7 hs.nrm
  have s := StuR.of hR hO hX hG h9 hs.nrm
  refine ⟨⟨h1, h2, h3, k.2.1, ⟨k.1.2.2.1, k.1.2.2.2.1⟩, ?_, fun _ => ⟨k.1.1, k.1.2.1⟩, h8, s.2, fun q1 q2 => ?_⟩, k.2.2, (StuR.of hR hO hX hG h9 hs).2, ⟨k.1.1, k.1.2.1⟩, k.1⟩
  · rcases hs with q | q
    · rw [q.2.1]; exact h6
    · exact Or.inr q.2.1
  · rcases hs with q | q
    · rw [q.2.2.2.2.2.2.2.2.1]; exact h10 q1 q.1
    · subst q1
      exact un_eq (S := (lc, lb, fiI lg 30 1000, fiI lt 6 1000, ra, rb, 0)) hR hO hX hG rfl q.2.2.1
theorem StE.nrm (h : StE L V A N y g e mk rk pa vb cd lg lt lc lb mt mn mz rk_ ro ra rb rz) : StE L V A N y g e mk rk pa vb cd lg lt lc lb mt mn mz (nrmK 6 rk_ (-1)) (nrmK 6 ro (-1000)) ra rb rz := by
  obtain ⟨h1, h2, h3, h4, h5, h6, h7, h8, h9, h10⟩ := h
  refine ⟨h1, h2, h3, h4, ⟨fun i => ?_, fun i => ?_⟩, h6, h7, h8, fun q => ⟨fun v f hv hf => ?_, (h9 q).2⟩, h10⟩
  · have := h5.1 i; unfold nrmK; split <;> omega
  · have := h5.2 i; unfold nrmK; split <;> omega
  · rw [nrmK_in _ _ _ (by omega) (by omega), nrmK_in _ _ _ (by omega) (by omega)]
    exact (h9 q).1 v f hv hf
end ST
/-- rows and run, of the object or of an image -/
def NwE (L V A N : Int → Int) (y : Int) (t n k o a b : Int → Int) (z : Int) (c d l : Int → Int) (on st an un : Int) (g : Int → Int) (m : Int) : Prop :=
  RelR L V A N y g ∧ RowsOk L V A N y ∧ RunR t n k o a b z c d l on st an un g ∧ ((on = 0 ∨ on = 1) ∧ RulesOk k o a b z ∧ (0 ≤ st ∧ st < 4) ∧ (∀ i, -1 ≤ n i ∧ n i < 4) ∧ MkO t n ∧ (∀ i, 0 ≤ c i ∧ c i ≤ m) ∧ ∀ i, -1 ≤ d i ∧ d i < 100) ∧ GOk g m
section NW9
variable {L V A N : Int → Int} {y : Int} {t n k o a b : Int → Int} {z : Int} {c d l : Int → Int} {on st an un : Int} {g : Int → Int} {m : Int}
theorem NwE.rwk (h : NwE L V A N y t n k o a b z c d l on st an un g m) : RwK L V A N y g := ⟨h.1, h.2.1, h.2.2.2.2.1, h.2.2.2.2.2.2.1⟩
theorem NwE.mono (h : NwE L V A N y t n k o a b z c d l on st an un g m) {m2 : Int} (hm : m ≤ m2) : NwE L V A N y t n k o a b z c d l on st an un g m2 := by
  obtain ⟨h1, h2, h3, ⟨h4, h5, h6, h7, h8, h9, h10⟩, h11⟩ := h
  exact ⟨h1, h2, h3, ⟨h4, h5, h6, h7, h8, fun i => by have := h9 i; omega, h10⟩, h11.mono hm⟩
theorem NwE.cong (h : NwE L V A N y t n k o a b z c d l on st an un g m) {g' : Int → Int} (hb : ∀ i, -100000 ≤ g' i ∧ g' i ≤ 100000) (he : ∀ i, 0 ≤ i → i < 1350 → g' i = g i) : NwE L V A N y t n k o a b z c d l on st an un g' m := by
  obtain ⟨h1, h2, h3, h4, h5⟩ := h
  exact ⟨h1.cong h2.2.1 h2.2.2.1 he, h2, h3.cong h5.2.2.2.1 he, h4, h5.cong hb he⟩
end NW9
def NwF (F : Nat → Int → Int) (g : Int → Int) (m : Int) : Prop := NwE (F 3) (F 4) (F 5) (F 6) (F 2 0) (F 9) (F 10) (F 12) (F 13) (F 14) (F 15) (F 11 0) (F 17) (F 18) (F 19) (F 7 0) (F 107 0) (F 207 0) (F 307 0) g m
def StA (F : Nat → Int → Int) (g : Int → Int) : Prop := StE (F 3) (F 4) (F 5) (F 6) (F 2 0) g (F 21 0) (F 121 0) (F 221 0) (F 23) (F 24) (F 25) (F 38) (F 39) (F 41) (F 42) (F 44) (F 45) (F 43 0) (F 47) (F 48) (F 49) (F 50) (F 46 0)
def StB (F : Nat → Int → Int) (g : Int → Int) : Prop := StE (F 3) (F 4) (F 5) (F 6) (F 2 0) g (F 51 0) (F 151 0) (F 251 0) (F 53) (F 54) (F 55) (F 68) (F 69) (F 71) (F 72) (F 74) (F 75) (F 73 0) (F 77) (F 78) (F 79) (F 80) (F 76 0)
def ImE (io : Int → Option Nat) (ib : Int → Nat → Nat) (FI : Int → Nat → Int → Int) (g h : Int → Int) (m : Int) : Prop := ∀ k, 0 ≤ k → k < 3 → (io k = none ∧ h k = 0) ∨ (io k = some (ib k 1) ∧ h k = 1 ∧ NwF (FI k) (fun i => g (1350 * (k + 1) + i)) m)
theorem ImE.to {io : Int → Option Nat} {ib : Int → Nat → Nat} {FI : Int → Nat → Int → Int} {g g' h : Int → Int} {m m2 : Int} (hi : ImE io ib FI g h m) (hb : ∀ i, -100000 ≤ g' i ∧ g' i ≤ 100000) (he : ∀ j, 1350 ≤ j → g' j = g j) (hm : m ≤ m2) : ImE io ib FI g' h m2 := by
  intro k k0 k1
  rcases hi k k0 k1 with q | ⟨q1, q2, q3⟩
  · exact Or.inl q
  · exact Or.inr ⟨q1, q2, (NwE.cong q3 (fun i => hb _) (fun i i0 i1 => he _ (by omega))).mono hm⟩
/-- the law's invariant -/
def InvL (F Z : Nat → Int → Int) (io : Int → Option Nat) (ib : Int → Nat → Nat) (FI : Int → Nat → Int → Int) (m : Int) : Prop :=
  NwF F (Z 1) m ∧ StA F (Z 1) ∧ StB F (Z 1) ∧ F 21 0 = -1 ∧ (∀ i, 0 ≤ Z 2 i ∧ Z 2 i ≤ 1) ∧ (∀ i, -100000 ≤ Z 7 i ∧ Z 7 i ≤ 100000) ∧ ImE io ib FI (Z 1) (Z 2) m
theorem InvL.mono {F Z : Nat → Int → Int} {io : Int → Option Nat} {ib : Int → Nat → Nat} {FI : Int → Nat → Int → Int} {m m2 : Int} (h : InvL F Z io ib FI m) (hm : m ≤ m2) : InvL F Z io ib FI m2 :=
  ⟨NwE.mono h.1 hm, h.2.1, h.2.2.1, h.2.2.2.1, h.2.2.2.2.1, h.2.2.2.2.2.1, h.2.2.2.2.2.2.to h.1.2.2.2.2.1.1 (fun _ _ => rfl) hm⟩
