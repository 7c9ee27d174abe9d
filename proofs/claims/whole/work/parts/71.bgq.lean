/-! LAYER 2: a run begins -/
theorem nR_rest {S : Type} {f : Int → Int → S → S} {L : Int → Int} {b : Int} {n : Nat} {s : S} (h : ∀ r, (n : Int) ≤ r → L r ≤ 0) : ∀ m : Nat, nR f L b (n + m) s = nR f L b n s
  | 0 => rfl
  | m + 1 => by
    have e : nR f L b (n + (m + 1)) s = if ((n + m : Nat) : Int) = b then nR f L b (n + m) s else nP f ((n + m : Nat) : Int) (L ((n + m : Nat) : Int)).toNat (nR f L b (n + m) s) := rfl
    have z : (L ((n + m : Nat) : Int)).toNat = 0 := by have := h ((n + m : Nat) : Int) (by omega); omega
    rw [e, nR_rest h m, z]
    split <;> rfl
/-- where the new run's numbers stand -/
def bgN (g t c u : Int → Int) : Int → Int := bgK (upI (upI (upI (upI (upI (upI (upI g 1 0) 5 (-1000)) 6 (-1000)) 1 1) 2 0) 3 0) 4 0) t c u 8 576 12 100 3
section BG
variable {g t c u : Int → Int}
theorem bgN_lo {j : Int} (h : j < 600) (h2 : j ≤ 0 ∨ 7 ≤ j) : bgN g t c u j = g j := by
  unfold bgN
  rw [bgK_lo _ _ _ _ _ _ _ _ _ h, upI_ne _ _ (by omega), upI_ne _ _ (by omega), upI_ne _ _ (by omega), upI_ne _ _ (by omega), upI_ne _ _ (by omega), upI_ne _ _ (by omega), upI_ne _ _ (by omega)]
theorem bgN_1 : bgN g t c u 1 = 1 ∧ bgN g t c u 2 = 0 ∧ bgN g t c u 3 = 0 ∧ bgN g t c u 4 = 0 ∧ bgN g t c u 5 = -1000 ∧ bgN g t c u 6 = -1000 := by
  unfold bgN
  rw [bgK_lo _ _ _ _ _ _ _ _ _ (by omega), bgK_lo _ _ _ _ _ _ _ _ _ (by omega), bgK_lo _ _ _ _ _ _ _ _ _ (by omega), bgK_lo _ _ _ _ _ _ _ _ _ (by omega), bgK_lo _ _ _ _ _ _ _ _ _ (by omega), bgK_lo _ _ _ _ _ _ _ _ _ (by omega)]
  simp only [upI_ap]
  exact ⟨rfl, rfl, rfl, rfl, rfl, rfl⟩
theorem bgN_len {r : Int} (h0 : 0 ≤ r) (h1 : r < 8) : bgN g t c u (600 + r) = if r < g 0 then g (10 + r) else 0 := by
  unfold bgN bgK
  rw [if_pos (by omega), (show 600 + r - 600 = r by omega)]
  rw [upI_ne _ _ (by omega), upI_ne _ _ (by omega), upI_ne _ _ (by omega), upI_ne _ _ (by omega), upI_ne _ _ (by omega), upI_ne _ _ (by omega), upI_ne _ _ (by omega)]
  rw [upI_ne _ _ (by omega), upI_ne _ _ (by omega), upI_ne _ _ (by omega), upI_ne _ _ (by omega), upI_ne _ _ (by omega), upI_ne _ _ (by omega), upI_ne _ _ (by omega)]
theorem bgN_old {i : Int} (h0 : 0 ≤ i) (h1 : i < 576) : bgN g t c u (610 + i) = g (20 + i) := by
  unfold bgN bgK
  rw [if_neg (by omega), if_pos (by omega), (show 610 + i - 610 = i by omega)]
  rw [upI_ne _ _ (by omega), upI_ne _ _ (by omega), upI_ne _ _ (by omega), upI_ne _ _ (by omega), upI_ne _ _ (by omega), upI_ne _ _ (by omega), upI_ne _ _ (by omega)]
theorem bgN_t {j : Int} (h0 : 0 ≤ j) (h1 : j < 12) : bgN g t c u (1190 + j) = t j ∧ bgN g t c u (1202 + j) = c j ∧ bgN g t c u (1220 + j) = u j := by
  unfold bgN bgK
  refine ⟨?_, ?_, ?_⟩
  · rw [if_neg (by omega), if_neg (by omega), if_pos (by omega), (show 1190 + j - 1190 = j by omega)]
  · rw [if_neg (by omega), if_neg (by omega), if_neg (by omega), if_pos (by omega), (show 1202 + j - 1202 = j by omega)]
  · rw [if_neg (by omega), if_neg (by omega), if_neg (by omega), if_neg (by omega), if_pos (by omega), (show 1220 + j - 1220 = j by omega)]
theorem bgN_lat {a : Int} (h0 : 0 ≤ a) (h1 : a < 100) : bgN g t c u (1240 + a) = 0 := by
  unfold bgN bgK
  rw [if_neg (by omega), if_neg (by omega), if_neg (by omega), if_neg (by omega), if_neg (by omega), if_pos (by omega)]
theorem bgN_don {v : Int} (h0 : 0 ≤ v) (h1 : v < 3) : bgN g t c u (1340 + v) = 0 := by
  unfold bgN bgK
  rw [if_neg (by omega), if_neg (by omega), if_neg (by omega), if_neg (by omega), if_neg (by omega), if_neg (by omega), if_pos (by omega)]
/-- the old rows' first answers are the rows' -/
theorem of_fo (hG : AllOk g) (v x y : Int) {f : Int} (hf : 0 ≤ f ∧ f < 2) : ofI (bgN g t c u) v x y f = foI g v x y f (-1) := by
  have g0 := hG.2.1
  have e1 : ofI (bgN g t c u) v x y f = nR (foS g v x y f) (fun r => if r < g 0 then g (10 + r) else 0) (-1) ((8 : Int).toNat) (-1) := by
    unfold ofI
    refine nR_cong _ _ (fun r h0 h1 => bgN_len h0 (by omega)) (fun r p s h0 h1 h2 h3 => ?_)
    have h3' : p < bgN g t c u (600 + r) := h3
    rw [bgN_len h0 (by omega)] at h3'
    have hp : p < 12 := by
      split at h3'
      · have := hG.2.2 r h0 (by omega); omega
      · omega
    unfold ofS foS
    rw [(show 610 + 72 * r + 6 * p = 610 + (72 * r + 6 * p) by omega), bgN_old (by omega) (by omega), (show 610 + (72 * r + 6 * p) + 1 = 610 + (72 * r + 6 * p + 1) by omega), bgN_old (by omega) (by omega), (show 610 + (72 * r + 6 * p) + 2 = 610 + (72 * r + 6 * p + 2) by omega), bgN_old (by omega) (by omega), (show 610 + (72 * r + 6 * p) + 4 + f = 610 + (72 * r + 6 * p + (4 + f)) by omega), bgN_old (by omega) (by omega)]
    rw [(show 20 + (72 * r + 6 * p) = 20 + 72 * r + 6 * p + 0 by omega), (show 20 + (72 * r + 6 * p + 1) = 20 + 72 * r + 6 * p + 1 by omega), (show 20 + (72 * r + 6 * p + 2) = 20 + 72 * r + 6 * p + 2 by omega), (show 20 + (72 * r + 6 * p + (4 + f)) = 20 + 72 * r + 6 * p + (4 + f) by omega)]
  have e2 : ((8 : Int).toNat) = (g 0).toNat + (8 - (g 0).toNat) := by omega
  rw [e1, e2, nR_rest (fun r h => by (try dsimp only); rw [if_neg (by omega)]; exact Int.le_refl _)]
  unfold foI
  exact nR_cong _ _ (fun r h0 h1 => if_pos (by omega)) (fun _ _ _ _ _ _ _ => rfl)
/-- the run that begins -/
theorem beg_eq {L V A N mt mn rk_ ro ra rb : Int → Int} {y rz : Int} (H : HlH L V A N g t c u mt mn rk_ ro ra rb y (-1) rz) : RunR (nrmK 12 mt (-1)) (nrmK 12 mn (-1)) (nrmK 6 rk_ (-1)) (nrmK 6 ro (-1000)) (nrmK 96 ra 0) (nrmK 96 rb 0) rz (fun _ => 0) (fun _ => -1) (fun _ => -1000) 1 0 0 0 (bgN g t c u) := by
  obtain ⟨hR, hO, hX, hG, hT, hTh, hU, hK, hF, hz⟩ := H
  have b1 := bgN_1 (g := g) (t := t) (c := c) (u := u)
  refine Or.inr ⟨rfl, b1.1, ⟨b1.2.1, b1.2.2.1, b1.2.2.2.1, b1.2.2.2.2.1, b1.2.2.2.2.2⟩, by omega, fun j j0 j1 => ?_, fun v f hv hf => ?_, fun v s f hv hs hf => ?_, fun v v0 v1 => ?_, fun a a0 a1 => ?_⟩
  · have e := bgN_t (g := g) (t := t) (c := c) (u := u) j0 j1
    have h := hT j j0 j1
    rw [nrmK_in _ _ _ j0 j1, nrmK_in _ _ _ j0 j1, e.1, e.2.1]
    exact ⟨h.1, fun q => ⟨h.2.1 q, h.2.2.2.1 q⟩, h.2.2.1, h.2.2.2.2.1, h.2.2.2.2.2⟩
  · have e := (bgN_t (g := g) (t := t) (c := c) (u := u) (j := 4 * v + 2 * f) (by omega) (by omega)).2.2
    have e2 := (bgN_t (g := g) (t := t) (c := c) (u := u) (j := 4 * v + 2 * f + 1) (by omega) (by omega)).2.2
    rw [nrmK_in _ _ _ (by omega) (by omega), nrmK_in _ _ _ (by omega) (by omega), (show 1220 + 4 * v + 2 * f = 1220 + (4 * v + 2 * f) by omega), (show 1220 + (4 * v + 2 * f) + 1 = 1220 + (4 * v + 2 * f + 1) by omega), e, e2]
    have h := hK v f hv hf
    have h2 := hU v f hv hf
    have h3 := rkI_bd hG hX hf v (-1)
    rw [h.1, h.2, h2.1, h2.2]
    exact ⟨rfl, rfl, h3.1.1, h3.1.2⟩
  · rw [find_nrm ra hz, of_fo hG _ _ _ hf]
    rcases hF v s f hv hs hf with q | q
    · exact Or.inl q
    · have o := find_spec ra hz.1 v s
      rw [nrmK_in _ _ _ q.1 (by omega)]
      exact Or.inr q
  · exact ⟨(bgN_don v0 v1).symm, Int.le_refl _⟩
  · rw [bgN_lat a0 a1]
    exact ⟨rfl, Int.le_refl _⟩
end BG
/-- both stand-ins out of what the studies and the reference's machine and rules say -/
theorem HlH.of {L V A N g lr lp lr1 lp1 t1 c1 U mt mn rk_ ro ra rb : Int → Int} {y e la1 mr mz rk rz : Int} (hR : RelR L V A N y g) (hO : RowsOk L V A N y) (hX : ∀ i, 20 ≤ i → i < 596 → 0 ≤ g i ∧ g i < 100) (hG : AllOk g) (hl : lyI g e lr lp = (lr1, lp1, la1)) (hm : MacR g e mr lr1 lp1 la1 t1 c1) (hM : MacC L V N e y mz mt mn) (h1 : 1 ≤ mr) (hU : ∀ v f, 0 ≤ v ∧ v < 3 → 0 ≤ f ∧ f < 2 → U (4 * v + 2 * f) = (rkI g v f e).1 ∧ U (4 * v + 2 * f + 1) = (rkI g v f e).2) (hk : rk ≠ 0) (hS : StuR g e rk rz rk_ ro ra rb) (hz : 0 ≤ rz ∧ rz ≤ 96) : HlH L V A N g t1 c1 U mt mn rk_ ro ra rb y e rz := by
  have me := (mac_eq hR hO.1 hl hm hM).2 h1
  have mk := MacC.mk hO.2.2.2.2.2 hM
  have mp := MacC.pos hO.2.2.2.2.2 hM
  have s := hS hk
  refine ⟨hR, hO, hX, hG, fun j j0 j1 => ?_, fun st v hs hv ht => verb_there hR hO.1 hO.2.2.2.1 hM hs hv ht, hU, s.1, s.2, hz⟩
  have a := me j j0 j1
  have b := mk j j0 j1
  exact ⟨a.1, a.2.1, a.2.2, mp j j0 j1, b.1.1, b.1.2⟩
