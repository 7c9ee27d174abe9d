/-! WEIGHTS: how rare the codes below a node are -/
def rarI (kc : Int → Int) (v c : Int) : Int := if 0 < kc (v * 4 + c) ∧ 0 < kc (v * 4) + kc (v * 4 + 1) + kc (v * 4 + 2) + kc (v * 4 + 3) then 1000000 / kc (v * 4 + c) - 1000000 / (kc (v * 4) + kc (v * 4 + 1) + kc (v * 4 + 2) + kc (v * 4 + 3)) else 0
/-- how many nodes have this verb and this code -/
def KcO (vb cd : Int → Int) (nd : Int) (kc : Int → Int) : Prop := ∀ j, 0 ≤ j → j < 12 → kc j = cA (fun i => vb (i + 1) * 4 + cd (i + 1)) j (nd - 1).toNat
theorem cA_four (g : Int → Int) (j : Int) : ∀ n : Nat, cA g j n + cA g (j + 1) n + cA g (j + 2) n + cA g (j + 3) n ≤ n
  | 0 => by show (0 : Int) + 0 + 0 + 0 ≤ ((0 : Nat) : Int); omega
  | n + 1 => by
    have h := cA_four g j n
    unfold cA
    (repeat' split) <;> omega
def dvB (a b : Nat) : Bool := !(decide (1 ≤ a) && decide (a ≤ b)) || (decide (1000000 / b ≤ 1000000 / a) && decide (1000000 / a ≤ 1000000) && (!(decide (a < b)) || decide (1000000 / b + 109 ≤ 1000000 / a)))
theorem dvB_all : ((List.range 97).all fun a => (List.range 97).all fun b => dvB a b) = true := by decide +kernel
theorem dv_all {a b : Nat} (ha : a < 97) (hb : b < 97) (h1 : 1 ≤ a) (h2 : a ≤ b) : 1000000 / b ≤ 1000000 / a ∧ 1000000 / a ≤ 1000000 ∧ (a < b → 1000000 / b + 109 ≤ 1000000 / a) := by
  have q := List.all_eq_true.mp (List.all_eq_true.mp dvB_all a (List.mem_range.mpr ha)) b (List.mem_range.mpr hb)
  unfold dvB at q
  rw [decide_eq_true h1, decide_eq_true h2] at q
  have q2 : (decide (1000000 / b ≤ 1000000 / a) && decide (1000000 / a ≤ 1000000) && (!(decide (a < b)) || decide (1000000 / b + 109 ≤ 1000000 / a))) = true := q
  rw [Bool.and_eq_true, Bool.and_eq_true] at q2
  refine ⟨of_decide_eq_true q2.1.1, of_decide_eq_true q2.1.2, fun h3 => ?_⟩
  have q3 := q2.2
  rw [decide_eq_true h3] at q3
  exact of_decide_eq_true q3
theorem dv_int (a : Nat) : ((1000000 / a : Nat) : Int) = (1000000 : Int) / (a : Int) := by first | rfl | exact Int.natCast_ediv 1000000 a | exact Int.ofNat_ediv 1000000 a
theorem dv_rng {a b : Int} (ha : 1 ≤ a) (hb : a ≤ b) (h : b ≤ 96) : 0 ≤ (1000000 : Int) / a - 1000000 / b ∧ (1000000 : Int) / a - 1000000 / b ≤ 1000000 ∧ (a < b → 109 ≤ (1000000 : Int) / a - 1000000 / b) := by
  have q := dv_all (a := a.toNat) (b := b.toNat) (by omega) (by omega) (by omega) (by omega)
  have e1 := dv_int a.toNat
  have e2 := dv_int b.toNat
  rw [(show ((a.toNat : Nat) : Int) = a by omega)] at e1
  rw [(show ((b.toNat : Nat) : Int) = b by omega)] at e2
  generalize 1000000 / a.toNat = u9 at q e1
  generalize 1000000 / b.toNat = v9 at q e2
  rw [← e1, ← e2]
  omega
section WG
variable {vb cd kc pa wt : Int → Int} {nd k : Int}
theorem KcO.bd (h : KcO vb cd nd kc) (hnd : 1 ≤ nd ∧ nd ≤ 97) {v : Int} (hv : 0 ≤ v ∧ v < 3) : (0 ≤ kc (v * 4) ∧ 0 ≤ kc (v * 4 + 1) ∧ 0 ≤ kc (v * 4 + 2) ∧ 0 ≤ kc (v * 4 + 3)) ∧ kc (v * 4) + kc (v * 4 + 1) + kc (v * 4 + 2) + kc (v * 4 + 3) ≤ 96 := by
  have a := cA_four (fun i => vb (i + 1) * 4 + cd (i + 1)) (v * 4) (nd - 1).toNat
  have b0 := cA_bd (fun i => vb (i + 1) * 4 + cd (i + 1)) (v * 4) (nd - 1).toNat
  have b1 := cA_bd (fun i => vb (i + 1) * 4 + cd (i + 1)) (v * 4 + 1) (nd - 1).toNat
  have b2 := cA_bd (fun i => vb (i + 1) * 4 + cd (i + 1)) (v * 4 + 2) (nd - 1).toNat
  have b3 := cA_bd (fun i => vb (i + 1) * 4 + cd (i + 1)) (v * 4 + 3) (nd - 1).toNat
  rw [h (v * 4) (by omega) (by omega), h (v * 4 + 1) (by omega) (by omega), h (v * 4 + 2) (by omega) (by omega), h (v * 4 + 3) (by omega) (by omega)]
  omega
theorem KcO.pos (h : KcO vb cd nd kc) (hv : ∀ k, 0 ≤ vb k ∧ vb k < 3) (hc : ∀ k, 0 ≤ cd k ∧ cd k < 4) (hk : 1 ≤ k ∧ k < nd) : 1 ≤ kc (vb k * 4 + cd k) := by
  have a := hv k
  have b := hc k
  rw [h (vb k * 4 + cd k) (by omega) (by omega)]
  have e := cA_lt (g := fun i => vb (i + 1) * 4 + cd (i + 1)) (m := vb k * 4 + cd k) (i := (k - 1).toNat) (n := (nd - 1).toNat) (by omega) (by (try dsimp only); rw [(show (((k - 1).toNat : Nat) : Int) + 1 = k by omega)])
  have f := cA_bd (fun i => vb (i + 1) * 4 + cd (i + 1)) (vb k * 4 + cd k) (k - 1).toNat
  omega
theorem KcO.one (h : KcO vb cd nd kc) (hnd : 1 ≤ nd ∧ nd ≤ 97) {v c : Int} (hv : 0 ≤ v ∧ v < 3) (hc : 0 ≤ c ∧ c < 4) : 0 ≤ kc (v * 4 + c) ∧ kc (v * 4 + c) ≤ kc (v * 4) + kc (v * 4 + 1) + kc (v * 4 + 2) + kc (v * 4 + 3) := by
  have a := h.bd hnd hv
  rcases (show c = 0 ∨ c = 1 ∨ c = 2 ∨ c = 3 by omega) with q | q | q | q <;> subst q
  · rw [(show v * 4 + 0 = v * 4 by omega)]; omega
  · omega
  · omega
  · omega
theorem rar_bd (h : KcO vb cd nd kc) (hnd : 1 ≤ nd ∧ nd ≤ 97) {v c : Int} (hv : 0 ≤ v ∧ v < 3) (hc : 0 ≤ c ∧ c < 4) : 0 ≤ rarI kc v c ∧ rarI kc v c ≤ 1000000 := by
  have a := h.bd hnd hv
  have b := h.one hnd hv hc
  unfold rarI
  split
  · rename_i q
    have d := dv_rng (a := kc (v * 4 + c)) (b := kc (v * 4) + kc (v * 4 + 1) + kc (v * 4 + 2) + kc (v * 4 + 3)) (by omega) b.2 a.2
    exact ⟨d.1, d.2.1⟩
  · omega
/-- a verb of more than one code -/
theorem rar_ge (h : KcO vb cd nd kc) (hnd : 1 ≤ nd ∧ nd ≤ 97) (hv : ∀ k, 0 ≤ vb k ∧ vb k < 3) (hc : ∀ k, 0 ≤ cd k ∧ cd k < 4) {k2 : Int} (hk : 1 ≤ k ∧ k < nd) (hk2 : 1 ≤ k2 ∧ k2 < nd) (e : vb k2 = vb k) (ne : cd k2 ≠ cd k) : 109 ≤ rarI kc (vb k) (cd k) := by
  have a := h.bd hnd (hv k)
  have b := h.one hnd (hv k) (hc k)
  have p1 := h.pos hv hc hk
  have p2 := h.pos hv hc hk2
  rw [e] at p2
  have c1 := hc k
  have c2 := hc k2
  have lt : kc (vb k * 4 + cd k) < kc (vb k * 4) + kc (vb k * 4 + 1) + kc (vb k * 4 + 2) + kc (vb k * 4 + 3) := by
    rcases (show cd k = 0 ∨ cd k = 1 ∨ cd k = 2 ∨ cd k = 3 by omega) with q | q | q | q <;> rcases (show cd k2 = 0 ∨ cd k2 = 1 ∨ cd k2 = 2 ∨ cd k2 = 3 by omega) with w | w | w | w <;> rw [q] at p1 ⊢ <;> rw [w] at p2 <;> first | (rw [Int.add_zero] at p1 ⊢; omega) | (rw [Int.add_zero] at p2; omega) | omega
  have d := dv_rng (a := kc (vb k * 4 + cd k)) (b := kc (vb k * 4) + kc (vb k * 4 + 1) + kc (vb k * 4 + 2) + kc (vb k * 4 + 3)) p1 b.2 a.2
  unfold rarI
  rw [if_pos ⟨by omega, by omega⟩]
  exact d.2.2 lt
/-- every node behind k has added its weight to its parent's -/
def WgL (pa vb cd : Int → Int) (nd : Int) (kc wt : Int → Int) (k : Int) : Prop :=
  (∀ j, 0 ≤ j → j < 97 → 0 ≤ wt j) ∧ (∀ j, k < j → j < nd → rarI kc (vb j) (cd j) + wt j * 2 / 3 ≤ wt (pa j)) ∧ sN (fun j => if j ≤ k then 3 * wt j else wt j) 97 ≤ 3000000 * (nd - 1 - k)
theorem WgL.bd (h : WgL pa vb cd nd kc wt k) (hk : 0 ≤ k ∧ k < 97) (hnd : nd ≤ 97) : 0 ≤ wt k ∧ wt k ≤ 288000000 := by
  have a := sN_ge (f := fun j => if j ≤ k then 3 * wt j else wt j) (i := k) hk.1 97 (by omega) (fun j j0 j1 => by
    have := h.1 j j0 j1
    (try dsimp only)
    split <;> omega)
  (try dsimp only at a)
  rw [if_pos (Int.le_refl k)] at a
  have c := h.1 k hk.1 hk.2
  have d := h.2.2
  omega
theorem WgL.init (kc wt : Int → Int) : WgL pa vb cd nd kc (fiI wt 97 0) (nd - 1) := by
  have z : ∀ j, 0 ≤ j → j < 97 → fiI wt 97 0 j = 0 := fun j j0 j1 => by unfold fiI; rw [if_pos ⟨j0, j1⟩]
  refine ⟨fun j j0 j1 => by rw [z j j0 j1]; omega, fun j j0 j1 => by omega, ?_⟩
  have e : sN (fun j => if j ≤ nd - 1 then 3 * fiI wt 97 0 j else fiI wt 97 0 j) 97 = sN (fun _ => 0) 97 := sN_same 97 (fun j j0 j1 => by
    (try dsimp only)
    rw [z j j0 j1]
    split <;> rfl)
  have e2 : sN (fun _ => 0) 97 = 0 := by decide +kernel
  rw [e, e2]
  omega
theorem WgL.next (h : WgL pa vb cd nd kc wt k) (hnd : nd ≤ 97) (hk : 1 ≤ k ∧ k < nd) (hp : 0 ≤ pa k ∧ pa k < k) (hpa : ∀ j, 1 ≤ j → j < nd → 0 ≤ pa j ∧ pa j < j) (hr : 0 ≤ rarI kc (vb k) (cd k) ∧ rarI kc (vb k) (cd k) ≤ 1000000) : WgL pa vb cd nd kc (upI wt (pa k) (wt (pa k) + (rarI kc (vb k) (cd k) + wt k * 2 / 3))) (k - 1) := by
  have bk := h.bd (by omega) hnd
  obtain ⟨h1, h2, h3⟩ := h
  have bp := h1 (pa k) hp.1 (by omega)
  refine ⟨fun j j0 j1 => ?_, fun j j0 j1 => ?_, ?_⟩
  · have := h1 j j0 j1
    unfold upI
    split <;> omega
  · have hj : upI wt (pa k) (wt (pa k) + (rarI kc (vb k) (cd k) + wt k * 2 / 3)) j = wt j := upI_ne _ _ (by omega)
    rw [hj]
    by_cases w : j = k
    · rw [w, upI_same]; omega
    · have a := h2 j (by omega) j1
      by_cases y : pa j = pa k
      · rw [y, upI_same]; rw [y] at a; omega
      · rw [upI_ne _ _ y]; exact a
  · have e : sN (fun j => if j ≤ k - 1 then 3 * upI wt (pa k) (wt (pa k) + (rarI kc (vb k) (cd k) + wt k * 2 / 3)) j else upI wt (pa k) (wt (pa k) + (rarI kc (vb k) (cd k) + wt k * 2 / 3)) j) 97 = sN (upI (upI (fun j => if j ≤ k then 3 * wt j else wt j) (pa k) (3 * (wt (pa k) + (rarI kc (vb k) (cd k) + wt k * 2 / 3)))) k (wt k)) 97 := sN_same 97 (fun j j0 j1 => by
      (try dsimp only)
      by_cases w : j = k
      · rw [w, upI_same, if_neg (by omega), upI_ne _ _ (by omega)]
      · rw [upI_ne _ _ w]
        by_cases y : j = pa k
        · rw [y, upI_same, upI_same, if_pos (by omega)]
        · rw [upI_ne _ _ y, upI_ne _ _ y]
          by_cases u : j ≤ k
          · rw [if_pos u, if_pos (by omega)]
          · rw [if_neg u, if_neg (by omega)])
    rw [e, sN_up _ (by omega) 97 (by omega), sN_up _ hp.1 97 (by omega), upI_ne _ _ (by omega)]
    (try dsimp only)
    rw [if_pos (show pa k ≤ k by omega), if_pos (Int.le_refl k)]
    omega
/-- weights that tell what can fail -/
def WgF (pa vb cd : Int → Int) (nd : Int) (wt : Int → Int) : Prop :=
  ∃ kc, KcO vb cd nd kc ∧ ∀ j, 1 ≤ j → j < nd → rarI kc (vb j) (cd j) + wt j * 2 / 3 ≤ wt (pa j)
theorem WgL.fin (hK : KcO vb cd nd kc) (h : WgL pa vb cd nd kc wt k) (hk : k = 0) (hnd : 1 ≤ nd ∧ nd ≤ 97) : WtO wt ∧ WgF pa vb cd nd wt := by
  subst hk
  obtain ⟨h1, h2, h3⟩ := h
  refine ⟨⟨h1, ?_⟩, kc, hK, fun j j0 j1 => h2 j (by omega) j1⟩
  have e : sN (fun j => if j ≤ 0 then 3 * wt j else wt j) 97 = sN (upI wt 0 (3 * wt 0)) 97 := sN_same 97 (fun j j0 j1 => by
    (try dsimp only)
    by_cases w : j = 0
    · rw [w, upI_same, if_pos (by omega)]
    · rw [upI_ne _ _ w, if_neg (by omega)])
  have f := sN_up (f := wt) (3 * wt 0) (Int.le_refl 0) 97 (by omega)
  have g := h1 0 (by omega) (by omega)
  rw [e, f] at h3
  omega
end WG
theorem KcO.init {vb cd : Int → Int} (kc : Int → Int) : ∀ j : Int, 0 ≤ j → j < 12 → fiI kc 12 0 j = cA (fun i => vb (i + 1) * 4 + cd (i + 1)) j (1 - 1 : Int).toNat := by
  intro j j0 j1
  unfold fiI
  rw [if_pos ⟨j0, j1⟩]
  rfl
theorem KcO.next {vb cd kc : Int → Int} {k : Int} (hk : 1 ≤ k) (h : ∀ j, 0 ≤ j → j < 12 → kc j = cA (fun i => vb (i + 1) * 4 + cd (i + 1)) j (k - 1).toNat) : ∀ j, 0 ≤ j → j < 12 → upI kc (vb k * 4 + cd k) (kc (vb k * 4 + cd k) + 1) j = cA (fun i => vb (i + 1) * 4 + cd (i + 1)) j (k + 1 - 1).toNat := by
  intro j j0 j1
  have a := h j j0 j1
  rw [(show (k + 1 - 1).toNat = (k - 1).toNat + 1 by omega)]
  show _ = cA (fun i => vb (i + 1) * 4 + cd (i + 1)) j (k - 1).toNat + (if vb ((((k - 1).toNat : Nat) : Int) + 1) * 4 + cd ((((k - 1).toNat : Nat) : Int) + 1) = j then 1 else 0)
  rw [(show (((k - 1).toNat : Nat) : Int) + 1 = k by omega), ← a]
  by_cases w : vb k * 4 + cd k = j
  · rw [if_pos w, w, upI_same]
  · rw [if_neg w, upI_ne _ _ (fun z => w z.symm)]
    omega
