def tpP (lp : Int → Int) (la : Int) : Int → Int := fun k => if 0 ≤ k ∧ k < la then lp k else 0
def tpV (g lr lp : Int → Int) (la : Int) : Int → Int := fun k => if 0 ≤ k ∧ k < la then g (20 + 72 * lr k + 6 * lp k + 0) else 0
def tpC (g lr lp : Int → Int) (la : Int) : Int → Int := fun k => if 0 ≤ k ∧ k < la then g (20 + 72 * lr k + 6 * lp k + 3) else 0
def TpOk (g lr lp : Int → Int) (la : Int) : Prop := ∀ k, 0 ≤ k ∧ k < la → (0 ≤ lr k ∧ lr k < 8) ∧ (0 ≤ lp k ∧ lp k < 12) ∧ 0 ≤ g (20 + 72 * lr k + 6 * lp k + 0) ∧ g (20 + 72 * lr k + 6 * lp k + 0) < 3
theorem tpV_bd {g lr lp : Int → Int} {la : Int} (h : TpOk g lr lp la) : ∀ i, 0 ≤ tpV g lr lp la i ∧ tpV g lr lp la i < 3 := by
  intro i
  unfold tpV
  split
  · rename_i q; exact (h i q).2.2
  · omega
theorem tp_cel (g lr lp t : Int → Int) {la a : Int} (h0 : 0 ≤ a) (h1 : a < la) : cel (tpP lp la) (tpV g lr lp la) t a.toNat = 3 * stt (tpP lp la) (tpV g lr lp la) t a.toNat + g (20 + 72 * lr a + 6 * lp a + 0) := by
  unfold cel
  rw [(show ((a.toNat : Nat) : Int) = a by omega)]
  congr 1
  exact if_pos ⟨h0, h1⟩
theorem tp_cd (g lr lp : Int → Int) {la a : Int} (h0 : 0 ≤ a) (h1 : a < la) : tpC g lr lp la a = g (20 + 72 * lr a + 6 * lp a + 3) := if_pos ⟨h0, h1⟩
theorem stt_0 {lp vb t : Int → Int} {la a : Int} (h0 : 0 ≤ a) (h1 : a < la) (q : lp a = 0) : stt (tpP lp la) vb t a.toNat = 0 := by
  have e : tpP lp la a = 0 := by unfold tpP; rw [if_pos ⟨h0, h1⟩]; exact q
  cases h : a.toNat with
  | zero => rfl
  | succ k =>
    show (if tpP lp la ((k + 1 : Nat) : Int) = 0 then 0 else _) = _
    rw [(show ((k + 1 : Nat) : Int) = a by omega), if_pos e]
theorem st_ne {lp : Int → Int} {la a s z : Int} (h0 : 0 ≤ a) (h1 : a < la) (q : lp a ≠ 0) (h : a < la.toNat → tpP lp la a = 0 ∨ s = z) : s = z := by
  rcases h (by omega) with y | y
  · unfold tpP at y; rw [if_pos ⟨h0, h1⟩] at y; exact absurd y q
  · exact y
def FdI (ps vb cd : Int → Int) (la : Nat) (n : Int) (t c ac co cs ut : Int → Int) (ch us a s : Int) : Prop :=
  (a = -1 ∧ ∀ τ, ¬ SolP ps vb cd la n τ) ∨ (0 ≤ a ∧ Srch ps vb cd la n t c ac co cs ut ch us a ∧ (a < la → ps a = 0 ∨ s = stt ps vb t a.toNat))
theorem FdI.go {ps vb cd t c ac co cs ut : Int → Int} {la : Nat} {n ch us a s : Int} (h : FdI ps vb cd la n t c ac co cs ut ch us a s) (h0 : 0 ≤ a) : Srch ps vb cd la n t c ac co cs ut ch us a ∧ (a < la → ps a = 0 ∨ s = stt ps vb t a.toNat) := by
  rcases h with h | h
  · omega
  · exact h.2
theorem Stk.neg {ps vb cd t c ac co cs ut : Int → Int} {la : Nat} {n ch m : Int} (h : Stk ps vb cd la n t c ac co cs ut ch) (hm : t m < 0) : t m = -1 := by
  rcases h.2.1 m with q | ⟨j, hj, q⟩
  · exact q
  · have := h.2.2.1 j hj
    rw [q] at this
    omega
/-- a told cell: which choice -/
theorem Stk.told {ps vb cd t c ac co cs ut : Int → Int} {la : Nat} {n ch m : Int} (h : Stk ps vb cd la n t c ac co cs ut ch) (hm : 0 ≤ t m) : ∃ j, (0 ≤ j ∧ j < ch) ∧ co j = m := by
  rcases h.2.1 m with q | q
  · omega
  · exact q
theorem FdI.next {ps vb cd t c ac co cs ut : Int → Int} {la : Nat} {n ch us a m : Int} (h : Srch ps vb cd la n t c ac co cs ut ch us (a + 1)) (h0 : 0 ≤ a) (he : cel ps vb t a.toNat = m) : FdI ps vb cd la n t c ac co cs ut ch us (a + 1) (t m) := by
  refine Or.inr ⟨by omega, h, fun _ => ?_⟩
  by_cases q : ps (a + 1) = 0
  · exact Or.inl q
  · refine Or.inr ?_
    rw [(show (a + 1).toNat = a.toNat + 1 by omega)]
    show _ = (if ps ((a.toNat + 1 : Nat) : Int) = 0 then 0 else t (cel ps vb t a.toNat))
    rw [(show ((a.toNat + 1 : Nat) : Int) = a + 1 by omega), if_neg q, he]
theorem FdI.back {ps vb cd c ac co ut cs t1 cs1 : Int → Int} {la : Nat} {n ch r ch1 us1 : Int} (h : TbR ps vb cd la n c ac co ut cs ch r t1 cs1 ch1 us1) (s : Int) : (r < 0 → FdI ps vb cd la n t1 c ac co cs1 ut ch1 us1 r s) ∧ (0 ≤ r → FdI ps vb cd la n t1 c ac co cs1 ut ch1 us1 r (cs1 (ch1 - 1)) ∧ (0 < ch1 ∧ ch1 ≤ 12) ∧ (0 ≤ cs1 (ch1 - 1) ∧ cs1 (ch1 - 1) < n) ∧ r ≤ la) := by
  rcases h with ⟨h1, h2⟩ | ⟨h1, h2, h3, h4, h5⟩
  · exact ⟨fun _ => Or.inl ⟨h1, h2⟩, fun q => by omega⟩
  · have a1 := h3.1.1
    have a3 := h3.1.2.2.1 (ch1 - 1) (by omega)
    refine ⟨fun q => by omega, fun q => ⟨Or.inr ⟨q, h3, fun _ => ?_⟩, by omega, a3.2.2.1, h1.2⟩⟩
    by_cases z : ps r = 0
    · exact Or.inl z
    · rw [h4, if_neg z]; exact Or.inr rfl
/-- how much is left of a search -/
def MUf (a : Int) (cs : Int → Int) (ch : Int) : Int := if a < 0 then 0 else (16777216 - loN cs ch.toNat) * 200 + (97 - a)
theorem Stk.lo {ps vb cd t c ac co cs ut : Int → Int} {la : Nat} {n ch : Int} (h : Stk ps vb cd la n t c ac co cs ut ch) (hn : n ≤ 4) : 0 ≤ loN cs ch.toNat ∧ loN cs ch.toNat < 16777216 := by
  have a1 := h.1
  have b1 := loN_nn (cs := cs) ch.toNat (fun j hj => (h.2.2.1 j (by omega)).2.2.1.1)
  have b2 := loN_top cs 0 ch.toNat (by omega) (fun j hj => by have := h.2.2.1 j (by omega); omega)
  have e0 : loN cs 0 = 0 := rfl
  have e1 : ((4 ^ (12 - 0) : Nat) : Int) = 16777216 := by decide
  have e2 : 0 < 4 ^ (12 - (0 + ch.toNat)) := Nat.pow_pos (by decide)
  rw [e0, e1, Nat.zero_add] at b2
  rw [Nat.zero_add] at e2
  omega
