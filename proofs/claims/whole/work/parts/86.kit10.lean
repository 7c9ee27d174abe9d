/-! MINI KIT 10: cells in another order; a call whose cells stand ahead; the law's worlds -/
theorem lq_nodup : ∀ l : List Nat, (∀ (i j x : Nat), l[i]? = some x → l[j]? = some x → i = j) → l.Nodup
  | [], _ => List.nodup_nil
  | a :: l, h => by
    refine List.nodup_cons.mpr ⟨fun hm => ?_, lq_nodup l (fun i j x hi hj => ?_)⟩
    · obtain ⟨i, hi⟩ := List.getElem?_of_mem hm
      have := h 0 (i + 1) a (List.getElem?_cons_zero) (by rw [List.getElem?_cons_succ]; exact hi)
      omega
    · have := h (i + 1) (j + 1) x (by rw [List.getElem?_cons_succ]; exact hi) (by rw [List.getElem?_cons_succ]; exact hj)
      omega
theorem lq_nd : ∀ l : List Nat, l.Nodup → va_nd l = true
  | [], _ => rfl
  | a :: l, h => by
    have hh := List.nodup_cons.mp h
    show (decide (a ∉ l) && va_nd l) = true
    rw [lq_nd l hh.2, Bool.and_true, decide_eq_true_eq]
    exact hh.1
theorem lq_rg : ∀ (n s : Nat), va_nd (List.range' s n) = true
  | 0, _ => rfl
  | n + 1, s => by
    show (decide (s ∉ List.range' (s + 1) n) && va_nd (List.range' (s + 1) n)) = true
    rw [lq_rg n (s + 1), Bool.and_true, decide_eq_true_eq]
    intro h
    have := List.mem_range'_1.mp h
    omega
theorem vaP_perm {D : va_G} {cl : List vw_C} {w w' : va_W} {H : Heap} (h : w.Perm w') (hP : va_P D cl w H) : va_P D cl w' H := fun i q hq => by
  have m : q ∈ w := h.mem_iff.mpr (List.mem_of_getElem? hq)
  obtain ⟨j, hj⟩ := List.getElem?_of_mem m
  exact hP j q hj
theorem vaD_perm {A : Nat → Prop} {w w' : va_W} (h : w.Perm w') (hD : va_D A w) : va_D A w' := by
  have n : (w.map Prod.fst).Nodup := lq_nodup _ (fun i j x hi hj => by
    rw [List.getElem?_map] at hi hj
    cases h1 : w[i]? with
    | none => rw [h1] at hi; cases hi
    | some p =>
      cases h2 : w[j]? with
      | none => rw [h2] at hj; cases hj
      | some q =>
        rw [h1] at hi
        rw [h2] at hj
        exact hD.1 i j p q h1 h2 ((Option.some.inj hi).trans (Option.some.inj hj).symm))
  have n2 : (w'.map Prod.fst).Nodup := (h.map Prod.fst).nodup_iff.mp n
  refine ⟨fun i j p q hi hj e => ?_, fun i q hq => ?_⟩
  · refine va_nd_inj _ (lq_nd _ n2) i j p.1 ?_ ?_
    · rw [List.getElem?_map, hi]; rfl
    · rw [List.getElem?_map, hj, e]; rfl
  · have m : q ∈ w := h.mem_iff.mpr (List.mem_of_getElem? hq)
    obtain ⟨j, hj⟩ := List.getElem?_of_mem m
    exact hD.2 j q hj
section K10
variable {E : qE} {own : String} {cc : ByteArray} {nL : Nat} {Ts : List Cond} {R : Room} {ini : Bool} {Rt : Option Value → va_W → Prop} {mc ms : Nat} {P : qP} {k n : Nat} {pc : Nat} {lv : List (Nat × Value)} {st : List Value}
variable {y : MethodName} {ws ws' : List Cond} {rm : Room} {index maxL b : Nat} {C : String} {bytes : ByteArray} {ret : Option FieldType} {wc wr : va_W} {RtC : Option Value → va_W → Prop} {mc' ms' : Nat}
/-- the same cells in another order -/
theorem g_perm (G : Gd E own cc nL Ts R ini Rt mc ms P) {w w' : va_W} (h : w.Perm w') (kk : P k n w' pc lv st) : P k n w pc lv st := by
  obtain ⟨p, e, s, m, args, below, meth, c, A, Q, ⟨hx, hb, hml, hown, hts, hE, hA⟩, hin, hP, hR⟩ := G
  exact (hP _ _ _ _ _ _).mpr (fun H locs ls g1 g2 g3 g4 => (hP _ _ _ _ _ _).mp kk H locs ls (vaP_perm h g1) (vaD_perm h g2) g3 g4)
/-- a call whose cells stand ahead of the rest; it may make new ones -/
theorem g_callVA (G : Gd E own cc nL Ts R ini Rt mc ms P) (As rest : List Value) (hC : Cn E y ws rm (.ref b :: As) wc RtC mc' ms') (d : decode cc pc = .ok (.invokevirtual index, 3)) (hg : GoodIn Ts (wsV own index C y ws)) (hcw : Cw Ts R k n y ws ws' rm bytes maxL ret As.length mc' ms' rest) (hy : y.cls = C)
    {ci : Nat} {fs : List Value} {qc : vw_C} (he : wc[0]? = some (b, .inr (ci, fs))) (hc : vwCl[ci]? = some qc) (hq : qc.1 = C) (hst : st = As.reverse ++ .ref b :: rest)
    (kk : ∀ (v : Option Value) (w1 : va_W), RtC v w1 → P (k + mc') (n + ms') (wr ++ w1) (pc + 3) lv (v.toList ++ rest)) : P k n (wc ++ wr) pc lv st := by
  obtain ⟨p, e, s, m, args, below, meth, c, A, Q, ⟨hx, hb, hml, hown, hts, hE, hA⟩, hini, hP, hR⟩ := G
  subst hst; subst hq
  obtain ⟨hw, hrm, hd, hroom, hcat, hcs⟩ := hcw
  have hps : (List.range' 0 wc.length).map (fun i => (wc ++ wr)[i]?) = wc.map some := by
    have t := mapq_tail [] wc 0 wc rfl
    exact mapq_app t
  have hrs : (List.range' wc.length wr.length).map (fun i => (wc ++ wr)[i]?) = wr.map some := by
    have t := mapq_tail wc wr 0 wr rfl
    rw [Nat.add_zero] at t
    exact t
  refine (hP _ _ _ _ _ _).mpr (fun H locs ls g1 g2 g3 g4 => ?_)
  have hPc : va_P E.2.1 vwCl wc H := by
    intro j q hj
    obtain ⟨i, h1, h2⟩ := map_in hps hj
    exact g1 i q h2
  have hDc : va_D A wc := g2.sub _ (lq_rg _ _) hps
  have hF := va_free (wc := wc) g2 g3 hA _ hps
  refine cn_run (A := A) (RtC := RtC) (D := E.2.1) (wc := wc) (rest := rest) (va_runV (As := As) (rest := rest) ⟨hx, hb, hml, hown, hts⟩ (hC H.size) (cwV As.length hts hg hw hrm.1 hrm.2 ⟨hy, hd⟩ hroom) ⟨cn_blind, va_recv hE.1 hPc hc he, fun U hU hW => ⟨rfl, by rw [hU], by rw [hU]; exact hPc, Ev.warm hW hE, hDc.weaken (fun _ _ _ _ => trivial)⟩⟩ rfl rfl g4.1 rfl (lv_room hcat) d hcs) g3 hF (fun v w1 H1 locs1 hr hP1 hD1 hk1 hS1 => ?_)
  obtain ⟨h5, h6⟩ := va_join g1 g2 _ _ hps hrs (lq_rg _ _) (fun i hi hj => by
    have a := List.mem_range'_1.mp hi
    have b := List.mem_range'_1.mp hj
    omega) hk1 hF hP1 hD1
  exact (hP _ _ _ _ _ _).mp (kk v w1 hr) H1 locs1 ls h5 h6 hS1 g4
end K10
/-- contents by the cell's number -/
def upF (F : Nat → Int → Int) (i : Nat) (V : Int → Int) : Nat → Int → Int := fun j => cond (Nat.beq j i) V (F j)
/-- an image: its cells have the numbers 1 .. 19, as the class's own -/
def wI (E : qE) (ad : Nat → Nat) (F : Nat → Int → Int) : va_W := [((ad 1), .inr (0, [.ref (ad 2), .ref (ad 7)])), ((ad 2), .inr (4, [.ref (ad 3), .ref (ad 4), .ref (ad 5), .ref (ad 6), .int (iI ((F 2) 0))])), ((ad 3), ia E 8 (F 3)), ((ad 4), ia E 96 (F 4)), ((ad 5), ia E 96 (F 5)), ((ad 6), ia E 96 (F 6)), ((ad 7), .inr (7, [.ref (ad 8), .ref (ad 11), .ref (ad 16), .ref (ad 19), .int (iI ((F 7) 0)), .int (iI ((F 107) 0)), .int (iI ((F 207) 0)), .int (iI ((F 307) 0))])), ((ad 8), .inr (1, [.ref (ad 9), .ref (ad 10), .int (iI ((F 8) 0))])), ((ad 9), ia E 12 (F 9)), ((ad 10), ia E 12 (F 10)), ((ad 11), .inr (6, [.ref (ad 12), .ref (ad 13), .ref (ad 14), .ref (ad 15), .int (iI ((F 11) 0))])), ((ad 12), ia E 6 (F 12)), ((ad 13), ia E 6 (F 13)), ((ad 14), ia E 96 (F 14)), ((ad 15), ia E 96 (F 15)), ((ad 16), .inr (3, [.ref (ad 17), .ref (ad 18)])), ((ad 17), ia E 3 (F 17)), ((ad 18), ia E 100 (F 18)), ((ad 19), ia E 2 (F 19))]
/-- the class -/
def wX (E : qE) (ad : Nat → Nat) (io : Int → Option Nat) (F : Nat → Int → Int) : va_W := [((ad 0), .inr (9, [.ref (ad 1), .ref (ad 20), .ref (ad 21), .ref (ad 51), .ref (ad 81)])), ((ad 1), .inr (0, [.ref (ad 2), .ref (ad 7)])), ((ad 2), .inr (4, [.ref (ad 3), .ref (ad 4), .ref (ad 5), .ref (ad 6), .int (iI ((F 2) 0))])), ((ad 3), ia E 8 (F 3)), ((ad 4), ia E 96 (F 4)), ((ad 5), ia E 96 (F 5)), ((ad 6), ia E 96 (F 6)), ((ad 7), .inr (7, [.ref (ad 8), .ref (ad 11), .ref (ad 16), .ref (ad 19), .int (iI ((F 7) 0)), .int (iI ((F 107) 0)), .int (iI ((F 207) 0)), .int (iI ((F 307) 0))])), ((ad 8), .inr (1, [.ref (ad 9), .ref (ad 10), .int (iI ((F 8) 0))])), ((ad 9), ia E 12 (F 9)), ((ad 10), ia E 12 (F 10)), ((ad 11), .inr (6, [.ref (ad 12), .ref (ad 13), .ref (ad 14), .ref (ad 15), .int (iI ((F 11) 0))])), ((ad 12), ia E 6 (F 12)), ((ad 13), ia E 6 (F 13)), ((ad 14), ia E 96 (F 14)), ((ad 15), ia E 96 (F 15)), ((ad 16), .inr (3, [.ref (ad 17), .ref (ad 18)])), ((ad 17), ia E 3 (F 17)), ((ad 18), ia E 100 (F 18)), ((ad 19), ia E 2 (F 19)), ((ad 20), qa E 3 io), ((ad 21), .inr (8, [.ref (ad 22), .ref (ad 37), .ref (ad 43), .ref (ad 46), .int (iI ((F 21) 0)), .int (iI ((F 121) 0)), .int (iI ((F 221) 0))])), ((ad 22), .inr (2, [.ref (ad 23), .ref (ad 24), .ref (ad 25), .ref (ad 26), .ref (ad 27), .ref (ad 28), .ref (ad 29), .ref (ad 30), .ref (ad 31), .ref (ad 32), .ref (ad 33), .ref (ad 34), .ref (ad 35), .ref (ad 36), .int (iI ((F 22) 0)), .int (iI ((F 122) 0)), .int (iI ((F 222) 0))])), ((ad 23), ia E 97 (F 23)), ((ad 24), ia E 97 (F 24)), ((ad 25), ia E 97 (F 25)), ((ad 26), ia E 291 (F 26)), ((ad 27), ia E 12 (F 27)), ((ad 28), ia E 97 (F 28)), ((ad 29), ia E 97 (F 29)), ((ad 30), ia E 97 (F 30)), ((ad 31), ia E 97 (F 31)), ((ad 32), ia E 97 (F 32)), ((ad 33), ia E 12 (F 33)), ((ad 34), ia E 1164 (F 34)), ((ad 35), ia E 12 (F 35)), ((ad 36), ia E 12 (F 36)), ((ad 37), .inr (5, [.ref (ad 40), .ref (ad 38), .ref (ad 39)])), ((ad 38), ia E 30 (F 38)), ((ad 39), ia E 6 (F 39)), ((ad 40), .inr (3, [.ref (ad 41), .ref (ad 42)])), ((ad 41), ia E 3 (F 41)), ((ad 42), ia E 100 (F 42)), ((ad 43), .inr (1, [.ref (ad 44), .ref (ad 45), .int (iI ((F 43) 0))])), ((ad 44), ia E 12 (F 44)), ((ad 45), ia E 12 (F 45)), ((ad 46), .inr (6, [.ref (ad 47), .ref (ad 48), .ref (ad 49), .ref (ad 50), .int (iI ((F 46) 0))])), ((ad 47), ia E 6 (F 47)), ((ad 48), ia E 6 (F 48)), ((ad 49), ia E 96 (F 49)), ((ad 50), ia E 96 (F 50)), ((ad 51), .inr (8, [.ref (ad 52), .ref (ad 67), .ref (ad 73), .ref (ad 76), .int (iI ((F 51) 0)), .int (iI ((F 151) 0)), .int (iI ((F 251) 0))])), ((ad 52), .inr (2, [.ref (ad 53), .ref (ad 54), .ref (ad 55), .ref (ad 56), .ref (ad 57), .ref (ad 58), .ref (ad 59), .ref (ad 60), .ref (ad 61), .ref (ad 62), .ref (ad 63), .ref (ad 64), .ref (ad 65), .ref (ad 66), .int (iI ((F 52) 0)), .int (iI ((F 152) 0)), .int (iI ((F 252) 0))])), ((ad 53), ia E 97 (F 53)), ((ad 54), ia E 97 (F 54)), ((ad 55), ia E 97 (F 55)), ((ad 56), ia E 291 (F 56)), ((ad 57), ia E 12 (F 57)), ((ad 58), ia E 97 (F 58)), ((ad 59), ia E 97 (F 59)), ((ad 60), ia E 97 (F 60)), ((ad 61), ia E 97 (F 61)), ((ad 62), ia E 97 (F 62)), ((ad 63), ia E 12 (F 63)), ((ad 64), ia E 1164 (F 64)), ((ad 65), ia E 12 (F 65)), ((ad 66), ia E 12 (F 66)), ((ad 67), .inr (5, [.ref (ad 70), .ref (ad 68), .ref (ad 69)])), ((ad 68), ia E 30 (F 68)), ((ad 69), ia E 6 (F 69)), ((ad 70), .inr (3, [.ref (ad 71), .ref (ad 72)])), ((ad 71), ia E 3 (F 71)), ((ad 72), ia E 100 (F 72)), ((ad 73), .inr (1, [.ref (ad 74), .ref (ad 75), .int (iI ((F 73) 0))])), ((ad 74), ia E 12 (F 74)), ((ad 75), ia E 12 (F 75)), ((ad 76), .inr (6, [.ref (ad 77), .ref (ad 78), .ref (ad 79), .ref (ad 80), .int (iI ((F 76) 0))])), ((ad 77), ia E 6 (F 77)), ((ad 78), ia E 6 (F 78)), ((ad 79), ia E 96 (F 79)), ((ad 80), ia E 96 (F 80)), ((ad 81), .inr (7, [.ref (ad 82), .ref (ad 85), .ref (ad 90), .ref (ad 93), .int (iI ((F 81) 0)), .int (iI ((F 181) 0)), .int (iI ((F 281) 0)), .int (iI ((F 381) 0))])), ((ad 82), .inr (1, [.ref (ad 83), .ref (ad 84), .int (iI ((F 82) 0))])), ((ad 83), ia E 12 (F 83)), ((ad 84), ia E 12 (F 84)), ((ad 85), .inr (6, [.ref (ad 86), .ref (ad 87), .ref (ad 88), .ref (ad 89), .int (iI ((F 85) 0))])), ((ad 86), ia E 6 (F 86)), ((ad 87), ia E 6 (F 87)), ((ad 88), ia E 96 (F 88)), ((ad 89), ia E 96 (F 89)), ((ad 90), .inr (3, [.ref (ad 91), .ref (ad 92)])), ((ad 91), ia E 3 (F 91)), ((ad 92), ia E 100 (F 92)), ((ad 93), ia E 2 (F 93))]
/-- the reference -/
def wR (E : qE) (rd : Nat → Nat) (Z : Nat → Int → Int) : va_W := [((rd 0), .inr (10, [.ref (rd 1), .ref (rd 2), .ref (rd 3), .int (iI ((Z 0) 0)), .ref (rd 4), .ref (rd 5), .int (iI ((Z 100) 0)), .ref (rd 6), .ref (rd 7), .ref (rd 8), .ref (rd 9), .ref (rd 10), .ref (rd 11), .int (iI ((Z 200) 0)), .int (iI ((Z 300) 0))])), ((rd 1), ia E 5400 (Z 1)), ((rd 2), za E 3 (Z 2)), ((rd 3), ia E 12 (Z 3)), ((rd 4), ia E 96 (Z 4)), ((rd 5), ia E 96 (Z 5)), ((rd 6), ia E 12 (Z 6)), ((rd 7), ia E 12 (Z 7)), ((rd 8), ia E 12 (Z 8)), ((rd 9), ia E 12 (Z 9)), ((rd 10), ia E 12 (Z 10)), ((rd 11), ia E 12 (Z 11))]
def wJ (E : qE) (o : Option Nat) (ad : Nat → Nat) (F : Nat → Int → Int) : va_W := match o with | none => [] | some _ => wI E ad F
/-- the images that are there -/
def wT (E : qE) (io : Int → Option Nat) (ib : Int → Nat → Nat) (FI : Int → Nat → Int → Int) : va_W := wJ E (io 0) (ib 0) (FI 0) ++ (wJ E (io 1) (ib 1) (FI 1) ++ wJ E (io 2) (ib 2) (FI 2))
