/-! MINI KIT 2: calls -/
theorem nw_kind : ∀ w ∈ NW, (∃ (a : String) (i : Nat) (b n d h : String), w = Cond.fieldLinkNest a i b n d h) ∨ ∃ (a : String) (i : Nat) (x : MethodName) (h : String), w = Cond.methodLinkNest a i x h := by
  intro w hw
  simp only [NW, List.mem_cons, List.not_mem_nil, or_false] at hw
  rcases hw with rfl | rfl | rfl | rfl | rfl | rfl | rfl | rfl | rfl | rfl | rfl | rfl | rfl | rfl | rfl | rfl | rfl | rfl | rfl <;> first | exact Or.inl ⟨_, _, _, _, _, _, rfl⟩ | exact Or.inr ⟨_, _, _, _, rfl⟩
theorem Ev.warm {E : qE} {s U : State} (hW : s.WarmedH U.vm) (h : Ev E s) : Ev E U := by
  refine ⟨va_K.moved hW.alike h.1, fun w hw => ?_, va_AO.moved hW.alike h.2.2⟩
  have h2 := h.2.1 w hw
  rcases nw_kind w hw with ⟨a, i, b, n, d, z, rfl⟩ | ⟨a, i, x, z, rfl⟩
  · exact va_Nw.warmF hW h2
  · exact va_Nw.warmM hW h2
theorem Ev.same {E : qE} {s U : State} (hV : s.vm = U.vm) (h : Ev E s) : Ev E U := by
  refine ⟨va_K.moved (by rw [hV]; exact Vm.Alike.refl U.vm) h.1, fun w hw => ?_, va_AO.moved (by rw [hV]; exact Vm.Alike.refl U.vm) h.2.2⟩
  have h2 := h.2.1 w hw
  rcases nw_kind w hw with ⟨a, i, b, n, d, z, rfl⟩ | ⟨a, i, x, z, rfl⟩
  · exact va_Nw.same rfl hV h2
  · exact va_Nw.same rfl hV h2
/-- the caller's new world w', out of the old one w, when the callee's cells wc at the places ps came back as w1 -/
def Wn (ps rs : List Nat) (N : Nat) (wr wc w1 w' : va_W) : Prop := w1.map Prod.fst = wc.map Prod.fst ∧ ps.map (fun i => w'[i]?) = w1.map some ∧ rs.map (fun i => w'[i]?) = wr.map some ∧ w'.length = N
def cov (ps rs : List Nat) (N : Nat) : Bool := (List.range N).all (fun i => decide (i ∈ ps) || decide (i ∈ rs))
theorem map_at {w wc : va_W} {ps : List Nat} (hC : ps.map (fun i => w[i]?) = wc.map some) {j i : Nat} (hj : ps[j]? = some i) : ∃ q, wc[j]? = some q ∧ w[i]? = some q := by
  have h1 : (ps.map (fun i => w[i]?))[j]? = some (w[i]?) := by rw [List.getElem?_map, hj]; rfl
  rw [hC, List.getElem?_map] at h1
  cases hw : wc[j]? with
  | none => rw [hw] at h1; cases h1
  | some q => rw [hw] at h1; exact ⟨q, rfl, (Option.some.inj h1).symm⟩
theorem map_in {w wc : va_W} {ps : List Nat} (hC : ps.map (fun i => w[i]?) = wc.map some) {j : Nat} {q : Nat × va_E} (hj : wc[j]? = some q) : ∃ i, ps[j]? = some i ∧ w[i]? = some q := by
  have h1 : (ps.map (fun i => w[i]?))[j]? = some (some q) := by rw [hC, List.getElem?_map, hj]; rfl
  rw [List.getElem?_map] at h1
  cases hw : ps[j]? with
  | none => rw [hw] at h1; cases h1
  | some i => rw [hw] at h1; exact ⟨i, rfl, Option.some.inj h1⟩
/-- behind a call whose callee's cells keep their places -/
theorem wn_join {A0 : Nat → Prop} {D : va_G} {cl : List vw_C} {w wc w1 w' : va_W} {H H1 : Heap} (hP : va_P D cl w H) (hD : va_D A0 w) (ps rs : List Nat) {N : Nat} {wr : va_W} (hC : ps.map (fun i => w[i]?) = wc.map some) (hRR : rs.map (fun i => w[i]?) = wr.map some) (hcov : cov ps rs N = true)
    (hk : ∀ q : Nat, q < H.size → ¬ va_A wc H.size q → H1[q]? = H[q]?) (hP1 : va_P D cl w1 H1) (hW : Wn ps rs N wr wc w1 w') : va_P D cl w' H1 ∧ va_D A0 w' := by
  obtain ⟨ha, hn, hr, hl⟩ := hW
  have hadr : ∀ (j : Nat) (q q1 : Nat × va_E), wc[j]? = some q → w1[j]? = some q1 → q1.1 = q.1 := by
    intro j q q1 h1 h2
    have e1 : (w1.map Prod.fst)[j]? = some q1.1 := by rw [List.getElem?_map, h2]; rfl
    rw [ha, List.getElem?_map, h1] at e1
    exact (Option.some.inj e1).symm
  -- a cell of w': of the callee's, or an old one
  have key : ∀ (i : Nat) (q : Nat × va_E), w'[i]? = some q → (∃ (j : Nat) (q0 : Nat × va_E), w1[j]? = some q ∧ wc[j]? = some q0 ∧ w[i]? = some q0) ∨ (w[i]? = some q ∧ i ∉ ps) := by
    intro i q hq
    by_cases hi : i ∈ ps
    · obtain ⟨j, hj⟩ := List.getElem?_of_mem hi
      obtain ⟨q1, h1, h2⟩ := map_at hn hj
      obtain ⟨q0, h3, h4⟩ := map_at hC hj
      rw [hq] at h2
      cases h2
      exact Or.inl ⟨j, q0, h1, h3, h4⟩
    · have hlt : i < N := by
        rw [← hl]
        exact (List.getElem?_eq_some_iff.mp hq).1
      have h5 := List.all_eq_true.mp hcov i (List.mem_range.mpr hlt)
      have hi2 : i ∈ rs := by simpa [hi] using h5
      obtain ⟨j, hj⟩ := List.getElem?_of_mem hi2
      have e1 : (rs.map (fun i => w'[i]?))[j]? = some (w'[i]?) := by rw [List.getElem?_map, hj]; rfl
      rw [hr, ← hRR, List.getElem?_map, hj] at e1
      have e2 : w[i]? = w'[i]? := Option.some.inj e1
      exact Or.inr ⟨e2.trans hq, hi⟩
  have old : ∀ (i : Nat) (x : Nat × va_E), w'[i]? = some x → ∃ x0, w[i]? = some x0 ∧ x0.1 = x.1 := by
    intro i x hx
    rcases key i x hx with ⟨j, q0, h1, h2, h3⟩ | ⟨h1, h2⟩
    · exact ⟨q0, h3, (hadr j q0 x h2 h1).symm⟩
    · exact ⟨x, h1, rfl⟩
  refine ⟨fun i q hq => ?_, fun i j x y hi hj hxy => ?_, fun i q hq => ?_⟩
  · rcases key i q hq with ⟨j, q0, h1, h2, h3⟩ | ⟨h1, h2⟩
    · exact hP1 j q h1
    · have hl := (hP i q h1).lt
      refine (hP i q h1).kept (hk q.1 hl (fun h => ?_))
      rcases h with ⟨j, e, h⟩ | h
      · obtain ⟨i2, h3, h4⟩ := map_in hC h
        have := hD.1 i i2 q (q.1, e) h1 h4 rfl
        subst this
        exact h2 (List.mem_of_getElem? h3)
      · omega
  · obtain ⟨x0, h1, h2⟩ := old i x hi
    obtain ⟨y0, h3, h4⟩ := old j y hj
    exact hD.1 i j x0 y0 h1 h3 (h2.trans (hxy.trans h4.symm))
  · obtain ⟨x0, h1, h2⟩ := old i q hq
    rw [← h2]
    exact hD.2 i x0 h1
section CR
variable {p : Program} {l : Launch} {e : Env} {R : Room} {s : State} {m : MethodId} {args : Array Value} {below : List Frame} {meth : Method} {c : Code} {H : Heap} {locs : List Loc} {cells slots : Nat} {Q : State → Prop}
variable {pc : Nat} {ls : Array Slot} {rest st0 : List Value} {a : Array Value} {A : Nat → Prop} {mc ms : Nat} {D : va_G} {wc : va_W} {RtC : Option Value → va_W → Prop}
theorem cn_run (hr : va_Run p l e R s m args below meth c H locs cells slots mc ms (F0 m pc ls st0) rest (fun (st : State) (oc : Outcome) (t : State) => (∃ (v : Option Value) (w' : va_W), oc = .returned v ∧ RtC v w' ∧ va_P D vwCl w' t.heap ∧ va_D (va_A wc H.size) w') ∧ va_F (va_A wc H.size) st t) (va_A wc H.size))
    (hS : va_S A s.heap H locs) (hF : ∀ q, va_A wc H.size q → A q)
    (kk : ∀ (v : Option Value) (w1 : va_W) (H1 : Heap) (locs1 : List Loc), RtC v w1 → va_P D vwCl w1 H1 → va_D (va_A wc H.size) w1 → (∀ q : Nat, q < H.size → ¬ va_A wc H.size q → H1[q]? = H[q]?) → va_S A s.heap H1 locs1 → W p l e R s m args below meth c H1 locs1 (cells + mc) (slots + ms) Q (F0 m (pc + 3) ls (v.toList ++ rest))) : W p l e R s m args below meth c H locs cells slots Q (F0 m pc ls st0) := by
  intro T hT X
  obtain ⟨v, st₀, t, T', L, h0, X', hL, e1, e2, ⟨⟨v', w', hv, hp, hb, hd⟩, hz, hk⟩, st⟩ := hr T hT X
  cases hv
  rw [h0] at hz hk
  obtain ⟨t2, a1, b1⟩ := kk v w' T'.heap (locs ++ L) hp (by rw [e1]; exact hb) hd (fun q h1 h2 => by rw [e1]; exact hk q h1 h2)
    ⟨Nat.le_trans hS.1 (by rw [e1]; exact hz), fun q h1 h2 => by rw [e1, hk q (Nat.lt_of_lt_of_le h1 hS.1) (fun z => h2 (hF q z))]; exact hS.2.1 q h1 h2, fun q hq => by
      rcases List.mem_append.mp hq with h | h
      · exact hS.2.2 q h
      · exact hF _ (hL q h)⟩ T' rfl X'
  exact ⟨t2, st t2 a1, b1⟩
theorem cn_blind {E : qE} {av : List Value} {sz : Nat} {w : va_W} : FrameBlind (va_Pc av (fun U => U.heap.size = sz ∧ va_P E.2.1 vwCl w U.heap ∧ Ev E U ∧ va_D (fun _ => True) w)) := by
  intro a U g mk q
  obtain ⟨q0, q1, qP, qK, qD⟩ := q
  exact ⟨q0, q1, qP, Ev.same (s := U) (U := U.calling g mk a) rfl qK, qD⟩
end CR
section GC
variable {E : qE} {own : String} {cc : ByteArray} {nL : Nat} {Ts : List Cond} {R : Room} {ini : Bool} {Rt : Option Value → va_W → Prop} {mc ms : Nat} {P : qP} {k n : Nat} {w : va_W} {pc : Nat} {lv : List (Nat × Value)} {st : List Value}
variable {y : MethodName} {ws ws' : List Cond} {rm : Room} {index maxL nA b : Nat} {C : String} {bytes : ByteArray} {ret : Option FieldType} {As rest : List Value} {wc : va_W} {RtC : Option Value → va_W → Prop} {mc' ms' : Nat}
/-- what every call wants: the callee's contract, its words, its room -/
def Cw (Ts : List Cond) (R : Room) (k n : Nat) (y : MethodName) (ws ws' : List Cond) (rm : Room) (bytes : ByteArray) (maxL : Nat) (ret : Option FieldType) (nA mc' ms' : Nat) (rest : List Value) : Prop :=
  ws = Cond.code y bytes maxL ret :: ws' ∧ (rm.cells = mc' ∧ rm.slots = ms') ∧ (y.cls ≠ "java/lang/invoke/MethodHandle" ∧ y.cls ≠ "java/lang/invoke/VarHandle" ∧ (parseMethodDescriptor y.desc).map (fun d => d.parameters.length) = some nA) ∧ (rm.frames + 1 ≤ R.frames ∧ 8 + (maxL + 11) + rm.locals ≤ R.locals) ∧ (rest.map fun v => v.category).sum ≤ 8 ∧ (k + mc' ≤ R.cells ∧ n + ms' ≤ R.slots)
theorem g_callV (G : Gd E own cc nL Ts R ini Rt mc ms P) (ps rs : List Nat) (N : Nat) (wr : va_W) (As rest : List Value) (hC : Cn E y ws rm (.ref b :: As) wc RtC mc' ms') (d : decode cc pc = .ok (.invokevirtual index, 3)) (hg : GoodIn Ts (wsV own index C y ws)) (hcw : Cw Ts R k n y ws ws' rm bytes maxL ret As.length mc' ms' rest) (hy : y.cls = C)
    {ci : Nat} {fs : List Value} {qc : vw_C} (he : wc[0]? = some (b, .inr (ci, fs))) (hc : vwCl[ci]? = some qc) (hq : qc.1 = C) (hps : ps.map (fun i => w[i]?) = wc.map some) (hnd : va_nd ps = true) (hRR : rs.map (fun i => w[i]?) = wr.map some) (hcov : cov ps rs N = true) (hst : st = As.reverse ++ .ref b :: rest)
    (kk : ∀ (v : Option Value) (w1 : va_W), RtC v w1 → ∃ w', Wn ps rs N wr wc w1 w' ∧ P (k + mc') (n + ms') w' (pc + 3) lv (v.toList ++ rest)) : P k n w pc lv st := by
  obtain ⟨p, e, s, m, args, below, meth, c, A, Q, ⟨hx, hb, hml, hown, hts, hE, hA⟩, hini, hP, hR⟩ := G
  subst hst; subst hq
  obtain ⟨hw, hrm, hd, hroom, hcat, hcs⟩ := hcw
  refine (hP _ _ _ _ _ _).mpr (fun H locs ls g1 g2 g3 g4 => ?_)
  have hPc : va_P E.2.1 vwCl wc H := by
    intro j q hj
    have h1 : (ps.map (fun i => w[i]?))[j]? = some (some q) := by rw [hps, List.getElem?_map, hj]; rfl
    rw [List.getElem?_map] at h1
    cases hi : ps[j]? with
    | none => rw [hi] at h1; cases h1
    | some i => rw [hi] at h1; exact g1 i q (Option.some.inj h1)
  have hDc : va_D A wc := g2.sub ps hnd hps
  have hF := va_free (wc := wc) g2 g3 hA ps hps
  refine cn_run (A := A) (RtC := RtC) (D := E.2.1) (wc := wc) (rest := rest) (va_runV (As := As) (rest := rest) ⟨hx, hb, hml, hown, hts⟩ (hC H.size) (cwV As.length hts hg hw hrm.1 hrm.2 ⟨hy, hd⟩ hroom) ⟨cn_blind, va_recv hE.1 hPc hc he, fun U hU hW => ⟨rfl, by rw [hU], by rw [hU]; exact hPc, Ev.warm hW hE, hDc.weaken (fun _ _ _ _ => trivial)⟩⟩ rfl rfl g4.1 rfl (lv_room hcat) d hcs) g3 hF (fun v w1 H1 locs1 hr hP1 hD1 hk1 hS1 => ?_)
  obtain ⟨w2, k1, k2⟩ := kk v w1 hr
  obtain ⟨h5, h6⟩ := wn_join g1 g2 ps rs hps hRR hcov hk1 hP1 k1
  exact (hP _ _ _ _ _ _).mp k2 H1 locs1 ls h5 h6 hS1 g4
theorem g_callS (G : Gd E own cc nL Ts R ini Rt mc ms P) (ps rs : List Nat) (N : Nat) (wr : va_W) (As rest : List Value) (hC : Cn E y ws rm As wc RtC mc' ms') (d : decode cc pc = .ok (.invokestatic index, 3)) (hg : GoodIn Ts (va_wsS own index y ws)) (hcw : Cw Ts R k n y ws ws' rm bytes maxL ret As.length mc' ms' rest)
    (hps : ps.map (fun i => w[i]?) = wc.map some) (hnd : va_nd ps = true) (hRR : rs.map (fun i => w[i]?) = wr.map some) (hcov : cov ps rs N = true) (hst : st = As.reverse ++ rest)
    (kk : ∀ (v : Option Value) (w1 : va_W), RtC v w1 → ∃ w', Wn ps rs N wr wc w1 w' ∧ P (k + mc') (n + ms') w' (pc + 3) lv (v.toList ++ rest)) : P k n w pc lv st := by
  obtain ⟨p, e, s, m, args, below, meth, c, A, Q, ⟨hx, hb, hml, hown, hts, hE, hA⟩, hini, hP, hR⟩ := G
  subst hst
  obtain ⟨hw, hrm, hd, hroom, hcat, hcs⟩ := hcw
  refine (hP _ _ _ _ _ _).mpr (fun H locs ls g1 g2 g3 g4 => ?_)
  have hPc : va_P E.2.1 vwCl wc H := by
    intro j q hj
    have h1 : (ps.map (fun i => w[i]?))[j]? = some (some q) := by rw [hps, List.getElem?_map, hj]; rfl
    rw [List.getElem?_map] at h1
    cases hi : ps[j]? with
    | none => rw [hi] at h1; cases h1
    | some i => rw [hi] at h1; exact g1 i q (Option.some.inj h1)
  have hDc : va_D A wc := g2.sub ps hnd hps
  have hF := va_free (wc := wc) g2 g3 hA ps hps
  refine cn_run (A := A) (RtC := RtC) (D := E.2.1) (wc := wc) (rest := rest) (va_runS (As := As) (rest := rest) ⟨hx, hb, hml, hown, hts⟩ (hC H.size) (va_cwS As.length hts hg hw hrm.1 hrm.2 hd hroom) ⟨cn_blind, fun U hU hW => ⟨rfl, by rw [hU], by rw [hU]; exact hPc, Ev.warm hW hE, hDc.weaken (fun _ _ _ _ => trivial)⟩⟩ rfl rfl g4.1 rfl (lv_room hcat) d hcs) g3 hF (fun v w1 H1 locs1 hr hP1 hD1 hk1 hS1 => ?_)
  obtain ⟨w2, k1, k2⟩ := kk v w1 hr
  obtain ⟨h5, h6⟩ := wn_join g1 g2 ps rs hps hRR hcov hk1 hP1 k1
  exact (hP _ _ _ _ _ _).mp k2 H1 locs1 ls h5 h6 hS1 g4
theorem g_callSN (G : Gd E own cc nL Ts R ini Rt mc ms P) (ps rs : List Nat) (N : Nat) (wr : va_W) (As rest : List Value) {host : String} (hC : Cn E y ws rm As wc RtC mc' ms') (d : decode cc pc = .ok (.invokestatic index, 3)) (hg : GoodIn Ts ws) (hl : Cond.methodLinkNest own index y host ∈ NW) (hi1 : Cond.initialized y.cls ∈ Ts) (hi2 : Cond.static y ∈ Ts) (hcw : Cw Ts R k n y ws ws' rm bytes maxL ret As.length mc' ms' rest)
    (hps : ps.map (fun i => w[i]?) = wc.map some) (hnd : va_nd ps = true) (hRR : rs.map (fun i => w[i]?) = wr.map some) (hcov : cov ps rs N = true) (hst : st = As.reverse ++ rest)
    (kk : ∀ (v : Option Value) (w1 : va_W), RtC v w1 → ∃ w', Wn ps rs N wr wc w1 w' ∧ P (k + mc') (n + ms') w' (pc + 3) lv (v.toList ++ rest)) : P k n w pc lv st := by
  obtain ⟨p, e, s, m, args, below, meth, c, A, Q, ⟨hx, hb, hml, hown, hts, hE, hA⟩, hini, hP, hR⟩ := G
  subst hst
  obtain ⟨hw, hrm, hd, hroom, hcat, hcs⟩ := hcw
  refine (hP _ _ _ _ _ _).mpr (fun H locs ls g1 g2 g3 g4 => ?_)
  have hPc : va_P E.2.1 vwCl wc H := by
    intro j q hj
    have h1 : (ps.map (fun i => w[i]?))[j]? = some (some q) := by rw [hps, List.getElem?_map, hj]; rfl
    rw [List.getElem?_map] at h1
    cases hi : ps[j]? with
    | none => rw [hi] at h1; cases h1
    | some i => rw [hi] at h1; exact g1 i q (Option.some.inj h1)
  have hDc : va_D A wc := g2.sub ps hnd hps
  have hF := va_free (wc := wc) g2 g3 hA ps hps
  refine cn_run (A := A) (RtC := RtC) (D := E.2.1) (wc := wc) (rest := rest) (va_runSN (As := As) (rest := rest) ⟨hx, hb, hml, hown, hts⟩ (hC H.size) ⟨va_cnB As.length hts hg hw hrm.1 hrm.2 (hE.2.1 _ hl) (hts _ hi1) hd hroom, hts _ hi2, trivial⟩ ⟨cn_blind, fun U hU hW => ⟨rfl, by rw [hU], by rw [hU]; exact hPc, Ev.warm hW hE, hDc.weaken (fun _ _ _ _ => trivial)⟩⟩ rfl rfl g4.1 rfl (lv_room hcat) d hcs) g3 hF (fun v w1 H1 locs1 hr hP1 hD1 hk1 hS1 => ?_)
  obtain ⟨w2, k1, k2⟩ := kk v w1 hr
  obtain ⟨h5, h6⟩ := wn_join g1 g2 ps rs hps hRR hcov hk1 hP1 k1
  exact (hP _ _ _ _ _ _).mp k2 H1 locs1 ls h5 h6 hS1 g4
/-- the same state in other words -/
theorem g_to (k' n' : Nat) (w' : va_W) (lv' : List (Nat × Value)) (st' : List Value) (hk : k = k') (hn : n = n') (hw : w = w') (hl : lv = lv') (hs : st = st') (kk : P k' n' w' pc lv' st') : P k n w pc lv st := by
  subst hk; subst hn; subst hw; subst hl; subst hs; exact kk
theorem g_w (w' : va_W) (st' : List Value) (hw : w = w') (hs : st = st') (kk : P k n w' pc lv st') : P k n w pc lv st := by
  subst hw; subst hs; exact kk
end GC
theorem iI_b01 {r : Int} (h : r = 0 ∨ r = 1) : narrow .boolean (.int (iI r)) = .int (iI r) := by
  rcases h with rfl | rfl
  · decide +kernel
  · decide +kernel
