/-! MINI KIT 3: makings, copies, switches -/
def cpI (f g : Int → Int) (z : Int) : Int → Int := fun j => if 0 ≤ j ∧ j < z then f j else g j
theorem va_RA_int {s : State} {a b : ClassId} (h1 : va_RA s a .int) (h2 : va_RA s b .int) : a = b := Option.some.inj (h1.symm.trans h2)
theorem va_RA_bool {s : State} {a b : ClassId} (h1 : va_RA s a .boolean) (h2 : va_RA s b .boolean) : a = b := Option.some.inj (h1.symm.trans h2)
theorem va_RA_obj {s : State} {a b : ClassId} {C : String} (h1 : va_RA s a (.object C)) (h2 : va_RA s b (.object C)) : a = b := by
  obtain ⟨_, _, _, _, _, h3⟩ := h1
  obtain ⟨_, _, _, _, _, h4⟩ := h2
  exact Option.some.inj (h3.symm.trans h4)
section G3
variable {E : qE} {own : String} {cc : ByteArray} {nL : Nat} {Ts : List Cond} {R : Room} {ini : Bool} {Rt : Option Value → va_W → Prop} {mc ms : Nat} {P : qP} {k n : Nat} {w : va_W} {pc : Nat} {lv : List (Nat × Value)} {st : List Value}
theorem g_objInit (G : Gd E own cc nL Ts R ini Rt mc ms P) {i a : Nat} (d : decode cc pc = .ok (.invokespecial i, 3)) (h1 : Cond.methodLink own i objectInit ∈ Ts) (h2 : Cond.instanceMethod objectInit ∈ Ts) (h3 : Cond.code objectInit ⟨#[0xb1]⟩ 1 none ∈ Ts) (h4 : 1 ≤ R.frames) (h5 : (st.map fun v => v.category).sum + 12 ≤ R.locals) (kk : P k n w (pc + 3) lv st) : P k n w pc lv (.ref a :: st) := by
  obtain ⟨p, e, s, m, args, below, meth, c, A, Q, ⟨hx, hb, hml, hown, hts, hE, hA⟩, hini, hP, hR⟩ := G
  exact (hP _ _ _ _ _ _).mpr (fun H locs ls g1 g2 g3 g4 => W.objInit hx hb hown (hts _ h1) (hts _ h2) (hts _ h3) rfl (by rw [hml]; exact g4.1) rfl d h4 (by show 2 * 0 + _ + 12 ≤ _; omega) ((hP _ _ _ _ _ _).mp kk H locs ls g1 g2 g3 g4))
theorem g_new (G : Gd E own cc nL Ts R ini Rt mc ms P) {C : String} {T : u_T} {N ci index : Nat} {ty : Nat → FieldType} (fs : List Value) (d : decode cc pc = .ok (.new index, 3)) (hin : ∀ w ∈ u_ws C T N, w ∈ Ts) (hty : ∀ k, k < N → parseFieldDescriptor (T k).2.2.1 = some (ty k)) (h1 : Cond.classLink own index C ∈ Ts) (h2 : Cond.instantiable C N ∈ Ts) (h3 : Cond.initialized C ∈ Ts) (hc : vwCl[ci]? = some (C, T, N)) (hfs : ∀ j, j < N → defaultValue (ty j) = vp_V fs j) (hk : k + 1 ≤ R.cells) (hn : n + N ≤ R.slots) (kk : ∀ q : Nat, P (k + 1) (n + N) (w ++ [(q, .inr (ci, fs))]) (pc + 3) lv (.ref q :: st)) : P k n w pc lv st := by
  obtain ⟨p, e, s, m, args, below, meth, c, A, Q, ⟨hx, hb, hml, hown, hts, hE, hA⟩, hini, hP, hR⟩ := G
  exact (hP _ _ _ _ _ _).mpr (fun H locs ls g1 g2 g3 g4 => va_new hx hb hts hin ty hty hown (hts _ h1) (hts _ h2) (hts _ h3) hE.1 g1 g2 g3 hA hc hfs hk hn d (fun q H g1 g2 g3 => (hP _ _ _ _ _ _).mp (kk q) H locs ls g1 g2 g3 g4))
theorem g_newi (G : Gd E own cc nL Ts R ini Rt mc ms P) {z : Int} (N : Nat) (d : decode cc pc = .ok (.newarray .int, 2)) (h1 : Cond.arrayClass .int ∈ Ts) (hz : z = N) (hN : N ≤ 100000) (hk : k + 1 ≤ R.cells) (hn : n + N ≤ R.slots) (kk : ∀ q : Nat, P (k + 1) (n + N) (w ++ [(q, ia E N (fun _ => 0))]) (pc + 2) lv (.ref q :: st)) : P k n w pc lv (.int (iI z) :: st) := by
  obtain ⟨p, e, s, m, args, below, meth, c, A, Q, ⟨hx, hb, hml, hown, hts, hE, hA⟩, hini, hP, hR⟩ := G
  subst hz
  refine (hP _ _ _ _ _ _).mpr (fun H locs ls g1 g2 g3 g4 => va_newa (atype := .int) (ty := .int) (a0 := (N, .inl (fun _ => iI 0))) hx hb (hts _ h1) rfl hE.1 g1 g2 g3 hA (fun cA => by rw [iI_0]; rfl) (by rw [← iI_0, iI_lt (by omega) (by omega)]; omega) (by rw [iI_clamp (by omega) (by omega)]; omega) (by rw [(show componentBytes .int = 4 from rfl)]; omega) hk hn d (fun q cA H g0 g1 g2 g3 => ?_))
  have e1 : cA = E.2.2.1 := va_RA_int (g0.2 3 (cA, .int) rfl).2 (hE.1.2 0 (E.2.2.1, .int) rfl).2
  subst e1
  exact (hP _ _ _ _ _ _).mp (kk q) H locs ls g1 g2 g3 g4
theorem g_newz (G : Gd E own cc nL Ts R ini Rt mc ms P) {z : Int} (N : Nat) (d : decode cc pc = .ok (.newarray .boolean, 2)) (h1 : Cond.arrayClass .boolean ∈ Ts) (hz : z = N) (hN : N ≤ 100000) (hk : k + 1 ≤ R.cells) (hn : n + N ≤ R.slots) (kk : ∀ q : Nat, P (k + 1) (n + N) (w ++ [(q, za E N (fun _ => 0))]) (pc + 2) lv (.ref q :: st)) : P k n w pc lv (.int (iI z) :: st) := by
  obtain ⟨p, e, s, m, args, below, meth, c, A, Q, ⟨hx, hb, hml, hown, hts, hE, hA⟩, hini, hP, hR⟩ := G
  subst hz
  refine (hP _ _ _ _ _ _).mpr (fun H locs ls g1 g2 g3 g4 => va_newa (atype := .boolean) (ty := .boolean) (a0 := (N, .inl (fun _ => iI 0))) hx hb (hts _ h1) rfl hE.1 g1 g2 g3 hA (fun cA => by rw [iI_0]; rfl) (by rw [← iI_0, iI_lt (by omega) (by omega)]; omega) (by rw [iI_clamp (by omega) (by omega)]; omega) (by rw [(show componentBytes .boolean = 1 from rfl)]; omega) hk hn d (fun q cA H g0 g1 g2 g3 => ?_))
  have e1 : cA = E.2.2.2.1 := va_RA_bool (g0.2 3 (cA, .boolean) rfl).2 (hE.1.2 1 (E.2.2.2.1, .boolean) rfl).2
  subst e1
  exact (hP _ _ _ _ _ _).mp (kk q) H locs ls g1 g2 g3 g4
theorem cpI_cpy (f g : Int → Int) {z : Int} (h0 : 0 ≤ z) (h1 : z < 2147483648) : va_cpy (fun k : Nat => iI (f (k : Int))) (fun k : Nat => iI (g (k : Int))) (iI 0).toNatClampNeg (iI 0).toNatClampNeg (iI z).toNatClampNeg = fun k : Nat => iI (cpI f g z (k : Int)) := by
  funext j
  rw [iI_clamp (by omega) (by omega), iI_clamp h0 h1]
  unfold va_cpy cpI
  have e0 : Int.toNat 0 = 0 := rfl
  rw [e0]
  by_cases h : (j : Int) < z
  · rw [if_pos ⟨Nat.zero_le _, by omega⟩, if_pos ⟨by omega, h⟩]
    have : ((0 + (j - 0) : Nat) : Int) = (j : Int) := by omega
    show iI (f ((0 + (j - 0) : Nat) : Int)) = _
    rw [this]
  · rw [if_neg (by omega), if_neg (by omega)]
theorem g_copy (G : Gd E own cc nL Ts R ini Rt mc ms P) (q0 q1 : Nat) {i a0 a1 N0 N1 : Nat} {f g : Int → Int} {z : Int} (w' : va_W) (d : decode cc pc = .ok (.invokestatic i, 3)) (h1 : Cond.methodLink own i arraycopyName ∈ Ts) (h2 : Cond.native arraycopyName ∈ Ts) (h3 : Cond.static arraycopyName ∈ Ts) (h4 : Cond.initialized "java/lang/System" ∈ Ts) (ha0 : w[q0]? = some (a0, ia E N0 f)) (ha1 : w[q1]? = some (a1, ia E N1 g)) (hz0 : 0 ≤ z) (hz1 : z ≤ N0) (hz2 : z ≤ N1) (hz3 : z < 2147483648) (hf : 1 ≤ R.frames) (hl : (st.map fun v => v.category).sum + (nativeFrameWords "java/lang/System" "arraycopy" 5 + 11) ≤ R.locals) (hw : w.set q1 (a1, ia E N1 (cpI f g z)) = w') (kk : P k n w' (pc + 3) lv st) : P k n w pc lv (.int (iI z) :: .int (iI 0) :: .ref a1 :: .int (iI 0) :: .ref a0 :: st) := by
  obtain ⟨p, e, s, m, args, below, meth, c, A, Q, ⟨hx, hb, hml, hown, hts, hE, hA⟩, hini, hP, hR⟩ := G
  subst hw
  have z0 : ¬ iI 0 < 0 := by rw [iI_0]; decide +kernel
  have zz : ¬ iI z < 0 := by rw [← iI_0, iI_lt (by omega) (by omega)]; omega
  have c0 : (iI 0).toNatClampNeg = 0 := by rw [iI_0]; rfl
  have cz : (iI z).toNatClampNeg = z.toNat := iI_clamp hz0 hz3
  refine (hP _ _ _ _ _ _).mpr (fun H locs ls g1 g2 g3 g4 => va_copyi hx hb (hml.trans g4.1.symm) hown (hts _ h1) (hts _ h2) (hts _ h3) (hts _ h4) hE.1 g1 g2 g3 q0 q1 0 0 ha0 ha1 (ty := .int) rfl rfl rfl z0 z0 zz (by rw [c0, cz]; omega) (by rw [c0, cz]; omega) (fun _ _ => rfl) hf hl d ?_)
  rw [cpI_cpy f g hz0 hz3]
  exact fun H locs g1 g2 g3 => (hP _ _ _ _ _ _).mp kk H locs ls g1 g2 g3 g4
theorem g_min (G : Gd E own cc nL Ts R ini Rt mc ms P) {i : Nat} {a b : Int} (r : Int) (d : decode cc pc = .ok (.invokestatic i, 3)) (h1 : Cond.methodLink own i Lib.Math.min.name ∈ Ts) (h2 : Cond.static Lib.Math.min.name ∈ Ts) (h3 : Cond.initialized "java/lang/Math" ∈ Ts) (h4 : Cond.code Lib.Math.min.name Lib.Math.min.code 2 (some .int) ∈ Ts) (hf : 1 ≤ R.frames) (hl : (st.map fun v => v.category).sum + 13 ≤ R.locals) (hk : k ≤ R.cells) (hn : n ≤ R.slots) (ha : -2147483648 ≤ a ∧ a < 2147483648) (hb : -2147483648 ≤ b ∧ b < 2147483648) (hr : (b < a → r = b) ∧ (a ≤ b → r = a)) (kk : P k n w (pc + 3) lv (.int (iI r) :: st)) : P k n w pc lv (.int (iI b) :: .int (iI a) :: st) := by
  obtain ⟨p, e, s, m, args, below, meth, c, A, Q, ⟨hx, hcb, hml, hown, hts, hE, hA⟩, hini, hP, hR⟩ := G
  refine (hP _ _ _ _ _ _).mpr (fun H locs ls g1 g2 g3 g4 => va_mmin hx hcb (hml.trans g4.1.symm) hown (hts _ h1) (hts _ h2) (hts _ h3) (hts _ h4) hf hl hk hn d ?_)
  have e1 : (if iI b < iI a then iI b else iI a) = iI r := by
    by_cases h : b < a
    · rw [if_pos ((iI_lt hb ha).mpr h), hr.1 h]
    · rw [if_neg (fun q => h ((iI_lt hb ha).mp q)), hr.2 (by omega)]
  rw [e1]
  exact (hP _ _ _ _ _ _).mp kk H locs ls g1 g2 g3 g4
theorem g_max (G : Gd E own cc nL Ts R ini Rt mc ms P) {i : Nat} {a b : Int} (r : Int) (d : decode cc pc = .ok (.invokestatic i, 3)) (h1 : Cond.methodLink own i Lib.Math.max.name ∈ Ts) (h2 : Cond.static Lib.Math.max.name ∈ Ts) (h3 : Cond.initialized "java/lang/Math" ∈ Ts) (h4 : Cond.code Lib.Math.max.name Lib.Math.max.code 2 (some .int) ∈ Ts) (hf : 1 ≤ R.frames) (hl : (st.map fun v => v.category).sum + 13 ≤ R.locals) (hk : k ≤ R.cells) (hn : n ≤ R.slots) (ha : -2147483648 ≤ a ∧ a < 2147483648) (hb : -2147483648 ≤ b ∧ b < 2147483648) (hr : (a < b → r = b) ∧ (b ≤ a → r = a)) (kk : P k n w (pc + 3) lv (.int (iI r) :: st)) : P k n w pc lv (.int (iI b) :: .int (iI a) :: st) := by
  obtain ⟨p, e, s, m, args, below, meth, c, A, Q, ⟨hx, hcb, hml, hown, hts, hE, hA⟩, hini, hP, hR⟩ := G
  refine (hP _ _ _ _ _ _).mpr (fun H locs ls g1 g2 g3 g4 => va_mmax hx hcb (hml.trans g4.1.symm) hown (hts _ h1) (hts _ h2) (hts _ h3) (hts _ h4) hf hl hk hn d ?_)
  have e1 : (if iI a < iI b then iI b else iI a) = iI r := by
    by_cases h : a < b
    · rw [if_pos ((iI_lt ha hb).mpr h), hr.1 h]
    · rw [if_neg (fun q => h ((iI_lt ha hb).mp q)), hr.2 (by omega)]
  rw [e1]
  exact (hP _ _ _ _ _ _).mp kk H locs ls g1 g2 g3 g4
theorem g_tsIn (G : Gd E own cc nL Ts R ini Rt mc ms P) {a lo hi dflt : Int} {offs : Array Int} {len : Nat} (c off : Int) (tgt : Nat) (d : decode cc pc = .ok (.tableswitch dflt lo hi offs, len)) (he : a = c) (h1 : lo ≤ c) (h2 : c ≤ hi) (hr : -2147483648 ≤ c ∧ c < 2147483648) (ho : offs[(c - lo).toNat]? = some off) (ht : (pc : Int) + off = (tgt : Int)) (kk : P k n w tgt lv st) : P k n w pc lv (.int (iI a) :: st) := by
  subst he
  exact G.one (fun _ _ _ _ _ _ _ _ _ _ _ _ hx hb _ _ h => lv_tableIn hx hb d (by rw [iI_toInt hr]; omega) (by rw [iI_toInt hr]; omega) (by rw [iI_toInt hr]; exact ho) ht h) kk
theorem g_tsOut (G : Gd E own cc nL Ts R ini Rt mc ms P) {a lo hi dflt : Int} {offs : Array Int} {len : Nat} (tgt : Nat) (d : decode cc pc = .ok (.tableswitch dflt lo hi offs, len)) (hr : -2147483648 ≤ a ∧ a < 2147483648) (h : a < lo ∨ hi < a) (ht : (pc : Int) + dflt = (tgt : Int)) (kk : P k n w tgt lv st) : P k n w pc lv (.int (iI a) :: st) :=
  G.one (fun _ _ _ _ _ _ _ _ _ _ _ _ hx hb _ _ hh => lv_tableOut hx hb d (by rw [iI_toInt hr]; exact h) ht hh) kk
/-- other cells, by their places -/
theorem g_sub (G : Gd E own cc nL Ts R ini Rt mc ms P) (is : List Nat) (w' : va_W) (hnd : va_nd is = true) (hs : is.map (fun i => w[i]?) = w'.map some) (kk : P k n w' pc lv st) : P k n w pc lv st := by
  obtain ⟨p, e, s, m, args, below, meth, c, A, Q, ⟨hx, hb, hml, hown, hts, hE, hA⟩, hini, hP, hR⟩ := G
  refine (hP _ _ _ _ _ _).mpr (fun H locs ls g1 g2 g3 g4 => (hP _ _ _ _ _ _).mp kk H locs ls ?_ (g2.sub is hnd hs) g3 g4)
  intro j q hj
  have h1 : (is.map (fun i => w[i]?))[j]? = some (some q) := by rw [hs, List.getElem?_map, hj]; rfl
  rw [List.getElem?_map] at h1
  cases hi : is[j]? with
  | none => rw [hi] at h1; cases h1
  | some i => rw [hi] at h1; exact g1 i q (Option.some.inj h1)
end G3
section G4
variable {E : qE} {own : String} {cc : ByteArray} {nL : Nat} {Ts : List Cond} {R : Room} {ini : Bool} {Rt : Option Value → va_W → Prop} {mc ms : Nat} {P : qP} {k n : Nat} {w : va_W} {pc : Nat} {lv : List (Nat × Value)} {st : List Value}
variable {y : MethodName} {ws ws' : List Cond} {rm : Room} {index maxL b : Nat} {bytes : ByteArray} {wc wr : va_W} {RtC : Option Value → va_W → Prop} {mc' ms' : Nat}
/-- a making's <init>, of a nest mate: its cells come behind the rest -/
theorem g_callIN (G : Gd E own cc nL Ts R ini Rt mc ms P) (ps rs : List Nat) (rest : List Value) {host : String} (hC : Cn E y ws rm [.ref b] wc RtC mc' ms') (d : decode cc pc = .ok (.invokespecial index, 3)) (hg : GoodIn Ts ws) (hl : Cond.methodLinkNest own index y host ∈ NW) (hi1 : Cond.initialized y.cls ∈ Ts) (hi2 : Cond.instanceMethod y ∈ Ts) (hyn : y.name = "<init>") (hcw : Cw Ts R k n y ws ws' rm bytes maxL none 0 mc' ms' rest)
    (hps : ps.map (fun i => w[i]?) = wc.map some) (hnd : va_nd ps = true) (hrs : rs.map (fun i => w[i]?) = wr.map some) (hnr : va_nd rs = true) (hdis : ∀ i ∈ rs, i ∉ ps) (hst : st = .ref b :: rest)
    (kk : ∀ (v : Option Value) (w1 : va_W), RtC v w1 → P (k + mc') (n + ms') (wr ++ w1) (pc + 3) lv (v.toList ++ rest)) : P k n w pc lv st := by
  obtain ⟨p, e, s, m, args, below, meth, c, A, Q, ⟨hx, hb, hml, hown, hts, hE, hA⟩, hini, hP, hR⟩ := G
  subst hst
  obtain ⟨hw, hrm, hd, hroom, hcat, hcs⟩ := hcw
  refine (hP _ _ _ _ _ _).mpr (fun H locs ls g1 g2 g3 g4 => ?_)
  have hPc : va_P E.2.1 vwCl wc H := by
    intro j q hj
    have h1 : (ps.map (fun i => w[i]?))[j]? = some (some q) := by rw [hps, List.getElem?_map, hj]; rfl
    rw [List.getElem?_map] at h1
    cases hi : ps[j]? with
    | none => rw [hi] at h1; cases h1
    | some i => rw [hi] at h1; exact g1 i q (Option.some.inj h1)
  have hDc : va_D A wc := g2.sub ps hnd hps
  have hF := va_free (wc := wc) g2 g3 hA ps hps
  refine cn_run (A := A) (RtC := RtC) (D := E.2.1) (wc := wc) (rest := rest) (va_runIN (As := []) (rest := rest) ⟨hx, hb, hml, hown, hts⟩ (hC H.size) ⟨va_cnB 0 hts hg hw hrm.1 hrm.2 (hE.2.1 _ hl) (hts _ hi1) hd hroom, hyn, hts _ hi2⟩ ⟨cn_blind, fun U hU hW => ⟨rfl, by rw [hU], by rw [hU]; exact hPc, Ev.warm hW hE, hDc.weaken (fun _ _ _ _ => trivial)⟩⟩ rfl rfl g4.1 rfl (lv_room hcat) d hcs) g3 hF (fun v w1 H1 locs1 hr hP1 hD1 hk1 hS1 => ?_)
  obtain ⟨h5, h6⟩ := va_join g1 g2 ps rs hps hrs hnr hdis hk1 hF hP1 hD1
  exact (hP _ _ _ _ _ _).mp (kk v w1 hr) H1 locs1 ls h5 h6 hS1 g4
/-- the same, of a public kind -/
theorem g_callI (G : Gd E own cc nL Ts R ini Rt mc ms P) (ps rs : List Nat) (rest : List Value) (hC : Cn E y ws rm [.ref b] wc RtC mc' ms') (d : decode cc pc = .ok (.invokespecial index, 3)) (hg : GoodIn Ts ws) (hl : Cond.methodLink own index y ∈ Ts) (hi1 : Cond.initialized y.cls ∈ Ts) (hi2 : Cond.instanceMethod y ∈ Ts) (hyn : y.name = "<init>") (hcw : Cw Ts R k n y ws ws' rm bytes maxL none 0 mc' ms' rest)
    (hps : ps.map (fun i => w[i]?) = wc.map some) (hnd : va_nd ps = true) (hrs : rs.map (fun i => w[i]?) = wr.map some) (hnr : va_nd rs = true) (hdis : ∀ i ∈ rs, i ∉ ps) (hst : st = .ref b :: rest)
    (kk : ∀ (v : Option Value) (w1 : va_W), RtC v w1 → P (k + mc') (n + ms') (wr ++ w1) (pc + 3) lv (v.toList ++ rest)) : P k n w pc lv st := by
  obtain ⟨p, e, s, m, args, below, meth, c, A, Q, ⟨hx, hb, hml, hown, hts, hE, hA⟩, hini, hP, hR⟩ := G
  subst hst
  obtain ⟨hw, hrm, hd, hroom, hcat, hcs⟩ := hcw
  refine (hP _ _ _ _ _ _).mpr (fun H locs ls g1 g2 g3 g4 => ?_)
  have hPc : va_P E.2.1 vwCl wc H := by
    intro j q hj
    have h1 : (ps.map (fun i => w[i]?))[j]? = some (some q) := by rw [hps, List.getElem?_map, hj]; rfl
    rw [List.getElem?_map] at h1
    cases hi : ps[j]? with
    | none => rw [hi] at h1; cases h1
    | some i => rw [hi] at h1; exact g1 i q (Option.some.inj h1)
  have hDc : va_D A wc := g2.sub ps hnd hps
  have hF := va_free (wc := wc) g2 g3 hA ps hps
  refine cn_run (A := A) (RtC := RtC) (D := E.2.1) (wc := wc) (rest := rest) (va_runI (As := []) (rest := rest) ⟨hx, hb, hml, hown, hts⟩ (hC H.size) (cwI 0 hts hg hw hrm.1 hrm.2 (hts _ hi1) (hts _ hl) (hts _ hi2) hyn hd hroom) ⟨cn_blind, fun U hU hW => ⟨rfl, by rw [hU], by rw [hU]; exact hPc, Ev.warm hW hE, hDc.weaken (fun _ _ _ _ => trivial)⟩⟩ rfl rfl g4.1 rfl (lv_room hcat) d hcs) g3 hF (fun v w1 H1 locs1 hr hP1 hD1 hk1 hS1 => ?_)
  obtain ⟨h5, h6⟩ := va_join g1 g2 ps rs hps hrs hnr hdis hk1 hF hP1 hD1
  exact (hP _ _ _ _ _ _).mp (kk v w1 hr) H1 locs1 ls h5 h6 hS1 g4
theorem g_newq (G : Gd E own cc nL Ts R ini Rt mc ms P) {z : Int} (N : Nat) {i : Nat} (d : decode cc pc = .ok (.anewarray i, 3)) (h1 : Cond.classLink own i RX0 ∈ Ts) (hz : z = N) (hN : N ≤ 100000) (hk : k + 1 ≤ R.cells) (hn : n + N ≤ R.slots) (kk : ∀ q : Nat, P (k + 1) (n + N) (w ++ [(q, qa E N (fun _ => none))]) (pc + 3) lv (.ref q :: st)) : P k n w pc lv (.int (iI z) :: st) := by
  obtain ⟨p, e, s, m, args, below, meth, c, A, Q, ⟨hx, hb, hml, hown, hts, hE, hA⟩, hini, hP, hR⟩ := G
  subst hz
  refine (hP _ _ _ _ _ _).mpr (fun H locs ls g1 g2 g3 g4 => va_newq hx hb hown (hts _ h1) hE.2.2 hE.1 g1 g2 g3 hA (by rw [← iI_0, iI_lt (by omega) (by omega)]; omega) (N' := N) (by rw [iI_clamp (by omega) (by omega)]; omega) (by omega) hk hn d (fun q cA H g0 g1 g2 g3 => ?_))
  have e1 : cA = E.2.2.2.2 := va_RA_obj (g0.2 3 (cA, .object RX0) rfl).2 (hE.1.2 2 (E.2.2.2.2, .object RX0) rfl).2
  subst e1
  exact (hP _ _ _ _ _ _).mp (kk q) H locs ls g1 g2 g3 g4
end G4
section G5
variable {E : qE} {own : String} {cc : ByteArray} {nL : Nat} {Ts : List Cond} {R : Room} {ini : Bool} {Rt : Option Value → va_W → Prop} {mc ms : Nat} {P : qP} {k n : Nat} {w : va_W} {pc : Nat} {lv : List (Nat × Value)} {st : List Value}
theorem g_ifb_eq (G : Gd E own cc nL Ts R ini Rt mc ms P) {X : Prop} [Decidable X] {off : Int} (tgt : Nat) (d : decode cc pc = .ok (.ifCond .eq off, 3)) (ht : (pc : Int) + off = (tgt : Int)) (k1 : ¬ X → P k n w tgt lv st) (k2 : X → P k n w (pc + 3) lv st) : P k n w pc lv (.int (iI (if X then 1 else 0)) :: st) := by
  by_cases h : X
  · exact g_if_eq G tgt d ht (by rw [if_pos h]; omega) (fun q => by rw [if_pos h] at q; exact absurd q (by decide)) (fun _ => k2 h)
  · exact g_if_eq G tgt d ht (by rw [if_neg h]; omega) (fun _ => k1 h) (fun q => absurd (if_neg h) q)
theorem g_ifb_ne (G : Gd E own cc nL Ts R ini Rt mc ms P) {X : Prop} [Decidable X] {off : Int} (tgt : Nat) (d : decode cc pc = .ok (.ifCond .ne off, 3)) (ht : (pc : Int) + off = (tgt : Int)) (k1 : X → P k n w tgt lv st) (k2 : ¬ X → P k n w (pc + 3) lv st) : P k n w pc lv (.int (iI (if X then 1 else 0)) :: st) := by
  by_cases h : X
  · exact g_if_ne G tgt d ht (by rw [if_pos h]; omega) (fun _ => k1 h) (fun q => by rw [if_pos h] at q; exact absurd q (by decide))
  · exact g_if_ne G tgt d ht (by rw [if_neg h]; omega) (fun q => absurd (if_neg h) q) (fun _ => k2 h)
end G5
