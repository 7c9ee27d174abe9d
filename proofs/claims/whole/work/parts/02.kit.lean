/-! MINI KIT: the walk as an abstract predicate P over (cells, slots, world, pc, locals, stack), ints as Int -/
def iI (z : Int) : Int32 := Int32.ofInt z
abbrev qE : Type := Launch × va_G × ClassId × ClassId × ClassId
def ia (E : qE) (n : Nat) (V : Int → Int) : va_E := .inl (E.2.2.1, n, .inl (fun k : Nat => iI (V (k : Int))))
def za (E : qE) (n : Nat) (V : Int → Int) : va_E := .inl (E.2.2.2.1, n, .inl (fun k : Nat => iI (V (k : Int))))
def qa (E : qE) (n : Nat) (f : Int → Option Nat) : va_E := .inl (E.2.2.2.2, n, .inr (.inr (.inr (.inr (fun k => f (k : Int))))))
def upI (V : Int → Int) (i x : Int) : Int → Int := fun j => if j = i then x else V j
def tyS (E : qE) : List (ClassId × FieldType) := [(E.2.2.1, .int), (E.2.2.2.1, .boolean), (E.2.2.2.2, .object RX0)]
theorem upI_same (V : Int → Int) (i x : Int) : upI V i x i = x := if_pos rfl
theorem upI_ne (V : Int → Int) {i j : Int} (x : Int) (h : j ≠ i) : upI V i x j = V j := if_neg h
theorem upI_ap (V : Int → Int) (i x j : Int) : upI V i x j = if j = i then x else V j := rfl
theorem iI_toInt {z : Int} (h : -2147483648 ≤ z ∧ z < 2147483648) : (iI z).toInt = z := by
  unfold iI
  rw [Int32.toInt_ofInt]
  have e1 : (Int32.size : Nat) = 4294967296 := rfl
  exact Int.bmod_eq_of_le_mul_two (by omega) (by omega)
theorem iI_of (x : Int32) : x = iI x.toInt ∧ -2147483648 ≤ x.toInt ∧ x.toInt < 2147483648 := by
  refine ⟨(Int32.ofInt_toInt x).symm, ?_, ?_⟩
  · have := Int32.le_toInt x; omega
  · have := Int32.toInt_lt x; omega
theorem iI_add (a b : Int) : iI a + iI b = iI (a + b) := (Int32.ofInt_add a b).symm
theorem iI_sub (a b : Int) : iI a - iI b = iI (a - b) := (Int32.ofInt_sub a b).symm
theorem iI_mul (a b : Int) : iI a * iI b = iI (a * b) := (Int32.ofInt_mul a b).symm
theorem iI_nI (n : Nat) : nI n = iI (n : Int) := by
  show Int32.ofNat n = Int32.ofInt n
  exact (Int32.ofInt_eq_ofNat).symm
theorem iI_inj {a b : Int} (ha : -2147483648 ≤ a ∧ a < 2147483648) (hb : -2147483648 ≤ b ∧ b < 2147483648) : iI a = iI b ↔ a = b :=
  ⟨fun h => by rw [← iI_toInt ha, ← iI_toInt hb, h], fun h => by rw [h]⟩
theorem iI_le {a b : Int} (ha : -2147483648 ≤ a ∧ a < 2147483648) (hb : -2147483648 ≤ b ∧ b < 2147483648) : iI a ≤ iI b ↔ a ≤ b := by
  rw [Int32.le_iff_toInt_le, iI_toInt ha, iI_toInt hb]
theorem iI_lt {a b : Int} (ha : -2147483648 ≤ a ∧ a < 2147483648) (hb : -2147483648 ≤ b ∧ b < 2147483648) : iI a < iI b ↔ a < b := by
  rw [Int32.lt_iff_toInt_lt, iI_toInt ha, iI_toInt hb]
theorem iI_clamp {a : Int} (h0 : 0 ≤ a) (h1 : a < 2147483648) : (iI a).toNatClampNeg = a.toNat := by
  show (iI a).toInt.toNat = a.toNat
  rw [iI_toInt ⟨by omega, h1⟩]
theorem iI_in {a : Int} {n : Nat} (h0 : 0 ≤ a) (h1 : a < n) (hn : (n : Int) < 2147483648) : vp_in (iI a) n := by
  rw [vp_in_iff, iI_toInt ⟨by omega, by omega⟩]
  exact ⟨h0, h1⟩
theorem iI_0 : iI 0 = 0 := by decide +kernel
theorem iI_div {a b : Int} (h0 : 0 ≤ a) (ha : a < 2147483648) (hb : 0 < b) (hb2 : b < 2147483648) : iI a / iI b = iI (a / b) := by
  obtain ⟨x, rfl⟩ := Int.eq_ofNat_of_zero_le h0
  obtain ⟨y, rfl⟩ := Int.eq_ofNat_of_zero_le (Int.le_of_lt hb)
  have e := pk_div (a := x) (d := y) (by omega) (by omega) (by omega)
  rw [iI_nI, iI_nI, iI_nI] at e
  rw [e]
  rfl
theorem iI_rem {a b : Int} (h0 : 0 ≤ a) (ha : a < 2147483648) (hb : 0 < b) (hb2 : b < 2147483648) : iI a - iI a / iI b * iI b = iI (a % b) := by
  obtain ⟨x, rfl⟩ := Int.eq_ofNat_of_zero_le h0
  obtain ⟨y, rfl⟩ := Int.eq_ofNat_of_zero_le (Int.le_of_lt hb)
  have e := pk_rem (a := x) (d := y) (by omega) (by omega) (by omega)
  rw [iI_nI, iI_nI, iI_nI] at e
  rw [e]
  rfl
theorem upI_upd (V : Int → Int) {i : Int} (x : Int) (h0 : 0 ≤ i) (h1 : i < 2147483648) : upd (fun k : Nat => iI (V (k : Int))) (iI i).toNatClampNeg (iI x) = fun k : Nat => iI (upI V i x (k : Int)) := by
  funext k
  rw [iI_clamp h0 h1]
  unfold upd upI
  by_cases h : k = i.toNat
  · have : (k : Int) = i := by omega
    rw [if_pos h, if_pos this]
  · have : ¬ (k : Int) = i := by omega
    rw [if_neg h, if_neg this]
def lset : List (Nat × Value) → Nat → Value → List (Nat × Value)
  | [], i, v => [(i, v)]
  | (j, u) :: t, i, v => if j = i then (i, v) :: t.filter (fun q => !(q.1 == i)) else (j, u) :: lset t i v
theorem lset_mem : ∀ (l : List (Nat × Value)) (i : Nat) (v : Value) (q : Nat × Value), q ∈ lset l i v → q = (i, v) ∨ (q ∈ l ∧ q.1 ≠ i)
  | [], i, v, q, h => by
    simp only [lset, List.mem_singleton] at h
    exact Or.inl h
  | (j, u) :: t, i, v, q, h => by
    unfold lset at h
    by_cases hj : j = i
    · rw [if_pos hj] at h
      rcases List.mem_cons.mp h with h | h
      · exact Or.inl h
      · have := List.mem_filter.mp h
        exact Or.inr ⟨List.mem_cons_of_mem _ this.1, by simpa using this.2⟩
    · rw [if_neg hj] at h
      rcases List.mem_cons.mp h with h | h
      · subst h
        exact Or.inr ⟨List.mem_cons_self, hj⟩
      · rcases lset_mem t i v q h with h | ⟨h, h2⟩
        · exact Or.inl h
        · exact Or.inr ⟨List.mem_cons_of_mem _ h, h2⟩
def retOf : Option Value → Instr
  | none => .return_
  | some (.int _) => .ireturn
  | some _ => .areturn
def NW : List Cond := [Cond.fieldLinkNest "RecordedNeighbours" 120 "RecordedNeighbours$Image" "run" "LRecordedNeighbours$Run;" "RecordedNeighbours", Cond.fieldLinkNest "RecordedNeighbours" 37 "RecordedNeighbours$Image" "rows" "LRecordedNeighbours$Rows;" "RecordedNeighbours", Cond.methodLinkNest "RecordedNeighbours" 11 ⟨"RecordedNeighbours$Image", "<init>", "()V"⟩ "RecordedNeighbours", Cond.methodLinkNest "RecordedNeighbours" 22 ⟨"RecordedNeighbours$Study", "<init>", "()V"⟩ "RecordedNeighbours", Cond.methodLinkNest "RecordedNeighbours" 32 ⟨"RecordedNeighbours$Run", "<init>", "()V"⟩ "RecordedNeighbours", Cond.methodLinkNest "RecordedNeighbours$Image" 18 ⟨"RecordedNeighbours$Run", "<init>", "()V"⟩ "RecordedNeighbours", Cond.methodLinkNest "RecordedNeighbours$Image" 9 ⟨"RecordedNeighbours$Rows", "<init>", "()V"⟩ "RecordedNeighbours", Cond.methodLinkNest "RecordedNeighbours$MachineSearch" 110 ⟨"RecordedNeighbours", "codeOf", "(I)I"⟩ "RecordedNeighbours", Cond.methodLinkNest "RecordedNeighbours$Rows" 44 ⟨"RecordedNeighbours", "codeOf", "(I)I"⟩ "RecordedNeighbours", Cond.methodLinkNest "RecordedNeighbours$RuleLearner" 11 ⟨"RecordedNeighbours$Memory", "<init>", "()V"⟩ "RecordedNeighbours", Cond.methodLinkNest "RecordedNeighbours$RuleLearner" 69 ⟨"RecordedNeighbours", "fieldOf", "(II)I"⟩ "RecordedNeighbours", Cond.methodLinkNest "RecordedNeighbours$Rules" 41 ⟨"RecordedNeighbours", "fieldOf", "(II)I"⟩ "RecordedNeighbours", Cond.methodLinkNest "RecordedNeighbours$Run" 11 ⟨"RecordedNeighbours$Machine", "<init>", "()V"⟩ "RecordedNeighbours", Cond.methodLinkNest "RecordedNeighbours$Run" 20 ⟨"RecordedNeighbours$Rules", "<init>", "()V"⟩ "RecordedNeighbours", Cond.methodLinkNest "RecordedNeighbours$Run" 27 ⟨"RecordedNeighbours$Memory", "<init>", "()V"⟩ "RecordedNeighbours", Cond.methodLinkNest "RecordedNeighbours$Study" 11 ⟨"RecordedNeighbours$MachineSearch", "<init>", "()V"⟩ "RecordedNeighbours", Cond.methodLinkNest "RecordedNeighbours$Study" 20 ⟨"RecordedNeighbours$RuleLearner", "<init>", "()V"⟩ "RecordedNeighbours", Cond.methodLinkNest "RecordedNeighbours$Study" 27 ⟨"RecordedNeighbours$Machine", "<init>", "()V"⟩ "RecordedNeighbours", Cond.methodLinkNest "RecordedNeighbours$Study" 34 ⟨"RecordedNeighbours$Rules", "<init>", "()V"⟩ "RecordedNeighbours"]
def Ev (E : qE) (U : State) : Prop := va_K E.2.1 vwCl (tyS E) U ∧ (∀ w ∈ NW, va_Nw w U) ∧ va_AO RX0 U
/-- the walk's predicate: cells and slots made so far, the world, pc, locals, stack -/
abbrev qP : Type := Nat → Nat → va_W → Nat → List (Nat × Value) → List Value → Prop
def Gx (E : qE) (own : String) (cc : ByteArray) (nL : Nat) (Ts : List Cond) (p : Program) (s : State) (m : MethodId) (args : Array Value) (c : Code) (A : Nat → Prop) : Prop :=
  p.tables.exec = Jvm.exec ∧ c.code = cc ∧ c.maxLocals = nL ∧ s.vm.findClass own = some m.cls ∧ (∀ w ∈ Ts, w.before args s = true) ∧ Ev E s ∧ ∀ q, s.heap.size ≤ q → A q
def Gd (E : qE) (own : String) (cc : ByteArray) (nL : Nat) (Ts : List Cond) (R : Room) (ini : Bool) (Rt : Option Value → va_W → Prop) (mc ms : Nat) (P : qP) : Prop :=
  ∃ (p : Program) (e : Env) (s : State) (m : MethodId) (args : Array Value) (below : List Frame) (meth : Method) (c : Code) (A : Nat → Prop) (Q : State → Prop),
    Gx E own cc nL Ts p s m args c A ∧ (ini = true → meth.name = "<init>") ∧
    (∀ k n w pc lv st, P k n w pc lv st ↔ ∀ (H : Heap) (locs : List Loc) (ls : Array Slot), va_P E.2.1 vwCl w H → va_D A w → va_S A s.heap H locs → lv_has ls nL lv → W p E.1 e R s m args below meth c H locs k n Q (F0 m pc ls st)) ∧
    ∀ (v : Option Value) (w : va_W) (H : Heap) (locs : List Loc) (ls : Array Slot) (pc : Nat), Rt v w → va_P E.2.1 vwCl w H → va_D A w → va_S A s.heap H locs → decode cc pc = .ok (retOf v, 1) → W p E.1 e R s m args below meth c H locs mc ms Q (F0 m pc ls v.toList)
/-- a contract: from the world w, with these arguments, the method answers v and leaves the world w', as Rt says -/
def Cn (E : qE) (y : MethodName) (ws : List Cond) (rm : Room) (args : List Value) (w : va_W) (Rt : Option Value → va_W → Prop) (mc ms : Nat) : Prop :=
  ∀ sz : Nat, Met E.1 y ws rm (va_Pc args (fun U => U.heap.size = sz ∧ va_P E.2.1 vwCl w U.heap ∧ Ev E U ∧ va_D (fun _ => True) w))
    (fun _ st oc t => (∃ (v : Option Value) (w' : va_W), oc = .returned v ∧ Rt v w' ∧ va_P E.2.1 vwCl w' t.heap ∧ va_D (va_A w sz) w') ∧ va_F (va_A w sz) st t) mc ms (va_A w sz)
def okRet (ret : Option FieldType) (v : Option Value) : Prop := match v with
  | none => ret = none
  | some (.int x) => ∃ ty, ret = some ty ∧ narrow ty (.int x) = .int x
  | some (.ref _) => ∃ n, ret = some (.object n)
  | some _ => False
theorem Cn.ofP {E : qE} {y : MethodName} {ws ws' : List Cond} {rm : Room} {args : List Value} {w : va_W} {Rt : Option Value → va_W → Prop} {mc ms : Nat} {cc : ByteArray} {maxL : Nat} {ret : Option FieldType} (ini : Bool) (lv : List (Nat × Value)) {own : String}
    (hy : plainName y.cls = true) (ho : y.cls = own) (hw : ws = Cond.code y cc maxL ret :: ws') (hlen : (lg_sl args).length ≤ maxL) (hlv : lv_args 0 args = lv) (hini : ini = true → y.name = "<init>")
    (hrt : ∀ v w', Rt v w' → okRet ret v)
    (body : ∀ P : qP, Gd E own cc maxL ws rm ini Rt mc ms P → P 0 0 w 0 lv []) : Cn E y ws rm args w Rt mc ms := by
  subst ho
  intro sz
  refine Met.ofW (cc := cc) (maxL := maxL) (ret := ret) hy hw ?_
  intro p e s m args' below meth c s₁ B hml hv
  obtain ⟨rfl, hsz, hP, hE, hD0⟩ := hv
  have hx := B.exec
  have hb := B.bytes
  have hr := B.returns
  have hts := atoms_spec (ws := ws) B.pre
  have hown : s.vm.findClass y.cls = some m.cls := findClass_of_methodNamed B.named
  have hlocks := B.notSynchronized
  subst hsz
  have hD := hD0.self (sz := s.heap.size)
  have hA : ∀ q : Nat, s.heap.size ≤ q → va_A w s.heap.size q := fun q h => Or.inr h
  have hl := lv_entry args (n := maxL) hlen
  rw [lg_entry_eq]
  rw [hlv] at hl
  have key := body (fun k n w1 pc lv st => ∀ (H : Heap) (locs : List Loc) (ls : Array Slot), va_P E.2.1 vwCl w1 H → va_D (va_A w s.heap.size) w1 → va_S (va_A w s.heap.size) s.heap H locs → lv_has ls maxL lv → W p E.1 e rm s m args.toArray below meth c H locs k n (MQ below (fun _ st oc t => (∃ (v : Option Value) (w' : va_W), oc = .returned v ∧ Rt v w' ∧ va_P E.2.1 vwCl w' t.heap ∧ va_D (va_A w s.heap.size) w') ∧ va_F (va_A w s.heap.size) st t) args.toArray s mc ms (va_A w s.heap.size)) (F0 m pc ls st))
    ⟨p, e, s, m, args.toArray, below, meth, c, va_A w s.heap.size, _, ⟨hx, hb, hml, hown, hts, hE, hA⟩, fun h => (name_of_methodNamed B.named B.method).1.trans (hini h), fun _ _ _ _ _ _ => Iff.rfl, ?_⟩
  · exact key s.heap [] _ hP hD va_S.rf hl
  · intro v w1 H locs ls pc hR h1 h2 h3 hd
    have hok := hrt v w1 hR
    have hq : ∀ t : State, t.heap = H → s.WarmedH t.vm → (∃ (v' : Option Value) (w' : va_W), Outcome.returned v = .returned v' ∧ Rt v' w' ∧ va_P E.2.1 vwCl w' t.heap ∧ va_D (va_A w s.heap.size) w') ∧ va_F (va_A w s.heap.size) s t :=
      fun t ht _ => ⟨⟨v, w1, rfl, hR, by rw [ht]; exact h1, h2⟩, h3.F ht⟩
    cases v with
    | none => exact W.vret hx hb (hr.trans hok) hq h3.2.2 hd
    | some v =>
      cases v with
      | int x =>
        obtain ⟨ty, h5, h6⟩ := hok
        exact W.zret hx hb (hr.trans h5) h6 hq h3.2.2 hd
      | ref x =>
        obtain ⟨n, h5⟩ := hok
        exact W.aret hx hb (hr.trans h5) (Or.inl ⟨n, rfl⟩) (Or.inr ⟨x, rfl⟩) hq h3.2.2 hd
      | _ => exact hok.elim
section GR
variable {E : qE} {own : String} {cc : ByteArray} {nL : Nat} {Ts : List Cond} {R : Room} {ini : Bool} {Rt : Option Value → va_W → Prop} {mc ms : Nat} {P : qP} {k n : Nat} {w : va_W} {pc : Nat} {lv : List (Nat × Value)} {st : List Value}
theorem Gd.one (G : Gd E own cc nL Ts R ini Rt mc ms P) {pc' : Nat} {st' : List Value}
    (h : ∀ (p : Program) (e : Env) (s : State) (m : MethodId) (args : Array Value) (below : List Frame) (meth : Method) (c : Code) (H : Heap) (locs : List Loc) (Q : State → Prop) (ls : Array Slot), p.tables.exec = Jvm.exec → c.code = cc → s.vm.findClass own = some m.cls → (∀ w ∈ Ts, w.before args s = true) → W p E.1 e R s m args below meth c H locs k n Q (F0 m pc' ls st') → W p E.1 e R s m args below meth c H locs k n Q (F0 m pc ls st))
    (kk : P k n w pc' lv st') : P k n w pc lv st := by
  obtain ⟨p, e, s, m, args, below, meth, c, A, Q, ⟨hx, hb, hml, hown, hts, hE, hA⟩, hin, hP, hR⟩ := G
  exact (hP _ _ _ _ _ _).mpr (fun H locs ls h1 h2 h3 h4 => h p e s m args below meth c H locs Q ls hx hb hown hts ((hP _ _ _ _ _ _).mp kk H locs ls h1 h2 h3 h4))
theorem g_iconst (G : Gd E own cc nL Ts R ini Rt mc ms P) {z : Int} (d : decode cc pc = .ok (.iconst z, 1)) (kk : P k n w (pc + 1) lv (.int (iI z) :: st)) : P k n w pc lv st :=
  G.one (fun _ _ _ _ _ _ _ _ _ _ _ _ hx hb _ _ h => lv_iconst hx hb d rfl h) kk
theorem g_bipush (G : Gd E own cc nL Ts R ini Rt mc ms P) {z : Int} (d : decode cc pc = .ok (.bipush z, 2)) (hz : (Int8.ofInt z).toInt32 = iI z) (kk : P k n w (pc + 2) lv (.int (iI z) :: st)) : P k n w pc lv st :=
  G.one (fun _ _ _ _ _ _ _ _ _ _ _ _ hx hb _ _ h => lv_bipush hx hb d hz h) kk
theorem g_sipush (G : Gd E own cc nL Ts R ini Rt mc ms P) {z : Int} (d : decode cc pc = .ok (.sipush z, 3)) (hz : (Int16.ofInt z).toInt32 = iI z) (kk : P k n w (pc + 3) lv (.int (iI z) :: st)) : P k n w pc lv st :=
  G.one (fun _ _ _ _ _ _ _ _ _ _ _ _ hx hb _ _ h => lv_sipush hx hb d hz h) kk
theorem g_ldc (G : Gd E own cc nL Ts R ini Rt mc ms P) {i : Nat} (z : Int) (d : decode cc pc = .ok (.ldc i, 2)) (hc : Cond.constant own i (iI z) ∈ Ts) (kk : P k n w (pc + 2) lv (.int (iI z) :: st)) : P k n w pc lv st :=
  G.one (fun _ _ _ _ _ _ _ _ _ _ _ _ hx hb ho ht h => lv_ldc hx hb ho (ht _ hc) d h) kk
theorem g_iadd (G : Gd E own cc nL Ts R ini Rt mc ms P) {a b : Int} (d : decode cc pc = .ok (.iadd, 1)) (kk : P k n w (pc + 1) lv (.int (iI (a + b)) :: st)) : P k n w pc lv (.int (iI b) :: .int (iI a) :: st) :=
  G.one (fun _ _ _ _ _ _ _ _ _ _ _ _ hx hb _ _ h => lv_iadd hx hb d (by rw [iI_add]; exact h)) kk
theorem g_isub (G : Gd E own cc nL Ts R ini Rt mc ms P) {a b : Int} (d : decode cc pc = .ok (.isub, 1)) (kk : P k n w (pc + 1) lv (.int (iI (a - b)) :: st)) : P k n w pc lv (.int (iI b) :: .int (iI a) :: st) :=
  G.one (fun _ _ _ _ _ _ _ _ _ _ _ _ hx hb _ _ h => lv_isub hx hb d (by rw [iI_sub]; exact h)) kk
theorem g_imul (G : Gd E own cc nL Ts R ini Rt mc ms P) {a b : Int} (d : decode cc pc = .ok (.imul, 1)) (kk : P k n w (pc + 1) lv (.int (iI (a * b)) :: st)) : P k n w pc lv (.int (iI b) :: .int (iI a) :: st) :=
  G.one (fun _ _ _ _ _ _ _ _ _ _ _ _ hx hb _ _ h => lv_imul hx hb d (by rw [iI_mul]; exact h)) kk
theorem iI_ne0 {b : Int} (hb : 0 < b) (hb2 : b < 2147483648) : ¬ iI b = 0 := by
  rw [← iI_0, iI_inj ⟨by omega, hb2⟩ (by omega)]; omega
theorem g_idiv (G : Gd E own cc nL Ts R ini Rt mc ms P) {a b : Int} (d : decode cc pc = .ok (.idiv, 1)) (h0 : 0 ≤ a) (h1 : a < 2147483648) (h2 : 0 < b) (h3 : b < 2147483648) (kk : P k n w (pc + 1) lv (.int (iI (a / b)) :: st)) : P k n w pc lv (.int (iI b) :: .int (iI a) :: st) :=
  G.one (fun _ _ _ _ _ _ _ _ _ _ _ _ hx hb _ _ h => lv_idiv hx hb d (iI_ne0 h2 h3) (by rw [iI_div h0 h1 h2 h3]; exact h)) kk
theorem g_irem (G : Gd E own cc nL Ts R ini Rt mc ms P) {a b : Int} (d : decode cc pc = .ok (.irem, 1)) (h0 : 0 ≤ a) (h1 : a < 2147483648) (h2 : 0 < b) (h3 : b < 2147483648) (kk : P k n w (pc + 1) lv (.int (iI (a % b)) :: st)) : P k n w pc lv (.int (iI b) :: .int (iI a) :: st) :=
  G.one (fun _ _ _ _ _ _ _ _ _ _ _ _ hx hb _ _ h => lv_irem hx hb d (iI_ne0 h2 h3) (by rw [iI_rem h0 h1 h2 h3]; exact h)) kk
theorem g_dup (G : Gd E own cc nL Ts R ini Rt mc ms P) {v : Value} (d : decode cc pc = .ok (.dup, 1)) (hv : v.category = 1) (kk : P k n w (pc + 1) lv (v :: v :: st)) : P k n w pc lv (v :: st) :=
  G.one (fun _ _ _ _ _ _ _ _ _ _ _ _ hx hb _ _ h => lv_dup hx hb d hv h) kk
theorem g_dup2 (G : Gd E own cc nL Ts R ini Rt mc ms P) {v u : Value} (d : decode cc pc = .ok (.dup2, 1)) (hv : v.category = 1) (hu : u.category = 1) (kk : P k n w (pc + 1) lv (v :: u :: v :: u :: st)) : P k n w pc lv (v :: u :: st) :=
  G.one (fun _ _ _ _ _ _ _ _ _ _ _ _ hx hb _ _ h => lv_dup2_11 hx hb d hv hu h) kk
theorem g_goto (G : Gd E own cc nL Ts R ini Rt mc ms P) {off : Int} (tgt : Nat) (d : decode cc pc = .ok (.goto off, 3)) (ht : (pc : Int) + off = (tgt : Int)) (kk : P k n w tgt lv st) : P k n w pc lv st :=
  G.one (fun _ _ _ _ _ _ _ _ _ _ _ _ hx hb _ _ h => lv_goto hx hb d ht h) kk
/-- two ways -/
theorem Gd.br (G : Gd E own cc nL Ts R ini Rt mc ms P) {pc1 pc2 : Nat} {st1 st2 : List Value} {c1 c2 : Prop}
    (h : ∀ (p : Program) (e : Env) (s : State) (m : MethodId) (args : Array Value) (below : List Frame) (meth : Method) (c : Code) (H : Heap) (locs : List Loc) (Q : State → Prop) (ls : Array Slot), p.tables.exec = Jvm.exec → c.code = cc → (c1 → W p E.1 e R s m args below meth c H locs k n Q (F0 m pc1 ls st1)) → (c2 → W p E.1 e R s m args below meth c H locs k n Q (F0 m pc2 ls st2)) → W p E.1 e R s m args below meth c H locs k n Q (F0 m pc ls st))
    (k1 : c1 → P k n w pc1 lv st1) (k2 : c2 → P k n w pc2 lv st2) : P k n w pc lv st := by
  obtain ⟨p, e, s, m, args, below, meth, c, A, Q, ⟨hx, hb, hml, hown, hts, hE, hA⟩, hin, hP, hR⟩ := G
  exact (hP _ _ _ _ _ _).mpr (fun H locs ls h1 h2 h3 h4 => h p e s m args below meth c H locs Q ls hx hb (fun q => (hP _ _ _ _ _ _).mp (k1 q) H locs ls h1 h2 h3 h4) (fun q => (hP _ _ _ _ _ _).mp (k2 q) H locs ls h1 h2 h3 h4))
theorem g_icmp_eq (G : Gd E own cc nL Ts R ini Rt mc ms P) {a b : Int} {off : Int} (tgt : Nat) (d : decode cc pc = .ok (.if_icmp .eq off, 3)) (ht : (pc : Int) + off = (tgt : Int)) (ha : -2147483648 ≤ a ∧ a < 2147483648) (hb : -2147483648 ≤ b ∧ b < 2147483648) (k1 : a = b → P k n w tgt lv st) (k2 : a ≠ b → P k n w (pc + 3) lv st) : P k n w pc lv (.int (iI b) :: .int (iI a) :: st) :=
  G.br (fun _ _ _ _ _ _ _ _ _ _ _ _ hx hc h1 h2 => lv_icmp_eq hx hc d ht (fun q => h1 (by exact (iI_inj ha hb).mp q)) (fun q => h2 (by exact fun z => q ((iI_inj ha hb).mpr z)))) k1 k2
theorem g_if_eq (G : Gd E own cc nL Ts R ini Rt mc ms P) {a : Int} {off : Int} (tgt : Nat) (d : decode cc pc = .ok (.ifCond .eq off, 3)) (ht : (pc : Int) + off = (tgt : Int)) (ha : -2147483648 ≤ a ∧ a < 2147483648) (k1 : a = 0 → P k n w tgt lv st) (k2 : a ≠ 0 → P k n w (pc + 3) lv st) : P k n w pc lv (.int (iI a) :: st) :=
  have hb : -2147483648 ≤ (0 : Int) ∧ (0 : Int) < 2147483648 := by omega
  G.br (fun _ _ _ _ _ _ _ _ _ _ _ _ hx hc h1 h2 => lv_if_eq hx hc d ht (fun q => h1 (by rw [← iI_0] at q; exact (iI_inj ha hb).mp q)) (fun q => h2 (by rw [← iI_0] at q; exact fun z => q ((iI_inj ha hb).mpr z)))) k1 k2
theorem g_icmp_ne (G : Gd E own cc nL Ts R ini Rt mc ms P) {a b : Int} {off : Int} (tgt : Nat) (d : decode cc pc = .ok (.if_icmp .ne off, 3)) (ht : (pc : Int) + off = (tgt : Int)) (ha : -2147483648 ≤ a ∧ a < 2147483648) (hb : -2147483648 ≤ b ∧ b < 2147483648) (k1 : a ≠ b → P k n w tgt lv st) (k2 : a = b → P k n w (pc + 3) lv st) : P k n w pc lv (.int (iI b) :: .int (iI a) :: st) :=
  G.br (fun _ _ _ _ _ _ _ _ _ _ _ _ hx hc h1 h2 => lv_icmp_ne hx hc d ht (fun q => h1 (by exact fun z => q ((iI_inj ha hb).mpr z))) (fun q => h2 (by exact (iI_inj ha hb).mp q))) k1 k2
theorem g_if_ne (G : Gd E own cc nL Ts R ini Rt mc ms P) {a : Int} {off : Int} (tgt : Nat) (d : decode cc pc = .ok (.ifCond .ne off, 3)) (ht : (pc : Int) + off = (tgt : Int)) (ha : -2147483648 ≤ a ∧ a < 2147483648) (k1 : a ≠ 0 → P k n w tgt lv st) (k2 : a = 0 → P k n w (pc + 3) lv st) : P k n w pc lv (.int (iI a) :: st) :=
  have hb : -2147483648 ≤ (0 : Int) ∧ (0 : Int) < 2147483648 := by omega
  G.br (fun _ _ _ _ _ _ _ _ _ _ _ _ hx hc h1 h2 => lv_if_ne hx hc d ht (fun q => h1 (by rw [← iI_0] at q; exact fun z => q ((iI_inj ha hb).mpr z))) (fun q => h2 (by rw [← iI_0] at q; exact (iI_inj ha hb).mp q))) k1 k2
theorem g_icmp_lt (G : Gd E own cc nL Ts R ini Rt mc ms P) {a b : Int} {off : Int} (tgt : Nat) (d : decode cc pc = .ok (.if_icmp .lt off, 3)) (ht : (pc : Int) + off = (tgt : Int)) (ha : -2147483648 ≤ a ∧ a < 2147483648) (hb : -2147483648 ≤ b ∧ b < 2147483648) (k1 : a < b → P k n w tgt lv st) (k2 : b ≤ a → P k n w (pc + 3) lv st) : P k n w pc lv (.int (iI b) :: .int (iI a) :: st) :=
  G.br (fun _ _ _ _ _ _ _ _ _ _ _ _ hx hc h1 h2 => lv_icmp_lt hx hc d ht (fun q => h1 (by exact (iI_lt ha hb).mp q)) (fun q => h2 (by have q2 : ¬ (a < b) := fun z => q ((iI_lt ha hb).mpr z); omega))) k1 k2
theorem g_if_lt (G : Gd E own cc nL Ts R ini Rt mc ms P) {a : Int} {off : Int} (tgt : Nat) (d : decode cc pc = .ok (.ifCond .lt off, 3)) (ht : (pc : Int) + off = (tgt : Int)) (ha : -2147483648 ≤ a ∧ a < 2147483648) (k1 : a < 0 → P k n w tgt lv st) (k2 : 0 ≤ a → P k n w (pc + 3) lv st) : P k n w pc lv (.int (iI a) :: st) :=
  have hb : -2147483648 ≤ (0 : Int) ∧ (0 : Int) < 2147483648 := by omega
  G.br (fun _ _ _ _ _ _ _ _ _ _ _ _ hx hc h1 h2 => lv_if_lt hx hc d ht (fun q => h1 (by rw [← iI_0] at q; exact (iI_lt ha hb).mp q)) (fun q => h2 (by rw [← iI_0] at q; have q2 : ¬ (a < 0) := fun z => q ((iI_lt ha hb).mpr z); omega))) k1 k2
theorem g_icmp_ge (G : Gd E own cc nL Ts R ini Rt mc ms P) {a b : Int} {off : Int} (tgt : Nat) (d : decode cc pc = .ok (.if_icmp .ge off, 3)) (ht : (pc : Int) + off = (tgt : Int)) (ha : -2147483648 ≤ a ∧ a < 2147483648) (hb : -2147483648 ≤ b ∧ b < 2147483648) (k1 : b ≤ a → P k n w tgt lv st) (k2 : a < b → P k n w (pc + 3) lv st) : P k n w pc lv (.int (iI b) :: .int (iI a) :: st) :=
  G.br (fun _ _ _ _ _ _ _ _ _ _ _ _ hx hc h1 h2 => lv_icmp_ge hx hc d ht (fun q => h1 (by exact (iI_le hb ha).mp q)) (fun q => h2 (by have q2 : ¬ (b ≤ a) := fun z => q ((iI_le hb ha).mpr z); omega))) k1 k2
theorem g_if_ge (G : Gd E own cc nL Ts R ini Rt mc ms P) {a : Int} {off : Int} (tgt : Nat) (d : decode cc pc = .ok (.ifCond .ge off, 3)) (ht : (pc : Int) + off = (tgt : Int)) (ha : -2147483648 ≤ a ∧ a < 2147483648) (k1 : 0 ≤ a → P k n w tgt lv st) (k2 : a < 0 → P k n w (pc + 3) lv st) : P k n w pc lv (.int (iI a) :: st) :=
  have hb : -2147483648 ≤ (0 : Int) ∧ (0 : Int) < 2147483648 := by omega
  G.br (fun _ _ _ _ _ _ _ _ _ _ _ _ hx hc h1 h2 => lv_if_ge hx hc d ht (fun q => h1 (by rw [← iI_0] at q; exact (iI_le hb ha).mp q)) (fun q => h2 (by rw [← iI_0] at q; have q2 : ¬ (0 ≤ a) := fun z => q ((iI_le hb ha).mpr z); omega))) k1 k2
theorem g_icmp_gt (G : Gd E own cc nL Ts R ini Rt mc ms P) {a b : Int} {off : Int} (tgt : Nat) (d : decode cc pc = .ok (.if_icmp .gt off, 3)) (ht : (pc : Int) + off = (tgt : Int)) (ha : -2147483648 ≤ a ∧ a < 2147483648) (hb : -2147483648 ≤ b ∧ b < 2147483648) (k1 : b < a → P k n w tgt lv st) (k2 : a ≤ b → P k n w (pc + 3) lv st) : P k n w pc lv (.int (iI b) :: .int (iI a) :: st) :=
  G.br (fun _ _ _ _ _ _ _ _ _ _ _ _ hx hc h1 h2 => lv_icmp_gt hx hc d ht (fun q => h1 (by exact (iI_lt hb ha).mp q)) (fun q => h2 (by have q2 : ¬ (b < a) := fun z => q ((iI_lt hb ha).mpr z); omega))) k1 k2
theorem g_if_gt (G : Gd E own cc nL Ts R ini Rt mc ms P) {a : Int} {off : Int} (tgt : Nat) (d : decode cc pc = .ok (.ifCond .gt off, 3)) (ht : (pc : Int) + off = (tgt : Int)) (ha : -2147483648 ≤ a ∧ a < 2147483648) (k1 : 0 < a → P k n w tgt lv st) (k2 : a ≤ 0 → P k n w (pc + 3) lv st) : P k n w pc lv (.int (iI a) :: st) :=
  have hb : -2147483648 ≤ (0 : Int) ∧ (0 : Int) < 2147483648 := by omega
  G.br (fun _ _ _ _ _ _ _ _ _ _ _ _ hx hc h1 h2 => lv_if_gt hx hc d ht (fun q => h1 (by rw [← iI_0] at q; exact (iI_lt hb ha).mp q)) (fun q => h2 (by rw [← iI_0] at q; have q2 : ¬ (0 < a) := fun z => q ((iI_lt hb ha).mpr z); omega))) k1 k2
theorem g_icmp_le (G : Gd E own cc nL Ts R ini Rt mc ms P) {a b : Int} {off : Int} (tgt : Nat) (d : decode cc pc = .ok (.if_icmp .le off, 3)) (ht : (pc : Int) + off = (tgt : Int)) (ha : -2147483648 ≤ a ∧ a < 2147483648) (hb : -2147483648 ≤ b ∧ b < 2147483648) (k1 : a ≤ b → P k n w tgt lv st) (k2 : b < a → P k n w (pc + 3) lv st) : P k n w pc lv (.int (iI b) :: .int (iI a) :: st) :=
  G.br (fun _ _ _ _ _ _ _ _ _ _ _ _ hx hc h1 h2 => lv_icmp_le hx hc d ht (fun q => h1 (by exact (iI_le ha hb).mp q)) (fun q => h2 (by have q2 : ¬ (a ≤ b) := fun z => q ((iI_le ha hb).mpr z); omega))) k1 k2
theorem g_if_le (G : Gd E own cc nL Ts R ini Rt mc ms P) {a : Int} {off : Int} (tgt : Nat) (d : decode cc pc = .ok (.ifCond .le off, 3)) (ht : (pc : Int) + off = (tgt : Int)) (ha : -2147483648 ≤ a ∧ a < 2147483648) (k1 : a ≤ 0 → P k n w tgt lv st) (k2 : 0 < a → P k n w (pc + 3) lv st) : P k n w pc lv (.int (iI a) :: st) :=
  have hb : -2147483648 ≤ (0 : Int) ∧ (0 : Int) < 2147483648 := by omega
  G.br (fun _ _ _ _ _ _ _ _ _ _ _ _ hx hc h1 h2 => lv_if_le hx hc d ht (fun q => h1 (by rw [← iI_0] at q; exact (iI_le ha hb).mp q)) (fun q => h2 (by rw [← iI_0] at q; have q2 : ¬ (a ≤ 0) := fun z => q ((iI_le ha hb).mpr z); omega))) k1 k2
/-- locals -/
theorem Gd.lo (G : Gd E own cc nL Ts R ini Rt mc ms P) {pc' : Nat} {st' : List Value} {lv' : List (Nat × Value)}
    (h : ∀ (p : Program) (e : Env) (s : State) (m : MethodId) (args : Array Value) (below : List Frame) (meth : Method) (c : Code) (H : Heap) (locs : List Loc) (Q : State → Prop) (ls : Array Slot), p.tables.exec = Jvm.exec → c.code = cc → lv_has ls nL lv → (∀ ls, lv_has ls nL lv' → W p E.1 e R s m args below meth c H locs k n Q (F0 m pc' ls st')) → W p E.1 e R s m args below meth c H locs k n Q (F0 m pc ls st))
    (kk : P k n w pc' lv' st') : P k n w pc lv st := by
  obtain ⟨p, e, s, m, args, below, meth, c, A, Q, ⟨hx, hb, hml, hown, hts, hE, hA⟩, hin, hP, hR⟩ := G
  exact (hP _ _ _ _ _ _).mpr (fun H locs ls h1 h2 h3 h4 => h p e s m args below meth c H locs Q ls hx hb h4 (fun ls h4 => (hP _ _ _ _ _ _).mp kk H locs ls h1 h2 h3 h4))
theorem g_iload_n (G : Gd E own cc nL Ts R ini Rt mc ms P) (j : Nat) {i : Fin 4} {a : Int} (d : decode cc pc = .ok (.iload_n i, 1)) (hj : lv[j]? = some ((i : Nat), .int (iI a))) (kk : P k n w (pc + 1) lv (.int (iI a) :: st)) : P k n w pc lv st :=
  G.lo (fun _ _ _ _ _ _ _ _ _ _ _ _ hx hb hl h => lv_iload_n hx hb d rfl (lv_at hl j hj) (h _ hl)) kk
theorem g_iload (G : Gd E own cc nL Ts R ini Rt mc ms P) (j : Nat) {i : Nat} {a : Int} (d : decode cc pc = .ok (.iload i, 2)) (hj : lv[j]? = some (i, .int (iI a))) (kk : P k n w (pc + 2) lv (.int (iI a) :: st)) : P k n w pc lv st :=
  G.lo (fun _ _ _ _ _ _ _ _ _ _ _ _ hx hb hl h => lv_iload hx hb d (lv_at hl j hj) (h _ hl)) kk
theorem g_aload_n (G : Gd E own cc nL Ts R ini Rt mc ms P) (j : Nat) {i : Fin 4} {a : Nat} (d : decode cc pc = .ok (.aload_n i, 1)) (hj : lv[j]? = some ((i : Nat), .ref a)) (kk : P k n w (pc + 1) lv (.ref a :: st)) : P k n w pc lv st :=
  G.lo (fun _ _ _ _ _ _ _ _ _ _ _ _ hx hb hl h => lv_aload_n hx hb d rfl (lv_at hl j hj) (h _ hl)) kk
theorem g_aload (G : Gd E own cc nL Ts R ini Rt mc ms P) (j : Nat) {i : Nat} {a : Nat} (d : decode cc pc = .ok (.aload i, 2)) (hj : lv[j]? = some (i, .ref a)) (kk : P k n w (pc + 2) lv (.ref a :: st)) : P k n w pc lv st :=
  G.lo (fun _ _ _ _ _ _ _ _ _ _ _ _ hx hb hl h => lv_aload hx hb d (lv_at hl j hj) (h _ hl)) kk
theorem lset_has {ls : Array Slot} {i : Nat} {v : Value} {lv' : List (Nat × Value)} (hc : lv.all (fun q => q.2.category == 1) = true) (hl : lset lv i v = lv') (h : lv_has ls nL ((i, v) :: lv.filter (fun q => !(q.1 == i) && !(q.1 + 1 == i && q.2.category == 2)))) : lv_has ls nL lv' := by
  subst hl
  refine ⟨h.1, h.2.1, fun q hq => ?_⟩
  rcases lset_mem lv i v q hq with h1 | ⟨h1, h2⟩
  · subst h1
    exact h.2.2 _ List.mem_cons_self
  · refine h.2.2 q (List.mem_cons_of_mem _ (List.mem_filter.mpr ⟨h1, ?_⟩))
    have := List.all_eq_true.mp hc q h1
    simp only [beq_iff_eq] at this
    simp [this, h2]
theorem g_istore_n (G : Gd E own cc nL Ts R ini Rt mc ms P) {i : Fin 4} {a : Int} (lv' : List (Nat × Value)) (d : decode cc pc = .ok (.istore_n i, 1)) (hn : (i : Nat) < nL) (hc : lv.all (fun q => q.2.category == 1) = true) (hl : lset lv i (.int (iI a)) = lv') (kk : P k n w (pc + 1) lv' st) : P k n w pc lv (.int (iI a) :: st) :=
  G.lo (fun _ _ _ _ _ _ _ _ _ _ _ _ hx hb hh h => lv_istore_n hx hb d rfl hh hn rfl (fun _ h5 => h _ (lset_has hc hl h5))) kk
theorem g_istore (G : Gd E own cc nL Ts R ini Rt mc ms P) {i : Nat} {a : Int} (lv' : List (Nat × Value)) (d : decode cc pc = .ok (.istore i, 2)) (hn : i < nL) (hc : lv.all (fun q => q.2.category == 1) = true) (hl : lset lv i (.int (iI a)) = lv') (kk : P k n w (pc + 2) lv' st) : P k n w pc lv (.int (iI a) :: st) :=
  G.lo (fun _ _ _ _ _ _ _ _ _ _ _ _ hx hb hh h => lv_istore hx hb d hh hn rfl (fun _ h5 => h _ (lset_has hc hl h5))) kk
theorem g_astore_n (G : Gd E own cc nL Ts R ini Rt mc ms P) {i : Fin 4} {a : Nat} (lv' : List (Nat × Value)) (d : decode cc pc = .ok (.astore_n i, 1)) (hn : (i : Nat) < nL) (hc : lv.all (fun q => q.2.category == 1) = true) (hl : lset lv i (.ref a) = lv') (kk : P k n w (pc + 1) lv' st) : P k n w pc lv (.ref a :: st) :=
  G.lo (fun _ _ _ _ _ _ _ _ _ _ _ _ hx hb hh h => lv_astore_n hx hb d rfl hh hn rfl (fun _ h5 => h _ (lset_has hc hl h5))) kk
theorem g_astore (G : Gd E own cc nL Ts R ini Rt mc ms P) {i : Nat} {a : Nat} (lv' : List (Nat × Value)) (d : decode cc pc = .ok (.astore i, 2)) (hn : i < nL) (hc : lv.all (fun q => q.2.category == 1) = true) (hl : lset lv i (.ref a) = lv') (kk : P k n w (pc + 2) lv' st) : P k n w pc lv (.ref a :: st) :=
  G.lo (fun _ _ _ _ _ _ _ _ _ _ _ _ hx hb hh h => lv_astore hx hb d hh hn rfl (fun _ h5 => h _ (lset_has hc hl h5))) kk
theorem g_iinc (G : Gd E own cc nL Ts R ini Rt mc ms P) (j : Nat) {i : Nat} {a z : Int} (lv' : List (Nat × Value)) (d : decode cc pc = .ok (.iinc i z, 3)) (hj : lv[j]? = some (i, .int (iI a))) (hn : i < nL) (hc : lv.all (fun q => q.2.category == 1) = true) (hl : lset lv i (.int (iI (a + z))) = lv') (kk : P k n w (pc + 3) lv' st) : P k n w pc lv st :=
  G.lo (fun _ _ _ _ _ _ _ _ _ _ _ _ hx hb hh h => lv_iinc hx hb d hh hj (iI_add a z) hn rfl (fun _ h5 => h _ (lset_has hc hl h5))) kk
/-- fewer, or other, locals; the same in other words -/
theorem g_lv (G : Gd E own cc nL Ts R ini Rt mc ms P) (js : List Nat) {lv' : List (Nat × Value)} (hl : lv_pick lv js = lv') (kk : P k n w pc lv' st) : P k n w pc lv st :=
  G.lo (fun _ _ _ _ _ _ _ _ _ _ _ _ _ _ hh h => h _ (lv_sub hh js hl)) kk
/-- the end -/
theorem g_ret (G : Gd E own cc nL Ts R ini Rt mc ms P) (v : Option Value) (hs : st = v.toList) (d : decode cc pc = .ok (retOf v, 1)) (hk : k ≤ mc) (hn : n ≤ ms) (hr : Rt v w) : P k n w pc lv st := by
  obtain ⟨p, e, s, m, args, below, meth, c, A, Q, ⟨hx, hb, hml, hown, hts, hE, hA⟩, hin, hP, hR⟩ := G
  subst hs
  exact (hP _ _ _ _ _ _).mpr (fun H locs ls h1 h2 h3 h4 => W.widen hk hn (hR v w H locs ls pc hr h1 h2 h3 d))
theorem g_widen (G : Gd E own cc nL Ts R ini Rt mc ms P) {k' n' : Nat} (hk : k ≤ k') (hn : n ≤ n') (kk : P k' n' w pc lv st) : P k n w pc lv st := by
  obtain ⟨p, e, s, m, args, below, meth, c, A, Q, ⟨hx, hb, hml, hown, hts, hE, hA⟩, hin, hP, hR⟩ := G
  exact (hP _ _ _ _ _ _).mpr (fun H locs ls h1 h2 h3 h4 => W.widen hk hn ((hP _ _ _ _ _ _).mp kk H locs ls h1 h2 h3 h4))
/-- heap -/
theorem g_get (G : Gd E own cc nL Ts R ini Rt mc ms P) (q0 f : Nat) {C : String} {T : u_T} {N ci index a : Nat} {fs : List Value} {v : Value} (d : decode cc pc = .ok (.getfield index, 3)) (hin : ∀ w ∈ u_ws C T N, w ∈ Ts) (hlink : Cond.fieldLink own index (T f).1 (T f).2.1 (T f).2.2.1 ∈ Ts) (he : w[q0]? = some (a, .inr (ci, fs))) (hc : vwCl[ci]? = some (C, T, N)) (hf : f < N) (hv : fs[f]? = some v) (kk : P k n w (pc + 3) lv (v :: st)) : P k n w pc lv (.ref a :: st) := by
  obtain ⟨p, e, s, m, args, below, meth, c, A, Q, ⟨hx, hb, hml, hown, hts, hE, hA⟩, hini, hP, hR⟩ := G
  exact (hP _ _ _ _ _ _).mpr (fun H locs ls h1 h2 h3 h4 => va_get hx hb hts hin hown hE.1 h1 q0 he hc f hf (hts _ hlink) (fun _ h9 => h9) hv d ((hP _ _ _ _ _ _).mp kk H locs ls h1 h2 h3 h4))
theorem g_getN (G : Gd E own cc nL Ts R ini Rt mc ms P) (q0 f : Nat) {C host : String} {T : u_T} {N ci index a : Nat} {fs : List Value} {v : Value} (d : decode cc pc = .ok (.getfield index, 3)) (hin : ∀ w ∈ u_ws C T N, w ∈ Ts) (hlink : Cond.fieldLinkNest own index (T f).1 (T f).2.1 (T f).2.2.1 host ∈ NW) (he : w[q0]? = some (a, .inr (ci, fs))) (hc : vwCl[ci]? = some (C, T, N)) (hf : f < N) (hv : fs[f]? = some v) (kk : P k n w (pc + 3) lv (v :: st)) : P k n w pc lv (.ref a :: st) := by
  obtain ⟨p, e, s, m, args, below, meth, c, A, Q, ⟨hx, hb, hml, hown, hts, hE, hA⟩, hini, hP, hR⟩ := G
  exact (hP _ _ _ _ _ _).mpr (fun H locs ls h1 h2 h3 h4 => va_getN hx hb hts hin hown hE.1 h1 q0 he hc f hf (va_Nw.use rfl (hE.2.1 _ hlink)) (fun _ h9 => h9) hv d ((hP _ _ _ _ _ _).mp kk H locs ls h1 h2 h3 h4))
theorem g_put (G : Gd E own cc nL Ts R ini Rt mc ms P) (q0 f : Nat) {C : String} {T : u_T} {N ci index a : Nat} {fs : List Value} {v : Value} {ty : FieldType} {ty0 : Nat → FieldType} (w' : va_W) (d : decode cc pc = .ok (.putfield index, 3)) (hin : ∀ w ∈ u_ws C T N, w ∈ Ts) (hlink : Cond.fieldLink own index (T f).1 (T f).2.1 (T f).2.2.1 ∈ Ts) (hty : ∀ k, k < N → parseFieldDescriptor (T k).2.2.1 = some (ty0 k)) (hnm : ∀ a, a < N → ∀ b, b < N → a ≠ b → (T a).2.1 ≠ (T b).2.1) (he : w[q0]? = some (a, .inr (ci, fs))) (hc : vwCl[ci]? = some (C, T, N)) (hf : f < N) (hfin : (T f).2.2.2 = false) (hd : ty0 f = ty) (hn : narrow ty v = v) (hfit : fits ty v = true) (hl : f < fs.length) (hw : w.set q0 (a, .inr (ci, fs.set f v)) = w') (kk : P k n w' (pc + 3) lv st) : P k n w pc lv (v :: .ref a :: st) := by
  obtain ⟨p, e, s, m, args, below, meth, c, A, Q, ⟨hx, hb, hml, hown, hts, hE, hA⟩, hini, hP, hR⟩ := G
  subst hw; subst hd
  exact (hP _ _ _ _ _ _).mpr (fun H locs ls h1 h2 h3 h4 => va_put hx hb hts hin ty0 hty hnm hown hE.1 h1 h2 h3 q0 he hc f hf (hts _ hlink) (fun _ h9 => h9) hfin (hty f hf) hn hfit hl d (fun H locs h1 h2 h3 => (hP _ _ _ _ _ _).mp kk H locs ls h1 h2 h3 h4))
theorem g_putF (G : Gd E own cc nL Ts R true Rt mc ms P) (q0 f : Nat) {C : String} {T : u_T} {N ci index a : Nat} {fs : List Value} {v : Value} {ty : FieldType} {ty0 : Nat → FieldType} (w' : va_W) (d : decode cc pc = .ok (.putfield index, 3)) (hin : ∀ w ∈ u_ws C T N, w ∈ Ts) (hlink : Cond.fieldLink own index (T f).1 (T f).2.1 (T f).2.2.1 ∈ Ts) (hty : ∀ k, k < N → parseFieldDescriptor (T k).2.2.1 = some (ty0 k)) (hnm : ∀ a, a < N → ∀ b, b < N → a ≠ b → (T a).2.1 ≠ (T b).2.1) (he : w[q0]? = some (a, .inr (ci, fs))) (hc : vwCl[ci]? = some (C, T, N)) (hf : f < N) (hfin : (T f).2.2.2 = true) (hdecl : (T f).1 = own) (hd : ty0 f = ty) (hn : narrow ty v = v) (hfit : fits ty v = true) (hl : f < fs.length) (hw : w.set q0 (a, .inr (ci, fs.set f v)) = w') (kk : P k n w' (pc + 3) lv st) : P k n w pc lv (v :: .ref a :: st) := by
  obtain ⟨p, e, s, m, args, below, meth, c, A, Q, ⟨hx, hb, hml, hown, hts, hE, hA⟩, hini, hP, hR⟩ := G
  subst hw; subst hd
  exact (hP _ _ _ _ _ _).mpr (fun H locs ls h1 h2 h3 h4 => va_putF hx hb hts hin ty0 hty hnm hown hE.1 h1 h2 h3 q0 he hc f hf (hts _ hlink) (fun _ h9 => h9) hfin (hini rfl) hdecl (hty f hf) hn hfit hl d (fun H locs h1 h2 h3 => (hP _ _ _ _ _ _).mp kk H locs ls h1 h2 h3 h4))
theorem g_iald (G : Gd E own cc nL Ts R ini Rt mc ms P) (q0 : Nat) {a N : Nat} {V : Int → Int} {i : Int} (d : decode cc pc = .ok (.iaload, 1)) (ha : w[q0]? = some (a, ia E N V)) (h0 : 0 ≤ i) (h1 : i < N) (hN : (N : Int) < 2147483648) (kk : P k n w (pc + 1) lv (.int (iI (V i)) :: st)) : P k n w pc lv (.int (iI i) :: .ref a :: st) := by
  obtain ⟨p, e, s, m, args, below, meth, c, A, Q, ⟨hx, hb, hml, hown, hts, hE, hA⟩, hini, hP, hR⟩ := G
  refine (hP _ _ _ _ _ _).mpr (fun H locs ls g1 g2 g3 g4 => va_iald hx hb hE.1 g1 q0 0 ha rfl (iI_in h0 h1 hN) d ?_)
  have e1 : (((iI i).toNatClampNeg : Nat) : Int) = i := by rw [iI_clamp h0 (by omega)]; omega
  have := (hP _ _ _ _ _ _).mp kk H locs ls g1 g2 g3 g4
  rw [e1]
  exact this
theorem g_zald (G : Gd E own cc nL Ts R ini Rt mc ms P) (q0 : Nat) {a N : Nat} {V : Int → Int} {i : Int} (d : decode cc pc = .ok (.baload, 1)) (ha : w[q0]? = some (a, za E N V)) (h0 : 0 ≤ i) (h1 : i < N) (hN : (N : Int) < 2147483648) (kk : P k n w (pc + 1) lv (.int (iI (V i)) :: st)) : P k n w pc lv (.int (iI i) :: .ref a :: st) := by
  obtain ⟨p, e, s, m, args, below, meth, c, A, Q, ⟨hx, hb, hml, hown, hts, hE, hA⟩, hini, hP, hR⟩ := G
  refine (hP _ _ _ _ _ _).mpr (fun H locs ls g1 g2 g3 g4 => va_zald hx hb hE.1 g1 q0 1 ha rfl (iI_in h0 h1 hN) d ?_)
  have e1 : (((iI i).toNatClampNeg : Nat) : Int) = i := by rw [iI_clamp h0 (by omega)]; omega
  have := (hP _ _ _ _ _ _).mp kk H locs ls g1 g2 g3 g4
  rw [e1]
  exact this
theorem g_iast (G : Gd E own cc nL Ts R ini Rt mc ms P) (q0 : Nat) {a N : Nat} {V : Int → Int} {i x : Int} (w' : va_W) (d : decode cc pc = .ok (.iastore, 1)) (ha : w[q0]? = some (a, ia E N V)) (h0 : 0 ≤ i) (h1 : i < N) (hN : (N : Int) < 2147483648) (hw : w.set q0 (a, ia E N (upI V i x)) = w') (kk : P k n w' (pc + 1) lv st) : P k n w pc lv (.int (iI x) :: .int (iI i) :: .ref a :: st) := by
  obtain ⟨p, e, s, m, args, below, meth, c, A, Q, ⟨hx, hb, hml, hown, hts, hE, hA⟩, hini, hP, hR⟩ := G
  subst hw
  refine (hP _ _ _ _ _ _).mpr (fun H locs ls g1 g2 g3 g4 => va_iast hx hb hE.1 g1 g2 g3 q0 0 ha rfl (iI_in h0 h1 hN) d ?_)
  rw [upI_upd V x h0 (by omega)]
  exact fun H locs g1 g2 g3 => (hP _ _ _ _ _ _).mp kk H locs ls g1 g2 g3 g4
theorem g_alen (G : Gd E own cc nL Ts R ini Rt mc ms P) (q0 : Nat) {a N : Nat} {V : Int → Int} (d : decode cc pc = .ok (.arraylength, 1)) (ha : w[q0]? = some (a, ia E N V)) (kk : P k n w (pc + 1) lv (.int (iI (N : Int)) :: st)) : P k n w pc lv (.ref a :: st) := by
  obtain ⟨p, e, s, m, args, below, meth, c, A, Q, ⟨hx, hb, hml, hown, hts, hE, hA⟩, hini, hP, hR⟩ := G
  exact (hP _ _ _ _ _ _).mpr (fun H locs ls g1 g2 g3 g4 => va_alen hx hb hE.1 g1 q0 0 ha (ty := .int) rfl (iI_nI N) d ((hP _ _ _ _ _ _).mp kk H locs ls g1 g2 g3 g4))
end GR
