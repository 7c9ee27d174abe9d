/-! the law's entry -/
theorem law_of {p : Program} {e : Env} {s : State} {m : MethodId} {below : List Frame} {meth : Method} {c : Code} {E : qE} {b L : Nat} {xs : Nat → Int32} {R : Room} {Q : State → Prop} {Rt : Option Value → va_W → Prop} {mc ms : Nat} {cc : ByteArray}
    (hx : p.tables.exec = Jvm.exec) (hb : c.code = cc) (hml : c.maxLocals = 4) (hown : s.vm.findClass RL = some m.cls) (hts : ∀ w ∈ wsL_law, w.before #[Value.ref b] s = true) (hE : Ev E s) (hX : va_X b L xs s s.heap) (hbl : b < s.heap.size)
    (hret : ∀ (v : Option Value) (w : va_W) (H : Heap) (locs : List Loc) (ls : Array Slot) (pc : Nat), Rt v w → va_P E.2.1 vwCl w H → va_D (fun q => s.heap.size ≤ q) w → va_S (fun q => s.heap.size ≤ q) s.heap H locs → decode cc pc = .ok (retOf v, 1) → W p E.1 e R s m #[Value.ref b] below meth c H locs mc ms Q (F0 m pc ls v.toList))
    (body : ∀ P : qP, GdL E RL cc 4 wsL_law R Rt mc ms b L xs P → P 0 0 [] 0 [(0, .ref b)] []) : W p E.1 e R s m #[Value.ref b] below meth c s.heap [] 0 0 Q (entryFrame m ([Value.ref b] : List Value).toArray 4) := by
  have hl := lv_entry [Value.ref b] (n := 4) (Nat.le_of_ble_eq_true rfl)
  rw [lg_entry_eq]
  have key := body (fun k n w1 pc lv st => ∀ (H : Heap) (locs : List Loc) (ls : Array Slot), va_P E.2.1 vwCl w1 H → va_D (fun q => s.heap.size ≤ q) w1 → va_S (fun q => s.heap.size ≤ q) s.heap H locs → lv_has ls 4 lv → W p E.1 e R s m #[Value.ref b] below meth c H locs k n Q (F0 m pc ls st))
    ⟨p, e, s, m, #[Value.ref b], below, meth, c, (fun q => s.heap.size ≤ q), Q, ⟨⟨hx, hb, hml, hown, hts, hE, fun q h => h⟩, fun h => (by cases h), fun _ _ _ _ _ _ => Iff.rfl, hret⟩, hX, hbl, fun h => by omega⟩
  exact key s.heap [] _ (fun k q h => (by cases h)) ⟨fun i j x y h => (by cases h), fun k q h => (by cases h)⟩ va_S.rf hl
