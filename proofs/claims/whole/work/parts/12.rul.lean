def MemOk (c b : Int → Int) : Prop := (∀ i, 0 ≤ c i ∧ c i ≤ 1000000) ∧ ∀ i, -1 ≤ b i ∧ b i < 100
theorem baseI_bd {c b : Int → Int} (hc : ∀ i, 0 ≤ c i ∧ c i ≤ 1000000) (hb : ∀ i, -1 ≤ b i ∧ b i < 100) (x v : Int) {s : Int} (hs : 0 ≤ s ∧ s < 10000) : -1 ≤ baseI c b x v s ∧ baseI c b x v s ≤ 1000000 := by
  have h1 := hc v
  have h2 := hb (s / 100)
  unfold baseI
  (repeat' split) <;> omega
theorem qpl_bd (dv dc : Int → Prop) : ∀ (n : Nat) (p : Int), qpl dv dc n p = -1 ∨ (p ≤ qpl dv dc n p ∧ qpl dv dc n p < p + n ∧ dc (qpl dv dc n p))
  | 0, p => Or.inl rfl
  | n + 1, p => by
    unfold qpl
    by_cases h1 : dv p
    · rw [if_pos h1]; exact Or.inl rfl
    · rw [if_neg h1]
      by_cases h2 : dc p
      · rw [if_pos h2]; exact Or.inr ⟨by omega, by omega, h2⟩
      · rw [if_neg h2]
        rcases qpl_bd dv dc n (p + 1) with h | ⟨h3, h4, h5⟩
        · exact Or.inl h
        · exact Or.inr ⟨by omega, by omega, h5⟩
theorem findI_bd (a : Int → Int) (z v s : Int) : findI a z v s = -1 ∨ (0 ≤ findI a z v s ∧ findI a z v s < z) := by
  rcases qpl_bd (fun _ => False) (fun i => a i = v * 10000 + s) z.toNat 0 with h | ⟨h1, h2, h3⟩
  · exact Or.inl h
  · refine Or.inr ⟨h1, ?_⟩
    unfold findI
    omega
noncomputable def fore (k o a b : Int → Int) (z : Int) (c d : Int → Int) (v f s : Int) : Int := if k (v * 2 + f) = 5 then (if findI a z v s = -1 then -1000 else fldI (b (findI a z v s)) f) else if k (v * 2 + f) = -1 ∨ k (v * 2 + f) = 6 then -1000 else if baseI c d (k (v * 2 + f)) v s = -1 then 0 else baseI c d (k (v * 2 + f)) v s + o (v * 2 + f)
theorem e_X6_find : yX6_find.cls ≠ "java/lang/invoke/MethodHandle" ∧ yX6_find.cls ≠ "java/lang/invoke/VarHandle" ∧ (parseMethodDescriptor yX6_find.desc).map (fun d => d.parameters.length) = some 2 := by decide +kernel
theorem f_X6_firstAnswer_30 : Cond.fieldLink RX6 30 (TX6 4).1 (TX6 4).2.1 (TX6 4).2.2.1 ∈ wsX6_firstAnswer := by decide +kernel
theorem i_X6_firstAnswer_X6 : ∀ w ∈ wsX60, w ∈ wsX6_firstAnswer := by decide +kernel
theorem f_X6_firstAnswer_18 : Cond.fieldLink RX6 18 (TX6 2).1 (TX6 2).2.1 (TX6 2).2.2.1 ∈ wsX6_firstAnswer := by decide +kernel
theorem f_X6_firstAnswer_21 : Cond.fieldLink RX6 21 (TX6 3).1 (TX6 3).2.1 (TX6 3).2.2.1 ∈ wsX6_firstAnswer := by decide +kernel
set_option maxRecDepth 100000 in
set_option maxHeartbeats 4000000 in
theorem c_X6_firstAnswer (E : qE) (q0 : Nat) (q1 : Nat) (q2 : Nat) (q3 : Nat) (q4 : Nat) (k : Int → Int) (o : Int → Int) (a : Int → Int) (b : Int → Int) (z : Int) (v : Int) (s : Int) (x : Int) (hU : RulesOk k o a b z) (hv : 0 ≤ v ∧ v < 3) (hs : 0 ≤ s ∧ s < 10000) : Cn E yX6_firstAnswer wsX6_firstAnswer { frames := 1, cells := 0, slots := 0, locals := 24 } [.ref q0, .int (iI v), .int (iI s), .int (iI x)] [(q0, .inr (6, [.ref q1, .ref q2, .ref q3, .ref q4, .int (iI z)])), (q1, ia E 6 k), (q2, ia E 6 o), (q3, ia E 96 a), (q4, ia E 96 b)] (fun v9 w9 => ∃ (r : Int) (a' : Int → Int) (b' : Int → Int) (z' : Int), v9 = some (.int (iI r)) ∧ w9 = [(q0, .inr (6, [.ref q1, .ref q2, .ref q3, .ref q4, .int (iI z')])), (q1, ia E 6 k), (q2, ia E 6 o), (q3, ia E 96 a'), (q4, ia E 96 b')] ∧ r = (if findI a z v s = -1 then x else b (findI a z v s)) ∧ a' = (if findI a z v s = -1 ∧ z < 96 then upI a z (v * 10000 + s) else a) ∧ b' = (if findI a z v s = -1 ∧ z < 96 then upI b z x else b) ∧ z' = (if findI a z v s = -1 ∧ z < 96 then z + 1 else z)) 0 0 := by
  refine Cn.ofP (own := RX6) (cc := cX6_firstAnswer) (maxL := 5) (ret := (some .int)) false [(0, .ref q0), (1, .int (iI v)), (2, .int (iI s)), (3, .int (iI x))] (by decide +kernel) rfl rfl (Nat.le_of_ble_eq_true rfl) rfl (fun h => nomatch h) (fun v w h => by obtain ⟨r, a', b', z', rfl, h9⟩ := h; exact ⟨_, rfl, rfl⟩) ?_
  intro P G
  have hf := findI_bd a z v s
  obtain ⟨hz0, hz1, hk, ho, ha, hb⟩ := id hU
  refine g_aload_n G 0 dX6_firstAnswer_0 rfl ?_
  refine g_iload_n G 1 dX6_firstAnswer_1 rfl ?_
  refine g_iload_n G 2 dX6_firstAnswer_2 rfl ?_
  refine g_callV G [0, 1, 2, 3, 4] [] 5 [] [.int (iI v), .int (iI s)] [] (c_X6_find E q0 q1 q2 q3 q4 k o a b z v s (by exact ⟨hz0, hz1, hk, ho, ha, hb⟩) (by exact hv) (by exact hs)) dX6_firstAnswer_3 gX6_firstAnswer_X6_find ⟨rfl, ⟨rfl, rfl⟩, e_X6_find, ⟨Nat.le_of_ble_eq_true rfl, Nat.le_of_ble_eq_true rfl⟩, Nat.le_of_ble_eq_true rfl, Nat.le_of_ble_eq_true rfl, Nat.le_of_ble_eq_true rfl⟩ rfl rfl rfl rfl rfl (by decide +kernel) rfl (by decide +kernel) rfl (fun v9 w9 h9 => ?_)
  obtain ⟨o1, rfl, rfl, rfl⟩ := h9
  refine ⟨[(q0, .inr (6, [.ref q1, .ref q2, .ref q3, .ref q4, .int (iI z)])), (q1, ia E 6 k), (q2, ia E 6 o), (q3, ia E 96 a), (q4, ia E 96 b)], ⟨rfl, rfl, rfl, rfl⟩, g_to 0 0 _ _ [.int (iI (findI a z v s))] rfl rfl rfl rfl rfl ?_⟩
  refine g_istore G [(0, .ref q0), (1, .int (iI v)), (2, .int (iI s)), (3, .int (iI x)), (4, .int (iI (findI a z v s)))] dX6_firstAnswer_6 (by decide) rfl rfl ?_
  refine g_iload G 4 dX6_firstAnswer_8 rfl ?_
  refine g_iconst G dX6_firstAnswer_10 ?_
  refine g_icmp_eq G 22 dX6_firstAnswer_11 (by decide) (by omega) (by omega) (fun c11 => ?_) (fun c11 => ?_)
  · refine g_aload_n G 0 dX6_firstAnswer_22 rfl ?_
    refine g_get G 0 4 dX6_firstAnswer_23 i_X6_firstAnswer_X6 f_X6_firstAnswer_30 rfl rfl (by decide) rfl ?_
    refine g_bipush G dX6_firstAnswer_26 (by decide +kernel) ?_
    refine g_icmp_ge G 67 dX6_firstAnswer_28 (by decide) (by omega) (by omega) (fun c28 => ?_) (fun c28 => ?_)
    · refine g_iload_n G 3 dX6_firstAnswer_67 rfl ?_
      exact g_ret G (some (.int (iI x))) rfl dX6_firstAnswer_68 (Nat.le_refl _) (Nat.le_refl _) ⟨x, a, b, z, rfl, rfl, by first | (rw [if_pos (by omega)]; done) | (rw [if_neg (by omega)]; done), by first | (rw [if_pos (by omega)]; done) | (rw [if_neg (by omega)]; done), by first | (rw [if_pos (by omega)]; done) | (rw [if_neg (by omega)]; done), by first | (rw [if_pos (by omega)]; done) | (rw [if_neg (by omega)]; done)⟩
    · refine g_aload_n G 0 dX6_firstAnswer_31 rfl ?_
      refine g_get G 0 2 dX6_firstAnswer_32 i_X6_firstAnswer_X6 f_X6_firstAnswer_18 rfl rfl (by decide) rfl ?_
      refine g_aload_n G 0 dX6_firstAnswer_35 rfl ?_
      refine g_get G 0 4 dX6_firstAnswer_36 i_X6_firstAnswer_X6 f_X6_firstAnswer_30 rfl rfl (by decide) rfl ?_
      refine g_iload_n G 1 dX6_firstAnswer_39 rfl ?_
      refine g_sipush G dX6_firstAnswer_40 (by decide +kernel) ?_
      refine g_imul G dX6_firstAnswer_43 ?_
      refine g_iload_n G 2 dX6_firstAnswer_44 rfl ?_
      refine g_iadd G dX6_firstAnswer_45 ?_
      refine g_iast G 3 [(q0, .inr (6, [.ref q1, .ref q2, .ref q3, .ref q4, .int (iI z)])), (q1, ia E 6 k), (q2, ia E 6 o), (q3, ia E 96 (upI a z ((v * 10000) + s))), (q4, ia E 96 b)] dX6_firstAnswer_46 rfl (by omega) (by omega) (by decide) rfl ?_
      refine g_aload_n G 0 dX6_firstAnswer_47 rfl ?_
      refine g_get G 0 3 dX6_firstAnswer_48 i_X6_firstAnswer_X6 f_X6_firstAnswer_21 rfl rfl (by decide) rfl ?_
      refine g_aload_n G 0 dX6_firstAnswer_51 rfl ?_
      refine g_get G 0 4 dX6_firstAnswer_52 i_X6_firstAnswer_X6 f_X6_firstAnswer_30 rfl rfl (by decide) rfl ?_
      refine g_iload_n G 3 dX6_firstAnswer_55 rfl ?_
      refine g_iast G 4 [(q0, .inr (6, [.ref q1, .ref q2, .ref q3, .ref q4, .int (iI z)])), (q1, ia E 6 k), (q2, ia E 6 o), (q3, ia E 96 (upI a z ((v * 10000) + s))), (q4, ia E 96 (upI b z x))] dX6_firstAnswer_56 rfl (by omega) (by omega) (by decide) rfl ?_
      refine g_aload_n G 0 dX6_firstAnswer_57 rfl ?_
      refine g_dup G dX6_firstAnswer_58 rfl ?_
      refine g_get G 0 4 dX6_firstAnswer_59 i_X6_firstAnswer_X6 f_X6_firstAnswer_30 rfl rfl (by decide) rfl ?_
      refine g_iconst G dX6_firstAnswer_62 ?_
      refine g_iadd G dX6_firstAnswer_63 ?_
      refine g_put G 0 4 [(q0, .inr (6, [.ref q1, .ref q2, .ref q3, .ref q4, .int (iI (z + 1))])), (q1, ia E 6 k), (q2, ia E 6 o), (q3, ia E 96 (upI a z ((v * 10000) + s))), (q4, ia E 96 (upI b z x))] dX6_firstAnswer_64 i_X6_firstAnswer_X6 f_X6_firstAnswer_30 tyX6_ok nmX6 rfl rfl (by decide) rfl rfl rfl rfl (Nat.le_of_ble_eq_true rfl) rfl ?_
      refine g_iload_n G 3 dX6_firstAnswer_67 rfl ?_
      exact g_ret G (some (.int (iI x))) rfl dX6_firstAnswer_68 (Nat.le_refl _) (Nat.le_refl _) ⟨x, (upI a z ((v * 10000) + s)), (upI b z x), (z + 1), rfl, rfl, by first | (rw [if_pos (by omega)]; done) | (rw [if_neg (by omega)]; done), by first | (rw [if_pos (by omega)]; done) | (rw [if_neg (by omega)]; done), by first | (rw [if_pos (by omega)]; done) | (rw [if_neg (by omega)]; done), by first | (rw [if_pos (by omega)]; done) | (rw [if_neg (by omega)]; done)⟩
  · refine g_aload_n G 0 dX6_firstAnswer_14 rfl ?_
    refine g_get G 0 3 dX6_firstAnswer_15 i_X6_firstAnswer_X6 f_X6_firstAnswer_21 rfl rfl (by decide) rfl ?_
    refine g_iload G 4 dX6_firstAnswer_18 rfl ?_
    refine g_iald G 4 dX6_firstAnswer_20 rfl (by omega) (by omega) (by decide) ?_
    have b2 := hb (findI a z v s)
    exact g_ret G (some (.int (iI (b (findI a z v s))))) rfl dX6_firstAnswer_21 (Nat.le_refl _) (Nat.le_refl _) ⟨(b (findI a z v s)), a, b, z, rfl, rfl, by first | (rw [if_pos (by omega)]; done) | (rw [if_neg (by omega)]; done), by first | (rw [if_pos (by omega)]; done) | (rw [if_neg (by omega)]; done), by first | (rw [if_pos (by omega)]; done) | (rw [if_neg (by omega)]; done), by first | (rw [if_pos (by omega)]; done) | (rw [if_neg (by omega)]; done)⟩
theorem e_X6_kindOf : yX6_kindOf.cls ≠ "java/lang/invoke/MethodHandle" ∧ yX6_kindOf.cls ≠ "java/lang/invoke/VarHandle" ∧ (parseMethodDescriptor yX6_kindOf.desc).map (fun d => d.parameters.length) = some 2 := by decide +kernel
set_option maxRecDepth 100000 in
set_option maxHeartbeats 4000000 in
theorem c_X6_lacks (E : qE) (q0 : Nat) (q1 : Nat) (q2 : Nat) (q3 : Nat) (q4 : Nat) (k : Int → Int) (o : Int → Int) (a : Int → Int) (b : Int → Int) (z : Int) (v : Int) (s : Int) (hU : RulesOk k o a b z) (hv : 0 ≤ v ∧ v < 3) (hs : 0 ≤ s ∧ s < 10000) : Cn E yX6_lacks wsX6_lacks { frames := 1, cells := 0, slots := 0, locals := 24 } [.ref q0, .int (iI v), .int (iI s)] [(q0, .inr (6, [.ref q1, .ref q2, .ref q3, .ref q4, .int (iI z)])), (q1, ia E 6 k), (q2, ia E 6 o), (q3, ia E 96 a), (q4, ia E 96 b)] (fun v9 w9 => ∃ (r : Int), v9 = some (.int (iI r)) ∧ w9 = [(q0, .inr (6, [.ref q1, .ref q2, .ref q3, .ref q4, .int (iI z)])), (q1, ia E 6 k), (q2, ia E 6 o), (q3, ia E 96 a), (q4, ia E 96 b)] ∧ r = (if (k (v * 2 + 0) = 5 ∨ k (v * 2 + 1) = 5) ∧ findI a z v s = -1 then 1 else 0)) 0 0 := by
  refine Cn.ofP (own := RX6) (cc := cX6_lacks) (maxL := 4) (ret := (some .boolean)) false [(0, .ref q0), (1, .int (iI v)), (2, .int (iI s))] (by decide +kernel) rfl rfl (Nat.le_of_ble_eq_true rfl) rfl (fun h => nomatch h) (fun v w h => by obtain ⟨r, rfl, h9⟩ := h; exact ⟨_, rfl, by (refine iI_b01 ?_; first | rw [h9.2] | rw [h9.2.1]); split <;> simp⟩) ?_
  intro P G
  have hf := findI_bd a z v s
  obtain ⟨hz0, hz1, hk, ho, ha, hb⟩ := id hU
  refine g_aload_n G 0 dX6_lacks_0 rfl ?_
  refine g_iload_n G 1 dX6_lacks_1 rfl ?_
  refine g_iconst G dX6_lacks_2 ?_
  refine g_callV G [0, 1, 2, 3, 4] [] 5 [] [.int (iI v), .int (iI 0)] [] (c_X6_kindOf E q0 q1 q2 q3 q4 k o a b z v 0 (by first | assumption | omega)) dX6_lacks_3 gX6_lacks_X6_kindOf ⟨rfl, ⟨rfl, rfl⟩, e_X6_kindOf, ⟨Nat.le_of_ble_eq_true rfl, Nat.le_of_ble_eq_true rfl⟩, Nat.le_of_ble_eq_true rfl, Nat.le_of_ble_eq_true rfl, Nat.le_of_ble_eq_true rfl⟩ rfl rfl rfl rfl rfl (by decide +kernel) rfl (by decide +kernel) rfl (fun v9 w9 h9 => ?_)
  obtain ⟨o1, rfl, rfl, rfl⟩ := h9
  have b2 := hk (v * 2 + 0)
  refine ⟨[(q0, .inr (6, [.ref q1, .ref q2, .ref q3, .ref q4, .int (iI z)])), (q1, ia E 6 k), (q2, ia E 6 o), (q3, ia E 96 a), (q4, ia E 96 b)], ⟨rfl, rfl, rfl, rfl⟩, g_to 0 0 _ _ [.int (iI (k (v * 2 + 0)))] rfl rfl rfl rfl rfl ?_⟩
  refine g_iconst G dX6_lacks_6 ?_
  refine g_icmp_eq G 20 dX6_lacks_7 (by decide) (by omega) (by omega) (fun c7 => ?_) (fun c7 => ?_)
  · refine g_iconst G dX6_lacks_20 ?_
    refine g_goto G 25 dX6_lacks_21 (by decide) ?_
    refine g_istore_n G [(0, .ref q0), (1, .int (iI v)), (2, .int (iI s)), (3, .int (iI 1))] dX6_lacks_25 (by decide) rfl rfl ?_
    refine g_iload_n G 3 dX6_lacks_26 rfl ?_
    refine g_if_eq G 44 dX6_lacks_27 (by decide) (by omega) (fun c27 => ?_) (fun c27 => ?_)
    · exfalso; omega
    · refine g_aload_n G 0 dX6_lacks_30 rfl ?_
      refine g_iload_n G 1 dX6_lacks_31 rfl ?_
      refine g_iload_n G 2 dX6_lacks_32 rfl ?_
      refine g_callV G [0, 1, 2, 3, 4] [] 5 [] [.int (iI v), .int (iI s)] [] (c_X6_find E q0 q1 q2 q3 q4 k o a b z v s (by exact ⟨hz0, hz1, hk, ho, ha, hb⟩) (by exact hv) (by exact hs)) dX6_lacks_33 gX6_lacks_X6_find ⟨rfl, ⟨rfl, rfl⟩, e_X6_find, ⟨Nat.le_of_ble_eq_true rfl, Nat.le_of_ble_eq_true rfl⟩, Nat.le_of_ble_eq_true rfl, Nat.le_of_ble_eq_true rfl, Nat.le_of_ble_eq_true rfl⟩ rfl rfl rfl rfl rfl (by decide +kernel) rfl (by decide +kernel) rfl (fun v9 w9 h9 => ?_)
      obtain ⟨o3, rfl, rfl, rfl⟩ := h9
      refine ⟨[(q0, .inr (6, [.ref q1, .ref q2, .ref q3, .ref q4, .int (iI z)])), (q1, ia E 6 k), (q2, ia E 6 o), (q3, ia E 96 a), (q4, ia E 96 b)], ⟨rfl, rfl, rfl, rfl⟩, g_to 0 0 _ _ [.int (iI (findI a z v s))] rfl rfl rfl rfl rfl ?_⟩
      refine g_iconst G dX6_lacks_36 ?_
      refine g_icmp_ne G 44 dX6_lacks_37 (by decide) (by omega) (by omega) (fun c37 => ?_) (fun c37 => ?_)
      · refine g_iconst G dX6_lacks_44 ?_
        exact g_ret G (some (.int (iI 0))) rfl dX6_lacks_45 (Nat.le_refl _) (Nat.le_refl _) ⟨0, rfl, rfl, by first | (rw [if_pos (by omega)]; done) | (rw [if_neg (by omega)]; done)⟩
      · refine g_iconst G dX6_lacks_40 ?_
        refine g_goto G 45 dX6_lacks_41 (by decide) ?_
        exact g_ret G (some (.int (iI 1))) rfl dX6_lacks_45 (Nat.le_refl _) (Nat.le_refl _) ⟨1, rfl, rfl, by first | (rw [if_pos (by omega)]; done) | (rw [if_neg (by omega)]; done)⟩
  · refine g_aload_n G 0 dX6_lacks_10 rfl ?_
    refine g_iload_n G 1 dX6_lacks_11 rfl ?_
    refine g_iconst G dX6_lacks_12 ?_
    refine g_callV G [0, 1, 2, 3, 4] [] 5 [] [.int (iI v), .int (iI 1)] [] (c_X6_kindOf E q0 q1 q2 q3 q4 k o a b z v 1 (by first | assumption | omega)) dX6_lacks_13 gX6_lacks_X6_kindOf ⟨rfl, ⟨rfl, rfl⟩, e_X6_kindOf, ⟨Nat.le_of_ble_eq_true rfl, Nat.le_of_ble_eq_true rfl⟩, Nat.le_of_ble_eq_true rfl, Nat.le_of_ble_eq_true rfl, Nat.le_of_ble_eq_true rfl⟩ rfl rfl rfl rfl rfl (by decide +kernel) rfl (by decide +kernel) rfl (fun v9 w9 h9 => ?_)
    obtain ⟨o4, rfl, rfl, rfl⟩ := h9
    have b5 := hk (v * 2 + 1)
    refine ⟨[(q0, .inr (6, [.ref q1, .ref q2, .ref q3, .ref q4, .int (iI z)])), (q1, ia E 6 k), (q2, ia E 6 o), (q3, ia E 96 a), (q4, ia E 96 b)], ⟨rfl, rfl, rfl, rfl⟩, g_to 0 0 _ _ [.int (iI (k (v * 2 + 1)))] rfl rfl rfl rfl rfl ?_⟩
    refine g_iconst G dX6_lacks_16 ?_
    refine g_icmp_ne G 24 dX6_lacks_17 (by decide) (by omega) (by omega) (fun c17 => ?_) (fun c17 => ?_)
    · refine g_iconst G dX6_lacks_24 ?_
      refine g_istore_n G [(0, .ref q0), (1, .int (iI v)), (2, .int (iI s)), (3, .int (iI 0))] dX6_lacks_25 (by decide) rfl rfl ?_
      refine g_iload_n G 3 dX6_lacks_26 rfl ?_
      refine g_if_eq G 44 dX6_lacks_27 (by decide) (by omega) (fun c27 => ?_) (fun c27 => ?_)
      · refine g_iconst G dX6_lacks_44 ?_
        exact g_ret G (some (.int (iI 0))) rfl dX6_lacks_45 (Nat.le_refl _) (Nat.le_refl _) ⟨0, rfl, rfl, by first | (rw [if_pos (by omega)]; done) | (rw [if_neg (by omega)]; done)⟩
      · exfalso; omega
    · refine g_iconst G dX6_lacks_20 ?_
      refine g_goto G 25 dX6_lacks_21 (by decide) ?_
      refine g_istore_n G [(0, .ref q0), (1, .int (iI v)), (2, .int (iI s)), (3, .int (iI 1))] dX6_lacks_25 (by decide) rfl rfl ?_
      refine g_iload_n G 3 dX6_lacks_26 rfl ?_
      refine g_if_eq G 44 dX6_lacks_27 (by decide) (by omega) (fun c27 => ?_) (fun c27 => ?_)
      · exfalso; omega
      · refine g_aload_n G 0 dX6_lacks_30 rfl ?_
        refine g_iload_n G 1 dX6_lacks_31 rfl ?_
        refine g_iload_n G 2 dX6_lacks_32 rfl ?_
        refine g_callV G [0, 1, 2, 3, 4] [] 5 [] [.int (iI v), .int (iI s)] [] (c_X6_find E q0 q1 q2 q3 q4 k o a b z v s (by exact ⟨hz0, hz1, hk, ho, ha, hb⟩) (by exact hv) (by exact hs)) dX6_lacks_33 gX6_lacks_X6_find ⟨rfl, ⟨rfl, rfl⟩, e_X6_find, ⟨Nat.le_of_ble_eq_true rfl, Nat.le_of_ble_eq_true rfl⟩, Nat.le_of_ble_eq_true rfl, Nat.le_of_ble_eq_true rfl, Nat.le_of_ble_eq_true rfl⟩ rfl rfl rfl rfl rfl (by decide +kernel) rfl (by decide +kernel) rfl (fun v9 w9 h9 => ?_)
        obtain ⟨o6, rfl, rfl, rfl⟩ := h9
        refine ⟨[(q0, .inr (6, [.ref q1, .ref q2, .ref q3, .ref q4, .int (iI z)])), (q1, ia E 6 k), (q2, ia E 6 o), (q3, ia E 96 a), (q4, ia E 96 b)], ⟨rfl, rfl, rfl, rfl⟩, g_to 0 0 _ _ [.int (iI (findI a z v s))] rfl rfl rfl rfl rfl ?_⟩
        refine g_iconst G dX6_lacks_36 ?_
        refine g_icmp_ne G 44 dX6_lacks_37 (by decide) (by omega) (by omega) (fun c37 => ?_) (fun c37 => ?_)
        · refine g_iconst G dX6_lacks_44 ?_
          exact g_ret G (some (.int (iI 0))) rfl dX6_lacks_45 (Nat.le_refl _) (Nat.le_refl _) ⟨0, rfl, rfl, by first | (rw [if_pos (by omega)]; done) | (rw [if_neg (by omega)]; done)⟩
        · refine g_iconst G dX6_lacks_40 ?_
          refine g_goto G 45 dX6_lacks_41 (by decide) ?_
          exact g_ret G (some (.int (iI 1))) rfl dX6_lacks_45 (Nat.le_refl _) (Nat.le_refl _) ⟨1, rfl, rfl, by first | (rw [if_pos (by omega)]; done) | (rw [if_neg (by omega)]; done)⟩
theorem e_X3_baseOf : yX3_baseOf.cls ≠ "java/lang/invoke/MethodHandle" ∧ yX3_baseOf.cls ≠ "java/lang/invoke/VarHandle" ∧ (parseMethodDescriptor yX3_baseOf.desc).map (fun d => d.parameters.length) = some 3 := by decide +kernel
theorem e_X6_offsetOf : yX6_offsetOf.cls ≠ "java/lang/invoke/MethodHandle" ∧ yX6_offsetOf.cls ≠ "java/lang/invoke/VarHandle" ∧ (parseMethodDescriptor yX6_offsetOf.desc).map (fun d => d.parameters.length) = some 2 := by decide +kernel
theorem f_X6_foretell_21 : Cond.fieldLink RX6 21 (TX6 3).1 (TX6 3).2.1 (TX6 3).2.2.1 ∈ wsX6_foretell := by decide +kernel
theorem i_X6_foretell_X6 : ∀ w ∈ wsX60, w ∈ wsX6_foretell := by decide +kernel
theorem e_X9_fieldOf : yX9_fieldOf.cls ≠ "java/lang/invoke/MethodHandle" ∧ yX9_fieldOf.cls ≠ "java/lang/invoke/VarHandle" ∧ (parseMethodDescriptor yX9_fieldOf.desc).map (fun d => d.parameters.length) = some 2 := by decide +kernel
set_option maxRecDepth 100000 in
set_option maxHeartbeats 4000000 in
theorem c_X6_foretell (E : qE) (q0 : Nat) (q1 : Nat) (q2 : Nat) (q3 : Nat) (q4 : Nat) (k : Int → Int) (o : Int → Int) (a : Int → Int) (b : Int → Int) (z : Int) (v : Int) (f : Int) (s : Int) (u0 : Nat) (u1 : Nat) (u2 : Nat) (c : Int → Int) (d : Int → Int) (hU : RulesOk k o a b z) (hv : 0 ≤ v ∧ v < 3) (hs : 0 ≤ s ∧ s < 10000) (hf : 0 ≤ f ∧ f < 2) (hM : MemOk c d) : Cn E yX6_foretell wsX6_foretell { frames := 1, cells := 0, slots := 0, locals := 24 } [.ref q0, .int (iI v), .int (iI f), .int (iI s), .ref u0] [(q0, .inr (6, [.ref q1, .ref q2, .ref q3, .ref q4, .int (iI z)])), (q1, ia E 6 k), (q2, ia E 6 o), (q3, ia E 96 a), (q4, ia E 96 b), (u0, .inr (3, [.ref u1, .ref u2])), (u1, ia E 3 c), (u2, ia E 100 d)] (fun v9 w9 => ∃ (r : Int), v9 = some (.int (iI r)) ∧ w9 = [(q0, .inr (6, [.ref q1, .ref q2, .ref q3, .ref q4, .int (iI z)])), (q1, ia E 6 k), (q2, ia E 6 o), (q3, ia E 96 a), (q4, ia E 96 b), (u0, .inr (3, [.ref u1, .ref u2])), (u1, ia E 3 c), (u2, ia E 100 d)] ∧ r = (fore k o a b z c d v f s)) 0 0 := by
  refine Cn.ofP (own := RX6) (cc := cX6_foretell) (maxL := 7) (ret := (some .int)) false [(0, .ref q0), (1, .int (iI v)), (2, .int (iI f)), (3, .int (iI s)), (4, .ref u0)] (by decide +kernel) rfl rfl (Nat.le_of_ble_eq_true rfl) rfl (fun h => nomatch h) (fun v w h => by obtain ⟨r, rfl, h9⟩ := h; exact ⟨_, rfl, rfl⟩) ?_
  intro P G
  have hg := findI_bd a z v s
  obtain ⟨hz0, hz1, hk, ho, ha, hb⟩ := id hU
  obtain ⟨hc, hd⟩ := hM
  have hB := baseI_bd hc hd (k (v * 2 + f)) v hs
  refine g_aload_n G 0 dX6_foretell_0 rfl ?_
  refine g_iload_n G 1 dX6_foretell_1 rfl ?_
  refine g_iload_n G 2 dX6_foretell_2 rfl ?_
  refine g_callV G [0, 1, 2, 3, 4] [5, 6, 7] 8 [(u0, .inr (3, [.ref u1, .ref u2])), (u1, ia E 3 c), (u2, ia E 100 d)] [.int (iI v), .int (iI f)] [] (c_X6_kindOf E q0 q1 q2 q3 q4 k o a b z v f (by first | assumption | omega)) dX6_foretell_3 gX6_foretell_X6_kindOf ⟨rfl, ⟨rfl, rfl⟩, e_X6_kindOf, ⟨Nat.le_of_ble_eq_true rfl, Nat.le_of_ble_eq_true rfl⟩, Nat.le_of_ble_eq_true rfl, Nat.le_of_ble_eq_true rfl, Nat.le_of_ble_eq_true rfl⟩ rfl rfl rfl rfl rfl (by decide +kernel) rfl (by decide +kernel) rfl (fun v9 w9 h9 => ?_)
  obtain ⟨o1, rfl, rfl, rfl⟩ := h9
  have b2 := hk (v * 2 + f)
  refine ⟨[(q0, .inr (6, [.ref q1, .ref q2, .ref q3, .ref q4, .int (iI z)])), (q1, ia E 6 k), (q2, ia E 6 o), (q3, ia E 96 a), (q4, ia E 96 b), (u0, .inr (3, [.ref u1, .ref u2])), (u1, ia E 3 c), (u2, ia E 100 d)], ⟨rfl, rfl, rfl, rfl⟩, g_to 0 0 _ _ [.int (iI (k (v * 2 + f)))] rfl rfl rfl rfl rfl ?_⟩
  refine g_istore G [(0, .ref q0), (1, .int (iI v)), (2, .int (iI f)), (3, .int (iI s)), (4, .ref u0), (5, .int (iI (k (v * 2 + f))))] dX6_foretell_6 (by decide) rfl rfl ?_
  refine g_iload G 5 dX6_foretell_8 rfl ?_
  refine g_iconst G dX6_foretell_10 ?_
  refine g_icmp_ne G 46 dX6_foretell_11 (by decide) (by omega) (by omega) (fun c11 => ?_) (fun c11 => ?_)
  · refine g_iload G 5 dX6_foretell_46 rfl ?_
    refine g_iconst G dX6_foretell_48 ?_
    refine g_icmp_eq G 59 dX6_foretell_49 (by decide) (by omega) (by omega) (fun c49 => ?_) (fun c49 => ?_)
    · refine g_sipush G dX6_foretell_59 (by decide +kernel) ?_
      exact g_ret G (some (.int (iI (-1000)))) rfl dX6_foretell_62 (Nat.le_refl _) (Nat.le_refl _) ⟨(-1000), rfl, rfl, by unfold fore; first | (rw [if_pos (by omega), if_pos (by omega)]; done) | (rw [if_pos (by omega), if_neg (by omega)]; done) | (rw [if_neg (by omega), if_pos (by omega)]; done) | (rw [if_neg (by omega), if_neg (by omega), if_pos (by omega)]; done) | (rw [if_neg (by omega), if_neg (by omega), if_neg (by omega)]; done)⟩
    · refine g_iload G 5 dX6_foretell_52 rfl ?_
      refine g_bipush G dX6_foretell_54 (by decide +kernel) ?_
      refine g_icmp_ne G 63 dX6_foretell_56 (by decide) (by omega) (by omega) (fun c56 => ?_) (fun c56 => ?_)
      · refine g_aload G 4 dX6_foretell_63 rfl ?_
        refine g_iload G 5 dX6_foretell_65 rfl ?_
        refine g_iload_n G 1 dX6_foretell_67 rfl ?_
        refine g_iload_n G 3 dX6_foretell_68 rfl ?_
        refine g_callV G [5, 6, 7] [0, 1, 2, 3, 4] 8 [(q0, .inr (6, [.ref q1, .ref q2, .ref q3, .ref q4, .int (iI z)])), (q1, ia E 6 k), (q2, ia E 6 o), (q3, ia E 96 a), (q4, ia E 96 b)] [.int (iI (k (v * 2 + f))), .int (iI v), .int (iI s)] [] (c_X3_baseOf E u0 u1 u2 c d (k (v * 2 + f)) v s (by first | assumption | omega) (by first | assumption | omega) (by first | assumption | omega)) dX6_foretell_69 gX6_foretell_X3_baseOf ⟨rfl, ⟨rfl, rfl⟩, e_X3_baseOf, ⟨Nat.le_of_ble_eq_true rfl, Nat.le_of_ble_eq_true rfl⟩, Nat.le_of_ble_eq_true rfl, Nat.le_of_ble_eq_true rfl, Nat.le_of_ble_eq_true rfl⟩ rfl rfl rfl rfl rfl (by decide +kernel) rfl (by decide +kernel) rfl (fun v9 w9 h9 => ?_)
        obtain ⟨o3, rfl, rfl, rfl⟩ := h9
        refine ⟨[(q0, .inr (6, [.ref q1, .ref q2, .ref q3, .ref q4, .int (iI z)])), (q1, ia E 6 k), (q2, ia E 6 o), (q3, ia E 96 a), (q4, ia E 96 b), (u0, .inr (3, [.ref u1, .ref u2])), (u1, ia E 3 c), (u2, ia E 100 d)], ⟨rfl, rfl, rfl, rfl⟩, g_to 0 0 _ _ [.int (iI (baseI c d (k (v * 2 + f)) v s))] rfl rfl rfl rfl rfl ?_⟩
        refine g_istore G [(0, .ref q0), (1, .int (iI v)), (2, .int (iI f)), (3, .int (iI s)), (4, .ref u0), (5, .int (iI (k (v * 2 + f)))), (6, .int (iI (baseI c d (k (v * 2 + f)) v s)))] dX6_foretell_72 (by decide) rfl rfl ?_
        refine g_iload G 6 dX6_foretell_74 rfl ?_
        refine g_iconst G dX6_foretell_76 ?_
        refine g_icmp_ne G 84 dX6_foretell_77 (by decide) (by omega) (by omega) (fun c77 => ?_) (fun c77 => ?_)
        · refine g_iload G 6 dX6_foretell_84 rfl ?_
          refine g_aload_n G 0 dX6_foretell_86 rfl ?_
          refine g_iload_n G 1 dX6_foretell_87 rfl ?_
          refine g_iload_n G 2 dX6_foretell_88 rfl ?_
          refine g_callV G [0, 1, 2, 3, 4] [5, 6, 7] 8 [(u0, .inr (3, [.ref u1, .ref u2])), (u1, ia E 3 c), (u2, ia E 100 d)] [.int (iI v), .int (iI f)] [.int (iI (baseI c d (k (v * 2 + f)) v s))] (c_X6_offsetOf E q0 q1 q2 q3 q4 k o a b z v f (by first | assumption | omega)) dX6_foretell_89 gX6_foretell_X6_offsetOf ⟨rfl, ⟨rfl, rfl⟩, e_X6_offsetOf, ⟨Nat.le_of_ble_eq_true rfl, Nat.le_of_ble_eq_true rfl⟩, Nat.le_of_ble_eq_true rfl, Nat.le_of_ble_eq_true rfl, Nat.le_of_ble_eq_true rfl⟩ rfl rfl rfl rfl rfl (by decide +kernel) rfl (by decide +kernel) rfl (fun v9 w9 h9 => ?_)
          obtain ⟨o4, rfl, rfl, rfl⟩ := h9
          have b5 := ho (v * 2 + f)
          refine ⟨[(q0, .inr (6, [.ref q1, .ref q2, .ref q3, .ref q4, .int (iI z)])), (q1, ia E 6 k), (q2, ia E 6 o), (q3, ia E 96 a), (q4, ia E 96 b), (u0, .inr (3, [.ref u1, .ref u2])), (u1, ia E 3 c), (u2, ia E 100 d)], ⟨rfl, rfl, rfl, rfl⟩, g_to 0 0 _ _ [.int (iI (o (v * 2 + f))), .int (iI (baseI c d (k (v * 2 + f)) v s))] rfl rfl rfl rfl rfl ?_⟩
          refine g_iadd G dX6_foretell_92 ?_
          exact g_ret G (some (.int (iI ((baseI c d (k (v * 2 + f)) v s) + (o (v * 2 + f)))))) rfl dX6_foretell_93 (Nat.le_refl _) (Nat.le_refl _) ⟨((baseI c d (k (v * 2 + f)) v s) + (o (v * 2 + f))), rfl, rfl, by unfold fore; first | (rw [if_pos (by omega), if_pos (by omega)]; done) | (rw [if_pos (by omega), if_neg (by omega)]; done) | (rw [if_neg (by omega), if_pos (by omega)]; done) | (rw [if_neg (by omega), if_neg (by omega), if_pos (by omega)]; done) | (rw [if_neg (by omega), if_neg (by omega), if_neg (by omega)]; done)⟩
        · refine g_iconst G dX6_foretell_80 ?_
          refine g_goto G 93 dX6_foretell_81 (by decide) ?_
          exact g_ret G (some (.int (iI 0))) rfl dX6_foretell_93 (Nat.le_refl _) (Nat.le_refl _) ⟨0, rfl, rfl, by unfold fore; first | (rw [if_pos (by omega), if_pos (by omega)]; done) | (rw [if_pos (by omega), if_neg (by omega)]; done) | (rw [if_neg (by omega), if_pos (by omega)]; done) | (rw [if_neg (by omega), if_neg (by omega), if_pos (by omega)]; done) | (rw [if_neg (by omega), if_neg (by omega), if_neg (by omega)]; done)⟩
      · refine g_sipush G dX6_foretell_59 (by decide +kernel) ?_
        exact g_ret G (some (.int (iI (-1000)))) rfl dX6_foretell_62 (Nat.le_refl _) (Nat.le_refl _) ⟨(-1000), rfl, rfl, by unfold fore; first | (rw [if_pos (by omega), if_pos (by omega)]; done) | (rw [if_pos (by omega), if_neg (by omega)]; done) | (rw [if_neg (by omega), if_pos (by omega)]; done) | (rw [if_neg (by omega), if_neg (by omega), if_pos (by omega)]; done) | (rw [if_neg (by omega), if_neg (by omega), if_neg (by omega)]; done)⟩
  · refine g_aload_n G 0 dX6_foretell_14 rfl ?_
    refine g_iload_n G 1 dX6_foretell_15 rfl ?_
    refine g_iload_n G 3 dX6_foretell_16 rfl ?_
    refine g_callV G [0, 1, 2, 3, 4] [5, 6, 7] 8 [(u0, .inr (3, [.ref u1, .ref u2])), (u1, ia E 3 c), (u2, ia E 100 d)] [.int (iI v), .int (iI s)] [] (c_X6_find E q0 q1 q2 q3 q4 k o a b z v s (by exact ⟨hz0, hz1, hk, ho, ha, hb⟩) (by exact hv) (by exact hs)) dX6_foretell_17 gX6_foretell_X6_find ⟨rfl, ⟨rfl, rfl⟩, e_X6_find, ⟨Nat.le_of_ble_eq_true rfl, Nat.le_of_ble_eq_true rfl⟩, Nat.le_of_ble_eq_true rfl, Nat.le_of_ble_eq_true rfl, Nat.le_of_ble_eq_true rfl⟩ rfl rfl rfl rfl rfl (by decide +kernel) rfl (by decide +kernel) rfl (fun v9 w9 h9 => ?_)
    obtain ⟨o6, rfl, rfl, rfl⟩ := h9
    refine ⟨[(q0, .inr (6, [.ref q1, .ref q2, .ref q3, .ref q4, .int (iI z)])), (q1, ia E 6 k), (q2, ia E 6 o), (q3, ia E 96 a), (q4, ia E 96 b), (u0, .inr (3, [.ref u1, .ref u2])), (u1, ia E 3 c), (u2, ia E 100 d)], ⟨rfl, rfl, rfl, rfl⟩, g_to 0 0 _ _ [.int (iI (findI a z v s))] rfl rfl rfl rfl rfl ?_⟩
    refine g_istore G [(0, .ref q0), (1, .int (iI v)), (2, .int (iI f)), (3, .int (iI s)), (4, .ref u0), (5, .int (iI (k (v * 2 + f)))), (6, .int (iI (findI a z v s)))] dX6_foretell_20 (by decide) rfl rfl ?_
    refine g_iload G 6 dX6_foretell_22 rfl ?_
    refine g_iconst G dX6_foretell_24 ?_
    refine g_icmp_ne G 34 dX6_foretell_25 (by decide) (by omega) (by omega) (fun c25 => ?_) (fun c25 => ?_)
    · refine g_aload_n G 0 dX6_foretell_34 rfl ?_
      refine g_get G 0 3 dX6_foretell_35 i_X6_foretell_X6 f_X6_foretell_21 rfl rfl (by decide) rfl ?_
      refine g_iload G 6 dX6_foretell_38 rfl ?_
      refine g_iald G 4 dX6_foretell_40 rfl (by omega) (by omega) (by decide) ?_
      have b7 := hb (findI a z v s)
      have b9 := hb (findI a z v s)
      refine g_iload_n G 2 dX6_foretell_41 rfl ?_
      refine g_callSN (host := RX9) G [] [0, 1, 2, 3, 4, 5, 6, 7] 8 [(q0, .inr (6, [.ref q1, .ref q2, .ref q3, .ref q4, .int (iI z)])), (q1, ia E 6 k), (q2, ia E 6 o), (q3, ia E 96 a), (q4, ia E 96 b), (u0, .inr (3, [.ref u1, .ref u2])), (u1, ia E 3 c), (u2, ia E 100 d)] [.int (iI (b (findI a z v s))), .int (iI f)] [] (c_X9_fieldOf E (b (findI a z v s)) f (by omega) (by omega)) dX6_foretell_42 gX6_foretell_X9_fieldOf_n41 (by decide +kernel) (by decide +kernel) (by decide +kernel) ⟨rfl, ⟨rfl, rfl⟩, e_X9_fieldOf, ⟨Nat.le_of_ble_eq_true rfl, Nat.le_of_ble_eq_true rfl⟩, Nat.le_of_ble_eq_true rfl, Nat.le_of_ble_eq_true rfl, Nat.le_of_ble_eq_true rfl⟩ rfl (by decide +kernel) rfl (by decide +kernel) rfl (fun v9 w9 h9 => ?_)
      obtain ⟨o8, rfl, rfl, rfl⟩ := h9
      refine ⟨[(q0, .inr (6, [.ref q1, .ref q2, .ref q3, .ref q4, .int (iI z)])), (q1, ia E 6 k), (q2, ia E 6 o), (q3, ia E 96 a), (q4, ia E 96 b), (u0, .inr (3, [.ref u1, .ref u2])), (u1, ia E 3 c), (u2, ia E 100 d)], ⟨rfl, rfl, rfl, rfl⟩, g_to 0 0 _ _ [.int (iI (fldI (b (findI a z v s)) f))] rfl rfl rfl rfl rfl ?_⟩
      exact g_ret G (some (.int (iI (fldI (b (findI a z v s)) f)))) rfl dX6_foretell_45 (Nat.le_refl _) (Nat.le_refl _) ⟨(fldI (b (findI a z v s)) f), rfl, rfl, by unfold fore; first | (rw [if_pos (by omega), if_pos (by omega)]; done) | (rw [if_pos (by omega), if_neg (by omega)]; done) | (rw [if_neg (by omega), if_pos (by omega)]; done) | (rw [if_neg (by omega), if_neg (by omega), if_pos (by omega)]; done) | (rw [if_neg (by omega), if_neg (by omega), if_neg (by omega)]; done)⟩
    · refine g_sipush G dX6_foretell_28 (by decide +kernel) ?_
      refine g_goto G 45 dX6_foretell_31 (by decide) ?_
      exact g_ret G (some (.int (iI (-1000)))) rfl dX6_foretell_45 (Nat.le_refl _) (Nat.le_refl _) ⟨(-1000), rfl, rfl, by unfold fore; first | (rw [if_pos (by omega), if_pos (by omega)]; done) | (rw [if_pos (by omega), if_neg (by omega)]; done) | (rw [if_neg (by omega), if_pos (by omega)]; done) | (rw [if_neg (by omega), if_neg (by omega), if_pos (by omega)]; done) | (rw [if_neg (by omega), if_neg (by omega), if_neg (by omega)]; done)⟩
theorem f_X6_copy_9 : Cond.fieldLink RX6 9 (TX6 0).1 (TX6 0).2.1 (TX6 0).2.2.1 ∈ wsX6_copy := by decide +kernel
theorem i_X6_copy_X6 : ∀ w ∈ wsX60, w ∈ wsX6_copy := by decide +kernel
theorem f_X6_copy_15 : Cond.fieldLink RX6 15 (TX6 1).1 (TX6 1).2.1 (TX6 1).2.2.1 ∈ wsX6_copy := by decide +kernel
theorem f_X6_copy_18 : Cond.fieldLink RX6 18 (TX6 2).1 (TX6 2).2.1 (TX6 2).2.2.1 ∈ wsX6_copy := by decide +kernel
theorem f_X6_copy_21 : Cond.fieldLink RX6 21 (TX6 3).1 (TX6 3).2.1 (TX6 3).2.2.1 ∈ wsX6_copy := by decide +kernel
theorem f_X6_copy_30 : Cond.fieldLink RX6 30 (TX6 4).1 (TX6 4).2.1 (TX6 4).2.2.1 ∈ wsX6_copy := by decide +kernel
set_option maxRecDepth 100000 in
set_option maxHeartbeats 4000000 in
theorem c_X6_copy (E : qE) (q0 : Nat) (q1 : Nat) (q2 : Nat) (q3 : Nat) (q4 : Nat) (k : Int → Int) (o : Int → Int) (a : Int → Int) (b : Int → Int) (z : Int) (u0 : Nat) (u1 : Nat) (u2 : Nat) (u3 : Nat) (u4 : Nat) (k1 : Int → Int) (o1 : Int → Int) (a1 : Int → Int) (b1 : Int → Int) (z1 : Int)  : Cn E yX6_copy wsX6_copy { frames := 1, cells := 0, slots := 0, locals := 18 } [.ref q0, .ref u0] [(q0, .inr (6, [.ref q1, .ref q2, .ref q3, .ref q4, .int (iI z)])), (q1, ia E 6 k), (q2, ia E 6 o), (q3, ia E 96 a), (q4, ia E 96 b), (u0, .inr (6, [.ref u1, .ref u2, .ref u3, .ref u4, .int (iI z1)])), (u1, ia E 6 k1), (u2, ia E 6 o1), (u3, ia E 96 a1), (u4, ia E 96 b1)] (fun v9 w9 => v9 = none ∧ w9 = [(q0, .inr (6, [.ref q1, .ref q2, .ref q3, .ref q4, .int (iI z1)])), (q1, ia E 6 (cpI k1 k 6)), (q2, ia E 6 (cpI o1 o 6)), (q3, ia E 96 (cpI a1 a 96)), (q4, ia E 96 (cpI b1 b 96)), (u0, .inr (6, [.ref u1, .ref u2, .ref u3, .ref u4, .int (iI z1)])), (u1, ia E 6 k1), (u2, ia E 6 o1), (u3, ia E 96 a1), (u4, ia E 96 b1)]) 0 0 := by
  refine Cn.ofP (own := RX6) (cc := cX6_copy) (maxL := 2) (ret := none) false [(0, .ref q0), (1, .ref u0)] (by decide +kernel) rfl rfl (Nat.le_of_ble_eq_true rfl) rfl (fun h => nomatch h) (fun v w h => by obtain ⟨rfl, h9⟩ := h; exact (rfl : (none : Option FieldType) = none)) ?_
  intro P G
  refine g_aload_n G 1 dX6_copy_0 rfl ?_
  refine g_get G 5 0 dX6_copy_1 i_X6_copy_X6 f_X6_copy_9 rfl rfl (by decide) rfl ?_
  refine g_iconst G dX6_copy_4 ?_
  refine g_aload_n G 0 dX6_copy_5 rfl ?_
  refine g_get G 0 0 dX6_copy_6 i_X6_copy_X6 f_X6_copy_9 rfl rfl (by decide) rfl ?_
  refine g_iconst G dX6_copy_9 ?_
  refine g_bipush G dX6_copy_10 (by decide +kernel) ?_
  refine g_copy G 6 1 [(q0, .inr (6, [.ref q1, .ref q2, .ref q3, .ref q4, .int (iI z)])), (q1, ia E 6 (cpI k1 k 6)), (q2, ia E 6 o), (q3, ia E 96 a), (q4, ia E 96 b), (u0, .inr (6, [.ref u1, .ref u2, .ref u3, .ref u4, .int (iI z1)])), (u1, ia E 6 k1), (u2, ia E 6 o1), (u3, ia E 96 a1), (u4, ia E 96 b1)] dX6_copy_12 (by decide +kernel) (by decide +kernel) (by decide +kernel) (by decide +kernel) rfl rfl (by decide) (by decide) (by decide) (by decide) (Nat.le_of_ble_eq_true rfl) (Nat.le_of_ble_eq_true rfl) rfl ?_
  refine g_aload_n G 1 dX6_copy_15 rfl ?_
  refine g_get G 5 1 dX6_copy_16 i_X6_copy_X6 f_X6_copy_15 rfl rfl (by decide) rfl ?_
  refine g_iconst G dX6_copy_19 ?_
  refine g_aload_n G 0 dX6_copy_20 rfl ?_
  refine g_get G 0 1 dX6_copy_21 i_X6_copy_X6 f_X6_copy_15 rfl rfl (by decide) rfl ?_
  refine g_iconst G dX6_copy_24 ?_
  refine g_bipush G dX6_copy_25 (by decide +kernel) ?_
  refine g_copy G 7 2 [(q0, .inr (6, [.ref q1, .ref q2, .ref q3, .ref q4, .int (iI z)])), (q1, ia E 6 (cpI k1 k 6)), (q2, ia E 6 (cpI o1 o 6)), (q3, ia E 96 a), (q4, ia E 96 b), (u0, .inr (6, [.ref u1, .ref u2, .ref u3, .ref u4, .int (iI z1)])), (u1, ia E 6 k1), (u2, ia E 6 o1), (u3, ia E 96 a1), (u4, ia E 96 b1)] dX6_copy_27 (by decide +kernel) (by decide +kernel) (by decide +kernel) (by decide +kernel) rfl rfl (by decide) (by decide) (by decide) (by decide) (Nat.le_of_ble_eq_true rfl) (Nat.le_of_ble_eq_true rfl) rfl ?_
  refine g_aload_n G 1 dX6_copy_30 rfl ?_
  refine g_get G 5 2 dX6_copy_31 i_X6_copy_X6 f_X6_copy_18 rfl rfl (by decide) rfl ?_
  refine g_iconst G dX6_copy_34 ?_
  refine g_aload_n G 0 dX6_copy_35 rfl ?_
  refine g_get G 0 2 dX6_copy_36 i_X6_copy_X6 f_X6_copy_18 rfl rfl (by decide) rfl ?_
  refine g_iconst G dX6_copy_39 ?_
  refine g_bipush G dX6_copy_40 (by decide +kernel) ?_
  refine g_copy G 8 3 [(q0, .inr (6, [.ref q1, .ref q2, .ref q3, .ref q4, .int (iI z)])), (q1, ia E 6 (cpI k1 k 6)), (q2, ia E 6 (cpI o1 o 6)), (q3, ia E 96 (cpI a1 a 96)), (q4, ia E 96 b), (u0, .inr (6, [.ref u1, .ref u2, .ref u3, .ref u4, .int (iI z1)])), (u1, ia E 6 k1), (u2, ia E 6 o1), (u3, ia E 96 a1), (u4, ia E 96 b1)] dX6_copy_42 (by decide +kernel) (by decide +kernel) (by decide +kernel) (by decide +kernel) rfl rfl (by decide) (by decide) (by decide) (by decide) (Nat.le_of_ble_eq_true rfl) (Nat.le_of_ble_eq_true rfl) rfl ?_
  refine g_aload_n G 1 dX6_copy_45 rfl ?_
  refine g_get G 5 3 dX6_copy_46 i_X6_copy_X6 f_X6_copy_21 rfl rfl (by decide) rfl ?_
  refine g_iconst G dX6_copy_49 ?_
  refine g_aload_n G 0 dX6_copy_50 rfl ?_
  refine g_get G 0 3 dX6_copy_51 i_X6_copy_X6 f_X6_copy_21 rfl rfl (by decide) rfl ?_
  refine g_iconst G dX6_copy_54 ?_
  refine g_bipush G dX6_copy_55 (by decide +kernel) ?_
  refine g_copy G 9 4 [(q0, .inr (6, [.ref q1, .ref q2, .ref q3, .ref q4, .int (iI z)])), (q1, ia E 6 (cpI k1 k 6)), (q2, ia E 6 (cpI o1 o 6)), (q3, ia E 96 (cpI a1 a 96)), (q4, ia E 96 (cpI b1 b 96)), (u0, .inr (6, [.ref u1, .ref u2, .ref u3, .ref u4, .int (iI z1)])), (u1, ia E 6 k1), (u2, ia E 6 o1), (u3, ia E 96 a1), (u4, ia E 96 b1)] dX6_copy_57 (by decide +kernel) (by decide +kernel) (by decide +kernel) (by decide +kernel) rfl rfl (by decide) (by decide) (by decide) (by decide) (Nat.le_of_ble_eq_true rfl) (Nat.le_of_ble_eq_true rfl) rfl ?_
  refine g_aload_n G 0 dX6_copy_60 rfl ?_
  refine g_aload_n G 1 dX6_copy_61 rfl ?_
  refine g_get G 5 4 dX6_copy_62 i_X6_copy_X6 f_X6_copy_30 rfl rfl (by decide) rfl ?_
  refine g_put G 0 4 [(q0, .inr (6, [.ref q1, .ref q2, .ref q3, .ref q4, .int (iI z1)])), (q1, ia E 6 (cpI k1 k 6)), (q2, ia E 6 (cpI o1 o 6)), (q3, ia E 96 (cpI a1 a 96)), (q4, ia E 96 (cpI b1 b 96)), (u0, .inr (6, [.ref u1, .ref u2, .ref u3, .ref u4, .int (iI z1)])), (u1, ia E 6 k1), (u2, ia E 6 o1), (u3, ia E 96 a1), (u4, ia E 96 b1)] dX6_copy_65 i_X6_copy_X6 f_X6_copy_30 tyX6_ok nmX6 rfl rfl (by decide) rfl rfl rfl rfl (Nat.le_of_ble_eq_true rfl) rfl ?_
  exact g_ret G none rfl dX6_copy_68 (Nat.le_refl _) (Nat.le_refl _) ⟨rfl, rfl⟩
