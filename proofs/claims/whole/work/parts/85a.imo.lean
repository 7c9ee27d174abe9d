set_option maxRecDepth 100000 in
set_option maxHeartbeats 4000000 in
theorem c_X9_image_o (E : qE) (x0 : Nat) (i0 : Nat) (g0 : Nat) (as0 : Nat) (bs0 : Nat) (tq0 : Nat) (j : Int) (hj : -2147483648 ≤ j ∧ j < 2147483648) (hjo : ¬ (0 ≤ j ∧ j < 3)) : Cn E yX9_image wsX9_image { frames := 1, cells := 0, slots := 0, locals := 21 } [.ref x0, .int (iI j)] [(x0, .inr (9, [.ref i0, .ref g0, .ref as0, .ref bs0, .ref tq0]))] (fun v9 w9 => v9 = some (.int (iI 0)) ∧ w9 = [(x0, .inr (9, [.ref i0, .ref g0, .ref as0, .ref bs0, .ref tq0]))]) 0 0 := by
  refine Cn.ofP (own := RX9) (cc := cX9_image) (maxL := 2) (ret := (some .boolean)) false [(0, .ref x0), (1, .int (iI j))] (by decide +kernel) rfl rfl (Nat.le_of_ble_eq_true rfl) rfl (fun h => nomatch h) (fun v w h => by obtain ⟨rfl, h9⟩ := h; exact ⟨_, rfl, by exact iI_b01 (Or.inl rfl)⟩) ?_
  intro P G
  refine g_iload_n G 1 dX9_image_0 rfl ?_
  refine g_iconst G dX9_image_1 ?_
  refine g_callS G [] [0] 1 [(x0, .inr (9, [.ref i0, .ref g0, .ref as0, .ref bs0, .ref tq0]))] [.int (iI j), .int (iI 3)] [] (c_X9_within E j 3 (by first | assumption | omega) (by first | assumption | omega)) dX9_image_2 gX9_image_X9_within ⟨rfl, ⟨rfl, rfl⟩, e_X9_within, ⟨Nat.le_of_ble_eq_true rfl, Nat.le_of_ble_eq_true rfl⟩, Nat.le_of_ble_eq_true rfl, Nat.le_of_ble_eq_true rfl, Nat.le_of_ble_eq_true rfl⟩ rfl (by decide +kernel) rfl (by decide +kernel) rfl (fun v9 w9 h9 => ?_)
  obtain ⟨o1, rfl, rfl, rfl⟩ := h9
  refine ⟨[(x0, .inr (9, [.ref i0, .ref g0, .ref as0, .ref bs0, .ref tq0]))], ⟨rfl, rfl, rfl, rfl⟩, g_to 0 0 _ _ [.int (iI (if 0 ≤ j ∧ j < 3 then 1 else 0))] rfl rfl rfl rfl rfl ?_⟩
  refine g_ifb_ne G 10 dX9_image_5 (by decide) (fun c5 => ?_) (fun c5 => ?_)
  · exfalso; omega
  · refine g_iconst G dX9_image_8 ?_
    exact g_ret G (some (.int (iI 0))) rfl dX9_image_9 (Nat.le_refl _) (Nat.le_refl _) ⟨rfl, rfl⟩
