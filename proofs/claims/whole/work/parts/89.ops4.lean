set_option maxHeartbeats 4000000 in
theorem op_begin {F Z : Nat → Int → Int} {io : Int → Option Nat} {ib : Int → Nat → Nat} {FI : Int → Nat → Int → Int} {m : Int} {X : Int → Int} {rX : Int} {pa1X : Int → Int} {vb1X : Int → Int} {cd1X : Int → Int} {cn1X : Int → Int} {xc1X : Int → Int} {xw1X : Int → Int} {sa1X : Int → Int} {ph1X : Int → Int} {xm1X : Int → Int} {xa1X : Int → Int} {tg1X : Int → Int} {xt1X : Int → Int} {xn1X : Int → Int} {xv1X : Int → Int} {nd1X : Int} {xr1X : Int} {aw1X : Int} {mt1X : Int → Int} {mn1X : Int → Int} {mz1X : Int} {mk1X : Int} {lg1X : Int → Int} {lt1X : Int → Int} {lc1X : Int → Int} {lb1X : Int → Int} {rk_1X : Int → Int} {ro1X : Int → Int} {ra1X : Int → Int} {rb1X : Int → Int} {rz1X : Int} {rk1X : Int} {t9X : Int → Int} {n9X : Int → Int} {x9X : Int} {k9X : Int → Int} {o9X : Int → Int} {a9X : Int → Int} {b9X : Int → Int} {z9X : Int} {c9X : Int → Int} {d9X : Int → Int} {l9X : Int → Int} {on9X : Int} {st9X : Int} {an9X : Int} {un9X : Int} {rZ : Int} {g1Z : Int → Int} {ccZ : Int} {UZ : Int → Int} {lr1Z : Int → Int} {lp1Z : Int → Int} {la1Z : Int} {t1Z : Int → Int} {c1Z : Int → Int} {ac1Z : Int → Int} {co1Z : Int → Int} {cs1Z : Int → Int} {ut1Z : Int → Int} {h1Z : Int} {u1Z : Int} (hI : InvL F Z io ib FI m) (m0 : 0 ≤ m) (hm : m + 1 ≤ 50000) (hx : (((F 121 0) ≠ 0 ∧ mk1X = (F 121 0) ∧ mt1X = (F 44) ∧ mn1X = (F 45) ∧ mz1X = (F 43 0)) ∨ ((F 121 0) = 0 ∧ mk1X = 1 ∧ MacC (F 3) (F 4) (F 6) (F 21 0) (F 2 0) mz1X mt1X mn1X)) ∧ ((∀ i, 0 ≤ pa1X i ∧ pa1X i < 97) ∧ (∀ i, 0 ≤ vb1X i ∧ vb1X i < 3) ∧ ∀ i, 0 ≤ cd1X i ∧ cd1X i < 4) ∧ ((mz1X ≤ 0 ∧ rX = 0 ∧ on9X = 0 ∧ t9X = (F 9) ∧ n9X = (F 10) ∧ x9X = (F 8 0) ∧ k9X = (F 12) ∧ o9X = (F 13) ∧ a9X = (F 14) ∧ b9X = (F 15) ∧ z9X = (F 11 0) ∧ c9X = (F 17) ∧ d9X = (F 18) ∧ l9X = (F 19) ∧ st9X = (F 107 0) ∧ an9X = (F 207 0) ∧ un9X = (F 307 0) ∧ (rk1X = (F 221 0) ∧ lg1X = (F 38) ∧ lt1X = (F 39) ∧ lc1X = (F 41) ∧ lb1X = (F 42) ∧ ra1X = (F 49) ∧ rb1X = (F 50) ∧ rz1X = (F 46 0) ∧ rk_1X = (F 47) ∧ ro1X = (F 48))) ∨ (0 < mz1X ∧ rX = 1 ∧ RlS (F 4) (F 5) (F 6) (F 3) (F 21 0) (F 2 0) (F 221 0) (F 38) (F 39) (F 41) (F 42) (F 49) (F 50) (F 46 0) (F 47) (F 48) rk1X lg1X lt1X lc1X lb1X ra1X rb1X rz1X rk_1X ro1X ∧ t9X = nrmK 12 mt1X (-1) ∧ n9X = nrmK 12 mn1X (-1) ∧ x9X = mz1X ∧ k9X = nrmK 6 rk_1X (-1) ∧ o9X = nrmK 6 ro1X (-1000) ∧ a9X = nrmK 96 ra1X 0 ∧ b9X = nrmK 96 rb1X 0 ∧ z9X = rz1X ∧ c9X = (fun _ => 0) ∧ d9X = (fun _ => -1) ∧ l9X = (fun _ => -1000) ∧ on9X = 1 ∧ st9X = 0 ∧ an9X = 0 ∧ un9X = 0))) (hz : (∃ mr, MacR (upI (upI (upI (Z 1) 1 0) 5 (-1000)) 6 (-1000)) (-1) mr lr1Z lp1Z la1Z t1Z c1Z ∧ lyI (upI (upI (upI (Z 1) 1 0) 5 (-1000)) 6 (-1000)) (-1) (Z 4) (Z 5) = (lr1Z, lp1Z, la1Z) ∧ ((mr < 1 ∧ rZ = 0 ∧ g1Z = (upI (upI (upI (Z 1) 1 0) 5 (-1000)) 6 (-1000))) ∨ (1 ≤ mr ∧ rZ = 1 ∧ g1Z = bgK (upI (upI (upI (upI (upI (upI (upI (Z 1) 1 0) 5 (-1000)) 6 (-1000)) 1 1) 2 0) 3 0) 4 0) t1Z c1Z UZ 8 576 12 100 3 ∧ ∀ v f, 0 ≤ v ∧ v < 3 → 0 ≤ f ∧ f < 2 → UZ (4 * v + 2 * f) = (rkI (upI (upI (upI (Z 1) 1 0) 5 (-1000)) 6 (-1000)) v f (-1)).1 ∧ UZ (4 * v + 2 * f + 1) = (rkI (upI (upI (upI (Z 1) 1 0) 5 (-1000)) 6 (-1000)) v f (-1)).2))) ∧ (∀ i, -100000 ≤ c1Z i ∧ c1Z i ≤ 100000)) : rX = rZ ∧ InvL (upF (upF (upF (upF (upF (upF (upF (upF (upF (upF (upF (upF (upF (upF (upF (upF (upF (upF (upF (upF (upF (upF (upF (upF (upF (upF (upF (upF (upF (upF (upF (upF (upF (upF (upF (upF (upF (upF (upF (upF (upF (upF (upF (upF (upF (upF F 121 (fun _ => mk1X)) 221 (fun _ => rk1X)) 22 (fun _ => nd1X)) 122 (fun _ => xr1X)) 222 (fun _ => aw1X)) 23 pa1X) 24 vb1X) 25 cd1X) 26 cn1X) 27 xc1X) 28 xw1X) 29 sa1X) 30 ph1X) 31 xm1X) 32 xa1X) 33 tg1X) 34 xt1X) 35 xn1X) 36 xv1X) 38 lg1X) 39 lt1X) 41 lc1X) 42 lb1X) 43 (fun _ => mz1X)) 44 mt1X) 45 mn1X) 46 (fun _ => rz1X)) 49 ra1X) 50 rb1X) 7 (fun _ => on9X)) 107 (fun _ => st9X)) 207 (fun _ => an9X)) 307 (fun _ => un9X)) 8 (fun _ => x9X)) 9 t9X) 10 n9X) 11 (fun _ => z9X)) 12 k9X) 13 o9X) 14 a9X) 15 b9X) 17 c9X) 18 d9X) 19 l9X) 47 (nrmK 6 rk_1X (-1))) 48 (nrmK 6 ro1X (-1000))) (upF (upF (upF (upF (upF (upF (upF (upF (upF (upF (upF (upF (upF (upF Z 0 (fun _ => ccZ)) 100 (fun _ => la1Z)) 200 (fun _ => h1Z)) 300 (fun _ => u1Z)) 1 g1Z) 4 lr1Z) 5 lp1Z) 6 t1Z) 7 c1Z) 8 ac1Z) 9 co1Z) 10 cs1Z) 11 ut1Z) 3 UZ) io ib FI (m + 1) := by
  have hJ := hI
  obtain ⟨hN, hA, hB, he, hh, hc, hM⟩ := hI
  have hw : RwK (F 3) (F 4) (F 5) (F 6) (F 2 0) (Z 1) := NwE.rwk hN
  obtain ⟨nR, nO, nU, nB, nG⟩ := hN
  have e0 : Z 1 0 = F 2 0 := nR.1
  have y0 := nO.1
  have y8 := nO.2.1
  obtain ⟨hs, hb, hx⟩ := hx
  obtain ⟨⟨mr, z1, z2, hz⟩, hc'⟩ := hz
  obtain ⟨s1, s2⟩ := StE.mac hA hb hs
  rw [he] at s2
  have hG0 : GOk (upI (upI (upI (Z 1) 1 0) 5 (-1000)) 6 (-1000)) m := GOk.beg0 nG m0 (by omega)
  have hS0 : SameR (Z 1) (upI (upI (upI (Z 1) 1 0) 5 (-1000)) 6 (-1000)) := ⟨g0_ne _ (by omega), fun i i0 i1 => g0_ne _ (by omega)⟩
  have hR0 : RelR (F 3) (F 4) (F 5) (F 6) (F 2 0) (upI (upI (upI (Z 1) 1 0) 5 (-1000)) 6 (-1000)) := hS0.rel y8 nO.2.2.1 nR
  have w0 : RwK (F 3) (F 4) (F 5) (F 6) (F 2 0) (upI (upI (upI (Z 1) 1 0) 5 (-1000)) 6 (-1000)) := ⟨hR0, nO, hG0.1, hG0.2.2.1⟩
  have e := mac_eq hR0 y0 z2 z1 s2
  have k := MacC.mk nO.2.2.2.2.2 s2
  have s0 := StE.to s1 hw w0
  rcases hx with ⟨q, h1, b1, b2, b3, b4, b5, b6, b7, b8, b9, b10, b11, b12, b13, b14, b15, a1, a2, a3, a4, a5, a6, a7, a8, a9, a10⟩ | ⟨q, h1, hs2, b2, b3, b4, b5, b6, b7, b8, b9, b10, b11, b12, b1, b13, b14, b15⟩
  · rcases hz with ⟨q2, z3, z4⟩ | ⟨q2, _⟩
    · subst b1 b2 b3 b4 b5 b6 b7 b8 b9 b10 b11 b12 b13 b14 b15 a1 a2 a3 a4 a5 a6 a7 a8 a9 a10 z4
      have hU' : RunR (F 9) (F 10) (F 12) (F 13) (F 14) (F 15) (F 11 0) (F 17) (F 18) (F 19) 0 (F 107 0) (F 207 0) (F 307 0) (upI (upI (upI (Z 1) 1 0) 5 (-1000)) 6 (-1000)) := Or.inl ⟨rfl, by rw [upI_ne _ _ (by omega), upI_ne _ _ (by omega), upI_same], by rw [upI_ne _ _ (by omega), upI_same], by rw [upI_same]⟩
      have hM' : ImE io ib FI (upI (upI (upI (Z 1) 1 0) 5 (-1000)) 6 (-1000)) (Z 2) m := hM.to hG0.1.1 (fun j hj => g0_ne _ (by omega)) (Int.le_refl _)
      exact ⟨by rw [h1, z3], InvL.mono (m := m) ⟨⟨hR0, nO, hU', ⟨Or.inl rfl, nB.2⟩, hG0⟩, StE.nrm s0, StE.to hB hw w0, he, hh, hc', hM'⟩ (by omega)⟩
    · exfalso; omega
  · rcases hz with ⟨q2, _⟩ | ⟨q2, z3, z4, z5⟩
    · exfalso; omega
    · obtain ⟨s3, s4, s5, s6, s7⟩ := StE.rul s0 w0 hs2
      rw [he] at s5
      have H := HlH.of hR0 nO hG0.2.2.1 hG0.1 z2 z1 s2 q2 z5 s4 s5 s6
      have hU9 := beg_eq H
      have hb0 := bgN_0 (Z 1) t1Z c1Z UZ
      have hz4 : g1Z = bgN (Z 1) t1Z c1Z UZ := z4
      rw [hb0] at hU9
      subst hz4
      subst b1 b2 b3 b4 b5 b6 b7 b8 b9 b10 b11 b12 b13 b14 b15
      have uu := rk_U hG0.1 hG0.2.2.1 z5
      have hG' : GOk (bgN (Z 1) t1Z c1Z UZ) m := GOk.beg nG m0 (by omega) (fun j j0 j1 => by have a := (e.2 q2 j j0 j1).1; have b := k j j0 j1; omega) hc' (fun j j0 j1 => by
        have a := uu (j / 4) (j % 4 / 2) (by omega) (by omega)
        rcases (show j = 4 * (j / 4) + 2 * (j % 4 / 2) ∨ j = 4 * (j / 4) + 2 * (j % 4 / 2) + 1 by omega) with w | w
        · rw [w]; exact a.1
        · rw [w]; exact a.2)
      have hS' : SameR (Z 1) (bgN (Z 1) t1Z c1Z UZ) := ⟨bgN_lo (by omega) (by omega), fun i i0 i1 => bgN_lo (by omega) (by omega)⟩
      have hR' : RelR (F 3) (F 4) (F 5) (F 6) (F 2 0) (bgN (Z 1) t1Z c1Z UZ) := hS'.rel y8 nO.2.2.1 nR
      have w' : RwK (F 3) (F 4) (F 5) (F 6) (F 2 0) (bgN (Z 1) t1Z c1Z UZ) := ⟨hR', nO, hG'.1, hG'.2.2.1⟩
      have hM' : ImE io ib FI (bgN (Z 1) t1Z c1Z UZ) (Z 2) m := hM.to hG'.1.1 (fun j hj => bgN_hi hj) (Int.le_refl _)
      have hK : (((1 : Int) = 0 ∨ (1 : Int) = 1) ∧ RulesOk (nrmK 6 rk_1X (-1)) (nrmK 6 ro1X (-1000)) (nrmK 96 ra1X 0) (nrmK 96 rb1X 0) z9X ∧ ((0 : Int) ≤ 0 ∧ (0 : Int) < 4) ∧ (∀ i, -1 ≤ nrmK 12 mn1X (-1) i ∧ nrmK 12 mn1X (-1) i < 4) ∧ MkO (nrmK 12 mt1X (-1)) (nrmK 12 mn1X (-1)) ∧ (∀ i : Int, (0 : Int) ≤ (fun _ => 0) i ∧ (fun _ => (0 : Int)) i ≤ m) ∧ ∀ i : Int, (-1 : Int) ≤ (fun _ => -1) i ∧ (fun _ => (-1 : Int)) i < 100) := by
        refine ⟨Or.inr rfl, ⟨s7.1, s7.2.1, s7.2.2.1, s7.2.2.2.1, fun i => ?_, fun i => ?_⟩, by omega, k.n, fun j j0 j1 => ?_, fun i => ⟨Int.le_refl _, m0⟩, fun i => ⟨Int.le_refl _, by show (-1 : Int) < 100; decide⟩⟩
        · have := s7.2.2.2.2.1 i; unfold nrmK; split <;> omega
        · have := s7.2.2.2.2.2 i; unfold nrmK; split <;> omega
        · rw [nrmK_in _ _ _ j0 j1, nrmK_in _ _ _ j0 j1]; exact k j j0 j1
      exact ⟨by rw [h1, z3], InvL.mono (m := m) ⟨⟨hR', nO, hU9, hK, hG'⟩, StE.to s3 w0 w', StE.to hB hw w', he, hh, hc', hM'⟩ (by omega)⟩
set_option maxHeartbeats 4000000 in
theorem op_say {F Z : Nat → Int → Int} {io : Int → Option Nat} {ib : Int → Nat → Nat} {FI : Int → Nat → Int → Int} {m : Int} {X : Int → Int} {rX : Int} {cpX : Int → Int} {dpX : Int → Int} {lpX : Int → Int} {stpX : Int} {anpX : Int} {unpX : Int} {rZ : Int} {g1Z : Int → Int} (hI : InvL F Z io ib FI m) (m0 : 0 ≤ m) (hm : m + 1 ≤ 50000) (hx : ((((F 7 0) = 1 ∧ (0 ≤ (X 1) ∧ (X 1) < 3) ∧ (0 ≤ (X 2) ∧ (X 2) < 10000)) ∧ rX = (if ((F 10) ((F 107 0) * 3 + (X 1)) = -1 ∨ (((F 12) ((X 1) * 2 + 0) = 5 ∨ (F 12) ((X 1) * 2 + 1) = 5) ∧ findI (F 14) (F 11 0) (X 1) (X 2) = -1)) then -2 else (F 10) ((F 107 0) * 3 + (X 1))) ∧ cpX = (if ((F 10) ((F 107 0) * 3 + (X 1)) = -1 ∨ (((F 12) ((X 1) * 2 + 0) = 5 ∨ (F 12) ((X 1) * 2 + 1) = 5) ∧ findI (F 14) (F 11 0) (X 1) (X 2) = -1)) then (F 17) else upI (F 17) (X 1) ((F 17) (X 1) + 1)) ∧ dpX = (if ((F 10) ((F 107 0) * 3 + (X 1)) = -1 ∨ (((F 12) ((X 1) * 2 + 0) = 5 ∨ (F 12) ((X 1) * 2 + 1) = 5) ∧ findI (F 14) (F 11 0) (X 1) (X 2) = -1)) then (F 18) else upI (F 18) ((X 2) / 100) ((X 2) % 100)) ∧ lpX = (if ((F 10) ((F 107 0) * 3 + (X 1)) = -1 ∨ (((F 12) ((X 1) * 2 + 0) = 5 ∨ (F 12) ((X 1) * 2 + 1) = 5) ∧ findI (F 14) (F 11 0) (X 1) (X 2) = -1)) then (F 19) else upI (upI (F 19) 0 (fore (F 12) (F 13) (F 14) (F 15) (F 11 0) (F 17) (F 18) (X 1) 0 (X 2))) 1 (fore (F 12) (F 13) (F 14) (F 15) (F 11 0) (F 17) (F 18) (X 1) 1 (X 2))) ∧ stpX = (if ((F 10) ((F 107 0) * 3 + (X 1)) = -1 ∨ (((F 12) ((X 1) * 2 + 0) = 5 ∨ (F 12) ((X 1) * 2 + 1) = 5) ∧ findI (F 14) (F 11 0) (X 1) (X 2) = -1)) then (F 107 0) else (F 9) ((F 107 0) * 3 + (X 1))) ∧ anpX = (if ((F 10) ((F 107 0) * 3 + (X 1)) = -1 ∨ (((F 12) ((X 1) * 2 + 0) = 5 ∨ (F 12) ((X 1) * 2 + 1) = 5) ∧ findI (F 14) (F 11 0) (X 1) (X 2) = -1)) then (F 207 0) else (F 207 0) + 1) ∧ unpX = (if ((F 10) ((F 107 0) * 3 + (X 1)) = -1 ∨ (((F 12) ((X 1) * 2 + 0) = 5 ∨ (F 12) ((X 1) * 2 + 1) = 5) ∧ findI (F 14) (F 11 0) (X 1) (X 2) = -1)) then (F 307 0) + 1 else (F 307 0))) ∨ (¬ ((F 7 0) = 1 ∧ (0 ≤ (X 1) ∧ (X 1) < 3) ∧ (0 ≤ (X 2) ∧ (X 2) < 10000)) ∧ rX = -1 ∧ cpX = (F 17) ∧ dpX = (F 18) ∧ lpX = (F 19) ∧ stpX = (F 107 0) ∧ anpX = (F 207 0) ∧ unpX = (F 307 0)))) (hz : ((((Z 1) 1 ≠ 0 ∧ (0 ≤ (X 1) ∧ (X 1) ≤ 2) ∧ (0 ≤ (X 2) ∧ (X 2) ≤ 9999)) ∧ syK (Z 1) (X 1) (X 2) ∧ rZ = (Z 1) (1202 + (3 * (Z 1) 2 + (X 1))) ∧ g1Z = syI (Z 1) (X 1) (X 2)) ∨ (((Z 1) 1 ≠ 0 ∧ (0 ≤ (X 1) ∧ (X 1) ≤ 2) ∧ (0 ≤ (X 2) ∧ (X 2) ≤ 9999)) ∧ ¬ syK (Z 1) (X 1) (X 2) ∧ rZ = -2 ∧ g1Z = upI (Z 1) 4 ((Z 1) 4 + 1)) ∨ (¬ ((Z 1) 1 ≠ 0 ∧ (0 ≤ (X 1) ∧ (X 1) ≤ 2) ∧ (0 ≤ (X 2) ∧ (X 2) ≤ 9999)) ∧ rZ = -1 ∧ g1Z = (Z 1)))) : rX = rZ ∧ InvL (upF (upF (upF (upF (upF (upF F 107 (fun _ => stpX)) 207 (fun _ => anpX)) 307 (fun _ => unpX)) 17 cpX) 18 dpX) 19 lpX) (upF Z 1 g1Z) io ib FI (m + 1) := by
  have hJ := hI
  obtain ⟨hN, hA, hB, he, hh, hc, hM⟩ := hI
  have hw : RwK (F 3) (F 4) (F 5) (F 6) (F 2 0) (Z 1) := NwE.rwk hN
  obtain ⟨nR, nO, nU, nB, nG⟩ := hN
  have e0 : Z 1 0 = F 2 0 := nR.1
  have y0 := nO.1
  have y8 := nO.2.1
  have gon := nU.on
  rcases hx with ⟨⟨on1, v0, s0⟩, h1, h2, h3, h4, h5, h6, h7⟩ | ⟨q, h1, h2, h3, h4, h5, h6, h7⟩
  · have ha : AnS (F 9) (F 10) (F 12) (F 13) (F 14) (F 15) (F 11 0) (F 17) (F 18) (F 19) (F 107 0) (F 207 0) (F 307 0) (X 1) (X 2) rX cpX dpX lpX stpX anpX unpX := by
      by_cases q : ((F 10) ((F 107 0) * 3 + (X 1)) = -1 ∨ (((F 12) ((X 1) * 2 + 0) = 5 ∨ (F 12) ((X 1) * 2 + 1) = 5) ∧ findI (F 14) (F 11 0) (X 1) (X 2) = -1))
      · rw [if_pos q] at h1 h2 h3 h4 h5 h6 h7
        exact Or.inl ⟨q, h1, h2, h3, h4, h5, h6, h7⟩
      · rw [if_neg q] at h1 h2 h3 h4 h5 h6 h7
        exact Or.inr ⟨q, h1, h2, h3, h4, h5, h6, h7⟩
    have nU1 : RunR (F 9) (F 10) (F 12) (F 13) (F 14) (F 15) (F 11 0) (F 17) (F 18) (F 19) 1 (F 107 0) (F 207 0) (F 307 0) (Z 1) := by rw [← on1]; exact nU
    have st2 : Z 1 2 = F 107 0 := by
      rcases nU1 with ⟨z, _⟩ | ⟨_, _, z, _⟩
      · exact absurd z (by decide)
      · exact z.1
    obtain ⟨n1, n2, n3, n4, n5, n6, n7⟩ := nB
    have hB' : ((F 7 0 = 0 ∨ F 7 0 = 1) ∧ RulesOk (F 12) (F 13) (F 14) (F 15) (F 11 0) ∧ (0 ≤ stpX ∧ stpX < 4) ∧ (∀ i, -1 ≤ F 10 i ∧ F 10 i < 4) ∧ MkO (F 9) (F 10) ∧ (∀ i, 0 ≤ cpX i ∧ cpX i ≤ m + 1) ∧ ∀ i, -1 ≤ dpX i ∧ dpX i < 100) := by
      rcases ha with ⟨q, c1, c2, c3, c4, c5, c6, c7⟩ | ⟨q, c1, c2, c3, c4, c5, c6, c7⟩
      · rw [c2, c3, c5]
        exact ⟨n1, n2, n3, n4, n5, fun i => by have := n6 i; omega, n7⟩
      · have kk := n5 (F 107 0 * 3 + X 1) (by omega) (by omega)
        have qn : F 10 (F 107 0 * 3 + X 1) ≠ -1 := fun z => q (Or.inl z)
        have k2 := kk.2.2 qn
        rw [c2, c3, c5]
        exact ⟨n1, n2, by omega, n4, n5, fun i => by have a := n6 i; have b := n6 (X 1); unfold upI; split <;> omega, fun i => by have a := n7 i; unfold upI; split <;> omega⟩
    rcases say_eq nU1 nG.2.2.2.1 ⟨v0.1, by omega⟩ ⟨s0.1, by omega⟩ ha with ⟨k1, k2, k3⟩ | ⟨k1, k2, k3⟩
    · rcases hz with ⟨_, z1, z2, z3⟩ | ⟨_, z1, _⟩ | ⟨z1, _⟩
      · subst z3
        have hG' : GOk (syI (Z 1) (X 1) (X 2)) (m + 1) := GOk.say nG hm ⟨v0.1, by omega⟩ ⟨s0.1, by omega⟩ ⟨k1.1, (nG.2.2.2.2.1.2.1 (1190 + (3 * Z 1 2 + X 1)) (by omega) (by omega)).2⟩
        have hS' : SameR (Z 1) (syI (Z 1) (X 1) (X 2)) := ⟨syI_at ⟨v0.1, by omega⟩ ⟨s0.1, by omega⟩ (by omega), fun i i0 i1 => syI_at ⟨v0.1, by omega⟩ ⟨s0.1, by omega⟩ (by omega)⟩
        have hR' : RelR (F 3) (F 4) (F 5) (F 6) (F 2 0) (syI (Z 1) (X 1) (X 2)) := hS'.rel y8 nO.2.2.1 nR
        have w' : RwK (F 3) (F 4) (F 5) (F 6) (F 2 0) (syI (Z 1) (X 1) (X 2)) := ⟨hR', nO, hG'.1, hG'.2.2.1⟩
        have hM' : ImE io ib FI (syI (Z 1) (X 1) (X 2)) (Z 2) (m + 1) := hM.to hG'.1.1 (fun j hj => syI_at ⟨v0.1, by omega⟩ ⟨s0.1, by omega⟩ (by omega)) (by omega)
        have hU' : RunR (F 9) (F 10) (F 12) (F 13) (F 14) (F 15) (F 11 0) cpX dpX lpX (F 7 0) stpX anpX unpX (syI (Z 1) (X 1) (X 2)) := by rw [on1]; exact k3
        exact ⟨k2.trans z2.symm, ⟨hR', nO, hU', hB', hG'⟩, StE.to hA hw w', StE.to hB hw w', he, hh, hc, hM'⟩
      · exact absurd k1 z1
      · exfalso; exact z1 ⟨by omega, ⟨v0.1, by omega⟩, s0.1, by omega⟩
    · rcases hz with ⟨_, z1, _⟩ | ⟨_, z1, z2, z3⟩ | ⟨z1, _⟩
      · exact absurd z1 k1
      · subst z3
        have hG' : GOk (upI (Z 1) 4 (Z 1 4 + 1)) (m + 1) := GOk.missed nG hm
        have hS' : SameR (Z 1) (upI (Z 1) 4 (Z 1 4 + 1)) := ⟨upI_ne _ _ (by omega), fun i i0 i1 => upI_ne _ _ (by omega)⟩
        have hR' : RelR (F 3) (F 4) (F 5) (F 6) (F 2 0) (upI (Z 1) 4 (Z 1 4 + 1)) := hS'.rel y8 nO.2.2.1 nR
        have w' : RwK (F 3) (F 4) (F 5) (F 6) (F 2 0) (upI (Z 1) 4 (Z 1 4 + 1)) := ⟨hR', nO, hG'.1, hG'.2.2.1⟩
        have hM' : ImE io ib FI (upI (Z 1) 4 (Z 1 4 + 1)) (Z 2) (m + 1) := hM.to hG'.1.1 (fun j hj => upI_ne _ _ (by omega)) (by omega)
        have hU' : RunR (F 9) (F 10) (F 12) (F 13) (F 14) (F 15) (F 11 0) cpX dpX lpX (F 7 0) stpX anpX unpX (upI (Z 1) 4 (Z 1 4 + 1)) := by rw [on1]; exact k3
        exact ⟨k2.trans z2.symm, ⟨hR', nO, hU', hB', hG'⟩, StE.to hA hw w', StE.to hB hw w', he, hh, hc, hM'⟩
      · exfalso; exact z1 ⟨by omega, ⟨v0.1, by omega⟩, s0.1, by omega⟩
  · rcases hz with ⟨z1, _⟩ | ⟨z1, _⟩ | ⟨_, z2, z3⟩
    · exfalso; have := nB.1; omega
    · exfalso; have := nB.1; omega
    · subst h2 h3 h4 h5 h6 h7 z3
      exact ⟨by rw [h1, z2], InvL.mono hJ (by omega)⟩
set_option maxHeartbeats 4000000 in
theorem op_held {F Z : Nat → Int → Int} {io : Int → Option Nat} {ib : Int → Nat → Nat} {FI : Int → Nat → Int → Int} {m : Int} {X : Int → Int} {rX : Int} {pa1X : Int → Int} {vb1X : Int → Int} {cd1X : Int → Int} {cn1X : Int → Int} {xc1X : Int → Int} {xw1X : Int → Int} {sa1X : Int → Int} {ph1X : Int → Int} {xm1X : Int → Int} {xa1X : Int → Int} {tg1X : Int → Int} {xt1X : Int → Int} {xn1X : Int → Int} {xv1X : Int → Int} {nd1X : Int} {xr1X : Int} {aw1X : Int} {mt1X : Int → Int} {mn1X : Int → Int} {mz1X : Int} {mk1X : Int} {lg1X : Int → Int} {lt1X : Int → Int} {lc1X : Int → Int} {lb1X : Int → Int} {rk_1X : Int → Int} {ro1X : Int → Int} {ra1X : Int → Int} {rb1X : Int → Int} {rz1X : Int} {rk1X : Int} {t9X : Int → Int} {n9X : Int → Int} {x9X : Int} {k9X : Int → Int} {o9X : Int → Int} {a9X : Int → Int} {b9X : Int → Int} {z9X : Int} {c9X : Int → Int} {d9X : Int → Int} {l9X : Int → Int} {on9X : Int} {st9X : Int} {an9X : Int} {un9X : Int} {rZ : Int} {ccZ : Int} {UZ : Int → Int} {lr1Z : Int → Int} {lp1Z : Int → Int} {la1Z : Int} {t1Z : Int → Int} {c1Z : Int → Int} {ac1Z : Int → Int} {co1Z : Int → Int} {cs1Z : Int → Int} {ut1Z : Int → Int} {h1Z : Int} {u1Z : Int} (hI : InvL F Z io ib FI m) (m0 : 0 ≤ m) (hm : m + 1 ≤ 50000) (hx : ((∀ i, 0 ≤ pa1X i ∧ pa1X i < 97) ∧ (∀ i, 0 ≤ vb1X i ∧ vb1X i < 3) ∧ ∀ i, 0 ≤ cd1X i ∧ cd1X i < 4) ∧ ((¬ (0 ≤ (X 1) ∧ (X 1) < (F 2 0) ∧ 0 ≤ (X 2) ∧ (X 2) < 2) ∧ rX = -1 ∧ mk1X = (F 121 0) ∧ mt1X = (F 44) ∧ mn1X = (F 45) ∧ mz1X = (F 43 0) ∧ (rk1X = (F 221 0) ∧ lg1X = (F 38) ∧ lt1X = (F 39) ∧ lc1X = (F 41) ∧ lb1X = (F 42) ∧ ra1X = (F 49) ∧ rb1X = (F 50) ∧ rz1X = (F 46 0) ∧ rk_1X = (F 47) ∧ ro1X = (F 48))) ∨ ((0 ≤ (X 1) ∧ (X 1) < (F 2 0) ∧ 0 ≤ (X 2) ∧ (X 2) < 2) ∧ (((F 121 0) ≠ 0 ∧ mk1X = (F 121 0) ∧ mt1X = (F 44) ∧ mn1X = (F 45) ∧ mz1X = (F 43 0)) ∨ ((F 121 0) = 0 ∧ mk1X = 1 ∧ MacC (F 3) (F 4) (F 6) (F 21 0) (F 2 0) mz1X mt1X mn1X)) ∧ ((mz1X ≤ 0 ∧ rX = -1 ∧ (rk1X = (F 221 0) ∧ lg1X = (F 38) ∧ lt1X = (F 39) ∧ lc1X = (F 41) ∧ lb1X = (F 42) ∧ ra1X = (F 49) ∧ rb1X = (F 50) ∧ rz1X = (F 46 0) ∧ rk_1X = (F 47) ∧ ro1X = (F 48))) ∨ (0 < mz1X ∧ RlS (F 4) (F 5) (F 6) (F 3) (F 21 0) (F 2 0) (F 221 0) (F 38) (F 39) (F 41) (F 42) (F 49) (F 50) (F 46 0) (F 47) (F 48) rk1X lg1X lt1X lc1X lb1X ra1X rb1X rz1X rk_1X ro1X ∧ ∃ m, m = fdI (F 4) (F 5) (F 6) (nrmK 12 mt1X (-1)) (nrmK 12 mn1X (-1)) (nrmK 6 rk_1X (-1)) (nrmK 6 ro1X (-1000)) (nrmK 96 ra1X 0) (nrmK 96 rb1X 0) rz1X (X 1) ((F 3) (X 1) - 0).toNat 0 ((fun _ => 0), (fun _ => -1), (fun _ => -1000), 0, 0, 0) ∧ rX = if m < 0 then -1 else if (X 2) = 0 then m / 4 else m % 4))))) (hz : (∃ m, ((¬ (0 ≤ (X 1) ∧ (X 1) ≤ (Z 1) 0 - 1) ∧ m = -1) ∨ ((0 ≤ (X 1) ∧ (X 1) ≤ (Z 1) 0 - 1) ∧ PtR (Z 1) (-1) (X 1) m (Z 4) (Z 5) lr1Z lp1Z la1Z t1Z c1Z UZ)) ∧ rZ = (if m < 0 then -1 else if (X 2) = 0 then m / 4 else if (X 2) = 1 then m % 4 else -1)) ∧ (∀ i, -100000 ≤ c1Z i ∧ c1Z i ≤ 100000)) : rX = rZ ∧ InvL (upF (upF (upF (upF (upF (upF (upF (upF (upF (upF (upF (upF (upF (upF (upF (upF (upF (upF (upF (upF (upF (upF (upF (upF (upF (upF (upF (upF (upF (upF (upF (upF (upF (upF (upF (upF (upF (upF (upF (upF (upF (upF (upF (upF (upF (upF F 121 (fun _ => mk1X)) 221 (fun _ => rk1X)) 22 (fun _ => nd1X)) 122 (fun _ => xr1X)) 222 (fun _ => aw1X)) 23 pa1X) 24 vb1X) 25 cd1X) 26 cn1X) 27 xc1X) 28 xw1X) 29 sa1X) 30 ph1X) 31 xm1X) 32 xa1X) 33 tg1X) 34 xt1X) 35 xn1X) 36 xv1X) 38 lg1X) 39 lt1X) 41 lc1X) 42 lb1X) 43 (fun _ => mz1X)) 44 mt1X) 45 mn1X) 46 (fun _ => rz1X)) 49 ra1X) 50 rb1X) 81 (fun _ => on9X)) 181 (fun _ => st9X)) 281 (fun _ => an9X)) 381 (fun _ => un9X)) 82 (fun _ => x9X)) 83 t9X) 84 n9X) 85 (fun _ => z9X)) 86 k9X) 87 o9X) 88 a9X) 89 b9X) 91 c9X) 92 d9X) 93 l9X) 47 (nrmK 6 rk_1X (-1))) 48 (nrmK 6 ro1X (-1000))) (upF (upF (upF (upF (upF (upF (upF (upF (upF (upF (upF (upF (upF Z 0 (fun _ => ccZ)) 100 (fun _ => la1Z)) 200 (fun _ => h1Z)) 300 (fun _ => u1Z)) 4 lr1Z) 5 lp1Z) 6 t1Z) 7 c1Z) 8 ac1Z) 9 co1Z) 10 cs1Z) 11 ut1Z) 3 UZ) io ib FI (m + 1) := by
  have hJ := hI
  obtain ⟨hN, hA, hB, he, hh, hc, hM⟩ := hI
  have hw : RwK (F 3) (F 4) (F 5) (F 6) (F 2 0) (Z 1) := NwE.rwk hN
  obtain ⟨nR, nO, nU, nB, nG⟩ := hN
  have e0 : Z 1 0 = F 2 0 := nR.1
  have y0 := nO.1
  have y8 := nO.2.1
  obtain ⟨hb, hx⟩ := hx
  obtain ⟨⟨mq, hz, hr⟩, hc'⟩ := hz
  rcases hx with ⟨q, h1, b1, b2, b3, b4, a1, a2, a3, a4, a5, a6, a7, a8, a9, a10⟩ | ⟨q, hs, hx⟩
  · subst b1 b2 b3 b4 a1 a2 a3 a4 a5 a6 a7 a8 a9 a10
    refine ⟨?_, InvL.mono (m := m) ⟨⟨nR, nO, nU, nB, nG⟩, StE.nrm (StE.bd hA hb), hB, he, hh, hc', hM⟩ (by omega)⟩
    rw [h1, hr]
    by_cases q1 : mq < 0
    · rw [if_pos q1]
    · rw [if_neg q1]
      rcases hz with ⟨_, z⟩ | ⟨z, _⟩
      · omega
      · rw [if_neg (by omega), if_neg (by omega)]
  · have el := nR.2.1 (X 1) q.1 q.2.1
    obtain ⟨s1, s2⟩ := StE.mac hA hb hs
    rw [he] at s2
    rcases hz with ⟨z, _⟩ | ⟨_, mr, z1, z2, z3⟩
    · exfalso; omega
    · have e := mac_eq nR y0 z2 z1 s2
      rcases hx with ⟨q1, h1, a1, a2, a3, a4, a5, a6, a7, a8, a9, a10⟩ | ⟨q1, hs2, mp, h2, h1⟩
      · subst a1 a2 a3 a4 a5 a6 a7 a8 a9 a10
        refine ⟨?_, InvL.mono (m := m) ⟨⟨nR, nO, nU, nB, nG⟩, StE.nrm s1, hB, he, hh, hc', hM⟩ (by omega)⟩
        rcases z3 with ⟨_, z3⟩ | ⟨z3, _⟩
        · rw [h1, hr, if_pos (by omega)]
        · exfalso; omega
      · obtain ⟨s3, s4, s5, s6, s7⟩ := StE.rul s1 hw hs2
        rw [he] at s5
        refine ⟨?_, InvL.mono (m := m) ⟨⟨nR, nO, nU, nB, nG⟩, s3, hB, he, hh, hc', hM⟩ (by omega)⟩
        rcases z3 with ⟨z3, _⟩ | ⟨z3, z4, z5⟩
        · exfalso; omega
        · have H := HlH.of nR nO nG.2.2.1 nG.1 z2 z1 s2 z3 z4 s4 s5 s6
          have ll := nO.2.2.1 (X 1)
          have fe := fd_eq H ⟨q.1, q.2.1⟩ (F 3 (X 1) - 0).toNat 0 0 0 0 (fun _ => 0) (fun _ => -1) (fun _ => -1000) (by omega) (by omega) (by omega) (fun _ _ _ => rfl) (fun _ _ _ => rfl)
          have em : mp = mq := by rw [h2, z5, el]; exact fe
          rw [h1, hr, em]
          by_cases q2 : mq < 0
          · rw [if_pos q2, if_pos q2]
          · rw [if_neg q2, if_neg q2]
            by_cases q3 : X 2 = 0
            · rw [if_pos q3, if_pos q3]
            · rw [if_neg q3, if_neg q3, if_pos (by omega)]
set_option maxHeartbeats 4000000 in
theorem op_fresh {F Z : Nat → Int → Int} {io : Int → Option Nat} {ib : Int → Nat → Nat} {FI : Int → Nat → Int → Int} {m : Int} {X : Int → Int} {rX : Int} {e1X : Int} {pa1X : Int → Int} {vb1X : Int → Int} {cd1X : Int → Int} {cn1X : Int → Int} {xc1X : Int → Int} {xw1X : Int → Int} {sa1X : Int → Int} {ph1X : Int → Int} {xm1X : Int → Int} {xa1X : Int → Int} {tg1X : Int → Int} {xt1X : Int → Int} {xn1X : Int → Int} {xv1X : Int → Int} {nd1X : Int} {xr1X : Int} {aw1X : Int} {mt1X : Int → Int} {mn1X : Int → Int} {mz1X : Int} {mk1X : Int} {lg1X : Int → Int} {lt1X : Int → Int} {lc1X : Int → Int} {lb1X : Int → Int} {rk_1X : Int → Int} {ro1X : Int → Int} {ra1X : Int → Int} {rb1X : Int → Int} {rz1X : Int} {rk1X : Int} {t9X : Int → Int} {n9X : Int → Int} {x9X : Int} {k9X : Int → Int} {o9X : Int → Int} {a9X : Int → Int} {b9X : Int → Int} {z9X : Int} {c9X : Int → Int} {d9X : Int → Int} {l9X : Int → Int} {on9X : Int} {st9X : Int} {an9X : Int} {un9X : Int} {rZ : Int} {ccZ : Int} {UZ : Int → Int} {lr1Z : Int → Int} {lp1Z : Int → Int} {la1Z : Int} {t1Z : Int → Int} {c1Z : Int → Int} {ac1Z : Int → Int} {co1Z : Int → Int} {cs1Z : Int → Int} {ut1Z : Int → Int} {h1Z : Int} {u1Z : Int} (hI : InvL F Z io ib FI m) (m0 : 0 ≤ m) (hm : m + 1 ≤ 50000) (hx : ((∀ i, 0 ≤ pa1X i ∧ pa1X i < 97) ∧ (∀ i, 0 ≤ vb1X i ∧ vb1X i < 3) ∧ ∀ i, 0 ≤ cd1X i ∧ cd1X i < 4) ∧ ((¬ (0 ≤ (X 1) ∧ (X 1) < (F 2 0)) ∧ rX = -1 ∧ e1X = (F 51 0) ∧ mk1X = (F 151 0) ∧ mt1X = (F 74) ∧ mn1X = (F 75) ∧ mz1X = (F 73 0) ∧ (rk1X = (F 251 0) ∧ lg1X = (F 68) ∧ lt1X = (F 69) ∧ lc1X = (F 71) ∧ lb1X = (F 72) ∧ ra1X = (F 79) ∧ rb1X = (F 80) ∧ rz1X = (F 76 0) ∧ rk_1X = (F 77) ∧ ro1X = (F 78))) ∨ ((0 ≤ (X 1) ∧ (X 1) < (F 2 0)) ∧ e1X = (X 1) ∧ ∃ mk2 rk2, (((X 1) = (F 51 0) ∧ mk2 = (F 151 0) ∧ rk2 = (F 251 0)) ∨ ((X 1) ≠ (F 51 0) ∧ mk2 = 0 ∧ rk2 = 0)) ∧ ((¬ (0 ≤ (X 1) ∧ (X 1) < (F 2 0) ∧ 0 ≤ (X 2) ∧ (X 2) < 2) ∧ rX = -1 ∧ mk1X = mk2 ∧ mt1X = (F 74) ∧ mn1X = (F 75) ∧ mz1X = (F 73 0) ∧ (rk1X = rk2 ∧ lg1X = (F 68) ∧ lt1X = (F 69) ∧ lc1X = (F 71) ∧ lb1X = (F 72) ∧ ra1X = (F 79) ∧ rb1X = (F 80) ∧ rz1X = (F 76 0) ∧ rk_1X = (F 77) ∧ ro1X = (F 78))) ∨ ((0 ≤ (X 1) ∧ (X 1) < (F 2 0) ∧ 0 ≤ (X 2) ∧ (X 2) < 2) ∧ ((mk2 ≠ 0 ∧ mk1X = mk2 ∧ mt1X = (F 74) ∧ mn1X = (F 75) ∧ mz1X = (F 73 0)) ∨ (mk2 = 0 ∧ mk1X = 1 ∧ MacC (F 3) (F 4) (F 6) (X 1) (F 2 0) mz1X mt1X mn1X)) ∧ ((mz1X ≤ 0 ∧ rX = -1 ∧ (rk1X = rk2 ∧ lg1X = (F 68) ∧ lt1X = (F 69) ∧ lc1X = (F 71) ∧ lb1X = (F 72) ∧ ra1X = (F 79) ∧ rb1X = (F 80) ∧ rz1X = (F 76 0) ∧ rk_1X = (F 77) ∧ ro1X = (F 78))) ∨ (0 < mz1X ∧ RlS (F 4) (F 5) (F 6) (F 3) (X 1) (F 2 0) rk2 (F 68) (F 69) (F 71) (F 72) (F 79) (F 80) (F 76 0) (F 77) (F 78) rk1X lg1X lt1X lc1X lb1X ra1X rb1X rz1X rk_1X ro1X ∧ ∃ m, m = fdI (F 4) (F 5) (F 6) (nrmK 12 mt1X (-1)) (nrmK 12 mn1X (-1)) (nrmK 6 rk_1X (-1)) (nrmK 6 ro1X (-1000)) (nrmK 96 ra1X 0) (nrmK 96 rb1X 0) rz1X (X 1) ((F 3) (X 1) - 0).toNat 0 ((fun _ => 0), (fun _ => -1), (fun _ => -1000), 0, 0, 0) ∧ rX = if m < 0 then -1 else if (X 2) = 0 then m / 4 else m % 4))))))) (hz : (∃ m, ((¬ (0 ≤ (X 1) ∧ (X 1) ≤ (Z 1) 0 - 1) ∧ m = -1) ∨ ((0 ≤ (X 1) ∧ (X 1) ≤ (Z 1) 0 - 1) ∧ PtR (Z 1) ((X 1)) (X 1) m (Z 4) (Z 5) lr1Z lp1Z la1Z t1Z c1Z UZ)) ∧ rZ = (if m < 0 then -1 else if (X 2) = 0 then m / 4 else if (X 2) = 1 then m % 4 else -1)) ∧ (∀ i, -100000 ≤ c1Z i ∧ c1Z i ≤ 100000)) : rX = rZ ∧ InvL (upF (upF (upF (upF (upF (upF (upF (upF (upF (upF (upF (upF (upF (upF (upF (upF (upF (upF (upF (upF (upF (upF (upF (upF (upF (upF (upF (upF (upF (upF (upF (upF (upF (upF (upF (upF (upF (upF (upF (upF (upF (upF (upF (upF (upF (upF (upF F 51 (fun _ => e1X)) 151 (fun _ => mk1X)) 251 (fun _ => rk1X)) 52 (fun _ => nd1X)) 152 (fun _ => xr1X)) 252 (fun _ => aw1X)) 53 pa1X) 54 vb1X) 55 cd1X) 56 cn1X) 57 xc1X) 58 xw1X) 59 sa1X) 60 ph1X) 61 xm1X) 62 xa1X) 63 tg1X) 64 xt1X) 65 xn1X) 66 xv1X) 68 lg1X) 69 lt1X) 71 lc1X) 72 lb1X) 73 (fun _ => mz1X)) 74 mt1X) 75 mn1X) 76 (fun _ => rz1X)) 79 ra1X) 80 rb1X) 81 (fun _ => on9X)) 181 (fun _ => st9X)) 281 (fun _ => an9X)) 381 (fun _ => un9X)) 82 (fun _ => x9X)) 83 t9X) 84 n9X) 85 (fun _ => z9X)) 86 k9X) 87 o9X) 88 a9X) 89 b9X) 91 c9X) 92 d9X) 93 l9X) 77 (nrmK 6 rk_1X (-1))) 78 (nrmK 6 ro1X (-1000))) (upF (upF (upF (upF (upF (upF (upF (upF (upF (upF (upF (upF (upF Z 0 (fun _ => ccZ)) 100 (fun _ => la1Z)) 200 (fun _ => h1Z)) 300 (fun _ => u1Z)) 4 lr1Z) 5 lp1Z) 6 t1Z) 7 c1Z) 8 ac1Z) 9 co1Z) 10 cs1Z) 11 ut1Z) 3 UZ) io ib FI (m + 1) := by
  have hJ := hI
  obtain ⟨hN, hA, hB, he, hh, hc, hM⟩ := hI
  have hw : RwK (F 3) (F 4) (F 5) (F 6) (F 2 0) (Z 1) := NwE.rwk hN
  obtain ⟨nR, nO, nU, nB, nG⟩ := hN
  have e0 : Z 1 0 = F 2 0 := nR.1
  have y0 := nO.1
  have y8 := nO.2.1
  obtain ⟨hb, hx⟩ := hx
  obtain ⟨⟨mq, hz, hr⟩, hc'⟩ := hz
  rcases hx with ⟨q, h1, c1, b1, b2, b3, b4, a1, a2, a3, a4, a5, a6, a7, a8, a9, a10⟩ | ⟨q0, c1, mk2, rk2, he2, hx⟩
  · subst c1 b1 b2 b3 b4 a1 a2 a3 a4 a5 a6 a7 a8 a9 a10
    refine ⟨?_, InvL.mono (m := m) ⟨⟨nR, nO, nU, nB, nG⟩, hA, StE.nrm (StE.bd hB hb), he, hh, hc', hM⟩ (by omega)⟩
    rcases hz with ⟨_, z⟩ | ⟨z, _⟩
    · rw [h1, hr, if_pos (by omega)]
    · exfalso; omega
  · subst c1
    have hC : StE (F 3) (F 4) (F 5) (F 6) (F 2 0) (Z 1) (X 1) mk2 rk2 (F 53) (F 54) (F 55) (F 68) (F 69) (F 71) (F 72) (F 74) (F 75) (F 73 0) (F 77) (F 78) (F 79) (F 80) (F 76 0) := by
      rcases he2 with ⟨w1, w2, w3⟩ | ⟨w1, w2, w3⟩
      · rw [w1, w2, w3]; exact hB
      · rw [w2, w3]; exact StE.forget hB ⟨by omega, by omega⟩
    rcases hx with ⟨q, h1, b1, b2, b3, b4, a1, a2, a3, a4, a5, a6, a7, a8, a9, a10⟩ | ⟨q, hs, hx⟩
    · subst b1 b2 b3 b4 a1 a2 a3 a4 a5 a6 a7 a8 a9 a10
      refine ⟨?_, InvL.mono (m := m) ⟨⟨nR, nO, nU, nB, nG⟩, hA, StE.nrm (StE.bd hC hb), he, hh, hc', hM⟩ (by omega)⟩
      rw [h1, hr]
      by_cases q1 : mq < 0
      · rw [if_pos q1]
      · rw [if_neg q1, if_neg (by omega), if_neg (by omega)]
    · have el := nR.2.1 (X 1) q.1 q.2.1
      obtain ⟨s1, s2⟩ := StE.mac hC hb hs
      rcases hz with ⟨z, _⟩ | ⟨_, mr, z1, z2, z3⟩
      · exfalso; omega
      · have e := mac_eq nR y0 z2 z1 s2
        rcases hx with ⟨q1, h1, a1, a2, a3, a4, a5, a6, a7, a8, a9, a10⟩ | ⟨q1, hs2, mp, h2, h1⟩
        · subst a1 a2 a3 a4 a5 a6 a7 a8 a9 a10
          refine ⟨?_, InvL.mono (m := m) ⟨⟨nR, nO, nU, nB, nG⟩, hA, StE.nrm s1, he, hh, hc', hM⟩ (by omega)⟩
          rcases z3 with ⟨_, z3⟩ | ⟨z3, _⟩
          · rw [h1, hr, if_pos (by omega)]
          · exfalso; omega
        · obtain ⟨s3, s4, s5, s6, s7⟩ := StE.rul s1 hw hs2
          refine ⟨?_, InvL.mono (m := m) ⟨⟨nR, nO, nU, nB, nG⟩, hA, s3, he, hh, hc', hM⟩ (by omega)⟩
          rcases z3 with ⟨z3, _⟩ | ⟨z3, z4, z5⟩
          · exfalso; omega
          · have H := HlH.of nR nO nG.2.2.1 nG.1 z2 z1 s2 z3 z4 s4 s5 s6
            have ll := nO.2.2.1 (X 1)
            have fe := fd_eq H ⟨q.1, q.2.1⟩ (F 3 (X 1) - 0).toNat 0 0 0 0 (fun _ => 0) (fun _ => -1) (fun _ => -1000) (by omega) (by omega) (by omega) (fun _ _ _ => rfl) (fun _ _ _ => rfl)
            have em : mp = mq := by rw [h2, z5, el]; exact fe
            rw [h1, hr, em]
            by_cases q2 : mq < 0
            · rw [if_pos q2, if_pos q2]
            · rw [if_neg q2, if_neg q2]
              by_cases q3 : X 2 = 0
              · rw [if_pos q3, if_pos q3]
              · rw [if_neg q3, if_neg q3, if_pos (by omega)]
