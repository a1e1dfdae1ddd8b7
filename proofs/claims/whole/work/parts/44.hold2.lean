/-! hold -/
section C12
variable {a A B T X c c' b b' : AT} {r : Nat → Nat → Option Nat} {n : Nat → Nat} {nr nm np : Int}
theorem m_hold_all (h : Sh r n nr nm np) (hI : CI a nr nm np) (hM : MR a a nr nm np) {m s : Int} (hm : 0 ≤ m ∧ m < nm) (hs : 1 ≤ s ∧ s ≤ 10) (h4 : a 11 4 m = 1) (h3 : 100 ≤ a 11 3 m) (hL : a 12 4 (a 11 5 m) + s ≤ 80)
    (hX : ∀ t, 21 ≤ t → t < 40 → X t = a t) (hX20 : ∀ j, 1 ≤ j → X 20 j 0 = a 20 j 0) (hH : Hd A a np (a 11 5 m) s (a 0 10 0 - a 12 3 (a 11 5 m))) (q1 : -2147483648 ≤ m) (q2 : m ≤ 2147483647) :
    ∃ c, (OK_ A nr np (a 11 5 m) (a 0 10 0 - a 12 3 (a 11 5 m)) (a 11 2 m) → f_Mo_hold 20 (iz m) (iz s) (VV X r n) = j_Mo_hold_205 20 (iz (a 11 5 m)) (iz (a 12 4 (a 11 5 m) + s)) (iz 0) (some 20) (VV c r n)) ∧
      (¬ OK_ A nr np (a 11 5 m) (a 0 10 0 - a 12 3 (a 11 5 m)) (a 11 2 m) → f_Mo_hold 20 (iz m) (iz s) (VV X r n) = j_Mo_hold_205 20 (iz (a 11 5 m)) (iz (a 12 4 (a 11 5 m) + s)) (iz 3) (some 20) (VV c r n)) ∧
      (∀ t, t ≠ 20 → t ≠ 38 → c t = X t) ∧ (∀ j, 1 ≤ j → c 20 j 0 = a 20 j 0) ∧ (∀ j, j < 3240 → c 38 j 0 = a 38 j 0) ∧ (∀ i, 0 ≤ i → i ≤ a 12 4 (a 11 5 m) + s → c 38 (3240 + i) 0 = A 13 i np) := by
  obtain ⟨⟨⟨hnr, hnm, hnp⟩, hnow, hns⟩, hC, hD, hR, hMa, hP, hLL⟩ := hI
  obtain ⟨hMC, hMRm, hMP, hMS⟩ := hM
  obtain ⟨s1, s7, s15, s17, s24, s26, s27, s28, s32⟩ := hMS
  have hb := h.b
  obtain ⟨w0, w1, w2, w3, w4, w5, w6⟩ := hMa m hm.1 hm.2
  obtain ⟨k0, k1, k2, k3, k4, k5, k6⟩ := hMP.1.1 m hm.1 hm.2
  obtain ⟨l1, l2, l3, l4, l5, l6⟩ := (hLL.1 m hm.1 hm.2).2.1 h4
  obtain ⟨⟨p1, p2, p2'⟩, p3, p4, p5⟩ := hMP.2.1 (a 11 5 m) l2 w5.2
  obtain ⟨v1, v2, v3, v4, v5, v6, v7⟩ := hP (a 11 5 m) l2 w5.2
  have vl := v1.2.1
  have hw := hH.pw v1 hs (by omega) hL
  obtain ⟨g1, g2, g3, g4, g5, g6⟩ := hH
  have y : ∀ t, 21 ≤ t → t < 40 → up (up X 20 0 0 0) 20 0 0 0 t = a t := fun t t1 t2 => by rw [up_t (by omega), up_t (by omega), hX t t1 t2]
  have y20 : ∀ j, 1 ≤ j → up (up X 20 0 0 0) 20 0 0 0 20 j 0 = a 20 j 0 := fun j j1 => by rw [up_s, if_neg (by omega), up_s, if_neg (by omega), hX20 j j1]
  obtain ⟨c, f1, f2, f3⟩ := m_hold_l (a := up (up X 20 0 0 0) 20 0 0 0) h (p := a 11 5 m) (s := s) (k := a 0 10 0 - a 12 3 (a 11 5 m)) (L := a 12 4 (a 11 5 m) + s) (iz m) ⟨l2, by omega⟩ hs (by omega) hL
  have z : ∀ t, t ≠ 20 → t ≠ 38 → c t = X t := fun t t1 t2 => by rw [f2.1 t t2, up_t t1, up_t t1]
  have z20 : ∀ j, 1 ≤ j → c 20 j 0 = a 20 j 0 := fun j j1 => by rw [f2.1 20 (by omega), y20 j j1]
  have z38 : ∀ j, j < 3240 → c 38 j 0 = a 38 j 0 := fun j j1 => by rw [f2.2 j 0 j1, y 38 (by omega) (by omega)]
  have zs : ∀ i, 0 ≤ i → i ≤ a 12 4 (a 11 5 m) + s → c 38 (3240 + i) 0 = A 13 i np := fun i i1 i2 => by
    rw [f3 i i1 i2, y 38 (by omega) (by omega), g6 i i1 i2]
    exact p2' _ (by unfold old; omega) (by unfold old; omega)
  have za : ∀ t, 21 ≤ t → t < 40 → t ≠ 38 → c t = a t := fun t t1 t2 t3 => by rw [z t (by omega) t3, hX t t1 t2]
  have hCA : CC A := CC_c (fun t t1 t2 => g1 t (by omega) (by omega)) hC
  have e0 := g1 0 (by omega) (by omega)
  have e1 := g1 1 (by omega) (by omega)
  have hlow : low A np (a 0 10 0 - a 12 3 (a 11 5 m)) (a 11 2 m) (a 0 10 0 - a 12 3 (a 11 5 m)) → low A np (a 0 10 0 - a 12 3 (a 11 5 m)) (a 11 2 m) (a 0 10 0 - a 12 3 (a 11 5 m) + 1) := by
    generalize hk : a 0 10 0 - a 12 3 (a 11 5 m) = k at *
    have q1 := g6 k (by omega) (by omega)
    have q2 := g6 (k + 1) (by omega) (by omega)
    have o1 : old k s k = k := if_pos (Int.le_refl _)
    have o2 : old k s (k + 1) = k := by unfold old; rw [if_neg (by omega), if_neg (by omega)]
    rw [o1] at q1
    rw [o2, ← q1] at q2
    have es := sm_s (pc A np) (i := k) (by omega)
    have hc := cost_b hCA (t := 4) (Or.inl rfl) (p := A 13 k np) (q := A 13 (k + 1) np) (by have := hw.2.2 (k + 1) (by omega) (by omega); omega) (by have := hw.2.2 (k + 1) (by omega) (by omega); omega)
    have ep : pc A np k = cost A 4 (A 13 k np) (A 13 (k + 1) np) := rfl
    unfold low
    rw [es, ep, q2]
    rw [q2] at hc
    intro z
    omega
  have ec := m_canHold (a := c) (b := A) h (m := m) (p := a 11 5 m) (k := a 0 10 0 - a 12 3 (a 11 5 m)) (l := a 11 2 m) (MC_c2 (fun t t1 t2 => za t t1 (by omega) (by omega)) (z20 4 (by omega)) (fun t t1 t2 => g1 t (by omega) (by omega)) hMC) hCA (CRm_c2 (g1 10 (by omega) (by omega)) hR) (MRm_c (za 39 (by omega) (by omega) (by omega)) (g1 10 (by omega) (by omega)) hMRm) (CP_c g2 hP)
    (MPs_c hb.2.2.2 (fun t t1 t2 => za t (by omega) (by omega) (by omega)) z38 g2 hP hMP.2) (by rw [e1]; exact hns (by omega)) hw (fun i i1 i2 => by rw [g5] at i2; exact zs i i1 i2) (by rw [z20 17 (by omega)]; exact s17) (by rw [z20 24 (by omega)]; exact s24) (by rw [z20 1 (by omega), e0]; exact s1) (by rw [e0]; exact hnow) ⟨l2, w5.2⟩ (by rw [za 34 (by omega) (by omega) (by omega), g4]; exact p1) ⟨hm.1, by omega⟩ (by rw [za 27 (by omega) (by omega) (by omega)]; exact k2) (by omega) (by omega) hlow (by omega)
  rw [g5] at ec
  have e3 := m_isMachine (a := X) (r := r) (n := n) (nm := nm) (by rw [hX20 7 (by omega)]; exact s7) hb.2.1 (m := m) q1 q2
  have x28 := hX 28 (by omega) (by omega)
  have x29 := hX 29 (by omega) (by omega)
  have x30 := hX 30 (by omega) (by omega)
  have x34 := hX 34 (by omega) (by omega)
  have x35 := hX 35 (by omega) (by omega)
  have x1 : X 20 1 0 = a 0 10 0 := by rw [hX20 1 (by omega)]; exact s1
  refine ⟨c, fun hok => ?_, fun hok => ?_, z, z20, z38, zs⟩
  · rw [cb_t hok] at ec
    unfold f_Mo_hold j_Mo_hold_50 j_Mo_hold_55 j_Mo_hold_109
    simp (maxSteps := 2000000) (disch := omega) only [lt__e, bnd_e, bnd2_e, bnd3_e, el0_l, el0_r, el1_l, el1_r, el2_l, el2_r, ↓reduceIte, not_true_eq_false, not_false_eq_true, reduceCtorEq, and_true, true_and, and_false, false_and, or_true, true_or, or_false, false_or, and_self, or_self, ite_true, ite_false, Int.cast_ofNat_Int, Nat.reduceEqDiff, Nat.reduceLT, Int.reduceAdd, Int.reduceSub, Int.reduceMul, Int.reduceNeg, Int.reduceLT, Int.reduceLE, Int.reduceEq, ilt_t, ilt_f, ile_t, ile_f, ieq_t, ieq_f, z_0, z_1, z_2, z_3, z_4, z_5, z_6, z_7, z_8, z_9, z_10, z_12, z_20, z_40, z_80, z_81, z_99, z_100, z_200, z_400, z_3240, z_20000, z_100000, iz_add, iz_sub, iz_mul, iz_neg, iz_nat, iz_lt, iz_le, iz_eq, iz_div, iz_ite, iz_c, md10, md100, izcb_0, izcb_1, isOut_0, isNoCell_0, isGr_0, within_e, isCell_e, np_p, VV_r, VV_n, V_20, W_20, V_21, W_21, V_22, W_22, V_23, W_23, V_24, W_24, V_25, W_25, V_26, W_26, V_27, W_27, V_28, W_28, V_29, W_29, V_30, W_30, V_31, W_31, V_32, W_32, V_33, W_33, V_34, W_34, V_35, W_35, V_36, W_36, V_37, W_37, V_38, W_38, V_39, W_39, h.r20_2, h.r20_3, h.r20_5, h.r20_6, h.r20_8, h.r20_9, h.r20_10, h.r20_11, h.r20_12, h.r20_13, h.r20_14, h.r20_16, h.r20_18, h.r20_19, h.r20_20, h.r20_21, h.r20_22, h.r20_23, h.r20_25, rf_20 h, ra_21 h, ra_22 h, ra_23 h, ra_24 h, ra_25 h, ra_26 h, ra_27 h, ra_28 h, ra_29 h, ra_30 h, ra_31 h, ra_32 h, ra_33 h, ra_34 h, ra_35 h, ra_36 h, ra_37 h, ra_38 h, ra_39 h, up_e, m_ref0 h, e3, hm, hs, x28, x29, x30, x34, x35, k3, k4, k5, p1, p2, x1, h4, h3, f1, ec]
  · rw [cb_f hok] at ec
    unfold f_Mo_hold j_Mo_hold_50 j_Mo_hold_55 j_Mo_hold_109
    simp (maxSteps := 2000000) (disch := omega) only [lt__e, bnd_e, bnd2_e, bnd3_e, el0_l, el0_r, el1_l, el1_r, el2_l, el2_r, ↓reduceIte, not_true_eq_false, not_false_eq_true, reduceCtorEq, and_true, true_and, and_false, false_and, or_true, true_or, or_false, false_or, and_self, or_self, ite_true, ite_false, Int.cast_ofNat_Int, Nat.reduceEqDiff, Nat.reduceLT, Int.reduceAdd, Int.reduceSub, Int.reduceMul, Int.reduceNeg, Int.reduceLT, Int.reduceLE, Int.reduceEq, ilt_t, ilt_f, ile_t, ile_f, ieq_t, ieq_f, z_0, z_1, z_2, z_3, z_4, z_5, z_6, z_7, z_8, z_9, z_10, z_12, z_20, z_40, z_80, z_81, z_99, z_100, z_200, z_400, z_3240, z_20000, z_100000, iz_add, iz_sub, iz_mul, iz_neg, iz_nat, iz_lt, iz_le, iz_eq, iz_div, iz_ite, iz_c, md10, md100, izcb_0, izcb_1, isOut_0, isNoCell_0, isGr_0, within_e, isCell_e, np_p, VV_r, VV_n, V_20, W_20, V_21, W_21, V_22, W_22, V_23, W_23, V_24, W_24, V_25, W_25, V_26, W_26, V_27, W_27, V_28, W_28, V_29, W_29, V_30, W_30, V_31, W_31, V_32, W_32, V_33, W_33, V_34, W_34, V_35, W_35, V_36, W_36, V_37, W_37, V_38, W_38, V_39, W_39, h.r20_2, h.r20_3, h.r20_5, h.r20_6, h.r20_8, h.r20_9, h.r20_10, h.r20_11, h.r20_12, h.r20_13, h.r20_14, h.r20_16, h.r20_18, h.r20_19, h.r20_20, h.r20_21, h.r20_22, h.r20_23, h.r20_25, rf_20 h, ra_21 h, ra_22 h, ra_23 h, ra_24 h, ra_25 h, ra_26 h, ra_27 h, ra_28 h, ra_29 h, ra_30 h, ra_31 h, ra_32 h, ra_33 h, ra_34 h, ra_35 h, ra_36 h, ra_37 h, ra_38 h, ra_39 h, up_e, m_ref0 h, e3, hm, hs, x28, x29, x30, x34, x35, k3, k4, k5, p1, p2, x1, h4, h3, f1, ec]
theorem call_hold (g : GG a r n) {m' s' : Int} (q01 : -2147483648 ≤ m') (q02 : m' ≤ 2147483647) (q11 : -2147483648 ≤ s') (q12 : s' ≤ 2147483647) : ∃ k z A1 A2, f_La_hold (some 0) (iz m') (iz s') (some 50) (VV a r n) = some (iz k, VV A1 r n) ∧ f_Mo_hold 20 (iz m') (iz s') (VV A1 r n) = some (iz z, VV A2 r n) ∧ A2 20 0 0 = k ∧ (k = 0 → A2 50 0 0 = z) ∧ (0 ≤ k ∧ k ≤ 3) ∧ GG A2 r n := by
  obtain ⟨nr, nm, np, h, hI, hMR⟩ := g
  have g : GG a r n := ⟨nr, nm, np, h, hI, hMR⟩
  have hI' := hI
  have hMR' := hMR
  obtain ⟨⟨⟨hnr, hnm, hnp⟩, hnow, hns⟩, hC, hD, hR, hMa, hP, hL⟩ := hI
  obtain ⟨hMC, hMRm, hMP, hMS⟩ := hMR
  obtain ⟨s1, s7, s15, s17, s24, s26, s27, s28, s32⟩ := hMS
  have hb := h.b
  have hcs := hC.1
  have hds := hD.1
  have e3 := m_isMachine (a := a) (r := r) (n := n) (nm := nm) s7 hb.2.1 (m := m') q01 q02
  by_cases c1 : 0 ≤ m' ∧ m' < nm
  · obtain ⟨w0, w1, w2, w3, w4, w5, w6⟩ := hMa m' c1.1 c1.2
    obtain ⟨k0, k1, k2, k3, k4, k5, k6⟩ := hMP.1.1 m' c1.1 c1.2
    by_cases c2 : 1 ≤ s' ∧ s' ≤ 10
    · by_cases c3 : a 11 4 m' = 1
      · by_cases c4 : 100 ≤ a 11 3 m'
        · obtain ⟨l1, l2, l3, l4, l5, l6⟩ := (hL.1 m' c1.1 c1.2).2.1 c3
          obtain ⟨⟨p1, p2, p2'⟩, p3, p4, p5⟩ := hMP.2.1 (a 11 5 m') l2 w5.2
          obtain ⟨v1, v2, v3, v4, v5, v6, v7⟩ := hP (a 11 5 m') l2 w5.2
          have vl := v1.2.1
          by_cases c5 : a 12 4 (a 11 5 m') + s' ≤ 80
          · obtain ⟨A, d1, d2⟩ := c_canBeHeld h hC hR hP (hns (by omega)) hnow (p := a 11 5 m') (s := s') (l := a 11 2 m') ⟨l2, w5.2⟩ c2 (by omega) l5 c5
            have hw := d2.pw v1 c2 (by omega) c5
            obtain ⟨g1, g2, g3, g4, g5, g6⟩ := d2
            have hfl := c_flownBy_y (a := a) h c1.1 c1.2 c3 l2 w5.2
            by_cases hok : OK_ A nr np (a 11 5 m') (a 0 10 0 - a 12 3 (a 11 5 m')) (a 11 2 m')
            · rw [cb_t hok] at d1
              obtain ⟨D, f1, f2, f3, f4, f5, f6⟩ := c_takePlaces (a := A) h (p := a 11 5 m') (L := a 12 4 (a 11 5 m') + s') ⟨l2, w5.2⟩ (by omega) g5
              have D3 : D 12 3 (a 11 5 m') = a 12 3 (a 11 5 m') := by rw [f3 3 _ (by omega), (g2 _ w5.2).1 3]
              have hX : ∀ t, 21 ≤ t → t < 40 → up D 50 0 0 (a 12 3 (a 11 5 m') + (a 12 4 (a 11 5 m') + s')) t = a t := fun t t1 t2 => by rw [up_t (by omega), f2 t (by omega) (by omega), g1 t (by omega) (by omega)]
              have hX20 : ∀ j, 1 ≤ j → up D 50 0 0 (a 12 3 (a 11 5 m') + (a 12 4 (a 11 5 m') + s')) 20 j 0 = a 20 j 0 := fun j j1 => by rw [up_t (by omega), f2 20 (by omega) (by omega), g1 20 (by omega) (by omega)]
              obtain ⟨C1, i1, -, i3, i4, i5, i6⟩ := m_hold_all h hI' hMR' c1 c2 c3 c4 c5 hX hX20 ⟨g1, g2, g3, g4, g5, g6⟩ q01 q02
              obtain ⟨C2, j1, j2, j3, j4⟩ := m_hold_b (a := up C1 20 0 0 0) h (p := a 11 5 m') (L := a 12 4 (a 11 5 m') + s') ⟨l2, by omega⟩ (by omega)
              have u38 : ∀ i, up C1 20 0 0 0 38 i 0 = C1 38 i 0 := fun i => by rw [up_t (by omega)]
              have C34 : C2 34 (a 11 5 m') 0 = a 12 3 (a 11 5 m') := by rw [j2 34 (by omega), up_t (by omega), i3 34 (by omega) (by omega), hX 34 (by omega) (by omega)]; exact p1
              refine ⟨0, a 12 3 (a 11 5 m') + (a 12 4 (a 11 5 m') + s'), up D 50 0 0 (a 12 3 (a 11 5 m') + (a 12 4 (a 11 5 m') + s')), up C2 35 (a 11 5 m') 0 (a 12 4 (a 11 5 m') + s'), ?_, ?_, ?_, fun _ => ?_, by omega, ?_⟩
              · unfold f_La_hold f_Sk_hold
                simp (disch := omega) only [lt__e, bnd_e, bnd2_e, bnd3_e, el0_l, el0_r, el1_l, el1_r, el2_l, el2_r, ↓reduceIte, not_true_eq_false, not_false_eq_true, reduceCtorEq, and_true, true_and, and_false, false_and, or_true, true_or, or_false, false_or, and_self, or_self, ite_true, ite_false, Int.cast_ofNat_Int, Nat.reduceEqDiff, Nat.reduceLT, Int.reduceAdd, Int.reduceSub, Int.reduceMul, Int.reduceNeg, Int.reduceLT, Int.reduceLE, Int.reduceEq, ilt_t, ilt_f, ile_t, ile_f, ieq_t, ieq_f, z_0, z_1, z_2, z_3, z_4, z_5, z_6, z_7, z_8, z_9, z_10, z_12, z_20, z_40, z_80, z_81, z_99, z_100, z_200, z_400, z_3240, z_20000, z_100000, iz_add, iz_sub, iz_mul, iz_neg, iz_nat, iz_lt, iz_le, iz_eq, iz_div, iz_ite, iz_c, md10, md100, izcb_0, izcb_1, isOut_0, isNoCell_0, isGr_0, within_e, isCell_e, np_p, VV_r, VV_n, V_k, W_k, V_0, W_0, V_1, W_1, V_2, W_2, V_3, W_3, V_4, W_4, V_5, W_5, V_6, W_6, V_7, W_7, V_8, W_8, V_9, W_9, VV_r, VV_n, V_20, W_20, V_21, W_21, V_22, W_22, V_23, W_23, V_24, W_24, V_25, W_25, V_26, W_26, V_27, W_27, V_28, W_28, V_29, W_29, V_30, W_30, V_31, W_31, V_32, W_32, V_33, W_33, V_34, W_34, V_35, W_35, V_36, W_36, V_37, W_37, V_38, W_38, V_39, W_39, h.r0_0, h.r0_1, h.r0_2, h.r0_3, h.r0_4, h.r0_5, h.r1_0, h.r1_1, h.r1_2, h.r1_3, h.r12, rf_0 h, rf_1 h, rf_10 h, rf_11 h, rf_12 h, r6_i h, r6_o h, r7_i h, r7_o h, r8_i h, r8_o h, rl_13 h, ra_13 h, rl_2 h, ra_2 h, rl_3 h, ra_3 h, rl_4 h, ra_4 h, rl_5 h, ra_5 h, rl_6 h, ra_6 h, rl_7 h, ra_7 h, rl_8 h, ra_8 h, rl_9 h, ra_9 h, h.r20_2, h.r20_3, h.r20_5, h.r20_6, h.r20_8, h.r20_9, h.r20_10, h.r20_11, h.r20_12, h.r20_13, h.r20_14, h.r20_16, h.r20_18, h.r20_19, h.r20_20, h.r20_21, h.r20_22, h.r20_23, h.r20_25, rf_20 h, ra_21 h, ra_22 h, ra_23 h, ra_24 h, ra_25 h, ra_26 h, ra_27 h, ra_28 h, ra_29 h, ra_30 h, ra_31 h, ra_32 h, ra_33 h, ra_34 h, ra_35 h, ra_36 h, ra_37 h, ra_38 h, ra_39 h, rl_50 h, ra_50 h, V_50, W_50, up_e, m_ref0 h, m_refw h, c_machineOf_i h, hfl, c1, c2, c3, c4, d1, f1, c_end h, D3, f4]
              · rw [i1 hok]
                unfold j_Mo_hold_205
                simp (disch := omega) only [lt__e, bnd_e, bnd2_e, bnd3_e, el0_l, el0_r, el1_l, el1_r, el2_l, el2_r, ↓reduceIte, not_true_eq_false, not_false_eq_true, reduceCtorEq, and_true, true_and, and_false, false_and, or_true, true_or, or_false, false_or, and_self, or_self, ite_true, ite_false, Int.cast_ofNat_Int, Nat.reduceEqDiff, Nat.reduceLT, Int.reduceAdd, Int.reduceSub, Int.reduceMul, Int.reduceNeg, Int.reduceLT, Int.reduceLE, Int.reduceEq, ilt_t, ilt_f, ile_t, ile_f, ieq_t, ieq_f, z_0, z_1, z_2, z_3, z_4, z_5, z_6, z_7, z_8, z_9, z_10, z_12, z_20, z_40, z_80, z_81, z_99, z_100, z_200, z_400, z_3240, z_20000, z_100000, iz_add, iz_sub, iz_mul, iz_neg, iz_nat, iz_lt, iz_le, iz_eq, iz_div, iz_ite, iz_c, md10, md100, izcb_0, izcb_1, isOut_0, isNoCell_0, isGr_0, within_e, isCell_e, np_p, m_ref0 h, rf_20 h, VV_r, VV_n, h.r20_20, h.r20_19, ra_35 h, ra_34 h, V_34, W_35, j1, C34, up_e]
              · rw [up_t (by omega), j2 20 (by omega), up_s, if_pos ⟨rfl, rfl⟩]
              · rw [up_t (by omega), j2 50 (by omega), up_t (by omega), i3 50 (by omega) (by omega), up_s, if_pos ⟨rfl, rfl⟩]
              · -- the class's memory
                have E : ∀ t, t ≠ 12 → t ≠ 13 → D t = a t := fun t t1 t2 => by rw [f2 t t1 t2, g1 t t1 t2]
                have E0 := E 0 (by omega) (by omega)
                have E11 := E 11 (by omega) (by omega)
                have E12 : ∀ j q, q < np → ¬ (j = 4 ∧ q = a 11 5 m') → D 12 j q = a 12 j q := fun j q q1 q2 => by rw [f3 j q q2, (g2 q q1).1 j]
                have E13 : ∀ j q, q < np → q ≠ a 11 5 m' → D 13 j q = a 13 j q := fun j q q1 q2 => by rw [f5 j q q2, (g2 q q1).2 j]
                have E13p : ∀ i, 0 ≤ i → i ≤ a 12 4 (a 11 5 m') + s' → D 13 i (a 11 5 m') = a 13 (old (a 0 10 0 - a 12 3 (a 11 5 m')) s' i) (a 11 5 m') := fun i q1 q2 => by rw [f6 i q1 q2, g6 i q1 q2]
                have hID : CI D nr nm np := by
                  refine ⟨CN_c (fun j _ => by rw [E0]) (E 1 (by omega) (by omega)) hI'.1, CC_c (fun t t1 t2 => E t (by omega) (by omega)) hC, CD_c (by rw [E0]) (E 9 (by omega) (by omega)) hD, CRm_c2 (E 10 (by omega) (by omega)) hR, CMa_c E11 hMa, fun q q1 q2 => ?_, fun i i1 i2 => ?_, fun q q1 q2 => ?_⟩
                  · by_cases e : q = a 11 5 m'
                    · subst e
                      refine ⟨⟨by rw [D3]; exact v1.1, by rw [f4]; omega, fun i z1 z2 => ?_⟩, by rw [D3]; exact v2, by rw [f4]; omega, ?_, ?_, ?_, ?_⟩
                      · rw [f4] at z2
                        rw [E13p i z1 z2]
                        exact v1.2.2 _ (by unfold old; omega) (by unfold old; omega)
                      · rw [E12 1 _ q2 (by omega)]; exact v4
                      · rw [E12 2 _ q2 (by omega)]; exact v5
                      · rw [E12 5 _ q2 (by omega)]; exact v6
                      · rw [E12 6 _ q2 (by omega)]; exact v7
                    · obtain ⟨u1, u2, u3, u4, u5, u6, u7⟩ := hP q q1 q2
                      have ee : ∀ j, D 12 j q = a 12 j q := fun j => E12 j q q2 (by omega)
                      refine ⟨PW_c (a := D) (b := a) ⟨ee 3, ee 4, fun k => E13 k q q2 e⟩ u1, ?_⟩
                      simp only [ee]
                      exact ⟨u2, u3, u4, u5, u6, u7⟩
                  · have x := hL.1 i i1 i2
                    have xb := (hMa i i1 i2).2.2.2.2.2.1
                    unfold CL1 at x ⊢
                    rw [E11, E0]
                    rw [E12 6 _ xb.2 (by omega), E12 2 _ xb.2 (by omega), E12 3 _ xb.2 (by omega)]
                    refine ⟨x.1, fun z => ?_, x.2.2.1, x.2.2.2⟩
                    obtain ⟨x1, x2, x3, x4, x5, x6⟩ := x.2.1 z
                    by_cases e : a 11 5 i = a 11 5 m'
                    · rw [e] at x2 x3 x4 x5 x6 ⊢
                      rw [f4, E13p _ (by omega) (by omega)]
                      have o1 : old (a 0 10 0 - a 12 3 (a 11 5 m')) s' (a 0 10 0 - a 12 3 (a 11 5 m')) = (a 0 10 0 - a 12 3 (a 11 5 m')) := if_pos (Int.le_refl _)
                      rw [o1]
                      exact ⟨x1, x2, x3, x4, by omega, x6⟩
                    · rw [E12 4 _ xb.2 (by omega), E13 _ _ xb.2 e]
                      exact ⟨x1, x2, x3, x4, x5, x6⟩
                  · have x := hL.2 q q1 q2
                    unfold CL2 at x ⊢
                    rw [E12 6 _ q2 (by omega), E12 2 _ q2 (by omega), E12 3 _ q2 (by omega), E11, E0]
                    by_cases e : q = a 11 5 m'
                    · rw [e] at x ⊢
                      have o1 : old (a 0 10 0 - a 12 3 (a 11 5 m')) s' (a 12 4 (a 11 5 m') + s') = a 12 4 (a 11 5 m') := by unfold old; rw [if_neg (by omega), if_pos (by omega)]; omega
                      rw [f4, E13p _ (by omega) (by omega), o1]
                      exact ⟨x.1, fun z => by omega⟩
                    · rw [E12 4 _ q2 (by omega), E13 _ _ q2 e, E13 _ _ q2 e]
                      exact x
                have Y : ∀ t, t ≠ 20 → t ≠ 35 → t ≠ 38 → t ≠ 50 → up C2 35 (a 11 5 m') 0 (a 12 4 (a 11 5 m') + s') t = D t := fun t t1 t2 t3 t4 => by rw [up_t t2, j2 t t3, up_t t1, i3 t t1 t3, up_t t4]
                have Y20 : ∀ j, 1 ≤ j → up C2 35 (a 11 5 m') 0 (a 12 4 (a 11 5 m') + s') 20 j 0 = a 20 j 0 := fun j q1 => by rw [up_t (by omega), j2 20 (by omega), up_s, if_neg (by omega), i4 j q1]
                have Y35 : ∀ q, up C2 35 (a 11 5 m') 0 (a 12 4 (a 11 5 m') + s') 35 q 0 = if q = a 11 5 m' then a 12 4 (a 11 5 m') + s' else a 35 q 0 := fun q => by
                  rw [up_s]
                  by_cases e : q = a 11 5 m'
                  · rw [if_pos ⟨e, rfl⟩, if_pos e]
                  · rw [if_neg (by omega), if_neg e, j2 35 (by omega), up_t (by omega), i3 35 (by omega) (by omega), hX 35 (by omega) (by omega)]
                have Y38 : up C2 35 (a 11 5 m') 0 (a 12 4 (a 11 5 m') + s') 38 = C2 38 := up_t (by omega)
                refine GG_of h hID (fun t t1 => Y t (by omega) (by omega) (by omega) (by omega)) (MC_c2 (fun t t1 t2 => ?_) (Y20 4 (by omega)) (fun t t1 t2 => E t (by omega) (by omega)) hMC) (MRm_c ?_ (E 10 (by omega) (by omega)) hMRm) ⟨MMa_c (fun t t1 t2 => ?_) E11 hMP.1, fun q q1 q2 => ?_, fun q q1 q2 => ?_⟩ (MSc_c Y20 ?_ E0 (E 9 (by omega) (by omega)) hMR'.2.2.2)
                · rw [Y t (by omega) (by omega) (by omega) (by omega), E t (by omega) (by omega)]
                · rw [Y 39 (by omega) (by omega) (by omega) (by omega), E 39 (by omega) (by omega)]
                · rw [Y t (by omega) (by omega) (by omega) (by omega), E t (by omega) (by omega)]
                · obtain ⟨⟨x1, x2, x3⟩, x4, x5, x6⟩ := hMP.2.1 q q1 q2
                  have hpw := (hP q q1 q2).1.2.1
                  rw [Y 33 (by omega) (by omega) (by omega) (by omega), E 33 (by omega) (by omega), Y 36 (by omega) (by omega) (by omega) (by omega), E 36 (by omega) (by omega), Y 37 (by omega) (by omega) (by omega) (by omega), E 37 (by omega) (by omega), E12 2 q q2 (by omega), E12 5 q q2 (by omega), E12 6 q q2 (by omega)]
                  refine ⟨⟨?_, ?_, fun k z1 z2 => ?_⟩, x4, x5, x6⟩
                  · rw [Y 34 (by omega) (by omega) (by omega) (by omega), E 34 (by omega) (by omega), E12 3 q q2 (by omega)]; exact x1
                  · rw [Y35]
                    by_cases e : q = a 11 5 m'
                    · rw [if_pos e, e, f4]
                    · rw [if_neg e, E12 4 q q2 (by omega)]; exact x2
                  · rw [Y38]
                    by_cases e : q = a 11 5 m'
                    · rw [e] at z2 ⊢
                      rw [f4] at z2
                      rw [j3 k z1 z2, u38, i6 k z1 z2, f6 k z1 z2]
                    · rw [E12 4 q q2 (by omega)] at z2
                      rw [j4 (81 * q + k) (by omega), u38, i5 _ (by omega), E13 k q q2 e]; exact x3 k z1 z2
                · rw [Y 37 (by omega) (by omega) (by omega) (by omega), E 37 (by omega) (by omega)]; exact hMP.2.2 q q1 q2
                · rw [Y 32 (by omega) (by omega) (by omega) (by omega), E 32 (by omega) (by omega)]
            · rw [cb_f hok] at d1
              have hX : ∀ t, 21 ≤ t → t < 40 → A t = a t := fun t t1 t2 => g1 t (by omega) (by omega)
              have hX20 : ∀ j, 1 ≤ j → A 20 j 0 = a 20 j 0 := fun j j1 => by rw [g1 20 (by omega) (by omega)]
              obtain ⟨C1, -, i2, i3, i4, i5, i6⟩ := m_hold_all h hI' hMR' c1 c2 c3 c4 c5 hX hX20 ⟨g1, g2, g3, g4, g5, g6⟩ q01 q02
              refine ⟨3, 0, A, up C1 20 0 0 3, ?_, ?_, ?_, fun z => by omega, by omega, ?_⟩
              · unfold f_La_hold f_Sk_hold
                simp (disch := omega) only [lt__e, bnd_e, bnd2_e, bnd3_e, el0_l, el0_r, el1_l, el1_r, el2_l, el2_r, ↓reduceIte, not_true_eq_false, not_false_eq_true, reduceCtorEq, and_true, true_and, and_false, false_and, or_true, true_or, or_false, false_or, and_self, or_self, ite_true, ite_false, Int.cast_ofNat_Int, Nat.reduceEqDiff, Nat.reduceLT, Int.reduceAdd, Int.reduceSub, Int.reduceMul, Int.reduceNeg, Int.reduceLT, Int.reduceLE, Int.reduceEq, ilt_t, ilt_f, ile_t, ile_f, ieq_t, ieq_f, z_0, z_1, z_2, z_3, z_4, z_5, z_6, z_7, z_8, z_9, z_10, z_12, z_20, z_40, z_80, z_81, z_99, z_100, z_200, z_400, z_3240, z_20000, z_100000, iz_add, iz_sub, iz_mul, iz_neg, iz_nat, iz_lt, iz_le, iz_eq, iz_div, iz_ite, iz_c, md10, md100, izcb_0, izcb_1, isOut_0, isNoCell_0, isGr_0, within_e, isCell_e, np_p, VV_r, VV_n, V_k, W_k, V_0, W_0, V_1, W_1, V_2, W_2, V_3, W_3, V_4, W_4, V_5, W_5, V_6, W_6, V_7, W_7, V_8, W_8, V_9, W_9, VV_r, VV_n, V_20, W_20, V_21, W_21, V_22, W_22, V_23, W_23, V_24, W_24, V_25, W_25, V_26, W_26, V_27, W_27, V_28, W_28, V_29, W_29, V_30, W_30, V_31, W_31, V_32, W_32, V_33, W_33, V_34, W_34, V_35, W_35, V_36, W_36, V_37, W_37, V_38, W_38, V_39, W_39, h.r0_0, h.r0_1, h.r0_2, h.r0_3, h.r0_4, h.r0_5, h.r1_0, h.r1_1, h.r1_2, h.r1_3, h.r12, rf_0 h, rf_1 h, rf_10 h, rf_11 h, rf_12 h, r6_i h, r6_o h, r7_i h, r7_o h, r8_i h, r8_o h, rl_13 h, ra_13 h, rl_2 h, ra_2 h, rl_3 h, ra_3 h, rl_4 h, ra_4 h, rl_5 h, ra_5 h, rl_6 h, ra_6 h, rl_7 h, ra_7 h, rl_8 h, ra_8 h, rl_9 h, ra_9 h, h.r20_2, h.r20_3, h.r20_5, h.r20_6, h.r20_8, h.r20_9, h.r20_10, h.r20_11, h.r20_12, h.r20_13, h.r20_14, h.r20_16, h.r20_18, h.r20_19, h.r20_20, h.r20_21, h.r20_22, h.r20_23, h.r20_25, rf_20 h, ra_21 h, ra_22 h, ra_23 h, ra_24 h, ra_25 h, ra_26 h, ra_27 h, ra_28 h, ra_29 h, ra_30 h, ra_31 h, ra_32 h, ra_33 h, ra_34 h, ra_35 h, ra_36 h, ra_37 h, ra_38 h, ra_39 h, rl_50 h, ra_50 h, V_50, W_50, up_e, m_ref0 h, m_refw h, c_machineOf_i h, hfl, c1, c2, c3, c4, d1]
              · rw [i2 hok]
                unfold j_Mo_hold_205
                simp (disch := omega) only [lt__e, bnd_e, bnd2_e, bnd3_e, el0_l, el0_r, el1_l, el1_r, el2_l, el2_r, ↓reduceIte, not_true_eq_false, not_false_eq_true, reduceCtorEq, and_true, true_and, and_false, false_and, or_true, true_or, or_false, false_or, and_self, or_self, ite_true, ite_false, Int.cast_ofNat_Int, Nat.reduceEqDiff, Nat.reduceLT, Int.reduceAdd, Int.reduceSub, Int.reduceMul, Int.reduceNeg, Int.reduceLT, Int.reduceLE, Int.reduceEq, ilt_t, ilt_f, ile_t, ile_f, ieq_t, ieq_f, z_0, z_1, z_2, z_3, z_4, z_5, z_6, z_7, z_8, z_9, z_10, z_12, z_20, z_40, z_80, z_81, z_99, z_100, z_200, z_400, z_3240, z_20000, z_100000, iz_add, iz_sub, iz_mul, iz_neg, iz_nat, iz_lt, iz_le, iz_eq, iz_div, iz_ite, iz_c, md10, md100, izcb_0, izcb_1, isOut_0, isNoCell_0, isGr_0, within_e, isCell_e, np_p, m_refw h, rf_20 h, VV_r, VV_n, ne_eq]
              · rw [up_s, if_pos ⟨rfl, rfl⟩]
              · refine GG_trial h hI' hMR' (fun t t1 => ?_) (fun q q1 => ⟨fun j => ?_, fun k => ?_⟩) (fun t t1 t2 t3 => ?_) (fun j j1 => ?_) (fun j j1 => ?_)
                · rw [up_t (by omega), i3 t (by omega) (by omega), g1 t (by omega) (by omega)]
                · rw [up_t (by omega), i3 12 (by omega) (by omega)]; exact (g2 q q1).1 j
                · rw [up_t (by omega), i3 13 (by omega) (by omega)]; exact (g2 q q1).2 k
                · rw [up_t (by omega), i3 t (by omega) t3, g1 t (by omega) (by omega)]
                · rw [up_t (by omega), i5 j j1]
                · rw [up_s, if_neg (by omega), i4 j j1]
          · have hfl := c_flownBy_y (a := a) h c1.1 c1.2 c3 l2 w5.2
            refine ⟨3, 0, a, up (up a 20 0 0 0) 20 0 0 3, ?_, ?_, ?_, ?_, by omega, GG_r (GG_r g 0) _⟩
            · unfold f_La_hold f_Sk_hold f_Sk_canBeHeld
              simp (maxSteps := 2000000) (disch := omega) only [lt__e, bnd_e, bnd2_e, bnd3_e, el0_l, el0_r, el1_l, el1_r, el2_l, el2_r, ↓reduceIte, not_true_eq_false, not_false_eq_true, reduceCtorEq, and_true, true_and, and_false, false_and, or_true, true_or, or_false, false_or, and_self, or_self, ite_true, ite_false, Int.cast_ofNat_Int, Nat.reduceEqDiff, Nat.reduceLT, Int.reduceAdd, Int.reduceSub, Int.reduceMul, Int.reduceNeg, Int.reduceLT, Int.reduceLE, Int.reduceEq, ilt_t, ilt_f, ile_t, ile_f, ieq_t, ieq_f, z_0, z_1, z_2, z_3, z_4, z_5, z_6, z_7, z_8, z_9, z_10, z_12, z_20, z_40, z_80, z_81, z_99, z_100, z_200, z_400, z_3240, z_20000, z_100000, iz_add, iz_sub, iz_mul, iz_neg, iz_nat, iz_lt, iz_le, iz_eq, iz_div, iz_ite, iz_c, md10, md100, izcb_0, izcb_1, isOut_0, isNoCell_0, isGr_0, within_e, isCell_e, np_p, VV_r, VV_n, V_k, W_k, V_0, W_0, V_1, W_1, V_2, W_2, V_3, W_3, V_4, W_4, V_5, W_5, V_6, W_6, V_7, W_7, V_8, W_8, V_9, W_9, VV_r, VV_n, V_20, W_20, V_21, W_21, V_22, W_22, V_23, W_23, V_24, W_24, V_25, W_25, V_26, W_26, V_27, W_27, V_28, W_28, V_29, W_29, V_30, W_30, V_31, W_31, V_32, W_32, V_33, W_33, V_34, W_34, V_35, W_35, V_36, W_36, V_37, W_37, V_38, W_38, V_39, W_39, h.r0_0, h.r0_1, h.r0_2, h.r0_3, h.r0_4, h.r0_5, h.r1_0, h.r1_1, h.r1_2, h.r1_3, h.r12, rf_0 h, rf_1 h, rf_10 h, rf_11 h, rf_12 h, r6_i h, r6_o h, r7_i h, r7_o h, r8_i h, r8_o h, rl_13 h, ra_13 h, rl_2 h, ra_2 h, rl_3 h, ra_3 h, rl_4 h, ra_4 h, rl_5 h, ra_5 h, rl_6 h, ra_6 h, rl_7 h, ra_7 h, rl_8 h, ra_8 h, rl_9 h, ra_9 h, h.r20_2, h.r20_3, h.r20_5, h.r20_6, h.r20_8, h.r20_9, h.r20_10, h.r20_11, h.r20_12, h.r20_13, h.r20_14, h.r20_16, h.r20_18, h.r20_19, h.r20_20, h.r20_21, h.r20_22, h.r20_23, h.r20_25, rf_20 h, ra_21 h, ra_22 h, ra_23 h, ra_24 h, ra_25 h, ra_26 h, ra_27 h, ra_28 h, ra_29 h, ra_30 h, ra_31 h, ra_32 h, ra_33 h, ra_34 h, ra_35 h, ra_36 h, ra_37 h, ra_38 h, ra_39 h, rl_50 h, ra_50 h, V_50, W_50, up_e, m_ref0 h, m_refw h, c_machineOf_i h, hfl, c1, c2, c3, c4]
            · unfold f_Mo_hold j_Mo_hold_50 j_Mo_hold_55 j_Mo_hold_109
              simp (maxSteps := 2000000) (disch := omega) only [lt__e, bnd_e, bnd2_e, bnd3_e, el0_l, el0_r, el1_l, el1_r, el2_l, el2_r, ↓reduceIte, not_true_eq_false, not_false_eq_true, reduceCtorEq, and_true, true_and, and_false, false_and, or_true, true_or, or_false, false_or, and_self, or_self, ite_true, ite_false, Int.cast_ofNat_Int, Nat.reduceEqDiff, Nat.reduceLT, Int.reduceAdd, Int.reduceSub, Int.reduceMul, Int.reduceNeg, Int.reduceLT, Int.reduceLE, Int.reduceEq, ilt_t, ilt_f, ile_t, ile_f, ieq_t, ieq_f, z_0, z_1, z_2, z_3, z_4, z_5, z_6, z_7, z_8, z_9, z_10, z_12, z_20, z_40, z_80, z_81, z_99, z_100, z_200, z_400, z_3240, z_20000, z_100000, iz_add, iz_sub, iz_mul, iz_neg, iz_nat, iz_lt, iz_le, iz_eq, iz_div, iz_ite, iz_c, md10, md100, izcb_0, izcb_1, isOut_0, isNoCell_0, isGr_0, within_e, isCell_e, np_p, VV_r, VV_n, V_k, W_k, V_0, W_0, V_1, W_1, V_2, W_2, V_3, W_3, V_4, W_4, V_5, W_5, V_6, W_6, V_7, W_7, V_8, W_8, V_9, W_9, VV_r, VV_n, V_20, W_20, V_21, W_21, V_22, W_22, V_23, W_23, V_24, W_24, V_25, W_25, V_26, W_26, V_27, W_27, V_28, W_28, V_29, W_29, V_30, W_30, V_31, W_31, V_32, W_32, V_33, W_33, V_34, W_34, V_35, W_35, V_36, W_36, V_37, W_37, V_38, W_38, V_39, W_39, h.r0_0, h.r0_1, h.r0_2, h.r0_3, h.r0_4, h.r0_5, h.r1_0, h.r1_1, h.r1_2, h.r1_3, h.r12, rf_0 h, rf_1 h, rf_10 h, rf_11 h, rf_12 h, r6_i h, r6_o h, r7_i h, r7_o h, r8_i h, r8_o h, rl_13 h, ra_13 h, rl_2 h, ra_2 h, rl_3 h, ra_3 h, rl_4 h, ra_4 h, rl_5 h, ra_5 h, rl_6 h, ra_6 h, rl_7 h, ra_7 h, rl_8 h, ra_8 h, rl_9 h, ra_9 h, h.r20_2, h.r20_3, h.r20_5, h.r20_6, h.r20_8, h.r20_9, h.r20_10, h.r20_11, h.r20_12, h.r20_13, h.r20_14, h.r20_16, h.r20_18, h.r20_19, h.r20_20, h.r20_21, h.r20_22, h.r20_23, h.r20_25, rf_20 h, ra_21 h, ra_22 h, ra_23 h, ra_24 h, ra_25 h, ra_26 h, ra_27 h, ra_28 h, ra_29 h, ra_30 h, ra_31 h, ra_32 h, ra_33 h, ra_34 h, ra_35 h, ra_36 h, ra_37 h, ra_38 h, ra_39 h, rl_50 h, ra_50 h, V_50, W_50, up_e, m_ref0 h, m_refw h, e3, c1, c2, k3, k4, k5, c3, c4, p1, p2, s1]
            · simp (disch := omega) only [up_e, lt__e, bnd_e, bnd2_e, bnd3_e, el0_l, el0_r, el1_l, el1_r, el2_l, el2_r, ↓reduceIte, not_true_eq_false, not_false_eq_true, reduceCtorEq, and_true, true_and, and_false, false_and, or_true, true_or, or_false, false_or, and_self, or_self, ite_true, ite_false, Int.cast_ofNat_Int, Nat.reduceEqDiff, Nat.reduceLT, Int.reduceAdd, Int.reduceSub, Int.reduceMul, Int.reduceNeg, Int.reduceLT, Int.reduceLE, Int.reduceEq, ilt_t, ilt_f, ile_t, ile_f, ieq_t, ieq_f]
            · omega
        · have hfl := c_flownBy_y (a := a) h c1.1 c1.2 c3 ((hL.1 m' c1.1 c1.2).2.1 c3).2.1 w5.2
          refine ⟨3, 0, a, up a 20 0 0 3, ?_, ?_, ?_, ?_, by omega, GG_r g _⟩
          · unfold f_La_hold f_Sk_hold
            simp (disch := omega) only [lt__e, bnd_e, bnd2_e, bnd3_e, el0_l, el0_r, el1_l, el1_r, el2_l, el2_r, ↓reduceIte, not_true_eq_false, not_false_eq_true, reduceCtorEq, and_true, true_and, and_false, false_and, or_true, true_or, or_false, false_or, and_self, or_self, ite_true, ite_false, Int.cast_ofNat_Int, Nat.reduceEqDiff, Nat.reduceLT, Int.reduceAdd, Int.reduceSub, Int.reduceMul, Int.reduceNeg, Int.reduceLT, Int.reduceLE, Int.reduceEq, ilt_t, ilt_f, ile_t, ile_f, ieq_t, ieq_f, z_0, z_1, z_2, z_3, z_4, z_5, z_6, z_7, z_8, z_9, z_10, z_12, z_20, z_40, z_80, z_81, z_99, z_100, z_200, z_400, z_3240, z_20000, z_100000, iz_add, iz_sub, iz_mul, iz_neg, iz_nat, iz_lt, iz_le, iz_eq, iz_div, iz_ite, iz_c, md10, md100, izcb_0, izcb_1, isOut_0, isNoCell_0, isGr_0, within_e, isCell_e, np_p, VV_r, VV_n, V_k, W_k, V_0, W_0, V_1, W_1, V_2, W_2, V_3, W_3, V_4, W_4, V_5, W_5, V_6, W_6, V_7, W_7, V_8, W_8, V_9, W_9, VV_r, VV_n, V_20, W_20, V_21, W_21, V_22, W_22, V_23, W_23, V_24, W_24, V_25, W_25, V_26, W_26, V_27, W_27, V_28, W_28, V_29, W_29, V_30, W_30, V_31, W_31, V_32, W_32, V_33, W_33, V_34, W_34, V_35, W_35, V_36, W_36, V_37, W_37, V_38, W_38, V_39, W_39, h.r0_0, h.r0_1, h.r0_2, h.r0_3, h.r0_4, h.r0_5, h.r1_0, h.r1_1, h.r1_2, h.r1_3, h.r12, rf_0 h, rf_1 h, rf_10 h, rf_11 h, rf_12 h, r6_i h, r6_o h, r7_i h, r7_o h, r8_i h, r8_o h, rl_13 h, ra_13 h, rl_2 h, ra_2 h, rl_3 h, ra_3 h, rl_4 h, ra_4 h, rl_5 h, ra_5 h, rl_6 h, ra_6 h, rl_7 h, ra_7 h, rl_8 h, ra_8 h, rl_9 h, ra_9 h, h.r20_2, h.r20_3, h.r20_5, h.r20_6, h.r20_8, h.r20_9, h.r20_10, h.r20_11, h.r20_12, h.r20_13, h.r20_14, h.r20_16, h.r20_18, h.r20_19, h.r20_20, h.r20_21, h.r20_22, h.r20_23, h.r20_25, rf_20 h, ra_21 h, ra_22 h, ra_23 h, ra_24 h, ra_25 h, ra_26 h, ra_27 h, ra_28 h, ra_29 h, ra_30 h, ra_31 h, ra_32 h, ra_33 h, ra_34 h, ra_35 h, ra_36 h, ra_37 h, ra_38 h, ra_39 h, rl_50 h, ra_50 h, V_50, W_50, up_e, m_ref0 h, m_refw h, c_machineOf_i h, hfl, c1, c2, c3, c4]
          · unfold f_Mo_hold j_Mo_hold_50 j_Mo_hold_55
            simp (disch := omega) only [lt__e, bnd_e, bnd2_e, bnd3_e, el0_l, el0_r, el1_l, el1_r, el2_l, el2_r, ↓reduceIte, not_true_eq_false, not_false_eq_true, reduceCtorEq, and_true, true_and, and_false, false_and, or_true, true_or, or_false, false_or, and_self, or_self, ite_true, ite_false, Int.cast_ofNat_Int, Nat.reduceEqDiff, Nat.reduceLT, Int.reduceAdd, Int.reduceSub, Int.reduceMul, Int.reduceNeg, Int.reduceLT, Int.reduceLE, Int.reduceEq, ilt_t, ilt_f, ile_t, ile_f, ieq_t, ieq_f, z_0, z_1, z_2, z_3, z_4, z_5, z_6, z_7, z_8, z_9, z_10, z_12, z_20, z_40, z_80, z_81, z_99, z_100, z_200, z_400, z_3240, z_20000, z_100000, iz_add, iz_sub, iz_mul, iz_neg, iz_nat, iz_lt, iz_le, iz_eq, iz_div, iz_ite, iz_c, md10, md100, izcb_0, izcb_1, isOut_0, isNoCell_0, isGr_0, within_e, isCell_e, np_p, VV_r, VV_n, V_k, W_k, V_0, W_0, V_1, W_1, V_2, W_2, V_3, W_3, V_4, W_4, V_5, W_5, V_6, W_6, V_7, W_7, V_8, W_8, V_9, W_9, VV_r, VV_n, V_20, W_20, V_21, W_21, V_22, W_22, V_23, W_23, V_24, W_24, V_25, W_25, V_26, W_26, V_27, W_27, V_28, W_28, V_29, W_29, V_30, W_30, V_31, W_31, V_32, W_32, V_33, W_33, V_34, W_34, V_35, W_35, V_36, W_36, V_37, W_37, V_38, W_38, V_39, W_39, h.r0_0, h.r0_1, h.r0_2, h.r0_3, h.r0_4, h.r0_5, h.r1_0, h.r1_1, h.r1_2, h.r1_3, h.r12, rf_0 h, rf_1 h, rf_10 h, rf_11 h, rf_12 h, r6_i h, r6_o h, r7_i h, r7_o h, r8_i h, r8_o h, rl_13 h, ra_13 h, rl_2 h, ra_2 h, rl_3 h, ra_3 h, rl_4 h, ra_4 h, rl_5 h, ra_5 h, rl_6 h, ra_6 h, rl_7 h, ra_7 h, rl_8 h, ra_8 h, rl_9 h, ra_9 h, h.r20_2, h.r20_3, h.r20_5, h.r20_6, h.r20_8, h.r20_9, h.r20_10, h.r20_11, h.r20_12, h.r20_13, h.r20_14, h.r20_16, h.r20_18, h.r20_19, h.r20_20, h.r20_21, h.r20_22, h.r20_23, h.r20_25, rf_20 h, ra_21 h, ra_22 h, ra_23 h, ra_24 h, ra_25 h, ra_26 h, ra_27 h, ra_28 h, ra_29 h, ra_30 h, ra_31 h, ra_32 h, ra_33 h, ra_34 h, ra_35 h, ra_36 h, ra_37 h, ra_38 h, ra_39 h, rl_50 h, ra_50 h, V_50, W_50, up_e, m_ref0 h, m_refw h, e3, c1, c2, k3, k4, c3, c4]
          · simp (disch := omega) only [up_e, lt__e, bnd_e, bnd2_e, bnd3_e, el0_l, el0_r, el1_l, el1_r, el2_l, el2_r, ↓reduceIte, not_true_eq_false, not_false_eq_true, reduceCtorEq, and_true, true_and, and_false, false_and, or_true, true_or, or_false, false_or, and_self, or_self, ite_true, ite_false, Int.cast_ofNat_Int, Nat.reduceEqDiff, Nat.reduceLT, Int.reduceAdd, Int.reduceSub, Int.reduceMul, Int.reduceNeg, Int.reduceLT, Int.reduceLE, Int.reduceEq, ilt_t, ilt_f, ile_t, ile_f, ieq_t, ieq_f]
          · omega
      · skip
        refine ⟨3, 0, a, up a 20 0 0 3, ?_, ?_, ?_, ?_, by omega, GG_r g _⟩
        · unfold f_La_hold f_Sk_hold
          simp (disch := omega) only [lt__e, bnd_e, bnd2_e, bnd3_e, el0_l, el0_r, el1_l, el1_r, el2_l, el2_r, ↓reduceIte, not_true_eq_false, not_false_eq_true, reduceCtorEq, and_true, true_and, and_false, false_and, or_true, true_or, or_false, false_or, and_self, or_self, ite_true, ite_false, Int.cast_ofNat_Int, Nat.reduceEqDiff, Nat.reduceLT, Int.reduceAdd, Int.reduceSub, Int.reduceMul, Int.reduceNeg, Int.reduceLT, Int.reduceLE, Int.reduceEq, ilt_t, ilt_f, ile_t, ile_f, ieq_t, ieq_f, z_0, z_1, z_2, z_3, z_4, z_5, z_6, z_7, z_8, z_9, z_10, z_12, z_20, z_40, z_80, z_81, z_99, z_100, z_200, z_400, z_3240, z_20000, z_100000, iz_add, iz_sub, iz_mul, iz_neg, iz_nat, iz_lt, iz_le, iz_eq, iz_div, iz_ite, iz_c, md10, md100, izcb_0, izcb_1, isOut_0, isNoCell_0, isGr_0, within_e, isCell_e, np_p, VV_r, VV_n, V_k, W_k, V_0, W_0, V_1, W_1, V_2, W_2, V_3, W_3, V_4, W_4, V_5, W_5, V_6, W_6, V_7, W_7, V_8, W_8, V_9, W_9, VV_r, VV_n, V_20, W_20, V_21, W_21, V_22, W_22, V_23, W_23, V_24, W_24, V_25, W_25, V_26, W_26, V_27, W_27, V_28, W_28, V_29, W_29, V_30, W_30, V_31, W_31, V_32, W_32, V_33, W_33, V_34, W_34, V_35, W_35, V_36, W_36, V_37, W_37, V_38, W_38, V_39, W_39, h.r0_0, h.r0_1, h.r0_2, h.r0_3, h.r0_4, h.r0_5, h.r1_0, h.r1_1, h.r1_2, h.r1_3, h.r12, rf_0 h, rf_1 h, rf_10 h, rf_11 h, rf_12 h, r6_i h, r6_o h, r7_i h, r7_o h, r8_i h, r8_o h, rl_13 h, ra_13 h, rl_2 h, ra_2 h, rl_3 h, ra_3 h, rl_4 h, ra_4 h, rl_5 h, ra_5 h, rl_6 h, ra_6 h, rl_7 h, ra_7 h, rl_8 h, ra_8 h, rl_9 h, ra_9 h, h.r20_2, h.r20_3, h.r20_5, h.r20_6, h.r20_8, h.r20_9, h.r20_10, h.r20_11, h.r20_12, h.r20_13, h.r20_14, h.r20_16, h.r20_18, h.r20_19, h.r20_20, h.r20_21, h.r20_22, h.r20_23, h.r20_25, rf_20 h, ra_21 h, ra_22 h, ra_23 h, ra_24 h, ra_25 h, ra_26 h, ra_27 h, ra_28 h, ra_29 h, ra_30 h, ra_31 h, ra_32 h, ra_33 h, ra_34 h, ra_35 h, ra_36 h, ra_37 h, ra_38 h, ra_39 h, rl_50 h, ra_50 h, V_50, W_50, up_e, m_ref0 h, m_refw h, c_machineOf_i h, c_flownBy_n h, c1, c2, c3]
        · unfold f_Mo_hold j_Mo_hold_50 j_Mo_hold_55
          simp (disch := omega) only [lt__e, bnd_e, bnd2_e, bnd3_e, el0_l, el0_r, el1_l, el1_r, el2_l, el2_r, ↓reduceIte, not_true_eq_false, not_false_eq_true, reduceCtorEq, and_true, true_and, and_false, false_and, or_true, true_or, or_false, false_or, and_self, or_self, ite_true, ite_false, Int.cast_ofNat_Int, Nat.reduceEqDiff, Nat.reduceLT, Int.reduceAdd, Int.reduceSub, Int.reduceMul, Int.reduceNeg, Int.reduceLT, Int.reduceLE, Int.reduceEq, ilt_t, ilt_f, ile_t, ile_f, ieq_t, ieq_f, z_0, z_1, z_2, z_3, z_4, z_5, z_6, z_7, z_8, z_9, z_10, z_12, z_20, z_40, z_80, z_81, z_99, z_100, z_200, z_400, z_3240, z_20000, z_100000, iz_add, iz_sub, iz_mul, iz_neg, iz_nat, iz_lt, iz_le, iz_eq, iz_div, iz_ite, iz_c, md10, md100, izcb_0, izcb_1, isOut_0, isNoCell_0, isGr_0, within_e, isCell_e, np_p, VV_r, VV_n, V_k, W_k, V_0, W_0, V_1, W_1, V_2, W_2, V_3, W_3, V_4, W_4, V_5, W_5, V_6, W_6, V_7, W_7, V_8, W_8, V_9, W_9, VV_r, VV_n, V_20, W_20, V_21, W_21, V_22, W_22, V_23, W_23, V_24, W_24, V_25, W_25, V_26, W_26, V_27, W_27, V_28, W_28, V_29, W_29, V_30, W_30, V_31, W_31, V_32, W_32, V_33, W_33, V_34, W_34, V_35, W_35, V_36, W_36, V_37, W_37, V_38, W_38, V_39, W_39, h.r0_0, h.r0_1, h.r0_2, h.r0_3, h.r0_4, h.r0_5, h.r1_0, h.r1_1, h.r1_2, h.r1_3, h.r12, rf_0 h, rf_1 h, rf_10 h, rf_11 h, rf_12 h, r6_i h, r6_o h, r7_i h, r7_o h, r8_i h, r8_o h, rl_13 h, ra_13 h, rl_2 h, ra_2 h, rl_3 h, ra_3 h, rl_4 h, ra_4 h, rl_5 h, ra_5 h, rl_6 h, ra_6 h, rl_7 h, ra_7 h, rl_8 h, ra_8 h, rl_9 h, ra_9 h, h.r20_2, h.r20_3, h.r20_5, h.r20_6, h.r20_8, h.r20_9, h.r20_10, h.r20_11, h.r20_12, h.r20_13, h.r20_14, h.r20_16, h.r20_18, h.r20_19, h.r20_20, h.r20_21, h.r20_22, h.r20_23, h.r20_25, rf_20 h, ra_21 h, ra_22 h, ra_23 h, ra_24 h, ra_25 h, ra_26 h, ra_27 h, ra_28 h, ra_29 h, ra_30 h, ra_31 h, ra_32 h, ra_33 h, ra_34 h, ra_35 h, ra_36 h, ra_37 h, ra_38 h, ra_39 h, rl_50 h, ra_50 h, V_50, W_50, up_e, m_ref0 h, m_refw h, e3, c1, c2, k4, c3]
        · simp (disch := omega) only [up_e, lt__e, bnd_e, bnd2_e, bnd3_e, el0_l, el0_r, el1_l, el1_r, el2_l, el2_r, ↓reduceIte, not_true_eq_false, not_false_eq_true, reduceCtorEq, and_true, true_and, and_false, false_and, or_true, true_or, or_false, false_or, and_self, or_self, ite_true, ite_false, Int.cast_ofNat_Int, Nat.reduceEqDiff, Nat.reduceLT, Int.reduceAdd, Int.reduceSub, Int.reduceMul, Int.reduceNeg, Int.reduceLT, Int.reduceLE, Int.reduceEq, ilt_t, ilt_f, ile_t, ile_f, ieq_t, ieq_f]
        · omega
    · skip
      refine ⟨2, 0, a, up a 20 0 0 2, ?_, ?_, ?_, ?_, by omega, GG_r g _⟩
      · unfold f_La_hold f_Sk_hold
        simp (disch := omega) only [lt__e, bnd_e, bnd2_e, bnd3_e, el0_l, el0_r, el1_l, el1_r, el2_l, el2_r, ↓reduceIte, not_true_eq_false, not_false_eq_true, reduceCtorEq, and_true, true_and, and_false, false_and, or_true, true_or, or_false, false_or, and_self, or_self, ite_true, ite_false, Int.cast_ofNat_Int, Nat.reduceEqDiff, Nat.reduceLT, Int.reduceAdd, Int.reduceSub, Int.reduceMul, Int.reduceNeg, Int.reduceLT, Int.reduceLE, Int.reduceEq, ilt_t, ilt_f, ile_t, ile_f, ieq_t, ieq_f, z_0, z_1, z_2, z_3, z_4, z_5, z_6, z_7, z_8, z_9, z_10, z_12, z_20, z_40, z_80, z_81, z_99, z_100, z_200, z_400, z_3240, z_20000, z_100000, iz_add, iz_sub, iz_mul, iz_neg, iz_nat, iz_lt, iz_le, iz_eq, iz_div, iz_ite, iz_c, md10, md100, izcb_0, izcb_1, isOut_0, isNoCell_0, isGr_0, within_e, isCell_e, np_p, VV_r, VV_n, V_k, W_k, V_0, W_0, V_1, W_1, V_2, W_2, V_3, W_3, V_4, W_4, V_5, W_5, V_6, W_6, V_7, W_7, V_8, W_8, V_9, W_9, VV_r, VV_n, V_20, W_20, V_21, W_21, V_22, W_22, V_23, W_23, V_24, W_24, V_25, W_25, V_26, W_26, V_27, W_27, V_28, W_28, V_29, W_29, V_30, W_30, V_31, W_31, V_32, W_32, V_33, W_33, V_34, W_34, V_35, W_35, V_36, W_36, V_37, W_37, V_38, W_38, V_39, W_39, h.r0_0, h.r0_1, h.r0_2, h.r0_3, h.r0_4, h.r0_5, h.r1_0, h.r1_1, h.r1_2, h.r1_3, h.r12, rf_0 h, rf_1 h, rf_10 h, rf_11 h, rf_12 h, r6_i h, r6_o h, r7_i h, r7_o h, r8_i h, r8_o h, rl_13 h, ra_13 h, rl_2 h, ra_2 h, rl_3 h, ra_3 h, rl_4 h, ra_4 h, rl_5 h, ra_5 h, rl_6 h, ra_6 h, rl_7 h, ra_7 h, rl_8 h, ra_8 h, rl_9 h, ra_9 h, h.r20_2, h.r20_3, h.r20_5, h.r20_6, h.r20_8, h.r20_9, h.r20_10, h.r20_11, h.r20_12, h.r20_13, h.r20_14, h.r20_16, h.r20_18, h.r20_19, h.r20_20, h.r20_21, h.r20_22, h.r20_23, h.r20_25, rf_20 h, ra_21 h, ra_22 h, ra_23 h, ra_24 h, ra_25 h, ra_26 h, ra_27 h, ra_28 h, ra_29 h, ra_30 h, ra_31 h, ra_32 h, ra_33 h, ra_34 h, ra_35 h, ra_36 h, ra_37 h, ra_38 h, ra_39 h, rl_50 h, ra_50 h, V_50, W_50, up_e, m_ref0 h, m_refw h, c_machineOf_i h, c1, c2]
      · unfold f_Mo_hold j_Mo_hold_50 j_Mo_hold_55
        simp (disch := omega) only [lt__e, bnd_e, bnd2_e, bnd3_e, el0_l, el0_r, el1_l, el1_r, el2_l, el2_r, ↓reduceIte, not_true_eq_false, not_false_eq_true, reduceCtorEq, and_true, true_and, and_false, false_and, or_true, true_or, or_false, false_or, and_self, or_self, ite_true, ite_false, Int.cast_ofNat_Int, Nat.reduceEqDiff, Nat.reduceLT, Int.reduceAdd, Int.reduceSub, Int.reduceMul, Int.reduceNeg, Int.reduceLT, Int.reduceLE, Int.reduceEq, ilt_t, ilt_f, ile_t, ile_f, ieq_t, ieq_f, z_0, z_1, z_2, z_3, z_4, z_5, z_6, z_7, z_8, z_9, z_10, z_12, z_20, z_40, z_80, z_81, z_99, z_100, z_200, z_400, z_3240, z_20000, z_100000, iz_add, iz_sub, iz_mul, iz_neg, iz_nat, iz_lt, iz_le, iz_eq, iz_div, iz_ite, iz_c, md10, md100, izcb_0, izcb_1, isOut_0, isNoCell_0, isGr_0, within_e, isCell_e, np_p, VV_r, VV_n, V_k, W_k, V_0, W_0, V_1, W_1, V_2, W_2, V_3, W_3, V_4, W_4, V_5, W_5, V_6, W_6, V_7, W_7, V_8, W_8, V_9, W_9, VV_r, VV_n, V_20, W_20, V_21, W_21, V_22, W_22, V_23, W_23, V_24, W_24, V_25, W_25, V_26, W_26, V_27, W_27, V_28, W_28, V_29, W_29, V_30, W_30, V_31, W_31, V_32, W_32, V_33, W_33, V_34, W_34, V_35, W_35, V_36, W_36, V_37, W_37, V_38, W_38, V_39, W_39, h.r0_0, h.r0_1, h.r0_2, h.r0_3, h.r0_4, h.r0_5, h.r1_0, h.r1_1, h.r1_2, h.r1_3, h.r12, rf_0 h, rf_1 h, rf_10 h, rf_11 h, rf_12 h, r6_i h, r6_o h, r7_i h, r7_o h, r8_i h, r8_o h, rl_13 h, ra_13 h, rl_2 h, ra_2 h, rl_3 h, ra_3 h, rl_4 h, ra_4 h, rl_5 h, ra_5 h, rl_6 h, ra_6 h, rl_7 h, ra_7 h, rl_8 h, ra_8 h, rl_9 h, ra_9 h, h.r20_2, h.r20_3, h.r20_5, h.r20_6, h.r20_8, h.r20_9, h.r20_10, h.r20_11, h.r20_12, h.r20_13, h.r20_14, h.r20_16, h.r20_18, h.r20_19, h.r20_20, h.r20_21, h.r20_22, h.r20_23, h.r20_25, rf_20 h, ra_21 h, ra_22 h, ra_23 h, ra_24 h, ra_25 h, ra_26 h, ra_27 h, ra_28 h, ra_29 h, ra_30 h, ra_31 h, ra_32 h, ra_33 h, ra_34 h, ra_35 h, ra_36 h, ra_37 h, ra_38 h, ra_39 h, rl_50 h, ra_50 h, V_50, W_50, up_e, m_ref0 h, m_refw h, e3, c1, c2]
      · simp (disch := omega) only [up_e, lt__e, bnd_e, bnd2_e, bnd3_e, el0_l, el0_r, el1_l, el1_r, el2_l, el2_r, ↓reduceIte, not_true_eq_false, not_false_eq_true, reduceCtorEq, and_true, true_and, and_false, false_and, or_true, true_or, or_false, false_or, and_self, or_self, ite_true, ite_false, Int.cast_ofNat_Int, Nat.reduceEqDiff, Nat.reduceLT, Int.reduceAdd, Int.reduceSub, Int.reduceMul, Int.reduceNeg, Int.reduceLT, Int.reduceLE, Int.reduceEq, ilt_t, ilt_f, ile_t, ile_f, ieq_t, ieq_f]
      · omega
  · skip
    refine ⟨1, 0, a, up a 20 0 0 1, ?_, ?_, ?_, ?_, by omega, GG_r g _⟩
    · unfold f_La_hold f_Sk_hold
      simp (disch := omega) only [lt__e, bnd_e, bnd2_e, bnd3_e, el0_l, el0_r, el1_l, el1_r, el2_l, el2_r, ↓reduceIte, not_true_eq_false, not_false_eq_true, reduceCtorEq, and_true, true_and, and_false, false_and, or_true, true_or, or_false, false_or, and_self, or_self, ite_true, ite_false, Int.cast_ofNat_Int, Nat.reduceEqDiff, Nat.reduceLT, Int.reduceAdd, Int.reduceSub, Int.reduceMul, Int.reduceNeg, Int.reduceLT, Int.reduceLE, Int.reduceEq, ilt_t, ilt_f, ile_t, ile_f, ieq_t, ieq_f, z_0, z_1, z_2, z_3, z_4, z_5, z_6, z_7, z_8, z_9, z_10, z_12, z_20, z_40, z_80, z_81, z_99, z_100, z_200, z_400, z_3240, z_20000, z_100000, iz_add, iz_sub, iz_mul, iz_neg, iz_nat, iz_lt, iz_le, iz_eq, iz_div, iz_ite, iz_c, md10, md100, izcb_0, izcb_1, isOut_0, isNoCell_0, isGr_0, within_e, isCell_e, np_p, VV_r, VV_n, V_k, W_k, V_0, W_0, V_1, W_1, V_2, W_2, V_3, W_3, V_4, W_4, V_5, W_5, V_6, W_6, V_7, W_7, V_8, W_8, V_9, W_9, VV_r, VV_n, V_20, W_20, V_21, W_21, V_22, W_22, V_23, W_23, V_24, W_24, V_25, W_25, V_26, W_26, V_27, W_27, V_28, W_28, V_29, W_29, V_30, W_30, V_31, W_31, V_32, W_32, V_33, W_33, V_34, W_34, V_35, W_35, V_36, W_36, V_37, W_37, V_38, W_38, V_39, W_39, h.r0_0, h.r0_1, h.r0_2, h.r0_3, h.r0_4, h.r0_5, h.r1_0, h.r1_1, h.r1_2, h.r1_3, h.r12, rf_0 h, rf_1 h, rf_10 h, rf_11 h, rf_12 h, r6_i h, r6_o h, r7_i h, r7_o h, r8_i h, r8_o h, rl_13 h, ra_13 h, rl_2 h, ra_2 h, rl_3 h, ra_3 h, rl_4 h, ra_4 h, rl_5 h, ra_5 h, rl_6 h, ra_6 h, rl_7 h, ra_7 h, rl_8 h, ra_8 h, rl_9 h, ra_9 h, h.r20_2, h.r20_3, h.r20_5, h.r20_6, h.r20_8, h.r20_9, h.r20_10, h.r20_11, h.r20_12, h.r20_13, h.r20_14, h.r20_16, h.r20_18, h.r20_19, h.r20_20, h.r20_21, h.r20_22, h.r20_23, h.r20_25, rf_20 h, ra_21 h, ra_22 h, ra_23 h, ra_24 h, ra_25 h, ra_26 h, ra_27 h, ra_28 h, ra_29 h, ra_30 h, ra_31 h, ra_32 h, ra_33 h, ra_34 h, ra_35 h, ra_36 h, ra_37 h, ra_38 h, ra_39 h, rl_50 h, ra_50 h, V_50, W_50, up_e, m_ref0 h, m_refw h, c_machineOf_o h c1]
    · unfold f_Mo_hold j_Mo_hold_50 j_Mo_hold_55
      simp (disch := omega) only [lt__e, bnd_e, bnd2_e, bnd3_e, el0_l, el0_r, el1_l, el1_r, el2_l, el2_r, ↓reduceIte, not_true_eq_false, not_false_eq_true, reduceCtorEq, and_true, true_and, and_false, false_and, or_true, true_or, or_false, false_or, and_self, or_self, ite_true, ite_false, Int.cast_ofNat_Int, Nat.reduceEqDiff, Nat.reduceLT, Int.reduceAdd, Int.reduceSub, Int.reduceMul, Int.reduceNeg, Int.reduceLT, Int.reduceLE, Int.reduceEq, ilt_t, ilt_f, ile_t, ile_f, ieq_t, ieq_f, z_0, z_1, z_2, z_3, z_4, z_5, z_6, z_7, z_8, z_9, z_10, z_12, z_20, z_40, z_80, z_81, z_99, z_100, z_200, z_400, z_3240, z_20000, z_100000, iz_add, iz_sub, iz_mul, iz_neg, iz_nat, iz_lt, iz_le, iz_eq, iz_div, iz_ite, iz_c, md10, md100, izcb_0, izcb_1, isOut_0, isNoCell_0, isGr_0, within_e, isCell_e, np_p, VV_r, VV_n, V_k, W_k, V_0, W_0, V_1, W_1, V_2, W_2, V_3, W_3, V_4, W_4, V_5, W_5, V_6, W_6, V_7, W_7, V_8, W_8, V_9, W_9, VV_r, VV_n, V_20, W_20, V_21, W_21, V_22, W_22, V_23, W_23, V_24, W_24, V_25, W_25, V_26, W_26, V_27, W_27, V_28, W_28, V_29, W_29, V_30, W_30, V_31, W_31, V_32, W_32, V_33, W_33, V_34, W_34, V_35, W_35, V_36, W_36, V_37, W_37, V_38, W_38, V_39, W_39, h.r0_0, h.r0_1, h.r0_2, h.r0_3, h.r0_4, h.r0_5, h.r1_0, h.r1_1, h.r1_2, h.r1_3, h.r12, rf_0 h, rf_1 h, rf_10 h, rf_11 h, rf_12 h, r6_i h, r6_o h, r7_i h, r7_o h, r8_i h, r8_o h, rl_13 h, ra_13 h, rl_2 h, ra_2 h, rl_3 h, ra_3 h, rl_4 h, ra_4 h, rl_5 h, ra_5 h, rl_6 h, ra_6 h, rl_7 h, ra_7 h, rl_8 h, ra_8 h, rl_9 h, ra_9 h, h.r20_2, h.r20_3, h.r20_5, h.r20_6, h.r20_8, h.r20_9, h.r20_10, h.r20_11, h.r20_12, h.r20_13, h.r20_14, h.r20_16, h.r20_18, h.r20_19, h.r20_20, h.r20_21, h.r20_22, h.r20_23, h.r20_25, rf_20 h, ra_21 h, ra_22 h, ra_23 h, ra_24 h, ra_25 h, ra_26 h, ra_27 h, ra_28 h, ra_29 h, ra_30 h, ra_31 h, ra_32 h, ra_33 h, ra_34 h, ra_35 h, ra_36 h, ra_37 h, ra_38 h, ra_39 h, rl_50 h, ra_50 h, V_50, W_50, up_e, m_ref0 h, m_refw h, e3, c1]
    · simp (disch := omega) only [up_e, lt__e, bnd_e, bnd2_e, bnd3_e, el0_l, el0_r, el1_l, el1_r, el2_l, el2_r, ↓reduceIte, not_true_eq_false, not_false_eq_true, reduceCtorEq, and_true, true_and, and_false, false_and, or_true, true_or, or_false, false_or, and_self, or_self, ite_true, ite_false, Int.cast_ofNat_Int, Nat.reduceEqDiff, Nat.reduceLT, Int.reduceAdd, Int.reduceSub, Int.reduceMul, Int.reduceNeg, Int.reduceLT, Int.reduceLE, Int.reduceEq, ilt_t, ilt_f, ile_t, ile_f, ieq_t, ieq_f]
    · omega
end C12
