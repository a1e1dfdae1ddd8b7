/-! what is put together again behind a call; open, withdraw, machine, move, takes, lose -/
section C4
variable {a A B c c' b b' : AT} {r : Nat → Nat → Option Nat} {n : Nat → Nat} {nr nm np : Int}
theorem MP_cc (h1 : ∀ t, 25 ≤ t → t ≤ 38 → t ≠ 32 → c' t = c t) (h2 : ∀ t, 11 ≤ t → t ≤ 13 → b' t = b t) (h : MP c b nm np) : MP c' b' nm np := by
  unfold MP MMa MPs MPa at h ⊢
  rw [h1 25 (by omega) (by omega) (by omega), h1 26 (by omega) (by omega) (by omega), h1 27 (by omega) (by omega) (by omega), h1 28 (by omega) (by omega) (by omega), h1 29 (by omega) (by omega) (by omega), h1 30 (by omega) (by omega) (by omega), h1 31 (by omega) (by omega) (by omega), h1 33 (by omega) (by omega) (by omega), h1 34 (by omega) (by omega) (by omega), h1 35 (by omega) (by omega) (by omega), h1 36 (by omega) (by omega) (by omega), h1 37 (by omega) (by omega) (by omega), h1 38 (by omega) (by omega) (by omega), h2 11 (by omega) (by omega), h2 12 (by omega) (by omega), h2 13 (by omega) (by omega)]
  exact h
theorem GG_of (hS : Sh r n nr nm np) (hI : CI B nr nm np) (hb : ∀ t, t < 14 → A t = B t) (hMC : MC A B) (hMR : MRm A B nr) (hMP : MP A B nm np) (hMS : MSc A B nr nm np) : GG A r n :=
  ⟨nr, nm, np, hS, CI_c hb hI, MC_c2 (fun _ _ _ => rfl) rfl (fun t _ t2 => hb t (by omega)) hMC, MRm_c rfl (hb 10 (by omega)) hMR, MP_cc (fun _ _ _ _ => rfl) (fun t _ t2 => hb t (by omega)) hMP, MSc_c (fun _ _ => rfl) rfl (hb 0 (by omega)) (hb 9 (by omega)) hMS⟩
theorem CI_fin {P : Int → Prop} {v : Int} (hv : 2 ≤ v ∧ v ≤ 4) (hI : CI a nr nm np) (hp : ∀ p, 0 ≤ p → p < np → P p → a 12 6 p = 0) : CI (fin_ a np v P) nr nm np := by
  obtain ⟨h1, h2, h3, h4, h5, h6, h7, h8⟩ := hI
  have e : ∀ t, t ≠ 11 → t ≠ 12 → fin_ a np v P t = a t := fun t t1 t2 => fin_o t1 t2
  have f0 := e 0 (by omega) (by omega)
  have f13 := e 13 (by omega) (by omega)
  have f11 : ∀ j m, j ≠ 5 → fin_ a np v P 11 j m = a 11 j m := fun j m hj => fin_11 hj m
  have f12 : ∀ j m, j ≠ 6 → fin_ a np v P 12 j m = a 12 j m := fun j m hj => fin_12 hj m
  have e5 : ∀ m, (∃ p, 0 ≤ p ∧ p < np ∧ P p ∧ a 12 2 p = m ∧ fin_ a np v P 11 5 m = -1) ∨ ((∀ p, 0 ≤ p → p < np → a 12 2 p = m → ¬ P p) ∧ fin_ a np v P 11 5 m = a 11 5 m) := by
    intro m
    by_cases q : ∃ p, 0 ≤ p ∧ p < np ∧ P p ∧ a 12 2 p = m
    · obtain ⟨p, p1, p2, p3, p4⟩ := q
      refine Or.inl ⟨p, p1, p2, p3, p4, ?_⟩
      unfold fin_
      rw [if_neg (fun z => absurd z.1 (by omega)), if_pos ⟨rfl, rfl, p, p1, p2, p3, p4⟩]
    · refine Or.inr ⟨fun p p1 p2 p3 p4 => q ⟨p, p1, p2, p4, p3⟩, ?_⟩
      unfold fin_
      rw [if_neg (fun z => absurd z.1 (by omega)), if_neg (fun z => q z.2.2)]
  have e6 : ∀ p, (0 ≤ p ∧ p < np ∧ P p ∧ fin_ a np v P 12 6 p = v) ∨ (¬ (0 ≤ p ∧ p < np ∧ P p) ∧ fin_ a np v P 12 6 p = a 12 6 p) := by
    intro p
    by_cases q : 0 ≤ p ∧ p < np ∧ P p
    · exact Or.inl ⟨q.1, q.2.1, q.2.2, fin_126p q.1 q.2.1 q.2.2⟩
    · refine Or.inr ⟨q, ?_⟩
      unfold fin_
      rw [if_neg (fun z => q z.2.2), if_neg (fun z => absurd z.1 (by omega))]
  refine ⟨CN_c (fun j _ => by rw [f0]) (e 1 (by omega) (by omega)) h1, CC_c (fun t t1 t2 => e t (by omega) (by omega)) h2, CD_c (by rw [f0]) (e 9 (by omega) (by omega)) h3, CRm_c2 (e 10 (by omega) (by omega)) h4, ?_, ?_, ?_, ?_⟩
  · intro m m1 m2
    obtain ⟨k1, k2, k3, k4, k5, k6, k7⟩ := h5 m m1 m2
    simp (disch := omega) only [f11]
    refine ⟨k1, k2, k3, k4, k5, ?_, k7⟩
    rcases e5 m with ⟨p, p1, p2, -, -, q⟩ | ⟨-, q⟩
    · rw [q]; omega
    · rw [q]; exact k6
  · intro p p1 p2
    obtain ⟨w1, w2, w3, w4, w5, w6, w7⟩ := h6 p p1 p2
    refine ⟨PW_c (fin_e p) w1, ?_, ?_, ?_, ?_, ?_, ?_⟩
    · simp (disch := omega) only [f12]; exact w2
    · simp (disch := omega) only [f12]; exact w3
    · simp (disch := omega) only [f12]; exact w4
    · simp (disch := omega) only [f12]; exact w5
    · simp (disch := omega) only [f12]; exact w6
    · rcases e6 p with ⟨-, -, -, q⟩ | ⟨-, q⟩
      · rw [q]; omega
      · rw [q]; exact w7
  · intro m m1 m2
    obtain ⟨l0, l1, l2, l3⟩ := h7 m m1 m2
    unfold CL1
    simp (disch := omega) only [f11, f12, f13, f0]
    rcases e5 m with ⟨p, p1, p2, p3, p4, q⟩ | ⟨qn, q⟩
    · have w := (h8 p p1 p2).2 (hp p p1 p2 p3)
      rw [p4] at w
      rw [q]
      exact ⟨fun z => ⟨(l0 z).1, (l0 z).2.1, fun y => by omega⟩, fun z => by omega, fun z => by omega, fun z => by omega⟩
    · rw [q]
      refine ⟨fun z => ⟨(l0 z).1, (l0 z).2.1, fun y => ?_⟩, fun z => ?_, l2, l3⟩
      · have w := (l0 z).2.2 y
        rcases e6 (a 11 5 m) with ⟨p1, p2, p3, -⟩ | ⟨-, q2⟩
        · exact absurd p3 (qn _ p1 p2 w.2)
        · rw [q2]; exact w
      · obtain ⟨w1, w2, w3, w4, w5⟩ := l1 z
        rcases e6 (a 11 5 m) with ⟨p1, p2, p3, -⟩ | ⟨-, q2⟩
        · exact absurd p3 (qn _ p1 p2 w4)
        · rw [q2]; exact ⟨w1, w2, w3, w4, w5⟩
  · intro p p1 p2
    obtain ⟨l1, l2⟩ := h8 p p1 p2
    unfold CL2
    simp (disch := omega) only [f11, f12, f13, f0]
    refine ⟨l1, fun z => ?_⟩
    rcases e6 p with ⟨-, -, -, q⟩ | ⟨qn, q⟩
    · omega
    · rw [q] at z
      obtain ⟨w1, w2, w3, w4⟩ := l2 z
      refine ⟨w1, w2, ?_, w4⟩
      rcases e5 (a 12 2 p) with ⟨p', k1, k2, k3, k4, -⟩ | ⟨-, q2⟩
      · have y := (h8 p' k1 k2).2 (hp p' k1 k2 k3)
        rw [k4, w3] at y
        have y3 := y.2.2.1
        rw [← y3] at k3
        exact absurd ⟨p1, p2, k3⟩ qn
      · rw [q2]; exact w3
theorem fin_1 {p v : Int} (h1 : 0 ≤ p) (h2 : p < np) : up (up a 12 6 p v) 11 5 (a 12 2 p) (-1) = fin_ a np v (fun q => q = p) := by
  funext t j m
  unfold up fin_
  by_cases c1 : t = 11 ∧ j = 5 ∧ m = a 12 2 p
  · rw [if_pos c1, if_neg (fun z => absurd (z.1.symm.trans c1.1) (by omega)), if_pos ⟨c1.1, c1.2.1, p, h1, h2, rfl, c1.2.2.symm⟩]
  · rw [if_neg c1]
    by_cases c2 : t = 12 ∧ j = 6 ∧ m = p
    · rw [if_pos c2, if_pos ⟨c2.1, c2.2.1, by omega, by omega, c2.2.2⟩]
    · rw [if_neg c2, if_neg (fun z => c2 ⟨z.1, z.2.1, z.2.2.2.2⟩), if_neg]
      rintro ⟨z1, z2, p', z3, z4, rfl, z5⟩
      exact c1 ⟨z1, z2, z5.symm⟩
/-- only rooms have changed -/
theorem GG_room {r' : Nat → Nat → Option Nat} {n' : Nat → Nat} {nr' : Int} (h' : Sh r' n' nr' nm np) (hI : CI a nr nm np) (hM : MR a a nr nm np) (h1 : ∀ t, 1 ≤ t → t < 14 → t ≠ 10 → A t = a t) (h0 : ∀ j, j ≠ 6 → A 0 j 0 = a 0 j 0) (h06 : A 0 6 0 = nr') (h2 : ∀ t, 21 ≤ t → t < 39 → A t = a t) (h3 : ∀ j, 1 ≤ j → j ≠ 24 → A 20 j 0 = a 20 j 0) (h4 : A 20 24 0 = nr') (hR : CRm A nr') (hRM : MRm A A nr') : GG A r' n' := by
  obtain ⟨k1, k2, k3, k4, k5, k6, k7⟩ := hI
  obtain ⟨m1, m2, ⟨m3, m4⟩, m5⟩ := hM
  have q : EqQ A a np := EqQ.of (h1 12 (by omega) (by omega) (by omega)) (h1 13 (by omega) (by omega) (by omega))
  refine ⟨nr', nm, np, h', ⟨⟨⟨h06, ?_, ?_⟩, ?_, ?_⟩, CC_c (fun t t1 t2 => h1 t t1 (by omega) (by omega)) k2, CD_c (h0 9 (by omega)) (h1 9 (by omega) (by omega) (by omega)) k3, hR, CMa_c (h1 11 (by omega) (by omega) (by omega)) k5, CP_c q k6, CL_c (h0 10 (by omega)) (h1 11 (by omega) (by omega) (by omega)) q k5 k7 k6⟩,
    MC_c2 (fun t t1 t2 => h2 t t1 (by omega)) (h3 4 (by omega) (by omega)) (fun t t1 t2 => h1 t t1 (by omega) (by omega)) m1, hRM, ⟨MMa_c (fun t t1 t2 => h2 t (by omega) (by omega)) (h1 11 (by omega) (by omega) (by omega)) m3, MPs_c h'.b.2.2.2 (fun t t1 t2 => h2 t (by omega) (by omega)) (fun j _ => by rw [h2 38 (by omega) (by omega)]) q k6 m4⟩, ?_⟩
  · rw [h0 7 (by omega)]; exact k1.1.2.1
  · rw [h0 8 (by omega)]; exact k1.1.2.2
  · rw [h0 10 (by omega)]; exact k1.2.1
  · rw [h1 1 (by omega) (by omega) (by omega)]; exact k1.2.2
  · unfold MSc at m5 ⊢
    rw [h3 1 (by omega) (by omega), h3 7 (by omega) (by omega), h3 15 (by omega) (by omega), h3 17 (by omega) (by omega), h4, h3 26 (by omega) (by omega), h3 27 (by omega) (by omega), h3 28 (by omega) (by omega), h2 32 (by omega) (by omega), h0 9 (by omega), h0 10 (by omega), h0 11 (by omega), h0 12 (by omega), h0 13 (by omega), h1 9 (by omega) (by omega) (by omega)]
    exact ⟨m5.1, m5.2.1, m5.2.2.1, m5.2.2.2.1, rfl, m5.2.2.2.2.2⟩
theorem call_open (g : GG a r n) {x' : Int} (q01 : -2147483648 ≤ x') (q02 : x' ≤ 2147483647) : ∃ k A1 A2, f_La_open (some 0) (iz x') (VV a r n) = some (iz k, VV A1 r n) ∧ f_Mo_open 20 (iz x') (VV A1 r n) = some (VV A2 r n) ∧ A2 20 0 0 = k ∧ (0 ≤ k ∧ k ≤ 3) ∧ GG A2 r n := by
  obtain ⟨nr, nm, np, h, hI, hMR⟩ := g
  have g : GG a r n := ⟨nr, nm, np, h, hI, hMR⟩
  have hI' := hI
  have hMR' := hMR
  obtain ⟨⟨⟨hnr, hnm, hnp⟩, hnow, hns⟩, hC, hD, hR, hMa, hP, hL⟩ := hI
  obtain ⟨hMC, hMRm, hMP, hMS⟩ := hMR
  obtain ⟨s1, s7, s15, s17, s24, s26, s27, s28, s32⟩ := hMS
  have hb := h.b
  have hcs := hC.1
  have hds := hD.1
  by_cases c1 : 0 ≤ x' ∧ x' ≤ nr - 1
  · have hr := hR x' c1.1 (by omega)
    have hm := (hMRm.1 x' c1.1 (by omega)).2.2.2.2.2.2.2
    by_cases c2 : a 10 7 x' = 0
    · refine ⟨0, up a 10 7 x' 1, up (up (up a 10 7 x' 1) 20 0 0 0) 39 (8 * x' + 7) 0 1, ?_, ?_, ?_, by omega, ?_⟩
      · unfold f_La_open f_Sk_open
        simp (disch := omega) only [lt__e, bnd_e, bnd2_e, bnd3_e, el0_l, el0_r, el1_l, el1_r, el2_l, el2_r, ↓reduceIte, not_true_eq_false, not_false_eq_true, reduceCtorEq, and_true, true_and, and_false, false_and, or_true, true_or, or_false, false_or, and_self, or_self, ite_true, ite_false, Int.cast_ofNat_Int, Nat.reduceEqDiff, Nat.reduceLT, Int.reduceAdd, Int.reduceSub, Int.reduceMul, Int.reduceNeg, Int.reduceLT, Int.reduceLE, Int.reduceEq, ilt_t, ilt_f, ile_t, ile_f, ieq_t, ieq_f, z_0, z_1, z_2, z_3, z_4, z_5, z_6, z_7, z_8, z_9, z_10, z_12, z_20, z_40, z_80, z_81, z_99, z_100, z_200, z_400, z_3240, z_20000, z_100000, iz_add, iz_sub, iz_mul, iz_neg, iz_nat, iz_lt, iz_le, iz_eq, iz_div, iz_ite, iz_c, md10, md100, izcb_0, izcb_1, isOut_0, isNoCell_0, isGr_0, within_e, isCell_e, np_p, VV_r, VV_n, V_k, W_k, V_0, W_0, V_1, W_1, V_2, W_2, V_3, W_3, V_4, W_4, V_5, W_5, V_6, W_6, V_7, W_7, V_8, W_8, V_9, W_9, VV_r, VV_n, V_20, W_20, V_21, W_21, V_22, W_22, V_23, W_23, V_24, W_24, V_25, W_25, V_26, W_26, V_27, W_27, V_28, W_28, V_29, W_29, V_30, W_30, V_31, W_31, V_32, W_32, V_33, W_33, V_34, W_34, V_35, W_35, V_36, W_36, V_37, W_37, V_38, W_38, V_39, W_39, h.r0_0, h.r0_1, h.r0_2, h.r0_3, h.r0_4, h.r0_5, h.r1_0, h.r1_1, h.r1_2, h.r1_3, h.r12, rf_0 h, rf_1 h, rf_10 h, rf_11 h, rf_12 h, r6_i h, r6_o h, r7_i h, r7_o h, r8_i h, r8_o h, rl_13 h, ra_13 h, rl_2 h, ra_2 h, rl_3 h, ra_3 h, rl_4 h, ra_4 h, rl_5 h, ra_5 h, rl_6 h, ra_6 h, rl_7 h, ra_7 h, rl_8 h, ra_8 h, rl_9 h, ra_9 h, h.r20_2, h.r20_3, h.r20_5, h.r20_6, h.r20_8, h.r20_9, h.r20_10, h.r20_11, h.r20_12, h.r20_13, h.r20_14, h.r20_16, h.r20_18, h.r20_19, h.r20_20, h.r20_21, h.r20_22, h.r20_23, h.r20_25, rf_20 h, ra_21 h, ra_22 h, ra_23 h, ra_24 h, ra_25 h, ra_26 h, ra_27 h, ra_28 h, ra_29 h, ra_30 h, ra_31 h, ra_32 h, ra_33 h, ra_34 h, ra_35 h, ra_36 h, ra_37 h, ra_38 h, ra_39 h, rl_50 h, ra_50 h, V_50, W_50, up_e, m_ref0 h, m_refw h, c_roomOf_i h, c2]
      · unfold f_Mo_open j_Mo_open_42
        simp (disch := omega) only [lt__e, bnd_e, bnd2_e, bnd3_e, el0_l, el0_r, el1_l, el1_r, el2_l, el2_r, ↓reduceIte, not_true_eq_false, not_false_eq_true, reduceCtorEq, and_true, true_and, and_false, false_and, or_true, true_or, or_false, false_or, and_self, or_self, ite_true, ite_false, Int.cast_ofNat_Int, Nat.reduceEqDiff, Nat.reduceLT, Int.reduceAdd, Int.reduceSub, Int.reduceMul, Int.reduceNeg, Int.reduceLT, Int.reduceLE, Int.reduceEq, ilt_t, ilt_f, ile_t, ile_f, ieq_t, ieq_f, z_0, z_1, z_2, z_3, z_4, z_5, z_6, z_7, z_8, z_9, z_10, z_12, z_20, z_40, z_80, z_81, z_99, z_100, z_200, z_400, z_3240, z_20000, z_100000, iz_add, iz_sub, iz_mul, iz_neg, iz_nat, iz_lt, iz_le, iz_eq, iz_div, iz_ite, iz_c, md10, md100, izcb_0, izcb_1, isOut_0, isNoCell_0, isGr_0, within_e, isCell_e, np_p, VV_r, VV_n, V_k, W_k, V_0, W_0, V_1, W_1, V_2, W_2, V_3, W_3, V_4, W_4, V_5, W_5, V_6, W_6, V_7, W_7, V_8, W_8, V_9, W_9, VV_r, VV_n, V_20, W_20, V_21, W_21, V_22, W_22, V_23, W_23, V_24, W_24, V_25, W_25, V_26, W_26, V_27, W_27, V_28, W_28, V_29, W_29, V_30, W_30, V_31, W_31, V_32, W_32, V_33, W_33, V_34, W_34, V_35, W_35, V_36, W_36, V_37, W_37, V_38, W_38, V_39, W_39, h.r0_0, h.r0_1, h.r0_2, h.r0_3, h.r0_4, h.r0_5, h.r1_0, h.r1_1, h.r1_2, h.r1_3, h.r12, rf_0 h, rf_1 h, rf_10 h, rf_11 h, rf_12 h, r6_i h, r6_o h, r7_i h, r7_o h, r8_i h, r8_o h, rl_13 h, ra_13 h, rl_2 h, ra_2 h, rl_3 h, ra_3 h, rl_4 h, ra_4 h, rl_5 h, ra_5 h, rl_6 h, ra_6 h, rl_7 h, ra_7 h, rl_8 h, ra_8 h, rl_9 h, ra_9 h, h.r20_2, h.r20_3, h.r20_5, h.r20_6, h.r20_8, h.r20_9, h.r20_10, h.r20_11, h.r20_12, h.r20_13, h.r20_14, h.r20_16, h.r20_18, h.r20_19, h.r20_20, h.r20_21, h.r20_22, h.r20_23, h.r20_25, rf_20 h, ra_21 h, ra_22 h, ra_23 h, ra_24 h, ra_25 h, ra_26 h, ra_27 h, ra_28 h, ra_29 h, ra_30 h, ra_31 h, ra_32 h, ra_33 h, ra_34 h, ra_35 h, ra_36 h, ra_37 h, ra_38 h, ra_39 h, rl_50 h, ra_50 h, V_50, W_50, up_e, m_ref0 h, m_refw h, c1, s24, hm, c2]
      · simp (disch := omega) only [up_e, lt__e, bnd_e, bnd2_e, bnd3_e, el0_l, el0_r, el1_l, el1_r, el2_l, el2_r, ↓reduceIte, not_true_eq_false, not_false_eq_true, reduceCtorEq, and_true, true_and, and_false, false_and, or_true, true_or, or_false, false_or, and_self, or_self, ite_true, ite_false, Int.cast_ofNat_Int, Nat.reduceEqDiff, Nat.reduceLT, Int.reduceAdd, Int.reduceSub, Int.reduceMul, Int.reduceNeg, Int.reduceLT, Int.reduceLE, Int.reduceEq, ilt_t, ilt_f, ile_t, ile_f, ieq_t, ieq_f]
      · refine GG_room h hI' hMR' (fun t t1 t2 t3 => ?_) (fun j j1 => ?_) ?_ (fun t t1 t2 => ?_) (fun j j1 j2 => ?_) ?_ (fun i i1 i2 => ?_) ⟨fun i i1 i2 => ?_, fun i i1 i2 => ?_⟩
        · simp (disch := omega) only [up_t]
        · simp (disch := omega) only [up_t]
        · simp (disch := omega) only [up_t]; exact hnr
        · simp (disch := omega) only [up_t]
        · simp (disch := omega) only [up_e, lt__e, bnd_e, bnd2_e, bnd3_e, el0_l, el0_r, el1_l, el1_r, el2_l, el2_r, ↓reduceIte, not_true_eq_false, not_false_eq_true, reduceCtorEq, and_true, true_and, and_false, false_and, or_true, true_or, or_false, false_or, and_self, or_self, ite_true, ite_false, Int.cast_ofNat_Int, Nat.reduceEqDiff, Nat.reduceLT, Int.reduceAdd, Int.reduceSub, Int.reduceMul, Int.reduceNeg, Int.reduceLT, Int.reduceLE, Int.reduceEq, ilt_t, ilt_f, ile_t, ile_f, ieq_t, ieq_f]
        · simp (disch := omega) only [up_e, lt__e, bnd_e, bnd2_e, bnd3_e, el0_l, el0_r, el1_l, el1_r, el2_l, el2_r, ↓reduceIte, not_true_eq_false, not_false_eq_true, reduceCtorEq, and_true, true_and, and_false, false_and, or_true, true_or, or_false, false_or, and_self, or_self, ite_true, ite_false, Int.cast_ofNat_Int, Nat.reduceEqDiff, Nat.reduceLT, Int.reduceAdd, Int.reduceSub, Int.reduceMul, Int.reduceNeg, Int.reduceLT, Int.reduceLE, Int.reduceEq, ilt_t, ilt_f, ile_t, ile_f, ieq_t, ieq_f] <;> first | omega | exact s24
        · have := hR i i1 i2
          by_cases ei : i = x'
          · simp (disch := omega) only [up_e, lt__e, bnd_e, bnd2_e, bnd3_e, el0_l, el0_r, el1_l, el1_r, el2_l, el2_r, ↓reduceIte, not_true_eq_false, not_false_eq_true, reduceCtorEq, and_true, true_and, and_false, false_and, or_true, true_or, or_false, false_or, and_self, or_self, ite_true, ite_false, Int.cast_ofNat_Int, Nat.reduceEqDiff, Nat.reduceLT, Int.reduceAdd, Int.reduceSub, Int.reduceMul, Int.reduceNeg, Int.reduceLT, Int.reduceLE, Int.reduceEq, ilt_t, ilt_f, ile_t, ile_f, ieq_t, ieq_f] <;> omega
          · simp (disch := omega) only [up_e, lt__e, bnd_e, bnd2_e, bnd3_e, el0_l, el0_r, el1_l, el1_r, el2_l, el2_r, ↓reduceIte, not_true_eq_false, not_false_eq_true, reduceCtorEq, and_true, true_and, and_false, false_and, or_true, true_or, or_false, false_or, and_self, or_self, ite_true, ite_false, Int.cast_ofNat_Int, Nat.reduceEqDiff, Nat.reduceLT, Int.reduceAdd, Int.reduceSub, Int.reduceMul, Int.reduceNeg, Int.reduceLT, Int.reduceLE, Int.reduceEq, ilt_t, ilt_f, ile_t, ile_f, ieq_t, ieq_f] <;> first | omega | exact this
        · have := hMRm.1 i i1 i2
          by_cases ei : i = x'
          · simp (disch := omega) only [up_e, lt__e, bnd_e, bnd2_e, bnd3_e, el0_l, el0_r, el1_l, el1_r, el2_l, el2_r, ↓reduceIte, not_true_eq_false, not_false_eq_true, reduceCtorEq, and_true, true_and, and_false, false_and, or_true, true_or, or_false, false_or, and_self, or_self, ite_true, ite_false, Int.cast_ofNat_Int, Nat.reduceEqDiff, Nat.reduceLT, Int.reduceAdd, Int.reduceSub, Int.reduceMul, Int.reduceNeg, Int.reduceLT, Int.reduceLE, Int.reduceEq, ilt_t, ilt_f, ile_t, ile_f, ieq_t, ieq_f] <;> (subst ei; exact ⟨this.1, this.2.1, this.2.2.1, this.2.2.2.1, this.2.2.2.2.1, this.2.2.2.2.2.1, this.2.2.2.2.2.2.1, trivial⟩)
          · simp (disch := omega) only [up_e, lt__e, bnd_e, bnd2_e, bnd3_e, el0_l, el0_r, el1_l, el1_r, el2_l, el2_r, ↓reduceIte, not_true_eq_false, not_false_eq_true, reduceCtorEq, and_true, true_and, and_false, false_and, or_true, true_or, or_false, false_or, and_self, or_self, ite_true, ite_false, Int.cast_ofNat_Int, Nat.reduceEqDiff, Nat.reduceLT, Int.reduceAdd, Int.reduceSub, Int.reduceMul, Int.reduceNeg, Int.reduceLT, Int.reduceLE, Int.reduceEq, ilt_t, ilt_f, ile_t, ile_f, ieq_t, ieq_f] <;> first | omega | exact this
        · have := hMRm.2 i i1 i2
          simp (disch := omega) only [up_e, lt__e, bnd_e, bnd2_e, bnd3_e, el0_l, el0_r, el1_l, el1_r, el2_l, el2_r, ↓reduceIte, not_true_eq_false, not_false_eq_true, reduceCtorEq, and_true, true_and, and_false, false_and, or_true, true_or, or_false, false_or, and_self, or_self, ite_true, ite_false, Int.cast_ofNat_Int, Nat.reduceEqDiff, Nat.reduceLT, Int.reduceAdd, Int.reduceSub, Int.reduceMul, Int.reduceNeg, Int.reduceLT, Int.reduceLE, Int.reduceEq, ilt_t, ilt_f, ile_t, ile_f, ieq_t, ieq_f] <;> first | omega | exact this
    · skip
      refine ⟨2, a, up a 20 0 0 2, ?_, ?_, ?_, by omega, GG_r g _⟩
      · unfold f_La_open f_Sk_open
        simp (disch := omega) only [lt__e, bnd_e, bnd2_e, bnd3_e, el0_l, el0_r, el1_l, el1_r, el2_l, el2_r, ↓reduceIte, not_true_eq_false, not_false_eq_true, reduceCtorEq, and_true, true_and, and_false, false_and, or_true, true_or, or_false, false_or, and_self, or_self, ite_true, ite_false, Int.cast_ofNat_Int, Nat.reduceEqDiff, Nat.reduceLT, Int.reduceAdd, Int.reduceSub, Int.reduceMul, Int.reduceNeg, Int.reduceLT, Int.reduceLE, Int.reduceEq, ilt_t, ilt_f, ile_t, ile_f, ieq_t, ieq_f, z_0, z_1, z_2, z_3, z_4, z_5, z_6, z_7, z_8, z_9, z_10, z_12, z_20, z_40, z_80, z_81, z_99, z_100, z_200, z_400, z_3240, z_20000, z_100000, iz_add, iz_sub, iz_mul, iz_neg, iz_nat, iz_lt, iz_le, iz_eq, iz_div, iz_ite, iz_c, md10, md100, izcb_0, izcb_1, isOut_0, isNoCell_0, isGr_0, within_e, isCell_e, np_p, VV_r, VV_n, V_k, W_k, V_0, W_0, V_1, W_1, V_2, W_2, V_3, W_3, V_4, W_4, V_5, W_5, V_6, W_6, V_7, W_7, V_8, W_8, V_9, W_9, VV_r, VV_n, V_20, W_20, V_21, W_21, V_22, W_22, V_23, W_23, V_24, W_24, V_25, W_25, V_26, W_26, V_27, W_27, V_28, W_28, V_29, W_29, V_30, W_30, V_31, W_31, V_32, W_32, V_33, W_33, V_34, W_34, V_35, W_35, V_36, W_36, V_37, W_37, V_38, W_38, V_39, W_39, h.r0_0, h.r0_1, h.r0_2, h.r0_3, h.r0_4, h.r0_5, h.r1_0, h.r1_1, h.r1_2, h.r1_3, h.r12, rf_0 h, rf_1 h, rf_10 h, rf_11 h, rf_12 h, r6_i h, r6_o h, r7_i h, r7_o h, r8_i h, r8_o h, rl_13 h, ra_13 h, rl_2 h, ra_2 h, rl_3 h, ra_3 h, rl_4 h, ra_4 h, rl_5 h, ra_5 h, rl_6 h, ra_6 h, rl_7 h, ra_7 h, rl_8 h, ra_8 h, rl_9 h, ra_9 h, h.r20_2, h.r20_3, h.r20_5, h.r20_6, h.r20_8, h.r20_9, h.r20_10, h.r20_11, h.r20_12, h.r20_13, h.r20_14, h.r20_16, h.r20_18, h.r20_19, h.r20_20, h.r20_21, h.r20_22, h.r20_23, h.r20_25, rf_20 h, ra_21 h, ra_22 h, ra_23 h, ra_24 h, ra_25 h, ra_26 h, ra_27 h, ra_28 h, ra_29 h, ra_30 h, ra_31 h, ra_32 h, ra_33 h, ra_34 h, ra_35 h, ra_36 h, ra_37 h, ra_38 h, ra_39 h, rl_50 h, ra_50 h, V_50, W_50, up_e, m_ref0 h, m_refw h, c_roomOf_i h, c2]
      · unfold f_Mo_open j_Mo_open_42
        simp (disch := omega) only [lt__e, bnd_e, bnd2_e, bnd3_e, el0_l, el0_r, el1_l, el1_r, el2_l, el2_r, ↓reduceIte, not_true_eq_false, not_false_eq_true, reduceCtorEq, and_true, true_and, and_false, false_and, or_true, true_or, or_false, false_or, and_self, or_self, ite_true, ite_false, Int.cast_ofNat_Int, Nat.reduceEqDiff, Nat.reduceLT, Int.reduceAdd, Int.reduceSub, Int.reduceMul, Int.reduceNeg, Int.reduceLT, Int.reduceLE, Int.reduceEq, ilt_t, ilt_f, ile_t, ile_f, ieq_t, ieq_f, z_0, z_1, z_2, z_3, z_4, z_5, z_6, z_7, z_8, z_9, z_10, z_12, z_20, z_40, z_80, z_81, z_99, z_100, z_200, z_400, z_3240, z_20000, z_100000, iz_add, iz_sub, iz_mul, iz_neg, iz_nat, iz_lt, iz_le, iz_eq, iz_div, iz_ite, iz_c, md10, md100, izcb_0, izcb_1, isOut_0, isNoCell_0, isGr_0, within_e, isCell_e, np_p, VV_r, VV_n, V_k, W_k, V_0, W_0, V_1, W_1, V_2, W_2, V_3, W_3, V_4, W_4, V_5, W_5, V_6, W_6, V_7, W_7, V_8, W_8, V_9, W_9, VV_r, VV_n, V_20, W_20, V_21, W_21, V_22, W_22, V_23, W_23, V_24, W_24, V_25, W_25, V_26, W_26, V_27, W_27, V_28, W_28, V_29, W_29, V_30, W_30, V_31, W_31, V_32, W_32, V_33, W_33, V_34, W_34, V_35, W_35, V_36, W_36, V_37, W_37, V_38, W_38, V_39, W_39, h.r0_0, h.r0_1, h.r0_2, h.r0_3, h.r0_4, h.r0_5, h.r1_0, h.r1_1, h.r1_2, h.r1_3, h.r12, rf_0 h, rf_1 h, rf_10 h, rf_11 h, rf_12 h, r6_i h, r6_o h, r7_i h, r7_o h, r8_i h, r8_o h, rl_13 h, ra_13 h, rl_2 h, ra_2 h, rl_3 h, ra_3 h, rl_4 h, ra_4 h, rl_5 h, ra_5 h, rl_6 h, ra_6 h, rl_7 h, ra_7 h, rl_8 h, ra_8 h, rl_9 h, ra_9 h, h.r20_2, h.r20_3, h.r20_5, h.r20_6, h.r20_8, h.r20_9, h.r20_10, h.r20_11, h.r20_12, h.r20_13, h.r20_14, h.r20_16, h.r20_18, h.r20_19, h.r20_20, h.r20_21, h.r20_22, h.r20_23, h.r20_25, rf_20 h, ra_21 h, ra_22 h, ra_23 h, ra_24 h, ra_25 h, ra_26 h, ra_27 h, ra_28 h, ra_29 h, ra_30 h, ra_31 h, ra_32 h, ra_33 h, ra_34 h, ra_35 h, ra_36 h, ra_37 h, ra_38 h, ra_39 h, rl_50 h, ra_50 h, V_50, W_50, up_e, m_ref0 h, m_refw h, c1, s24, hm, c2]
      · simp (disch := omega) only [up_e, lt__e, bnd_e, bnd2_e, bnd3_e, el0_l, el0_r, el1_l, el1_r, el2_l, el2_r, ↓reduceIte, not_true_eq_false, not_false_eq_true, reduceCtorEq, and_true, true_and, and_false, false_and, or_true, true_or, or_false, false_or, and_self, or_self, ite_true, ite_false, Int.cast_ofNat_Int, Nat.reduceEqDiff, Nat.reduceLT, Int.reduceAdd, Int.reduceSub, Int.reduceMul, Int.reduceNeg, Int.reduceLT, Int.reduceLE, Int.reduceEq, ilt_t, ilt_f, ile_t, ile_f, ieq_t, ieq_f]
  · skip
    refine ⟨1, a, up a 20 0 0 1, ?_, ?_, ?_, by omega, GG_r g _⟩
    · unfold f_La_open f_Sk_open
      simp (disch := omega) only [lt__e, bnd_e, bnd2_e, bnd3_e, el0_l, el0_r, el1_l, el1_r, el2_l, el2_r, ↓reduceIte, not_true_eq_false, not_false_eq_true, reduceCtorEq, and_true, true_and, and_false, false_and, or_true, true_or, or_false, false_or, and_self, or_self, ite_true, ite_false, Int.cast_ofNat_Int, Nat.reduceEqDiff, Nat.reduceLT, Int.reduceAdd, Int.reduceSub, Int.reduceMul, Int.reduceNeg, Int.reduceLT, Int.reduceLE, Int.reduceEq, ilt_t, ilt_f, ile_t, ile_f, ieq_t, ieq_f, z_0, z_1, z_2, z_3, z_4, z_5, z_6, z_7, z_8, z_9, z_10, z_12, z_20, z_40, z_80, z_81, z_99, z_100, z_200, z_400, z_3240, z_20000, z_100000, iz_add, iz_sub, iz_mul, iz_neg, iz_nat, iz_lt, iz_le, iz_eq, iz_div, iz_ite, iz_c, md10, md100, izcb_0, izcb_1, isOut_0, isNoCell_0, isGr_0, within_e, isCell_e, np_p, VV_r, VV_n, V_k, W_k, V_0, W_0, V_1, W_1, V_2, W_2, V_3, W_3, V_4, W_4, V_5, W_5, V_6, W_6, V_7, W_7, V_8, W_8, V_9, W_9, VV_r, VV_n, V_20, W_20, V_21, W_21, V_22, W_22, V_23, W_23, V_24, W_24, V_25, W_25, V_26, W_26, V_27, W_27, V_28, W_28, V_29, W_29, V_30, W_30, V_31, W_31, V_32, W_32, V_33, W_33, V_34, W_34, V_35, W_35, V_36, W_36, V_37, W_37, V_38, W_38, V_39, W_39, h.r0_0, h.r0_1, h.r0_2, h.r0_3, h.r0_4, h.r0_5, h.r1_0, h.r1_1, h.r1_2, h.r1_3, h.r12, rf_0 h, rf_1 h, rf_10 h, rf_11 h, rf_12 h, r6_i h, r6_o h, r7_i h, r7_o h, r8_i h, r8_o h, rl_13 h, ra_13 h, rl_2 h, ra_2 h, rl_3 h, ra_3 h, rl_4 h, ra_4 h, rl_5 h, ra_5 h, rl_6 h, ra_6 h, rl_7 h, ra_7 h, rl_8 h, ra_8 h, rl_9 h, ra_9 h, h.r20_2, h.r20_3, h.r20_5, h.r20_6, h.r20_8, h.r20_9, h.r20_10, h.r20_11, h.r20_12, h.r20_13, h.r20_14, h.r20_16, h.r20_18, h.r20_19, h.r20_20, h.r20_21, h.r20_22, h.r20_23, h.r20_25, rf_20 h, ra_21 h, ra_22 h, ra_23 h, ra_24 h, ra_25 h, ra_26 h, ra_27 h, ra_28 h, ra_29 h, ra_30 h, ra_31 h, ra_32 h, ra_33 h, ra_34 h, ra_35 h, ra_36 h, ra_37 h, ra_38 h, ra_39 h, rl_50 h, ra_50 h, V_50, W_50, up_e, m_ref0 h, m_refw h, c_roomOf_o h (show ¬ (0 ≤ x' ∧ x' < nr) by omega)]
    · unfold f_Mo_open j_Mo_open_42
      simp (disch := omega) only [lt__e, bnd_e, bnd2_e, bnd3_e, el0_l, el0_r, el1_l, el1_r, el2_l, el2_r, ↓reduceIte, not_true_eq_false, not_false_eq_true, reduceCtorEq, and_true, true_and, and_false, false_and, or_true, true_or, or_false, false_or, and_self, or_self, ite_true, ite_false, Int.cast_ofNat_Int, Nat.reduceEqDiff, Nat.reduceLT, Int.reduceAdd, Int.reduceSub, Int.reduceMul, Int.reduceNeg, Int.reduceLT, Int.reduceLE, Int.reduceEq, ilt_t, ilt_f, ile_t, ile_f, ieq_t, ieq_f, z_0, z_1, z_2, z_3, z_4, z_5, z_6, z_7, z_8, z_9, z_10, z_12, z_20, z_40, z_80, z_81, z_99, z_100, z_200, z_400, z_3240, z_20000, z_100000, iz_add, iz_sub, iz_mul, iz_neg, iz_nat, iz_lt, iz_le, iz_eq, iz_div, iz_ite, iz_c, md10, md100, izcb_0, izcb_1, isOut_0, isNoCell_0, isGr_0, within_e, isCell_e, np_p, VV_r, VV_n, V_k, W_k, V_0, W_0, V_1, W_1, V_2, W_2, V_3, W_3, V_4, W_4, V_5, W_5, V_6, W_6, V_7, W_7, V_8, W_8, V_9, W_9, VV_r, VV_n, V_20, W_20, V_21, W_21, V_22, W_22, V_23, W_23, V_24, W_24, V_25, W_25, V_26, W_26, V_27, W_27, V_28, W_28, V_29, W_29, V_30, W_30, V_31, W_31, V_32, W_32, V_33, W_33, V_34, W_34, V_35, W_35, V_36, W_36, V_37, W_37, V_38, W_38, V_39, W_39, h.r0_0, h.r0_1, h.r0_2, h.r0_3, h.r0_4, h.r0_5, h.r1_0, h.r1_1, h.r1_2, h.r1_3, h.r12, rf_0 h, rf_1 h, rf_10 h, rf_11 h, rf_12 h, r6_i h, r6_o h, r7_i h, r7_o h, r8_i h, r8_o h, rl_13 h, ra_13 h, rl_2 h, ra_2 h, rl_3 h, ra_3 h, rl_4 h, ra_4 h, rl_5 h, ra_5 h, rl_6 h, ra_6 h, rl_7 h, ra_7 h, rl_8 h, ra_8 h, rl_9 h, ra_9 h, h.r20_2, h.r20_3, h.r20_5, h.r20_6, h.r20_8, h.r20_9, h.r20_10, h.r20_11, h.r20_12, h.r20_13, h.r20_14, h.r20_16, h.r20_18, h.r20_19, h.r20_20, h.r20_21, h.r20_22, h.r20_23, h.r20_25, rf_20 h, ra_21 h, ra_22 h, ra_23 h, ra_24 h, ra_25 h, ra_26 h, ra_27 h, ra_28 h, ra_29 h, ra_30 h, ra_31 h, ra_32 h, ra_33 h, ra_34 h, ra_35 h, ra_36 h, ra_37 h, ra_38 h, ra_39 h, rl_50 h, ra_50 h, V_50, W_50, up_e, m_ref0 h, m_refw h, c1, s24]
    · simp (disch := omega) only [up_e, lt__e, bnd_e, bnd2_e, bnd3_e, el0_l, el0_r, el1_l, el1_r, el2_l, el2_r, ↓reduceIte, not_true_eq_false, not_false_eq_true, reduceCtorEq, and_true, true_and, and_false, false_and, or_true, true_or, or_false, false_or, and_self, or_self, ite_true, ite_false, Int.cast_ofNat_Int, Nat.reduceEqDiff, Nat.reduceLT, Int.reduceAdd, Int.reduceSub, Int.reduceMul, Int.reduceNeg, Int.reduceLT, Int.reduceLE, Int.reduceEq, ilt_t, ilt_f, ile_t, ile_f, ieq_t, ieq_f]
theorem call_withdraw (g : GG a r n) {p' : Int} (q01 : -2147483648 ≤ p') (q02 : p' ≤ 2147483647) : ∃ k A1 A2, f_La_withdraw (some 0) (iz p') (VV a r n) = some (iz k, VV A1 r n) ∧ f_Mo_withdraw 20 (iz p') (VV A1 r n) = some (VV A2 r n) ∧ A2 20 0 0 = k ∧ (0 ≤ k ∧ k ≤ 3) ∧ GG A2 r n := by
  obtain ⟨nr, nm, np, h, hI, hMR⟩ := g
  have g : GG a r n := ⟨nr, nm, np, h, hI, hMR⟩
  have hI' := hI
  have hMR' := hMR
  obtain ⟨⟨⟨hnr, hnm, hnp⟩, hnow, hns⟩, hC, hD, hR, hMa, hP, hL⟩ := hI
  obtain ⟨hMC, hMRm, hMP, hMS⟩ := hMR
  obtain ⟨s1, s7, s15, s17, s24, s26, s27, s28, s32⟩ := hMS
  have hb := h.b
  have hcs := hC.1
  have hds := hD.1
  by_cases c1 : 0 ≤ p' ∧ p' < np
  · obtain ⟨w1, w2, w3, w4, w5, w6, w7⟩ := hP p' c1.1 c1.2
    obtain ⟨k1, k2, k3, k4⟩ := hMP.2.1 p' c1.1 c1.2
    by_cases c2 : a 12 6 p' = 0
    · have e1 := m_isPath (a := up (up a 12 6 p' 3) 11 5 (a 12 2 p') (-1)) (r := r) (n := n) (np := np) (by rw [up_t (by omega), up_t (by omega)]; exact s17) hb.2.2 (m := p') q01 q02
      have x33 : up (up (up a 12 6 p' 3) 11 5 (a 12 2 p') (-1)) 20 0 0 0 33 = a 33 := by rw [up_t (by omega), up_t (by omega), up_t (by omega)]
      have e2 := m_takeBack (a := up (up (up a 12 6 p' 3) 11 5 (a 12 2 p') (-1)) 20 0 0 0) h (p := p') (v := 3) c1.1 (by omega) (by rw [x33]; omega) (by rw [x33]; omega)
      rw [x33] at e2
      refine ⟨0, up (up a 12 6 p' 3) 11 5 (a 12 2 p') (-1), up (up (up (up (up a 12 6 p' 3) 11 5 (a 12 2 p') (-1)) 20 0 0 0) 37 p' 0 3) 30 (a 33 p' 0) 0 (-1), ?_, ?_, ?_, by omega, ?_⟩
      · unfold f_La_withdraw f_Sk_withdraw
        simp (disch := omega) only [lt__e, bnd_e, bnd2_e, bnd3_e, el0_l, el0_r, el1_l, el1_r, el2_l, el2_r, ↓reduceIte, not_true_eq_false, not_false_eq_true, reduceCtorEq, and_true, true_and, and_false, false_and, or_true, true_or, or_false, false_or, and_self, or_self, ite_true, ite_false, Int.cast_ofNat_Int, Nat.reduceEqDiff, Nat.reduceLT, Int.reduceAdd, Int.reduceSub, Int.reduceMul, Int.reduceNeg, Int.reduceLT, Int.reduceLE, Int.reduceEq, ilt_t, ilt_f, ile_t, ile_f, ieq_t, ieq_f, z_0, z_1, z_2, z_3, z_4, z_5, z_6, z_7, z_8, z_9, z_10, z_12, z_20, z_40, z_80, z_81, z_99, z_100, z_200, z_400, z_3240, z_20000, z_100000, iz_add, iz_sub, iz_mul, iz_neg, iz_nat, iz_lt, iz_le, iz_eq, iz_div, iz_ite, iz_c, md10, md100, izcb_0, izcb_1, isOut_0, isNoCell_0, isGr_0, within_e, isCell_e, np_p, VV_r, VV_n, V_k, W_k, V_0, W_0, V_1, W_1, V_2, W_2, V_3, W_3, V_4, W_4, V_5, W_5, V_6, W_6, V_7, W_7, V_8, W_8, V_9, W_9, VV_r, VV_n, V_20, W_20, V_21, W_21, V_22, W_22, V_23, W_23, V_24, W_24, V_25, W_25, V_26, W_26, V_27, W_27, V_28, W_28, V_29, W_29, V_30, W_30, V_31, W_31, V_32, W_32, V_33, W_33, V_34, W_34, V_35, W_35, V_36, W_36, V_37, W_37, V_38, W_38, V_39, W_39, h.r0_0, h.r0_1, h.r0_2, h.r0_3, h.r0_4, h.r0_5, h.r1_0, h.r1_1, h.r1_2, h.r1_3, h.r12, rf_0 h, rf_1 h, rf_10 h, rf_11 h, rf_12 h, r6_i h, r6_o h, r7_i h, r7_o h, r8_i h, r8_o h, rl_13 h, ra_13 h, rl_2 h, ra_2 h, rl_3 h, ra_3 h, rl_4 h, ra_4 h, rl_5 h, ra_5 h, rl_6 h, ra_6 h, rl_7 h, ra_7 h, rl_8 h, ra_8 h, rl_9 h, ra_9 h, h.r20_2, h.r20_3, h.r20_5, h.r20_6, h.r20_8, h.r20_9, h.r20_10, h.r20_11, h.r20_12, h.r20_13, h.r20_14, h.r20_16, h.r20_18, h.r20_19, h.r20_20, h.r20_21, h.r20_22, h.r20_23, h.r20_25, rf_20 h, ra_21 h, ra_22 h, ra_23 h, ra_24 h, ra_25 h, ra_26 h, ra_27 h, ra_28 h, ra_29 h, ra_30 h, ra_31 h, ra_32 h, ra_33 h, ra_34 h, ra_35 h, ra_36 h, ra_37 h, ra_38 h, ra_39 h, rl_50 h, ra_50 h, V_50, W_50, up_e, m_ref0 h, m_refw h, c_pathOf_i h, c2, c_finish h]
      · unfold f_Mo_withdraw j_Mo_withdraw_29
        simp (disch := omega) only [lt__e, bnd_e, bnd2_e, bnd3_e, el0_l, el0_r, el1_l, el1_r, el2_l, el2_r, ↓reduceIte, not_true_eq_false, not_false_eq_true, reduceCtorEq, and_true, true_and, and_false, false_and, or_true, true_or, or_false, false_or, and_self, or_self, ite_true, ite_false, Int.cast_ofNat_Int, Nat.reduceEqDiff, Nat.reduceLT, Int.reduceAdd, Int.reduceSub, Int.reduceMul, Int.reduceNeg, Int.reduceLT, Int.reduceLE, Int.reduceEq, ilt_t, ilt_f, ile_t, ile_f, ieq_t, ieq_f, z_0, z_1, z_2, z_3, z_4, z_5, z_6, z_7, z_8, z_9, z_10, z_12, z_20, z_40, z_80, z_81, z_99, z_100, z_200, z_400, z_3240, z_20000, z_100000, iz_add, iz_sub, iz_mul, iz_neg, iz_nat, iz_lt, iz_le, iz_eq, iz_div, iz_ite, iz_c, md10, md100, izcb_0, izcb_1, isOut_0, isNoCell_0, isGr_0, within_e, isCell_e, np_p, e1, c1, m_ref0 h, rf_20 h, VV_r, VV_n, V_20, W_20, V_21, W_21, V_22, W_22, V_23, W_23, V_24, W_24, V_25, W_25, V_26, W_26, V_27, W_27, V_28, W_28, V_29, W_29, V_30, W_30, V_31, W_31, V_32, W_32, V_33, W_33, V_34, W_34, V_35, W_35, V_36, W_36, V_37, W_37, V_38, W_38, V_39, W_39, h.r20_22, ra_37 h, up_e, k4, c2, e2]
      · simp (disch := omega) only [up_e, lt__e, bnd_e, bnd2_e, bnd3_e, el0_l, el0_r, el1_l, el1_r, el2_l, el2_r, ↓reduceIte, not_true_eq_false, not_false_eq_true, reduceCtorEq, and_true, true_and, and_false, false_and, or_true, true_or, or_false, false_or, and_self, or_self, ite_true, ite_false, Int.cast_ofNat_Int, Nat.reduceEqDiff, Nat.reduceLT, Int.reduceAdd, Int.reduceSub, Int.reduceMul, Int.reduceNeg, Int.reduceLT, Int.reduceLE, Int.reduceEq, ilt_t, ilt_f, ile_t, ile_f, ieq_t, ieq_f]
      · have hF := CI_fin (a := a) (v := 3) (P := fun q => q = p') (by omega) hI' (fun p _ _ y => by rw [y]; exact c2)
        rw [← fin_1 c1.1 c1.2] at hF
        have hX : MP (up (up (up a 12 6 p' 3) 11 5 (a 12 2 p') (-1)) 20 0 0 0) a nm np := MP_cc (fun t t1 t2 _ => by rw [up_t (by omega), up_t (by omega), up_t (by omega)]) (fun _ _ _ => rfl) hMP
        have hY := MP_fin (v := 3) hX c1.1 c1.2 w5.1 w5.2
        rw [x33] at hY
        refine GG_of h hF (fun t t1 => ?_) ?_ ?_ hY ?_
        · simp (disch := omega) only [up_t]
        · refine MC_c2 (fun t t1 t2 => ?_) ?_ (fun t t1 t2 => ?_) hMC
          · simp (disch := omega) only [up_t]
          · simp (disch := omega) only [up_e, lt__e, bnd_e, bnd2_e, bnd3_e, el0_l, el0_r, el1_l, el1_r, el2_l, el2_r, ↓reduceIte, not_true_eq_false, not_false_eq_true, reduceCtorEq, and_true, true_and, and_false, false_and, or_true, true_or, or_false, false_or, and_self, or_self, ite_true, ite_false, Int.cast_ofNat_Int, Nat.reduceEqDiff, Nat.reduceLT, Int.reduceAdd, Int.reduceSub, Int.reduceMul, Int.reduceNeg, Int.reduceLT, Int.reduceLE, Int.reduceEq, ilt_t, ilt_f, ile_t, ile_f, ieq_t, ieq_f]
          · simp (disch := omega) only [up_t]
        · refine MRm_c ?_ ?_ hMRm
          · simp (disch := omega) only [up_t]
          · simp (disch := omega) only [up_t]
        · refine MSc_c (fun j j1 => ?_) ?_ ?_ ?_ hMR'.2.2.2
          · simp (disch := omega) only [up_e, lt__e, bnd_e, bnd2_e, bnd3_e, el0_l, el0_r, el1_l, el1_r, el2_l, el2_r, ↓reduceIte, not_true_eq_false, not_false_eq_true, reduceCtorEq, and_true, true_and, and_false, false_and, or_true, true_or, or_false, false_or, and_self, or_self, ite_true, ite_false, Int.cast_ofNat_Int, Nat.reduceEqDiff, Nat.reduceLT, Int.reduceAdd, Int.reduceSub, Int.reduceMul, Int.reduceNeg, Int.reduceLT, Int.reduceLE, Int.reduceEq, ilt_t, ilt_f, ile_t, ile_f, ieq_t, ieq_f]
          · simp (disch := omega) only [up_t]
          · simp (disch := omega) only [up_t]
          · simp (disch := omega) only [up_t]
    · have e1 := m_isPath (a := a) (r := r) (n := n) (np := np) s17 hb.2.2 (m := p') q01 q02
      refine ⟨2, a, up a 20 0 0 2, ?_, ?_, ?_, by omega, GG_r g _⟩
      · unfold f_La_withdraw f_Sk_withdraw
        simp (disch := omega) only [lt__e, bnd_e, bnd2_e, bnd3_e, el0_l, el0_r, el1_l, el1_r, el2_l, el2_r, ↓reduceIte, not_true_eq_false, not_false_eq_true, reduceCtorEq, and_true, true_and, and_false, false_and, or_true, true_or, or_false, false_or, and_self, or_self, ite_true, ite_false, Int.cast_ofNat_Int, Nat.reduceEqDiff, Nat.reduceLT, Int.reduceAdd, Int.reduceSub, Int.reduceMul, Int.reduceNeg, Int.reduceLT, Int.reduceLE, Int.reduceEq, ilt_t, ilt_f, ile_t, ile_f, ieq_t, ieq_f, z_0, z_1, z_2, z_3, z_4, z_5, z_6, z_7, z_8, z_9, z_10, z_12, z_20, z_40, z_80, z_81, z_99, z_100, z_200, z_400, z_3240, z_20000, z_100000, iz_add, iz_sub, iz_mul, iz_neg, iz_nat, iz_lt, iz_le, iz_eq, iz_div, iz_ite, iz_c, md10, md100, izcb_0, izcb_1, isOut_0, isNoCell_0, isGr_0, within_e, isCell_e, np_p, VV_r, VV_n, V_k, W_k, V_0, W_0, V_1, W_1, V_2, W_2, V_3, W_3, V_4, W_4, V_5, W_5, V_6, W_6, V_7, W_7, V_8, W_8, V_9, W_9, VV_r, VV_n, V_20, W_20, V_21, W_21, V_22, W_22, V_23, W_23, V_24, W_24, V_25, W_25, V_26, W_26, V_27, W_27, V_28, W_28, V_29, W_29, V_30, W_30, V_31, W_31, V_32, W_32, V_33, W_33, V_34, W_34, V_35, W_35, V_36, W_36, V_37, W_37, V_38, W_38, V_39, W_39, h.r0_0, h.r0_1, h.r0_2, h.r0_3, h.r0_4, h.r0_5, h.r1_0, h.r1_1, h.r1_2, h.r1_3, h.r12, rf_0 h, rf_1 h, rf_10 h, rf_11 h, rf_12 h, r6_i h, r6_o h, r7_i h, r7_o h, r8_i h, r8_o h, rl_13 h, ra_13 h, rl_2 h, ra_2 h, rl_3 h, ra_3 h, rl_4 h, ra_4 h, rl_5 h, ra_5 h, rl_6 h, ra_6 h, rl_7 h, ra_7 h, rl_8 h, ra_8 h, rl_9 h, ra_9 h, h.r20_2, h.r20_3, h.r20_5, h.r20_6, h.r20_8, h.r20_9, h.r20_10, h.r20_11, h.r20_12, h.r20_13, h.r20_14, h.r20_16, h.r20_18, h.r20_19, h.r20_20, h.r20_21, h.r20_22, h.r20_23, h.r20_25, rf_20 h, ra_21 h, ra_22 h, ra_23 h, ra_24 h, ra_25 h, ra_26 h, ra_27 h, ra_28 h, ra_29 h, ra_30 h, ra_31 h, ra_32 h, ra_33 h, ra_34 h, ra_35 h, ra_36 h, ra_37 h, ra_38 h, ra_39 h, rl_50 h, ra_50 h, V_50, W_50, up_e, m_ref0 h, m_refw h, c_pathOf_i h, c2]
      · unfold f_Mo_withdraw j_Mo_withdraw_29
        simp (disch := omega) only [lt__e, bnd_e, bnd2_e, bnd3_e, el0_l, el0_r, el1_l, el1_r, el2_l, el2_r, ↓reduceIte, not_true_eq_false, not_false_eq_true, reduceCtorEq, and_true, true_and, and_false, false_and, or_true, true_or, or_false, false_or, and_self, or_self, ite_true, ite_false, Int.cast_ofNat_Int, Nat.reduceEqDiff, Nat.reduceLT, Int.reduceAdd, Int.reduceSub, Int.reduceMul, Int.reduceNeg, Int.reduceLT, Int.reduceLE, Int.reduceEq, ilt_t, ilt_f, ile_t, ile_f, ieq_t, ieq_f, z_0, z_1, z_2, z_3, z_4, z_5, z_6, z_7, z_8, z_9, z_10, z_12, z_20, z_40, z_80, z_81, z_99, z_100, z_200, z_400, z_3240, z_20000, z_100000, iz_add, iz_sub, iz_mul, iz_neg, iz_nat, iz_lt, iz_le, iz_eq, iz_div, iz_ite, iz_c, md10, md100, izcb_0, izcb_1, isOut_0, isNoCell_0, isGr_0, within_e, isCell_e, np_p, VV_r, VV_n, V_k, W_k, V_0, W_0, V_1, W_1, V_2, W_2, V_3, W_3, V_4, W_4, V_5, W_5, V_6, W_6, V_7, W_7, V_8, W_8, V_9, W_9, VV_r, VV_n, V_20, W_20, V_21, W_21, V_22, W_22, V_23, W_23, V_24, W_24, V_25, W_25, V_26, W_26, V_27, W_27, V_28, W_28, V_29, W_29, V_30, W_30, V_31, W_31, V_32, W_32, V_33, W_33, V_34, W_34, V_35, W_35, V_36, W_36, V_37, W_37, V_38, W_38, V_39, W_39, h.r0_0, h.r0_1, h.r0_2, h.r0_3, h.r0_4, h.r0_5, h.r1_0, h.r1_1, h.r1_2, h.r1_3, h.r12, rf_0 h, rf_1 h, rf_10 h, rf_11 h, rf_12 h, r6_i h, r6_o h, r7_i h, r7_o h, r8_i h, r8_o h, rl_13 h, ra_13 h, rl_2 h, ra_2 h, rl_3 h, ra_3 h, rl_4 h, ra_4 h, rl_5 h, ra_5 h, rl_6 h, ra_6 h, rl_7 h, ra_7 h, rl_8 h, ra_8 h, rl_9 h, ra_9 h, h.r20_2, h.r20_3, h.r20_5, h.r20_6, h.r20_8, h.r20_9, h.r20_10, h.r20_11, h.r20_12, h.r20_13, h.r20_14, h.r20_16, h.r20_18, h.r20_19, h.r20_20, h.r20_21, h.r20_22, h.r20_23, h.r20_25, rf_20 h, ra_21 h, ra_22 h, ra_23 h, ra_24 h, ra_25 h, ra_26 h, ra_27 h, ra_28 h, ra_29 h, ra_30 h, ra_31 h, ra_32 h, ra_33 h, ra_34 h, ra_35 h, ra_36 h, ra_37 h, ra_38 h, ra_39 h, rl_50 h, ra_50 h, V_50, W_50, up_e, m_ref0 h, m_refw h, e1, c1, k4, c2]
      · simp (disch := omega) only [up_e, lt__e, bnd_e, bnd2_e, bnd3_e, el0_l, el0_r, el1_l, el1_r, el2_l, el2_r, ↓reduceIte, not_true_eq_false, not_false_eq_true, reduceCtorEq, and_true, true_and, and_false, false_and, or_true, true_or, or_false, false_or, and_self, or_self, ite_true, ite_false, Int.cast_ofNat_Int, Nat.reduceEqDiff, Nat.reduceLT, Int.reduceAdd, Int.reduceSub, Int.reduceMul, Int.reduceNeg, Int.reduceLT, Int.reduceLE, Int.reduceEq, ilt_t, ilt_f, ile_t, ile_f, ieq_t, ieq_f]
  · have e1 := m_isPath (a := a) (r := r) (n := n) (np := np) s17 hb.2.2 (m := p') q01 q02
    refine ⟨1, a, up a 20 0 0 1, ?_, ?_, ?_, by omega, GG_r g _⟩
    · unfold f_La_withdraw f_Sk_withdraw
      simp (disch := omega) only [lt__e, bnd_e, bnd2_e, bnd3_e, el0_l, el0_r, el1_l, el1_r, el2_l, el2_r, ↓reduceIte, not_true_eq_false, not_false_eq_true, reduceCtorEq, and_true, true_and, and_false, false_and, or_true, true_or, or_false, false_or, and_self, or_self, ite_true, ite_false, Int.cast_ofNat_Int, Nat.reduceEqDiff, Nat.reduceLT, Int.reduceAdd, Int.reduceSub, Int.reduceMul, Int.reduceNeg, Int.reduceLT, Int.reduceLE, Int.reduceEq, ilt_t, ilt_f, ile_t, ile_f, ieq_t, ieq_f, z_0, z_1, z_2, z_3, z_4, z_5, z_6, z_7, z_8, z_9, z_10, z_12, z_20, z_40, z_80, z_81, z_99, z_100, z_200, z_400, z_3240, z_20000, z_100000, iz_add, iz_sub, iz_mul, iz_neg, iz_nat, iz_lt, iz_le, iz_eq, iz_div, iz_ite, iz_c, md10, md100, izcb_0, izcb_1, isOut_0, isNoCell_0, isGr_0, within_e, isCell_e, np_p, VV_r, VV_n, V_k, W_k, V_0, W_0, V_1, W_1, V_2, W_2, V_3, W_3, V_4, W_4, V_5, W_5, V_6, W_6, V_7, W_7, V_8, W_8, V_9, W_9, VV_r, VV_n, V_20, W_20, V_21, W_21, V_22, W_22, V_23, W_23, V_24, W_24, V_25, W_25, V_26, W_26, V_27, W_27, V_28, W_28, V_29, W_29, V_30, W_30, V_31, W_31, V_32, W_32, V_33, W_33, V_34, W_34, V_35, W_35, V_36, W_36, V_37, W_37, V_38, W_38, V_39, W_39, h.r0_0, h.r0_1, h.r0_2, h.r0_3, h.r0_4, h.r0_5, h.r1_0, h.r1_1, h.r1_2, h.r1_3, h.r12, rf_0 h, rf_1 h, rf_10 h, rf_11 h, rf_12 h, r6_i h, r6_o h, r7_i h, r7_o h, r8_i h, r8_o h, rl_13 h, ra_13 h, rl_2 h, ra_2 h, rl_3 h, ra_3 h, rl_4 h, ra_4 h, rl_5 h, ra_5 h, rl_6 h, ra_6 h, rl_7 h, ra_7 h, rl_8 h, ra_8 h, rl_9 h, ra_9 h, h.r20_2, h.r20_3, h.r20_5, h.r20_6, h.r20_8, h.r20_9, h.r20_10, h.r20_11, h.r20_12, h.r20_13, h.r20_14, h.r20_16, h.r20_18, h.r20_19, h.r20_20, h.r20_21, h.r20_22, h.r20_23, h.r20_25, rf_20 h, ra_21 h, ra_22 h, ra_23 h, ra_24 h, ra_25 h, ra_26 h, ra_27 h, ra_28 h, ra_29 h, ra_30 h, ra_31 h, ra_32 h, ra_33 h, ra_34 h, ra_35 h, ra_36 h, ra_37 h, ra_38 h, ra_39 h, rl_50 h, ra_50 h, V_50, W_50, up_e, m_ref0 h, m_refw h, c_pathOf_o h c1]
    · unfold f_Mo_withdraw j_Mo_withdraw_29
      simp (disch := omega) only [lt__e, bnd_e, bnd2_e, bnd3_e, el0_l, el0_r, el1_l, el1_r, el2_l, el2_r, ↓reduceIte, not_true_eq_false, not_false_eq_true, reduceCtorEq, and_true, true_and, and_false, false_and, or_true, true_or, or_false, false_or, and_self, or_self, ite_true, ite_false, Int.cast_ofNat_Int, Nat.reduceEqDiff, Nat.reduceLT, Int.reduceAdd, Int.reduceSub, Int.reduceMul, Int.reduceNeg, Int.reduceLT, Int.reduceLE, Int.reduceEq, ilt_t, ilt_f, ile_t, ile_f, ieq_t, ieq_f, z_0, z_1, z_2, z_3, z_4, z_5, z_6, z_7, z_8, z_9, z_10, z_12, z_20, z_40, z_80, z_81, z_99, z_100, z_200, z_400, z_3240, z_20000, z_100000, iz_add, iz_sub, iz_mul, iz_neg, iz_nat, iz_lt, iz_le, iz_eq, iz_div, iz_ite, iz_c, md10, md100, izcb_0, izcb_1, isOut_0, isNoCell_0, isGr_0, within_e, isCell_e, np_p, VV_r, VV_n, V_k, W_k, V_0, W_0, V_1, W_1, V_2, W_2, V_3, W_3, V_4, W_4, V_5, W_5, V_6, W_6, V_7, W_7, V_8, W_8, V_9, W_9, VV_r, VV_n, V_20, W_20, V_21, W_21, V_22, W_22, V_23, W_23, V_24, W_24, V_25, W_25, V_26, W_26, V_27, W_27, V_28, W_28, V_29, W_29, V_30, W_30, V_31, W_31, V_32, W_32, V_33, W_33, V_34, W_34, V_35, W_35, V_36, W_36, V_37, W_37, V_38, W_38, V_39, W_39, h.r0_0, h.r0_1, h.r0_2, h.r0_3, h.r0_4, h.r0_5, h.r1_0, h.r1_1, h.r1_2, h.r1_3, h.r12, rf_0 h, rf_1 h, rf_10 h, rf_11 h, rf_12 h, r6_i h, r6_o h, r7_i h, r7_o h, r8_i h, r8_o h, rl_13 h, ra_13 h, rl_2 h, ra_2 h, rl_3 h, ra_3 h, rl_4 h, ra_4 h, rl_5 h, ra_5 h, rl_6 h, ra_6 h, rl_7 h, ra_7 h, rl_8 h, ra_8 h, rl_9 h, ra_9 h, h.r20_2, h.r20_3, h.r20_5, h.r20_6, h.r20_8, h.r20_9, h.r20_10, h.r20_11, h.r20_12, h.r20_13, h.r20_14, h.r20_16, h.r20_18, h.r20_19, h.r20_20, h.r20_21, h.r20_22, h.r20_23, h.r20_25, rf_20 h, ra_21 h, ra_22 h, ra_23 h, ra_24 h, ra_25 h, ra_26 h, ra_27 h, ra_28 h, ra_29 h, ra_30 h, ra_31 h, ra_32 h, ra_33 h, ra_34 h, ra_35 h, ra_36 h, ra_37 h, ra_38 h, ra_39 h, rl_50 h, ra_50 h, V_50, W_50, up_e, m_ref0 h, m_refw h, e1, c1]
    · simp (disch := omega) only [up_e, lt__e, bnd_e, bnd2_e, bnd3_e, el0_l, el0_r, el1_l, el1_r, el2_l, el2_r, ↓reduceIte, not_true_eq_false, not_false_eq_true, reduceCtorEq, and_true, true_and, and_false, false_and, or_true, true_or, or_false, false_or, and_self, or_self, ite_true, ite_false, Int.cast_ofNat_Int, Nat.reduceEqDiff, Nat.reduceLT, Int.reduceAdd, Int.reduceSub, Int.reduceMul, Int.reduceNeg, Int.reduceLT, Int.reduceLE, Int.reduceEq, ilt_t, ilt_f, ile_t, ile_f, ieq_t, ieq_f]
end C4
