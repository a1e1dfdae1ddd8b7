/-! file -/
section C10
variable {a A B T c c' b b' : AT} {r : Nat → Nat → Option Nat} {n : Nat → Nat} {nr nm np nq : Int}
theorem Vd0 {q m cz : Int} (h : Vd T A nr q m 0 cz) : T 11 4 m = 0 ∧ T 11 5 m = -1 ∧ lay_ T (T 11 3 m) = -1 ∧ Laid A T q (T 11 3 m) := by
  rcases h with ⟨_, h, _⟩ | ⟨c1, ⟨_, h, _⟩ | ⟨c2, ⟨_, h, _⟩ | ⟨c3, ⟨_, h, _⟩ | ⟨c4, hL, h⟩⟩⟩⟩
  · omega
  · omega
  · omega
  · omega
  · exact ⟨c1, c2, c4, hL⟩
theorem m_file_t {m t u : Int} (x : Int32) (h : a 20 1 0 = m) (hm : 0 ≤ m ∧ m ≤ 20000) (q11 : -2147483648 ≤ t) (q12 : t ≤ 2147483647) (q21 : -2147483648 ≤ u) (q22 : u ≤ 2147483647) :
    f_Mo_file 20 x (iz t) (iz u) (VV a r n) = j_Mo_file_35 20 x (iz t) (iz u) (iz (cb ((0 ≤ u ∧ u ≤ 3) ∧ (m + 1 ≤ t ∧ t ≤ m + 200)))) (VV a r n) := by
  unfold f_Mo_file j_Mo_file_34
  by_cases d1 : 0 ≤ u ∧ u ≤ 3
  · by_cases d2 : m + 1 ≤ t ∧ t ≤ m + 200
    · rw [cb_t ⟨d1, d2⟩]
      simp (disch := omega) only [lt__e, bnd_e, bnd2_e, bnd3_e, el0_l, el0_r, el1_l, el1_r, el2_l, el2_r, ↓reduceIte, not_true_eq_false, not_false_eq_true, reduceCtorEq, and_true, true_and, and_false, false_and, or_true, true_or, or_false, false_or, and_self, or_self, ite_true, ite_false, Int.cast_ofNat_Int, Nat.reduceEqDiff, Nat.reduceLT, Int.reduceAdd, Int.reduceSub, Int.reduceMul, Int.reduceNeg, Int.reduceLT, Int.reduceLE, Int.reduceEq, ilt_t, ilt_f, ile_t, ile_f, ieq_t, ieq_f, z_0, z_1, z_2, z_3, z_4, z_5, z_6, z_7, z_8, z_9, z_10, z_12, z_20, z_40, z_80, z_81, z_99, z_100, z_200, z_400, z_3240, z_20000, z_100000, iz_add, iz_sub, iz_mul, iz_neg, iz_nat, iz_lt, iz_le, iz_eq, iz_div, iz_ite, iz_c, md10, md100, izcb_0, izcb_1, isOut_0, isNoCell_0, isGr_0, within_e, isCell_e, np_p, V_20, h, d1, d2]
    · rw [cb_f (fun q => d2 q.2)]
      simp (disch := omega) only [lt__e, bnd_e, bnd2_e, bnd3_e, el0_l, el0_r, el1_l, el1_r, el2_l, el2_r, ↓reduceIte, not_true_eq_false, not_false_eq_true, reduceCtorEq, and_true, true_and, and_false, false_and, or_true, true_or, or_false, false_or, and_self, or_self, ite_true, ite_false, Int.cast_ofNat_Int, Nat.reduceEqDiff, Nat.reduceLT, Int.reduceAdd, Int.reduceSub, Int.reduceMul, Int.reduceNeg, Int.reduceLT, Int.reduceLE, Int.reduceEq, ilt_t, ilt_f, ile_t, ile_f, ieq_t, ieq_f, z_0, z_1, z_2, z_3, z_4, z_5, z_6, z_7, z_8, z_9, z_10, z_12, z_20, z_40, z_80, z_81, z_99, z_100, z_200, z_400, z_3240, z_20000, z_100000, iz_add, iz_sub, iz_mul, iz_neg, iz_nat, iz_lt, iz_le, iz_eq, iz_div, iz_ite, iz_c, md10, md100, izcb_0, izcb_1, isOut_0, isNoCell_0, isGr_0, within_e, isCell_e, np_p, V_20, h, d1, d2]
  · rw [cb_f (fun q => d1 q.1)]
    simp (disch := omega) only [lt__e, bnd_e, bnd2_e, bnd3_e, el0_l, el0_r, el1_l, el1_r, el2_l, el2_r, ↓reduceIte, not_true_eq_false, not_false_eq_true, reduceCtorEq, and_true, true_and, and_false, false_and, or_true, true_or, or_false, false_or, and_self, or_self, ite_true, ite_false, Int.cast_ofNat_Int, Nat.reduceEqDiff, Nat.reduceLT, Int.reduceAdd, Int.reduceSub, Int.reduceMul, Int.reduceNeg, Int.reduceLT, Int.reduceLE, Int.reduceEq, ilt_t, ilt_f, ile_t, ile_f, ieq_t, ieq_f, z_0, z_1, z_2, z_3, z_4, z_5, z_6, z_7, z_8, z_9, z_10, z_12, z_20, z_40, z_80, z_81, z_99, z_100, z_200, z_400, z_3240, z_20000, z_100000, iz_add, iz_sub, iz_mul, iz_neg, iz_nat, iz_lt, iz_le, iz_eq, iz_div, iz_ite, iz_c, md10, md100, izcb_0, izcb_1, isOut_0, isNoCell_0, isGr_0, within_e, isCell_e, np_p, d1]
theorem acc_t {m : Int} {t : Nat} (h0 : t ≠ 0) (h1 : t ≠ 11) (h2 : t ≠ 12) (h3 : t ≠ 13) : acc A np m t = A t := by
  unfold acc
  rw [zr_t h3, zr_t h2, up_t h0, up_t h1, up_t h2, up_t h0, fin_o h1 h2]
theorem acc_0 {m j : Int} (h8 : j ≠ 8) (h9 : j ≠ 9) : acc A np m 0 j 0 = A 0 j 0 := by
  unfold acc
  rw [zr_t (by omega), zr_t (by omega), up_s, if_neg (by omega), up_t (by omega), up_t (by omega), up_s, if_neg (by omega), fin_o (by omega) (by omega)]
theorem acc_08 {m : Int} : acc A np m 0 8 0 = np + 1 := by
  unfold acc
  rw [zr_t (by omega), zr_t (by omega), up_s, if_neg (by omega), up_t (by omega), up_t (by omega), up_s, if_pos ⟨rfl, rfl⟩]
theorem acc_09 {m : Int} : acc A np m 0 9 0 = 0 := by
  unfold acc
  rw [zr_t (by omega), zr_t (by omega), up_s, if_pos ⟨rfl, rfl⟩]
theorem acc_11 {m j i : Int} (h : ¬ (j = 5 ∧ i = m)) : acc A np m 11 j i = fin_ A np 3 (fun q => A 12 6 q = 0 ∧ mt A np q 0) 11 j i := by
  unfold acc
  rw [zr_t (by omega), zr_t (by omega), up_t (by omega), up_s, if_neg h, up_t (by omega), up_t (by omega)]
theorem acc_115 {m : Int} : acc A np m 11 5 m = np := by
  unfold acc
  rw [zr_t (by omega), zr_t (by omega), up_t (by omega), up_s, if_pos ⟨rfl, rfl⟩]
theorem acc_12 {m j p : Int} (hp : p ≤ np) (h : ¬ (j = 6 ∧ p = np)) : acc A np m 12 j p = fin_ A np 3 (fun q => A 12 6 q = 0 ∧ mt A np q 0) 12 j p := by
  unfold acc
  rw [zr_t (by omega), zr_e, if_neg (by omega), up_t (by omega), up_t (by omega), up_s, if_neg h, up_t (by omega)]
theorem acc_126 {m : Int} : acc A np m 12 6 np = 0 := by
  unfold acc
  rw [zr_t (by omega), zr_e, if_neg (by omega), up_t (by omega), up_t (by omega), up_s, if_pos ⟨rfl, rfl⟩]
theorem acc_13 {m k p : Int} (hp : p ≤ np) : acc A np m 13 k p = A 13 k p := by
  unfold acc
  rw [zr_e, if_neg (by omega), zr_t (by omega), up_t (by omega), up_t (by omega), up_t (by omega), up_t (by omega), fin_o (by omega) (by omega)]
theorem CI_acc {m : Int} (hI : CI A nr nm np) (hp : 0 ≤ np ∧ np < 40) (m1 : 0 ≤ m) (m2 : m < nm) (hw : PW A np) (ht : 1 ≤ A 12 3 np ∧ A 12 3 np ≤ 20200) (hd : 1 ≤ A 12 4 np) (h1 : A 12 1 np = np) (h2 : A 12 2 np = m) (h5 : 0 ≤ A 12 5 np ∧ A 12 5 np ≤ 3)
    (hst : A 11 4 m = 0) (hpa : A 11 5 m = -1) (hg : A 13 (A 12 4 np) np < 100) (hn : A 0 10 0 < A 12 3 np) (hpl : A 11 3 m = A 13 0 np) : CI (acc A np m) nr nm (np + 1) := by
  have hF := CI_fin (a := A) (v := 3) (P := fun q => A 12 6 q = 0 ∧ mt A np q 0) (by omega) hI (fun p _ _ y => y.1)
  have f12 : ∀ j p, j ≠ 6 → fin_ A np 3 (fun q => A 12 6 q = 0 ∧ mt A np q 0) 12 j p = A 12 j p := fun j p hj => fin_12 hj p
  have f11 : ∀ j p, j ≠ 5 → fin_ A np 3 (fun q => A 12 6 q = 0 ∧ mt A np q 0) 11 j p = A 11 j p := fun j p hj => fin_11 hj p
  have fm : fin_ A np 3 (fun q => A 12 6 q = 0 ∧ mt A np q 0) 11 5 m = -1 := by
    unfold fin_
    rw [if_neg (fun z => absurd z.1 (by omega))]
    split
    · rfl
    · exact hpa
  obtain ⟨k1, k2, k3, k4, k5, k6, k7⟩ := hI
  obtain ⟨l1, l2, l3, l4, l5, l6, l7⟩ := hF
  have e13 : ∀ k p, p ≤ np → acc A np m 13 k p = A 13 k p := fun k p hp => acc_13 hp
  have eF13 : fin_ A np 3 (fun q => A 12 6 q = 0 ∧ mt A np q 0) 13 = A 13 := fin_o (by omega) (by omega)
  have eF0 : fin_ A np 3 (fun q => A 12 6 q = 0 ∧ mt A np q 0) 0 = A 0 := fin_o (by omega) (by omega)
  have g12 : ∀ j p, p ≤ np → j ≠ 6 → acc A np m 12 j p = A 12 j p := fun j p hp hj => by rw [acc_12 hp (by omega), f12 j p hj]
  have g11 : ∀ j i, j ≠ 5 → acc A np m 11 j i = A 11 j i := fun j i hj => by rw [acc_11 (by omega), f11 j i hj]
  have g10 : acc A np m 0 10 0 = A 0 10 0 := acc_0 (by omega) (by omega)
  have st := k5 m m1 m2
  have stL := (k7.1 m m1 m2).1 hst
  refine ⟨⟨⟨?_, ?_, acc_08⟩, ?_, ?_⟩, CC_c (fun t t1 t2 => acc_t (by omega) (by omega) (by omega) (by omega)) k2, ⟨?_, fun k j1 j2 => ?_⟩, CRm_c2 (acc_t (by omega) (by omega) (by omega) (by omega)) k4, fun i i1 i2 => ?_, fun p p1 p2 => ?_, fun i i1 i2 => ?_, fun p p1 p2 => ?_⟩
  · rw [acc_0 (by omega) (by omega)]; exact k1.1.1
  · rw [acc_0 (by omega) (by omega)]; exact k1.1.2.1
  · rw [g10]; exact k1.2.1
  · rw [acc_t (by omega) (by omega) (by omega) (by omega)]; exact k1.2.2
  · rw [acc_09]; omega
  · rw [acc_09] at j2; omega
  · have x := l5 i i1 i2
    simp (disch := omega) only [f11] at x
    simp (disch := omega) only [g11]
    refine ⟨x.1, x.2.1, x.2.2.1, x.2.2.2.1, x.2.2.2.2.1, ?_, x.2.2.2.2.2.2⟩
    by_cases e : i = m
    · rw [e, acc_115]; omega
    · rw [acc_11 (by omega)]; have := x.2.2.2.2.2.1; omega
  · by_cases e : p = np
    · subst e
      refine ⟨PW_c (a := acc A p m) (b := A) ⟨g12 3 p (by omega) (by omega), g12 4 p (by omega) (by omega), fun k => e13 k p (by omega)⟩ hw, ?_, ?_, ?_, ?_, ?_, ?_⟩
      · rw [g12 3 p (by omega) (by omega)]; exact ht
      · rw [g12 4 p (by omega) (by omega)]; exact hd
      · rw [g12 1 p (by omega) (by omega)]; exact h1
      · rw [g12 2 p (by omega) (by omega)]; omega
      · rw [g12 5 p (by omega) (by omega)]; exact h5
      · rw [acc_126]; omega
    · obtain ⟨w1, w2, w3, w4, w5, w6, w7⟩ := l6 p p1 (by omega)
      simp (disch := omega) only [f12] at w2 w3 w4 w5 w6
      obtain ⟨y1, -⟩ := k6 p p1 (by omega)
      refine ⟨PW_c (a := acc A np m) (b := A) ⟨g12 3 p (by omega) (by omega), g12 4 p (by omega) (by omega), fun k => e13 k p (by omega)⟩ y1, ?_, ?_, ?_, ?_, ?_, ?_⟩
      · rw [g12 3 p (by omega) (by omega)]; exact w2
      · rw [g12 4 p (by omega) (by omega)]; exact w3
      · rw [g12 1 p (by omega) (by omega)]; exact w4
      · rw [g12 2 p (by omega) (by omega)]; exact w5
      · rw [g12 5 p (by omega) (by omega)]; exact w6
      · rw [acc_12 (by omega) (by omega)]; exact w7
  · by_cases e : i = m
    · subst e
      unfold CL1
      rw [acc_115]
      simp (disch := omega) only [g11, g12, acc_126, h2]
      exact ⟨fun _ => ⟨stL.1, stL.2.1, fun _ => ⟨trivial, trivial⟩⟩, fun z => by omega, fun z => by omega, fun z => by omega⟩
    · have x := l7.1 i i1 i2
      have xb := (l5 i i1 i2).2.2.2.2.2.1
      unfold CL1 at x ⊢
      rw [acc_11 (j := 5) (by omega), acc_12 (j := 6) (by omega) (by omega), e13 _ _ (by omega)]
      rw [eF0, eF13] at x
      simp (disch := omega) only [g11, g12, g10]
      simp (disch := omega) only [f11, f12] at x
      exact x
  · by_cases e : p = np
    · subst e
      unfold CL2
      simp (disch := omega) only [g12, g10, g11, e13, acc_126, h2, acc_115]
      exact ⟨hg, fun _ => ⟨hn, hst, trivial, hpl⟩⟩
    · have x := l7.2 p p1 (by omega)
      unfold CL2 at x ⊢
      rw [acc_12 (j := 6) (by omega) (by omega)]
      rw [eF0, eF13] at x
      simp (disch := omega) only [f11, f12] at x
      simp (disch := omega) only [g11, g12, g10, e13]
      refine ⟨x.1, fun z => ?_⟩
      have y := x.2 z
      have e2 : A 12 2 p ≠ m := fun e2 => by rw [e2, fm] at y; omega
      rw [acc_11 (by omega)]
      exact y
theorem call_file (g : GG a r n) {m' t' u' : Int} (q01 : -2147483648 ≤ m') (q02 : m' ≤ 2147483647) (q11 : -2147483648 ≤ t') (q12 : t' ≤ 2147483647) (q21 : -2147483648 ≤ u') (q22 : u' ≤ 2147483647) : ∃ k z A1 A2 r' n', f_La_file (some 0) (iz m') (iz t') (iz u') (some 50) (VV a r n) = some (iz k, VV A1 r' n') ∧ f_Mo_file 20 (iz m') (iz t') (iz u') (VV A1 r' n') = some (iz z, VV A2 r' n') ∧ A2 20 0 0 = k ∧ (k = 0 → A2 50 0 0 = z) ∧ (0 ≤ k ∧ k ≤ 3) ∧ GG A2 r' n' := by
  obtain ⟨nr, nm, np, h, hI, hMR⟩ := g
  have g : GG a r n := ⟨nr, nm, np, h, hI, hMR⟩
  have hI' := hI
  have hMR' := hMR
  obtain ⟨⟨⟨hnr, hnm, hnp⟩, hnow, hns⟩, hC, hD, hR, hMa, hP, hL⟩ := hI
  obtain ⟨hMC, hMRm, hMP, hMS⟩ := hMR
  obtain ⟨s1, s7, s15, s17, s24, s26, s27, s28, s32⟩ := hMS
  have hb := h.b
  have hcs := hC.1
  have hds := hD.1
  have e3 := m_isMachine (a := a) (r := r) (n := n) (nm := nm) s7 hb.2.1 (m := m') q01 q02
  by_cases c1 : 0 ≤ m' ∧ m' < nm
  · by_cases c2 : a 0 10 0 + 1 ≤ t' ∧ t' ≤ a 0 10 0 + 200
    · by_cases c3 : 0 ≤ u' ∧ u' ≤ 3
      · by_cases c4 : np < 40
        · have yT : ∀ t, t ≠ 12 → up (up (up (up a 12 1 np np) 12 2 np m') 12 3 np t') 12 5 np u' t = a t := fun t t1 => by rw [up_t t1, up_t t1, up_t t1, up_t t1]
          have yq : EqQ (up (up (up (up a 12 1 np np) 12 2 np m') 12 3 np t') 12 5 np u') a np := fun p p1 => ⟨fun j => by rw [up_s, if_neg (by omega), up_s, if_neg (by omega), up_s, if_neg (by omega), up_s, if_neg (by omega)], fun k => by rw [yT 13 (by omega)]⟩
          have v3 : up (up (up (up a 12 1 np np) 12 2 np m') 12 3 np t') 12 5 np u' 12 3 np = t' := by simp (disch := omega) only [up_e, lt__e, bnd_e, bnd2_e, bnd3_e, el0_l, el0_r, el1_l, el1_r, el2_l, el2_r, ↓reduceIte, not_true_eq_false, not_false_eq_true, reduceCtorEq, and_true, true_and, and_false, false_and, or_true, true_or, or_false, false_or, and_self, or_self, ite_true, ite_false, Int.cast_ofNat_Int, Nat.reduceEqDiff, Nat.reduceLT, Int.reduceAdd, Int.reduceSub, Int.reduceMul, Int.reduceNeg, Int.reduceLT, Int.reduceLE, Int.reduceEq, ilt_t, ilt_f, ile_t, ile_f, ieq_t, ieq_f]
          have v5 : up (up (up (up a 12 1 np np) 12 2 np m') 12 3 np t') 12 5 np u' 12 5 np = u' := by simp (disch := omega) only [up_e, lt__e, bnd_e, bnd2_e, bnd3_e, el0_l, el0_r, el1_l, el1_r, el2_l, el2_r, ↓reduceIte, not_true_eq_false, not_false_eq_true, reduceCtorEq, and_true, true_and, and_false, false_and, or_true, true_or, or_false, false_or, and_self, or_self, ite_true, ite_false, Int.cast_ofNat_Int, Nat.reduceEqDiff, Nat.reduceLT, Int.reduceAdd, Int.reduceSub, Int.reduceMul, Int.reduceNeg, Int.reduceLT, Int.reduceLE, Int.reduceEq, ilt_t, ilt_f, ile_t, ile_f, ieq_t, ieq_f]
          have v2 : up (up (up (up a 12 1 np np) 12 2 np m') 12 3 np t') 12 5 np u' 12 2 np = m' := by simp (disch := omega) only [up_e, lt__e, bnd_e, bnd2_e, bnd3_e, el0_l, el0_r, el1_l, el1_r, el2_l, el2_r, ↓reduceIte, not_true_eq_false, not_false_eq_true, reduceCtorEq, and_true, true_and, and_false, false_and, or_true, true_or, or_false, false_or, and_self, or_self, ite_true, ite_false, Int.cast_ofNat_Int, Nat.reduceEqDiff, Nat.reduceLT, Int.reduceAdd, Int.reduceSub, Int.reduceMul, Int.reduceNeg, Int.reduceLT, Int.reduceLE, Int.reduceEq, ilt_t, ilt_f, ile_t, ile_f, ieq_t, ieq_f]
          have v1 : up (up (up (up a 12 1 np np) 12 2 np m') 12 3 np t') 12 5 np u' 12 1 np = np := by simp (disch := omega) only [up_e, lt__e, bnd_e, bnd2_e, bnd3_e, el0_l, el0_r, el1_l, el1_r, el2_l, el2_r, ↓reduceIte, not_true_eq_false, not_false_eq_true, reduceCtorEq, and_true, true_and, and_false, false_and, or_true, true_or, or_false, false_or, and_self, or_self, ite_true, ite_false, Int.cast_ofNat_Int, Nat.reduceEqDiff, Nat.reduceLT, Int.reduceAdd, Int.reduceSub, Int.reduceMul, Int.reduceNeg, Int.reduceLT, Int.reduceLE, Int.reduceEq, ilt_t, ilt_f, ile_t, ile_f, ieq_t, ieq_f]
          have hcl : f_Sk_file 0 (iz m') (iz t') (iz u') (VV a r n) = bnd2 (f_Sk_judge 0 (some (kk 11 m')) (VV (up (up (up (up a 12 1 np np) 12 2 np m') 12 3 np t') 12 5 np u') r n)) (fun x33 s32 => if x33 < iz 0 then some (0, x33, s32) else bnd2 (f_Sk_accept 0 (some (kk 11 m')) s32) (fun x38 s37 => some (0, x38, s37))) := by
            unfold f_Sk_file
            simp (disch := omega) only [lt__e, bnd_e, bnd2_e, bnd3_e, el0_l, el0_r, el1_l, el1_r, el2_l, el2_r, ↓reduceIte, not_true_eq_false, not_false_eq_true, reduceCtorEq, and_true, true_and, and_false, false_and, or_true, true_or, or_false, false_or, and_self, or_self, ite_true, ite_false, Int.cast_ofNat_Int, Nat.reduceEqDiff, Nat.reduceLT, Int.reduceAdd, Int.reduceSub, Int.reduceMul, Int.reduceNeg, Int.reduceLT, Int.reduceLE, Int.reduceEq, ilt_t, ilt_f, ile_t, ile_f, ieq_t, ieq_f, z_0, z_1, z_2, z_3, z_4, z_5, z_6, z_7, z_8, z_9, z_10, z_12, z_20, z_40, z_80, z_81, z_99, z_100, z_200, z_400, z_3240, z_20000, z_100000, iz_add, iz_sub, iz_mul, iz_neg, iz_nat, iz_lt, iz_le, iz_eq, iz_div, iz_ite, iz_c, md10, md100, izcb_0, izcb_1, isOut_0, isNoCell_0, isGr_0, within_e, isCell_e, np_p, VV_r, VV_n, V_k, W_k, V_0, W_0, V_1, W_1, V_2, W_2, V_3, W_3, V_4, W_4, V_5, W_5, V_6, W_6, V_7, W_7, V_8, W_8, V_9, W_9, VV_r, VV_n, V_20, W_20, V_21, W_21, V_22, W_22, V_23, W_23, V_24, W_24, V_25, W_25, V_26, W_26, V_27, W_27, V_28, W_28, V_29, W_29, V_30, W_30, V_31, W_31, V_32, W_32, V_33, W_33, V_34, W_34, V_35, W_35, V_36, W_36, V_37, W_37, V_38, W_38, V_39, W_39, h.r0_0, h.r0_1, h.r0_2, h.r0_3, h.r0_4, h.r0_5, h.r1_0, h.r1_1, h.r1_2, h.r1_3, h.r12, rf_0 h, rf_1 h, rf_10 h, rf_11 h, rf_12 h, r6_i h, r6_o h, r7_i h, r7_o h, r8_i h, r8_o h, rl_13 h, ra_13 h, rl_2 h, ra_2 h, rl_3 h, ra_3 h, rl_4 h, ra_4 h, rl_5 h, ra_5 h, rl_6 h, ra_6 h, rl_7 h, ra_7 h, rl_8 h, ra_8 h, rl_9 h, ra_9 h, h.r20_2, h.r20_3, h.r20_5, h.r20_6, h.r20_8, h.r20_9, h.r20_10, h.r20_11, h.r20_12, h.r20_13, h.r20_14, h.r20_16, h.r20_18, h.r20_19, h.r20_20, h.r20_21, h.r20_22, h.r20_23, h.r20_25, rf_20 h, ra_21 h, ra_22 h, ra_23 h, ra_24 h, ra_25 h, ra_26 h, ra_27 h, ra_28 h, ra_29 h, ra_30 h, ra_31 h, ra_32 h, ra_33 h, ra_34 h, ra_35 h, ra_36 h, ra_37 h, ra_38 h, ra_39 h, rl_50 h, ra_50 h, V_50, W_50, up_e, m_ref0 h, m_refw h, c_machineOf_i h, c1, c2, c3, hnp]
          generalize hT : up (up (up (up a 12 1 np np) 12 2 np m') 12 3 np t') 12 5 np u' = T at *
          have qcT : EqC T a := fun t t1 t2 => yT t (by omega)
          have hCT := CC_c qcT hC
          have e0 : T 0 = a 0 := yT 0 (by omega)
          have e11 : T 11 = a 11 := yT 11 (by omega)
          have hDT : CD T := CD_c (by rw [e0]) (yT 9 (by omega)) hD
          have hRT : CRm T nr := CRm_c2 (yT 10 (by omega)) hR
          have hMT : CMa T nm np := CMa_c e11 hMa
          have hPT : CP T nm np := CP_c yq hP
          have hLT : CL T nm np := CL_c (by rw [e0]) e11 yq hMa hL hP
          have hNT : CN T nr nm np := CN_c (fun j _ => by rw [e0]) (yT 1 (by omega)) hI'.1
          have h0T : 0 < T 1 4 0 := by rw [yT 1 (by omega)]; exact hns (by omega)
          have hst : T 11 4 m' = 0 → T 11 3 m' < 100 ∧ 0 ≤ T 11 2 m' := fun z => by
            have x := (hLT.1 m' c1.1 c1.2).1 z
            exact ⟨x.1, x.2.1⟩
          have htT : 1 ≤ T 12 3 np ∧ T 12 3 np ≤ 20200 := by omega
          have huT : 0 ≤ T 12 5 np ∧ T 12 5 np ≤ 3 := by omega
          have hnT : 0 ≤ T 0 10 0 ∧ T 0 10 0 ≤ 20000 := by rw [e0]; exact hnow
          have hdT : 0 ≤ T 12 3 np - T 0 10 0 ∧ T 12 3 np - T 0 10 0 ≤ 200 := by rw [e0]; omega
          obtain ⟨A, rz, cz, d1, d2, d3, d4⟩ := c_judge (T := T) h hCT hDT hRT hMT hPT h0T c1.1 c1.2 htT huT hnT hdT hst
          have dA : ∀ t, t ≠ 12 → t ≠ 13 → A t = a t := fun t t1 t2 => by rw [d1.1 t t1 t2, yT t t1]
          have dq : EqQ A a np := fun p p1 => ⟨fun j => by rw [(d1.q p p1).1 j, (yq p p1).1 j], fun k => by rw [(d1.q p p1).2 k, (yq p p1).2 k]⟩
          have dA0 := dA 0 (by omega) (by omega)
          by_cases c5 : rz = 0
          · -- accepted
            subst c5
            rw [if_pos rfl, show iz (-0) = iz 0 from rfl] at d4
            obtain ⟨u1, u2, u3, u4⟩ := Vd0 d3
            have hs := hst u1
            have hm3 := hMT m' c1.1 c1.2
            have hw := u4.pw d1 hDT hm3.2.2.2.1.1 (by omega) u3 htT
            obtain ⟨o1, o2, o3⟩ := lay_ok hDT hm3.2.2.2.1.1 (by omega) u3
            have A3 : A 12 3 np = t' := by rw [d1.2.1 3 np (by omega)]; exact v3
            have A5 : A 12 5 np = u' := by rw [d1.2.1 5 np (by omega)]; exact v5
            have A2_ : A 12 2 np = m' := by rw [d1.2.1 2 np (by omega)]; exact v2
            have A1_ : A 12 1 np = np := by rw [d1.2.1 1 np (by omega)]; exact v1
            have hIA : CI A nr nm np := ⟨CN_c (fun j _ => by rw [dA0]) (dA 1 (by omega) (by omega)) hI'.1, CC_c (fun t t1 t2 => dA t (by omega) (by omega)) hC, CD_c (by rw [dA0]) (dA 9 (by omega) (by omega)) hD, CRm_c2 (dA 10 (by omega) (by omega)) hR, CMa_c (dA 11 (by omega) (by omega)) hMa, CP_c dq hP, CL_c (by rw [dA0]) (dA 11 (by omega) (by omega)) dq hMa hL hP⟩
            have hac := c_accept (A := A) h hIA.2.2.2.2.2.1 hw (by rw [dA0]; exact hnp) c4 c1.1 c1.2
            have h' := Sh_p h c4
            have a11 := dA 11 (by omega) (by omega)
            have hG := CI_acc (m := m') hIA ⟨hb.2.2.1, c4⟩ c1.1 c1.2 hw (by omega) (by rw [u4.1]; exact o2) A1_ A2_ (by omega) (by rw [a11, ← e11]; exact u1) (by rw [a11, ← e11]; exact u2) (by rw [u4.1, u4.2 _ hDT.1.1 (Int.le_refl _)]; exact o3) (by rw [dA0]; omega) (by rw [u4.2 0 (by omega) hDT.1.1, a11, ← e11]; rfl)
            -- the reference
            have y : ∀ t, 21 ≤ t → t < 40 → up (up (acc A np m') 50 0 0 np) 20 0 0 0 t = a t := fun t t1 t2 => by rw [up_t (by omega), up_t (by omega), acc_t (by omega) (by omega) (by omega) (by omega), dA t (by omega) (by omega)]
            have y20 : ∀ j, 1 ≤ j → up (up (acc A np m') 50 0 0 np) 20 0 0 0 20 j 0 = a 20 j 0 := fun j j1 => by rw [up_s, if_neg (by omega), up_t (by omega), acc_t (by omega) (by omega) (by omega) (by omega), dA 20 (by omega) (by omega)]
            have x20 : ∀ j, 1 ≤ j → up (acc A np m') 50 0 0 np 20 j 0 = a 20 j 0 := fun j j1 => by rw [up_t (by omega), acc_t (by omega) (by omega) (by omega) (by omega), dA 20 (by omega) (by omega)]
            obtain ⟨C1, f1, f2, f3, f4, f5, f6, f7, f8⟩ := m_reason (c := up (up (acc A np m') 50 0 0 np) 20 0 0 0) (q := np) (m := m') h' ⟨hb.2.2.1, c4⟩ d1 d3 hCT hDT hRT hMT hPT h0T c1.1 c1.2 htT huT hnT hdT hst
              (MC_c2 (fun t t1 t2 => y t t1 (by omega)) (y20 4 (by omega)) qcT hMC) (MRm_c (y 39 (by omega) (by omega)) (yT 10 (by omega)) hMRm)
              ⟨MMa_c (fun t t1 t2 => y t (by omega) (by omega)) e11 hMP.1, MPs_c hb.2.2.2 (fun t t1 t2 => y t (by omega) (by omega)) (fun j j1 => by rw [y 38 (by omega) (by omega)]) yq hP hMP.2⟩
              (by rw [y20 1 (by omega), e0]; exact s1) (by rw [y20 15 (by omega), e0]; exact s15) (by rw [y20 17 (by omega)]; exact s17) (by rw [y20 24 (by omega)]; exact s24) (fun k k1 k2 => by rw [y 32 (by omega) (by omega), yT 9 (by omega)]; rw [e0] at k2; exact s32 k k1 k2)
            obtain ⟨g1, g2, g3⟩ := f8 rfl
            have z17 : C1 20 17 0 = np := by rw [f4 17 (by omega), y20 17 (by omega)]; exact s17
            have hMP1 : MP C1 A nm np := by
              refine ⟨MMa_c (fun t t1 t2 => ?_) (dA 11 (by omega) (by omega)) hMP.1, MPs_q (by omega) ?_ ?_ ?_ ?_ ?_ dq hP hMP.2⟩
              · rw [f5 t (by omega) (by omega) (by omega) (by omega), y t (by omega) (by omega)]
              · rw [f5 33 (by omega) (by omega) (by omega) (by omega), y 33 (by omega) (by omega)]
              · rw [f5 36 (by omega) (by omega) (by omega) (by omega), y 36 (by omega) (by omega)]
              · rw [f5 37 (by omega) (by omega) (by omega) (by omega), y 37 (by omega) (by omega)]
              · intro p hp
                have x := f6 p hp
                rw [y 34 (by omega) (by omega), y 35 (by omega) (by omega)] at x
                exact x
              · intro j hj
                rw [f7 j hj, y 38 (by omega) (by omega)]
            obtain ⟨C2, i1, i2, i3⟩ := m_file_l (a := C1) h' (b := A) (mm := nm) (pp := np) (p := np) hb.2.1.2 ⟨hb.2.2.1, c4⟩ hMP1 hIA.2.2.2.2.2.1 z17 hw (by rw [f4 15 (by omega), y20 15 (by omega), u4.1, e0]; exact s15) (fun k k1 k2 => (g3 k k1 k2).2) rfl (iz m') (iz u')
            rw [A3] at i1
            rw [v3, v5] at f1
            have i20 : ∀ j, C2 20 j 0 = C1 20 j 0 := fun j => by rw [i3 20 (by omega) (by omega)]
            have e3' := m_isMachine (a := up (acc A np m') 50 0 0 np) (r := rP r np) (n := nP n) (nm := nm) (by rw [x20 7 (by omega)]; exact s7) hb.2.1 (m := m') q01 q02
            have e9 : np + 1 - 1 = np := by omega
            have x17 : acc A np m' 20 17 0 = np := by rw [acc_t (by omega) (by omega) (by omega) (by omega), dA 20 (by omega) (by omega)]; exact s17
            have i17 : C2 20 17 0 = np := by rw [i20]; exact z17
            have ct : c2 = c2 := rfl
            refine ⟨0, np, up (acc A np m') 50 0 0 np, up (up (up (up (up C2 33 np 0 m') 36 np 0 u') 30 m' 0 np) 20 15 0 0) 20 17 0 (np + 1), rP r np, nP n, ?_, ?_, ?_, fun _ => ?_, by omega, ?_⟩
            · unfold f_La_file
              simp (disch := omega) only [lt__e, bnd_e, bnd2_e, bnd3_e, el0_l, el0_r, el1_l, el1_r, el2_l, el2_r, ↓reduceIte, not_true_eq_false, not_false_eq_true, reduceCtorEq, and_true, true_and, and_false, false_and, or_true, true_or, or_false, false_or, and_self, or_self, ite_true, ite_false, Int.cast_ofNat_Int, Nat.reduceEqDiff, Nat.reduceLT, Int.reduceAdd, Int.reduceSub, Int.reduceMul, Int.reduceNeg, Int.reduceLT, Int.reduceLE, Int.reduceEq, ilt_t, ilt_f, ile_t, ile_f, ieq_t, ieq_f, z_0, z_1, z_2, z_3, z_4, z_5, z_6, z_7, z_8, z_9, z_10, z_12, z_20, z_40, z_80, z_81, z_99, z_100, z_200, z_400, z_3240, z_20000, z_100000, iz_add, iz_sub, iz_mul, iz_neg, iz_nat, iz_lt, iz_le, iz_eq, iz_div, iz_ite, iz_c, md10, md100, izcb_0, izcb_1, isOut_0, isNoCell_0, isGr_0, within_e, isCell_e, np_p, VV_r, VV_n, V_k, W_k, V_0, W_0, V_1, W_1, V_2, W_2, V_3, W_3, V_4, W_4, V_5, W_5, V_6, W_6, V_7, W_7, V_8, W_8, V_9, W_9, VV_r, VV_n, V_20, W_20, V_21, W_21, V_22, W_22, V_23, W_23, V_24, W_24, V_25, W_25, V_26, W_26, V_27, W_27, V_28, W_28, V_29, W_29, V_30, W_30, V_31, W_31, V_32, W_32, V_33, W_33, V_34, W_34, V_35, W_35, V_36, W_36, V_37, W_37, V_38, W_38, V_39, W_39, h.r0_0, h.r0_1, h.r0_2, h.r0_3, h.r0_4, h.r0_5, h.r1_0, h.r1_1, h.r1_2, h.r1_3, h.r12, rf_0 h, rf_1 h, rf_10 h, rf_11 h, rf_12 h, r6_i h, r6_o h, r7_i h, r7_o h, r8_i h, r8_o h, rl_13 h, ra_13 h, rl_2 h, ra_2 h, rl_3 h, ra_3 h, rl_4 h, ra_4 h, rl_5 h, ra_5 h, rl_6 h, ra_6 h, rl_7 h, ra_7 h, rl_8 h, ra_8 h, rl_9 h, ra_9 h, h.r20_2, h.r20_3, h.r20_5, h.r20_6, h.r20_8, h.r20_9, h.r20_10, h.r20_11, h.r20_12, h.r20_13, h.r20_14, h.r20_16, h.r20_18, h.r20_19, h.r20_20, h.r20_21, h.r20_22, h.r20_23, h.r20_25, rf_20 h, ra_21 h, ra_22 h, ra_23 h, ra_24 h, ra_25 h, ra_26 h, ra_27 h, ra_28 h, ra_29 h, ra_30 h, ra_31 h, ra_32 h, ra_33 h, ra_34 h, ra_35 h, ra_36 h, ra_37 h, ra_38 h, ra_39 h, rl_50 h, ra_50 h, V_50, W_50, up_e, m_ref0 h, m_refw h, rl_50 h', ra_50 h', hcl, d4, hac]
            · rw [m_file_t _ (x20 1 (by omega)) (by rw [s1]; exact hnow) q11 q12 q21 q22, cb_t ⟨c3, by rw [s1]; exact c2⟩]
              unfold j_Mo_file_35 j_Mo_file_73
              simp (disch := omega) only [lt__e, bnd_e, bnd2_e, bnd3_e, el0_l, el0_r, el1_l, el1_r, el2_l, el2_r, ↓reduceIte, not_true_eq_false, not_false_eq_true, reduceCtorEq, and_true, true_and, and_false, false_and, or_true, true_or, or_false, false_or, and_self, or_self, ite_true, ite_false, Int.cast_ofNat_Int, Nat.reduceEqDiff, Nat.reduceLT, Int.reduceAdd, Int.reduceSub, Int.reduceMul, Int.reduceNeg, Int.reduceLT, Int.reduceLE, Int.reduceEq, ilt_t, ilt_f, ile_t, ile_f, ieq_t, ieq_f, z_0, z_1, z_2, z_3, z_4, z_5, z_6, z_7, z_8, z_9, z_10, z_12, z_20, z_40, z_80, z_81, z_99, z_100, z_200, z_400, z_3240, z_20000, z_100000, iz_add, iz_sub, iz_mul, iz_neg, iz_nat, iz_lt, iz_le, iz_eq, iz_div, iz_ite, iz_c, md10, md100, izcb_0, izcb_1, isOut_0, isNoCell_0, isGr_0, within_e, isCell_e, np_p, m_ref0 h', rf_20 h', V_20, W_20, V_33, W_33, V_36, W_36, V_30, W_30, VV_r, VV_n, h'.r20_18, h'.r20_21, h'.r20_13, ra_33 h', ra_36 h', ra_30 h', up_e, e3', c1, x17, s17, f1, i1, i17, e9]
            · simp (disch := omega) only [up_e, lt__e, bnd_e, bnd2_e, bnd3_e, el0_l, el0_r, el1_l, el1_r, el2_l, el2_r, ↓reduceIte, not_true_eq_false, not_false_eq_true, reduceCtorEq, and_true, true_and, and_false, false_and, or_true, true_or, or_false, false_or, and_self, or_self, ite_true, ite_false, Int.cast_ofNat_Int, Nat.reduceEqDiff, Nat.reduceLT, Int.reduceAdd, Int.reduceSub, Int.reduceMul, Int.reduceNeg, Int.reduceLT, Int.reduceLE, Int.reduceEq, ilt_t, ilt_f, ile_t, ile_f, ieq_t, ieq_f]
              rw [i20, f4 0 (by omega), up_s, if_pos ⟨rfl, rfl⟩]
            · simp (disch := omega) only [up_e, lt__e, bnd_e, bnd2_e, bnd3_e, el0_l, el0_r, el1_l, el1_r, el2_l, el2_r, ↓reduceIte, not_true_eq_false, not_false_eq_true, reduceCtorEq, and_true, true_and, and_false, false_and, or_true, true_or, or_false, false_or, and_self, or_self, ite_true, ite_false, Int.cast_ofNat_Int, Nat.reduceEqDiff, Nat.reduceLT, Int.reduceAdd, Int.reduceSub, Int.reduceMul, Int.reduceNeg, Int.reduceLT, Int.reduceLE, Int.reduceEq, ilt_t, ilt_f, ile_t, ile_f, ieq_t, ieq_f]
              rw [i3 50 (by omega) (by omega), f5 50 (by omega) (by omega) (by omega) (by omega), up_t (by omega), up_s, if_pos ⟨rfl, rfl⟩]
            · have Z : ∀ t, t ≠ 20 → t ≠ 30 → t ≠ 33 → t ≠ 34 → t ≠ 35 → t ≠ 36 → t ≠ 37 → t ≠ 38 → t ≠ 50 → up (up (up (up (up C2 33 np 0 m') 36 np 0 u') 30 m' 0 np) 20 15 0 0) 20 17 0 (np + 1) t = acc A np m' t := fun t t1 t2 t3 t4 t5 t6 t7 t8 t9 => by
                rw [up_t t1, up_t t1, up_t t2, up_t t6, up_t t3, i3 t t7 t2, f5 t t1 t4 t5 t8, up_t t1, up_t t9]
              have Za : ∀ t, 20 ≤ t → t < 40 → acc A np m' t = a t := fun t t1 t2 => by rw [acc_t (by omega) (by omega) (by omega) (by omega), dA t (by omega) (by omega)]
              have Z20 : ∀ j, 1 ≤ j → j ≠ 15 → j ≠ 17 → j ≠ 26 → up (up (up (up (up C2 33 np 0 m') 36 np 0 u') 30 m' 0 np) 20 15 0 0) 20 17 0 (np + 1) 20 j 0 = a 20 j 0 := fun j j1 j2 j3 j4 => by
                rw [up_s, if_neg (by omega), up_s, if_neg (by omega), up_t (by omega), up_t (by omega), up_t (by omega), i20, f4 j j4, y20 j j1]
              have W : ∀ t, 25 ≤ t → t ≤ 38 → t ≠ 30 → t ≠ 33 → t ≠ 36 → up (up (up (up (up C2 33 np 0 m') 36 np 0 u') 30 m' 0 np) 20 15 0 0) 20 17 0 (np + 1) t = C2 t := fun t t1 t2 t3 t4 t5 => by
                rw [up_t (by omega), up_t (by omega), up_t t3, up_t t5, up_t t4]
              have W30 : ∀ i, up (up (up (up (up C2 33 np 0 m') 36 np 0 u') 30 m' 0 np) 20 15 0 0) 20 17 0 (np + 1) 30 i 0 = if i = m' then np else C2 30 i 0 := fun i => by simp (disch := omega) only [up_e, lt__e, bnd_e, bnd2_e, bnd3_e, el0_l, el0_r, el1_l, el1_r, el2_l, el2_r, ↓reduceIte, not_true_eq_false, not_false_eq_true, reduceCtorEq, and_true, true_and, and_false, false_and, or_true, true_or, or_false, false_or, and_self, or_self, ite_true, ite_false, Int.cast_ofNat_Int, Nat.reduceEqDiff, Nat.reduceLT, Int.reduceAdd, Int.reduceSub, Int.reduceMul, Int.reduceNeg, Int.reduceLT, Int.reduceLE, Int.reduceEq, ilt_t, ilt_f, ile_t, ile_f, ieq_t, ieq_f]
              have W33 : ∀ i, up (up (up (up (up C2 33 np 0 m') 36 np 0 u') 30 m' 0 np) 20 15 0 0) 20 17 0 (np + 1) 33 i 0 = if i = np then m' else C2 33 i 0 := fun i => by simp (disch := omega) only [up_e, lt__e, bnd_e, bnd2_e, bnd3_e, el0_l, el0_r, el1_l, el1_r, el2_l, el2_r, ↓reduceIte, not_true_eq_false, not_false_eq_true, reduceCtorEq, and_true, true_and, and_false, false_and, or_true, true_or, or_false, false_or, and_self, or_self, ite_true, ite_false, Int.cast_ofNat_Int, Nat.reduceEqDiff, Nat.reduceLT, Int.reduceAdd, Int.reduceSub, Int.reduceMul, Int.reduceNeg, Int.reduceLT, Int.reduceLE, Int.reduceEq, ilt_t, ilt_f, ile_t, ile_f, ieq_t, ieq_f]
              have W36 : ∀ i, up (up (up (up (up C2 33 np 0 m') 36 np 0 u') 30 m' 0 np) 20 15 0 0) 20 17 0 (np + 1) 36 i 0 = if i = np then u' else C2 36 i 0 := fun i => by simp (disch := omega) only [up_e, lt__e, bnd_e, bnd2_e, bnd3_e, el0_l, el0_r, el1_l, el1_r, el2_l, el2_r, ↓reduceIte, not_true_eq_false, not_false_eq_true, reduceCtorEq, and_true, true_and, and_false, false_and, or_true, true_or, or_false, false_or, and_self, or_self, ite_true, ite_false, Int.cast_ofNat_Int, Nat.reduceEqDiff, Nat.reduceLT, Int.reduceAdd, Int.reduceSub, Int.reduceMul, Int.reduceNeg, Int.reduceLT, Int.reduceLE, Int.reduceEq, ilt_t, ilt_f, ile_t, ile_f, ieq_t, ieq_f]
              have W15 : up (up (up (up (up C2 33 np 0 m') 36 np 0 u') 30 m' 0 np) 20 15 0 0) 20 17 0 (np + 1) 20 15 0 = 0 := by simp (disch := omega) only [up_e, lt__e, bnd_e, bnd2_e, bnd3_e, el0_l, el0_r, el1_l, el1_r, el2_l, el2_r, ↓reduceIte, not_true_eq_false, not_false_eq_true, reduceCtorEq, and_true, true_and, and_false, false_and, or_true, true_or, or_false, false_or, and_self, or_self, ite_true, ite_false, Int.cast_ofNat_Int, Nat.reduceEqDiff, Nat.reduceLT, Int.reduceAdd, Int.reduceSub, Int.reduceMul, Int.reduceNeg, Int.reduceLT, Int.reduceLE, Int.reduceEq, ilt_t, ilt_f, ile_t, ile_f, ieq_t, ieq_f]
              have W17 : up (up (up (up (up C2 33 np 0 m') 36 np 0 u') 30 m' 0 np) 20 15 0 0) 20 17 0 (np + 1) 20 17 0 = np + 1 := by simp (disch := omega) only [up_e, lt__e, bnd_e, bnd2_e, bnd3_e, el0_l, el0_r, el1_l, el1_r, el2_l, el2_r, ↓reduceIte, not_true_eq_false, not_false_eq_true, reduceCtorEq, and_true, true_and, and_false, false_and, or_true, true_or, or_false, false_or, and_self, or_self, ite_true, ite_false, Int.cast_ofNat_Int, Nat.reduceEqDiff, Nat.reduceLT, Int.reduceAdd, Int.reduceSub, Int.reduceMul, Int.reduceNeg, Int.reduceLT, Int.reduceLE, Int.reduceEq, ilt_t, ilt_f, ile_t, ile_f, ieq_t, ieq_f]
              have W26 : up (up (up (up (up C2 33 np 0 m') 36 np 0 u') 30 m' 0 np) 20 15 0 0) 20 17 0 (np + 1) 20 26 0 = a 20 26 0 := by
                rw [up_s, if_neg (by omega), up_s, if_neg (by omega), up_t (by omega), up_t (by omega), up_t (by omega), i20, f3 rfl, y20 26 (by omega)]
              generalize hA2 : up (up (up (up (up C2 33 np 0 m') 36 np 0 u') 30 m' 0 np) 20 15 0 0) 20 17 0 (np + 1) = X at *
              have F11 : ∀ j i, j ≠ 5 → fin_ A np 3 (fun q => A 12 6 q = 0 ∧ mt A np q 0) 11 j i = A 11 j i := fun j i hj => fin_11 hj i
              have F12 : ∀ j i, j ≠ 6 → fin_ A np 3 (fun q => A 12 6 q = 0 ∧ mt A np q 0) 12 j i = A 12 j i := fun j i hj => fin_12 hj i
              have F13 : fin_ A np 3 (fun q => A 12 6 q = 0 ∧ mt A np q 0) 13 = A 13 := fin_o (by omega) (by omega)
              refine GG_of h' hG (fun t t1 => Z t (by omega) (by omega) (by omega) (by omega) (by omega) (by omega) (by omega) (by omega) (by omega)) (MC_c2 (fun t t1 t2 => ?_) (Z20 4 (by omega) (by omega) (by omega) (by omega)) (fun t t1 t2 => ?_) hMC) (MRm_c ?_ ?_ hMRm) ⟨⟨fun i k1 k2 => ?_, fun i k1 k2 => ?_⟩, fun p k1 k2 => ?_, fun p k1 k2 => ?_⟩ ?_
              · rw [Z t (by omega) (by omega) (by omega) (by omega) (by omega) (by omega) (by omega) (by omega) (by omega), Za t (by omega) (by omega)]
              · rw [acc_t (by omega) (by omega) (by omega) (by omega), dA t (by omega) (by omega)]
              · rw [Z 39 (by omega) (by omega) (by omega) (by omega) (by omega) (by omega) (by omega) (by omega) (by omega), Za 39 (by omega) (by omega)]
              · rw [acc_t (by omega) (by omega) (by omega) (by omega), dA 10 (by omega) (by omega)]
              · have x := i2.1.1 i k1 k2
                rw [W 25 (by omega) (by omega) (by omega) (by omega) (by omega), W 26 (by omega) (by omega) (by omega) (by omega) (by omega), W 27 (by omega) (by omega) (by omega) (by omega) (by omega), W 28 (by omega) (by omega) (by omega) (by omega) (by omega), W 29 (by omega) (by omega) (by omega) (by omega) (by omega), W 31 (by omega) (by omega) (by omega) (by omega) (by omega), W30, acc_11 (j := 0) (by omega), acc_11 (j := 1) (by omega), acc_11 (j := 2) (by omega), acc_11 (j := 3) (by omega), acc_11 (j := 4) (by omega), acc_11 (j := 6) (by omega)]
                refine ⟨x.1, x.2.1, x.2.2.1, x.2.2.2.1, x.2.2.2.2.1, ?_, x.2.2.2.2.2.2⟩
                by_cases e : i = m'
                · rw [if_pos e, e, acc_115]
                · rw [if_neg e, acc_11 (by omega)]; exact x.2.2.2.2.2.1
              · rw [W 29 (by omega) (by omega) (by omega) (by omega) (by omega)]; exact i2.1.2 i k1 k2
              · by_cases e : p = np
                · subst e
                  have x37 := i2.2.2 p (Int.le_refl _) c4
                  have x34 : C2 34 = C1 34 := i3 34 (by omega) (by omega)
                  have x35 : C2 35 = C1 35 := i3 35 (by omega) (by omega)
                  have x38 : C2 38 = C1 38 := i3 38 (by omega) (by omega)
                  rw [W33, W36, W 37 (by omega) (by omega) (by omega) (by omega) (by omega), if_pos rfl, if_pos rfl, acc_126, acc_12 (j := 2) (by omega) (by omega), acc_12 (j := 5) (by omega) (by omega), F12 2 _ (by omega), F12 5 _ (by omega), A2_, A5]
                  refine ⟨⟨?_, ?_, fun k z1 z2 => ?_⟩, rfl, rfl, x37⟩
                  · rw [W 34 (by omega) (by omega) (by omega) (by omega) (by omega), x34, acc_12 (j := 3) (by omega) (by omega), F12 3 _ (by omega), A3, g1]; exact v3
                  · rw [W 35 (by omega) (by omega) (by omega) (by omega) (by omega), x35, acc_12 (j := 4) (by omega) (by omega), F12 4 _ (by omega)]; exact g2
                  · rw [acc_12 (j := 4) (by omega) (by omega), F12 4 _ (by omega)] at z2
                    rw [W 38 (by omega) (by omega) (by omega) (by omega) (by omega), x38, acc_13 (by omega)]; exact (g3 k z1 z2).1
                · obtain ⟨⟨x1, x2, x3⟩, x4, x5, x6⟩ := i2.2.1 p k1 (by omega)
                  rw [W33, W36, W 37 (by omega) (by omega) (by omega) (by omega) (by omega), if_neg e, if_neg e, acc_12 (j := 6) (by omega) (by omega), acc_12 (j := 2) (by omega) (by omega), acc_12 (j := 5) (by omega) (by omega)]
                  refine ⟨⟨?_, ?_, fun k z1 z2 => ?_⟩, x4, x5, x6⟩
                  · rw [W 34 (by omega) (by omega) (by omega) (by omega) (by omega), acc_12 (j := 3) (by omega) (by omega)]; exact x1
                  · rw [W 35 (by omega) (by omega) (by omega) (by omega) (by omega), acc_12 (j := 4) (by omega) (by omega)]; exact x2
                  · rw [acc_12 (j := 4) (by omega) (by omega)] at z2
                    rw [W 38 (by omega) (by omega) (by omega) (by omega) (by omega), acc_13 (by omega), ← F13]; exact x3 k z1 z2
              · rw [W 37 (by omega) (by omega) (by omega) (by omega) (by omega)]; exact i2.2.2 p (by omega) k2
              · unfold MSc
                rw [Z20 1 (by omega) (by omega) (by omega) (by omega), Z20 7 (by omega) (by omega) (by omega) (by omega), W15, W17, Z20 24 (by omega) (by omega) (by omega) (by omega), W26, Z20 27 (by omega) (by omega) (by omega) (by omega), Z20 28 (by omega) (by omega) (by omega) (by omega), acc_09, acc_0 (by omega) (by omega), acc_0 (by omega) (by omega), acc_0 (by omega) (by omega), acc_0 (by omega) (by omega), dA0]
                exact ⟨s1, s7, rfl, rfl, s24, s26, s27, s28, fun k z1 z2 => by omega⟩
          · -- refused
            rw [if_neg c5] at d4
            have y : ∀ t, 21 ≤ t → t < 40 → up (up (up (up A 0 11 0 (A 0 11 0 + 1)) 0 12 0 cz) 50 0 0 (-rz)) 20 0 0 0 t = a t := fun t t1 t2 => by rw [up_t (by omega), up_t (by omega), up_t (by omega), up_t (by omega), dA t (by omega) (by omega)]
            have y20 : ∀ j, 1 ≤ j → up (up (up (up A 0 11 0 (A 0 11 0 + 1)) 0 12 0 cz) 50 0 0 (-rz)) 20 0 0 0 20 j 0 = a 20 j 0 := fun j j1 => by rw [up_s, if_neg (by omega), up_t (by omega), up_t (by omega), up_t (by omega), dA 20 (by omega) (by omega)]
            have x20 : ∀ j, 1 ≤ j → up (up (up A 0 11 0 (A 0 11 0 + 1)) 0 12 0 cz) 50 0 0 (-rz) 20 j 0 = a 20 j 0 := fun j j1 => by rw [up_t (by omega), up_t (by omega), up_t (by omega), dA 20 (by omega) (by omega)]
            obtain ⟨C1, f1, f2, f3, f4, f5, f6, f7, f8⟩ := m_reason (c := up (up (up (up A 0 11 0 (A 0 11 0 + 1)) 0 12 0 cz) 50 0 0 (-rz)) 20 0 0 0) (q := np) (m := m') h ⟨hb.2.2.1, c4⟩ d1 d3 hCT hDT hRT hMT hPT h0T c1.1 c1.2 htT huT hnT hdT hst
              (MC_c2 (fun t t1 t2 => y t t1 (by omega)) (y20 4 (by omega)) qcT hMC) (MRm_c (y 39 (by omega) (by omega)) (yT 10 (by omega)) hMRm)
              ⟨MMa_c (fun t t1 t2 => y t (by omega) (by omega)) e11 hMP.1, MPs_c hb.2.2.2 (fun t t1 t2 => y t (by omega) (by omega)) (fun j j1 => by rw [y 38 (by omega) (by omega)]) yq hP hMP.2⟩
              (by rw [y20 1 (by omega), e0]; exact s1) (by rw [y20 15 (by omega), e0]; exact s15) (by rw [y20 17 (by omega)]; exact s17) (by rw [y20 24 (by omega)]; exact s24) (fun k k1 k2 => by rw [y 32 (by omega) (by omega), yT 9 (by omega)]; rw [e0] at k2; exact s32 k k1 k2)
            rw [v3, v5] at f1
            have e3' := m_isMachine (a := up (up (up A 0 11 0 (A 0 11 0 + 1)) 0 12 0 cz) 50 0 0 (-rz)) (r := r) (n := n) (nm := nm) (by rw [x20 7 (by omega)]; exact s7) hb.2.1 (m := m') q01 q02
            have x17 : A 20 17 0 = np := by rw [dA 20 (by omega) (by omega)]; exact s17
            have i27 : C1 20 27 0 = a 0 11 0 := by rw [f4 27 (by omega), y20 27 (by omega)]; exact s27
            refine ⟨0, -rz, up (up (up A 0 11 0 (A 0 11 0 + 1)) 0 12 0 cz) 50 0 0 (-rz), up C1 20 27 0 (a 0 11 0 + 1), r, n, ?_, ?_, ?_, fun _ => ?_, by omega, ?_⟩
            · unfold f_La_file
              simp (disch := omega) only [lt__e, bnd_e, bnd2_e, bnd3_e, el0_l, el0_r, el1_l, el1_r, el2_l, el2_r, ↓reduceIte, not_true_eq_false, not_false_eq_true, reduceCtorEq, and_true, true_and, and_false, false_and, or_true, true_or, or_false, false_or, and_self, or_self, ite_true, ite_false, Int.cast_ofNat_Int, Nat.reduceEqDiff, Nat.reduceLT, Int.reduceAdd, Int.reduceSub, Int.reduceMul, Int.reduceNeg, Int.reduceLT, Int.reduceLE, Int.reduceEq, ilt_t, ilt_f, ile_t, ile_f, ieq_t, ieq_f, z_0, z_1, z_2, z_3, z_4, z_5, z_6, z_7, z_8, z_9, z_10, z_12, z_20, z_40, z_80, z_81, z_99, z_100, z_200, z_400, z_3240, z_20000, z_100000, iz_add, iz_sub, iz_mul, iz_neg, iz_nat, iz_lt, iz_le, iz_eq, iz_div, iz_ite, iz_c, md10, md100, izcb_0, izcb_1, isOut_0, isNoCell_0, isGr_0, within_e, isCell_e, np_p, VV_r, VV_n, V_k, W_k, V_0, W_0, V_1, W_1, V_2, W_2, V_3, W_3, V_4, W_4, V_5, W_5, V_6, W_6, V_7, W_7, V_8, W_8, V_9, W_9, VV_r, VV_n, V_20, W_20, V_21, W_21, V_22, W_22, V_23, W_23, V_24, W_24, V_25, W_25, V_26, W_26, V_27, W_27, V_28, W_28, V_29, W_29, V_30, W_30, V_31, W_31, V_32, W_32, V_33, W_33, V_34, W_34, V_35, W_35, V_36, W_36, V_37, W_37, V_38, W_38, V_39, W_39, h.r0_0, h.r0_1, h.r0_2, h.r0_3, h.r0_4, h.r0_5, h.r1_0, h.r1_1, h.r1_2, h.r1_3, h.r12, rf_0 h, rf_1 h, rf_10 h, rf_11 h, rf_12 h, r6_i h, r6_o h, r7_i h, r7_o h, r8_i h, r8_o h, rl_13 h, ra_13 h, rl_2 h, ra_2 h, rl_3 h, ra_3 h, rl_4 h, ra_4 h, rl_5 h, ra_5 h, rl_6 h, ra_6 h, rl_7 h, ra_7 h, rl_8 h, ra_8 h, rl_9 h, ra_9 h, h.r20_2, h.r20_3, h.r20_5, h.r20_6, h.r20_8, h.r20_9, h.r20_10, h.r20_11, h.r20_12, h.r20_13, h.r20_14, h.r20_16, h.r20_18, h.r20_19, h.r20_20, h.r20_21, h.r20_22, h.r20_23, h.r20_25, rf_20 h, ra_21 h, ra_22 h, ra_23 h, ra_24 h, ra_25 h, ra_26 h, ra_27 h, ra_28 h, ra_29 h, ra_30 h, ra_31 h, ra_32 h, ra_33 h, ra_34 h, ra_35 h, ra_36 h, ra_37 h, ra_38 h, ra_39 h, rl_50 h, ra_50 h, V_50, W_50, up_e, m_ref0 h, m_refw h, hcl, d4]
            · rw [m_file_t _ (x20 1 (by omega)) (by rw [s1]; exact hnow) q11 q12 q21 q22, cb_t ⟨c3, by rw [s1]; exact c2⟩]
              unfold j_Mo_file_35 j_Mo_file_73
              simp (disch := omega) only [lt__e, bnd_e, bnd2_e, bnd3_e, el0_l, el0_r, el1_l, el1_r, el2_l, el2_r, ↓reduceIte, not_true_eq_false, not_false_eq_true, reduceCtorEq, and_true, true_and, and_false, false_and, or_true, true_or, or_false, false_or, and_self, or_self, ite_true, ite_false, Int.cast_ofNat_Int, Nat.reduceEqDiff, Nat.reduceLT, Int.reduceAdd, Int.reduceSub, Int.reduceMul, Int.reduceNeg, Int.reduceLT, Int.reduceLE, Int.reduceEq, ilt_t, ilt_f, ile_t, ile_f, ieq_t, ieq_f, z_0, z_1, z_2, z_3, z_4, z_5, z_6, z_7, z_8, z_9, z_10, z_12, z_20, z_40, z_80, z_81, z_99, z_100, z_200, z_400, z_3240, z_20000, z_100000, iz_add, iz_sub, iz_mul, iz_neg, iz_nat, iz_lt, iz_le, iz_eq, iz_div, iz_ite, iz_c, md10, md100, izcb_0, izcb_1, isOut_0, isNoCell_0, isGr_0, within_e, isCell_e, np_p, m_ref0 h, rf_20 h, V_20, W_20, VV_r, VV_n, up_e, e3', c1, x17, s17, f1, i27]
            · rw [up_s, if_neg (by omega), f4 0 (by omega), up_s, if_pos ⟨rfl, rfl⟩]
            · rw [up_t (by omega), f5 50 (by omega) (by omega) (by omega) (by omega), up_t (by omega), up_s, if_pos ⟨rfl, rfl⟩]
            · have Z : ∀ t, t < 14 → up C1 20 27 0 (a 0 11 0 + 1) t = up (up A 0 11 0 (A 0 11 0 + 1)) 0 12 0 cz t := fun t t1 => by rw [up_t (by omega), f5 t (by omega) (by omega) (by omega) (by omega), up_t (by omega), up_t (by omega)]
              have hIB : CI (up (up A 0 11 0 (A 0 11 0 + 1)) 0 12 0 cz) nr nm np := by
                have bt' : ∀ t, t ≠ 0 → up (up A 0 11 0 (A 0 11 0 + 1)) 0 12 0 cz t = A t := fun t t1 => by rw [up_t t1, up_t t1]
                have b0 : ∀ j, j < 11 → up (up A 0 11 0 (A 0 11 0 + 1)) 0 12 0 cz 0 j 0 = a 0 j 0 := fun j j1 => by rw [up_s, if_neg (by omega), up_s, if_neg (by omega), dA0]
                have bq : EqQ (up (up A 0 11 0 (A 0 11 0 + 1)) 0 12 0 cz) a np := fun p p1 => ⟨fun j => by rw [bt' 12 (by omega)]; exact (dq p p1).1 j, fun k => by rw [bt' 13 (by omega)]; exact (dq p p1).2 k⟩
                exact ⟨CN_c (fun j j1 => b0 j (by omega)) (by rw [bt' 1 (by omega), dA 1 (by omega) (by omega)]) hI'.1, CC_c (fun t t1 t2 => by rw [bt' t (by omega), dA t (by omega) (by omega)]) hC, CD_c (b0 9 (by omega)) (by rw [bt' 9 (by omega), dA 9 (by omega) (by omega)]) hD, CRm_c2 (by rw [bt' 10 (by omega), dA 10 (by omega) (by omega)]) hR, CMa_c (by rw [bt' 11 (by omega), dA 11 (by omega) (by omega)]) hMa, CP_c bq hP, CL_c (b0 10 (by omega)) (by rw [bt' 11 (by omega), dA 11 (by omega) (by omega)]) bq hMa hL hP⟩
              have Y : ∀ t, 21 ≤ t → t < 40 → t ≠ 34 → t ≠ 35 → t ≠ 38 → up C1 20 27 0 (a 0 11 0 + 1) t = a t := fun t t1 t2 t3 t4 t5 => by rw [up_t (by omega), f5 t (by omega) t3 t4 t5, y t t1 t2]
              have Y20 : ∀ j, 1 ≤ j → j ≠ 26 → j ≠ 27 → up C1 20 27 0 (a 0 11 0 + 1) 20 j 0 = a 20 j 0 := fun j j1 j2 j3 => by rw [up_s, if_neg (by omega), f4 j j2, y20 j j1]
              have bq : EqQ (up (up A 0 11 0 (A 0 11 0 + 1)) 0 12 0 cz) a np := fun p p1 => ⟨fun j => by rw [up_t (by omega), up_t (by omega)]; exact (dq p p1).1 j, fun k => by rw [up_t (by omega), up_t (by omega)]; exact (dq p p1).2 k⟩
              refine GG_of h hIB Z (MC_c2 (fun t t1 t2 => Y t (by omega) (by omega) (by omega) (by omega) (by omega)) (Y20 4 (by omega) (by omega) (by omega)) (fun t t1 t2 => ?_) hMC) (MRm_c (Y 39 (by omega) (by omega) (by omega) (by omega) (by omega)) ?_ hMRm) ⟨MMa_c (fun t t1 t2 => Y t (by omega) (by omega) (by omega) (by omega) (by omega)) ?_ hMP.1, MPs_q (by omega) (Y 33 (by omega) (by omega) (by omega) (by omega) (by omega)) (Y 36 (by omega) (by omega) (by omega) (by omega) (by omega)) (Y 37 (by omega) (by omega) (by omega) (by omega) (by omega)) (fun p hp => ?_) (fun j hj => ?_) bq hP hMP.2⟩ ?_
              · rw [up_t (by omega), up_t (by omega), dA t (by omega) (by omega)]
              · rw [up_t (by omega), up_t (by omega), dA 10 (by omega) (by omega)]
              · rw [up_t (by omega), up_t (by omega), dA 11 (by omega) (by omega)]
              · have x := f6 p hp
                rw [y 34 (by omega) (by omega), y 35 (by omega) (by omega)] at x
                rw [up_t (by omega), up_t (by omega)]
                exact x
              · rw [up_t (by omega), f7 j hj, y 38 (by omega) (by omega)]
              · have x26 : up C1 20 27 0 (a 0 11 0 + 1) 20 26 0 = cz := by rw [up_s, if_neg (by omega)]; exact f2 c5
                have x27 : up C1 20 27 0 (a 0 11 0 + 1) 20 27 0 = a 0 11 0 + 1 := by rw [up_s, if_pos ⟨rfl, rfl⟩]
                have b9 : up (up A 0 11 0 (A 0 11 0 + 1)) 0 12 0 cz 0 9 0 = a 0 9 0 := by rw [up_s, if_neg (by omega), up_s, if_neg (by omega), dA0]
                have b10 : up (up A 0 11 0 (A 0 11 0 + 1)) 0 12 0 cz 0 10 0 = a 0 10 0 := by rw [up_s, if_neg (by omega), up_s, if_neg (by omega), dA0]
                have b11 : up (up A 0 11 0 (A 0 11 0 + 1)) 0 12 0 cz 0 11 0 = a 0 11 0 + 1 := by rw [up_s, if_neg (by omega), up_s, if_pos ⟨rfl, rfl⟩, dA0]
                have b12 : up (up A 0 11 0 (A 0 11 0 + 1)) 0 12 0 cz 0 12 0 = cz := by rw [up_s, if_pos ⟨rfl, rfl⟩]
                have b13 : up (up A 0 11 0 (A 0 11 0 + 1)) 0 12 0 cz 0 13 0 = a 0 13 0 := by rw [up_s, if_neg (by omega), up_s, if_neg (by omega), dA0]
                have b9' : up (up A 0 11 0 (A 0 11 0 + 1)) 0 12 0 cz 9 = a 9 := by rw [up_t (by omega), up_t (by omega), dA 9 (by omega) (by omega)]
                unfold MSc
                rw [Y20 1 (by omega) (by omega) (by omega), Y20 7 (by omega) (by omega) (by omega), Y20 15 (by omega) (by omega) (by omega), Y20 17 (by omega) (by omega) (by omega), Y20 24 (by omega) (by omega) (by omega), x26, x27, Y20 28 (by omega) (by omega) (by omega), Y 32 (by omega) (by omega) (by omega) (by omega) (by omega), b9, b10, b11, b12, b13, b9']
                exact ⟨s1, s7, s15, s17, s24, rfl, rfl, s28, s32⟩
        · skip
          refine ⟨3, 0, a, up a 20 0 0 3, r, n, ?_, ?_, ?_, ?_, by omega, GG_r g _⟩
          · unfold f_La_file f_Sk_file
            simp (disch := omega) only [lt__e, bnd_e, bnd2_e, bnd3_e, el0_l, el0_r, el1_l, el1_r, el2_l, el2_r, ↓reduceIte, not_true_eq_false, not_false_eq_true, reduceCtorEq, and_true, true_and, and_false, false_and, or_true, true_or, or_false, false_or, and_self, or_self, ite_true, ite_false, Int.cast_ofNat_Int, Nat.reduceEqDiff, Nat.reduceLT, Int.reduceAdd, Int.reduceSub, Int.reduceMul, Int.reduceNeg, Int.reduceLT, Int.reduceLE, Int.reduceEq, ilt_t, ilt_f, ile_t, ile_f, ieq_t, ieq_f, z_0, z_1, z_2, z_3, z_4, z_5, z_6, z_7, z_8, z_9, z_10, z_12, z_20, z_40, z_80, z_81, z_99, z_100, z_200, z_400, z_3240, z_20000, z_100000, iz_add, iz_sub, iz_mul, iz_neg, iz_nat, iz_lt, iz_le, iz_eq, iz_div, iz_ite, iz_c, md10, md100, izcb_0, izcb_1, isOut_0, isNoCell_0, isGr_0, within_e, isCell_e, np_p, VV_r, VV_n, V_k, W_k, V_0, W_0, V_1, W_1, V_2, W_2, V_3, W_3, V_4, W_4, V_5, W_5, V_6, W_6, V_7, W_7, V_8, W_8, V_9, W_9, VV_r, VV_n, V_20, W_20, V_21, W_21, V_22, W_22, V_23, W_23, V_24, W_24, V_25, W_25, V_26, W_26, V_27, W_27, V_28, W_28, V_29, W_29, V_30, W_30, V_31, W_31, V_32, W_32, V_33, W_33, V_34, W_34, V_35, W_35, V_36, W_36, V_37, W_37, V_38, W_38, V_39, W_39, h.r0_0, h.r0_1, h.r0_2, h.r0_3, h.r0_4, h.r0_5, h.r1_0, h.r1_1, h.r1_2, h.r1_3, h.r12, rf_0 h, rf_1 h, rf_10 h, rf_11 h, rf_12 h, r6_i h, r6_o h, r7_i h, r7_o h, r8_i h, r8_o h, rl_13 h, ra_13 h, rl_2 h, ra_2 h, rl_3 h, ra_3 h, rl_4 h, ra_4 h, rl_5 h, ra_5 h, rl_6 h, ra_6 h, rl_7 h, ra_7 h, rl_8 h, ra_8 h, rl_9 h, ra_9 h, h.r20_2, h.r20_3, h.r20_5, h.r20_6, h.r20_8, h.r20_9, h.r20_10, h.r20_11, h.r20_12, h.r20_13, h.r20_14, h.r20_16, h.r20_18, h.r20_19, h.r20_20, h.r20_21, h.r20_22, h.r20_23, h.r20_25, rf_20 h, ra_21 h, ra_22 h, ra_23 h, ra_24 h, ra_25 h, ra_26 h, ra_27 h, ra_28 h, ra_29 h, ra_30 h, ra_31 h, ra_32 h, ra_33 h, ra_34 h, ra_35 h, ra_36 h, ra_37 h, ra_38 h, ra_39 h, rl_50 h, ra_50 h, V_50, W_50, up_e, m_ref0 h, m_refw h, c_machineOf_i h, c1, c2, c3, hnp]
          · rw [m_file_t _ s1 hnow q11 q12 q21 q22]
            unfold j_Mo_file_35 j_Mo_file_73
            simp (disch := omega) only [lt__e, bnd_e, bnd2_e, bnd3_e, el0_l, el0_r, el1_l, el1_r, el2_l, el2_r, ↓reduceIte, not_true_eq_false, not_false_eq_true, reduceCtorEq, and_true, true_and, and_false, false_and, or_true, true_or, or_false, false_or, and_self, or_self, ite_true, ite_false, Int.cast_ofNat_Int, Nat.reduceEqDiff, Nat.reduceLT, Int.reduceAdd, Int.reduceSub, Int.reduceMul, Int.reduceNeg, Int.reduceLT, Int.reduceLE, Int.reduceEq, ilt_t, ilt_f, ile_t, ile_f, ieq_t, ieq_f, z_0, z_1, z_2, z_3, z_4, z_5, z_6, z_7, z_8, z_9, z_10, z_12, z_20, z_40, z_80, z_81, z_99, z_100, z_200, z_400, z_3240, z_20000, z_100000, iz_add, iz_sub, iz_mul, iz_neg, iz_nat, iz_lt, iz_le, iz_eq, iz_div, iz_ite, iz_c, md10, md100, izcb_0, izcb_1, isOut_0, isNoCell_0, isGr_0, within_e, isCell_e, np_p, VV_r, VV_n, V_k, W_k, V_0, W_0, V_1, W_1, V_2, W_2, V_3, W_3, V_4, W_4, V_5, W_5, V_6, W_6, V_7, W_7, V_8, W_8, V_9, W_9, VV_r, VV_n, V_20, W_20, V_21, W_21, V_22, W_22, V_23, W_23, V_24, W_24, V_25, W_25, V_26, W_26, V_27, W_27, V_28, W_28, V_29, W_29, V_30, W_30, V_31, W_31, V_32, W_32, V_33, W_33, V_34, W_34, V_35, W_35, V_36, W_36, V_37, W_37, V_38, W_38, V_39, W_39, h.r0_0, h.r0_1, h.r0_2, h.r0_3, h.r0_4, h.r0_5, h.r1_0, h.r1_1, h.r1_2, h.r1_3, h.r12, rf_0 h, rf_1 h, rf_10 h, rf_11 h, rf_12 h, r6_i h, r6_o h, r7_i h, r7_o h, r8_i h, r8_o h, rl_13 h, ra_13 h, rl_2 h, ra_2 h, rl_3 h, ra_3 h, rl_4 h, ra_4 h, rl_5 h, ra_5 h, rl_6 h, ra_6 h, rl_7 h, ra_7 h, rl_8 h, ra_8 h, rl_9 h, ra_9 h, h.r20_2, h.r20_3, h.r20_5, h.r20_6, h.r20_8, h.r20_9, h.r20_10, h.r20_11, h.r20_12, h.r20_13, h.r20_14, h.r20_16, h.r20_18, h.r20_19, h.r20_20, h.r20_21, h.r20_22, h.r20_23, h.r20_25, rf_20 h, ra_21 h, ra_22 h, ra_23 h, ra_24 h, ra_25 h, ra_26 h, ra_27 h, ra_28 h, ra_29 h, ra_30 h, ra_31 h, ra_32 h, ra_33 h, ra_34 h, ra_35 h, ra_36 h, ra_37 h, ra_38 h, ra_39 h, rl_50 h, ra_50 h, V_50, W_50, up_e, m_ref0 h, m_refw h, e3, c1, c2, c3, and_self, cb_t, s17, (show np = 40 by omega)]
          · simp (disch := omega) only [up_e, lt__e, bnd_e, bnd2_e, bnd3_e, el0_l, el0_r, el1_l, el1_r, el2_l, el2_r, ↓reduceIte, not_true_eq_false, not_false_eq_true, reduceCtorEq, and_true, true_and, and_false, false_and, or_true, true_or, or_false, false_or, and_self, or_self, ite_true, ite_false, Int.cast_ofNat_Int, Nat.reduceEqDiff, Nat.reduceLT, Int.reduceAdd, Int.reduceSub, Int.reduceMul, Int.reduceNeg, Int.reduceLT, Int.reduceLE, Int.reduceEq, ilt_t, ilt_f, ile_t, ile_f, ieq_t, ieq_f]
          · omega
      · skip
        refine ⟨2, 0, a, up a 20 0 0 2, r, n, ?_, ?_, ?_, ?_, by omega, GG_r g _⟩
        · unfold f_La_file f_Sk_file
          simp (disch := omega) only [lt__e, bnd_e, bnd2_e, bnd3_e, el0_l, el0_r, el1_l, el1_r, el2_l, el2_r, ↓reduceIte, not_true_eq_false, not_false_eq_true, reduceCtorEq, and_true, true_and, and_false, false_and, or_true, true_or, or_false, false_or, and_self, or_self, ite_true, ite_false, Int.cast_ofNat_Int, Nat.reduceEqDiff, Nat.reduceLT, Int.reduceAdd, Int.reduceSub, Int.reduceMul, Int.reduceNeg, Int.reduceLT, Int.reduceLE, Int.reduceEq, ilt_t, ilt_f, ile_t, ile_f, ieq_t, ieq_f, z_0, z_1, z_2, z_3, z_4, z_5, z_6, z_7, z_8, z_9, z_10, z_12, z_20, z_40, z_80, z_81, z_99, z_100, z_200, z_400, z_3240, z_20000, z_100000, iz_add, iz_sub, iz_mul, iz_neg, iz_nat, iz_lt, iz_le, iz_eq, iz_div, iz_ite, iz_c, md10, md100, izcb_0, izcb_1, isOut_0, isNoCell_0, isGr_0, within_e, isCell_e, np_p, VV_r, VV_n, V_k, W_k, V_0, W_0, V_1, W_1, V_2, W_2, V_3, W_3, V_4, W_4, V_5, W_5, V_6, W_6, V_7, W_7, V_8, W_8, V_9, W_9, VV_r, VV_n, V_20, W_20, V_21, W_21, V_22, W_22, V_23, W_23, V_24, W_24, V_25, W_25, V_26, W_26, V_27, W_27, V_28, W_28, V_29, W_29, V_30, W_30, V_31, W_31, V_32, W_32, V_33, W_33, V_34, W_34, V_35, W_35, V_36, W_36, V_37, W_37, V_38, W_38, V_39, W_39, h.r0_0, h.r0_1, h.r0_2, h.r0_3, h.r0_4, h.r0_5, h.r1_0, h.r1_1, h.r1_2, h.r1_3, h.r12, rf_0 h, rf_1 h, rf_10 h, rf_11 h, rf_12 h, r6_i h, r6_o h, r7_i h, r7_o h, r8_i h, r8_o h, rl_13 h, ra_13 h, rl_2 h, ra_2 h, rl_3 h, ra_3 h, rl_4 h, ra_4 h, rl_5 h, ra_5 h, rl_6 h, ra_6 h, rl_7 h, ra_7 h, rl_8 h, ra_8 h, rl_9 h, ra_9 h, h.r20_2, h.r20_3, h.r20_5, h.r20_6, h.r20_8, h.r20_9, h.r20_10, h.r20_11, h.r20_12, h.r20_13, h.r20_14, h.r20_16, h.r20_18, h.r20_19, h.r20_20, h.r20_21, h.r20_22, h.r20_23, h.r20_25, rf_20 h, ra_21 h, ra_22 h, ra_23 h, ra_24 h, ra_25 h, ra_26 h, ra_27 h, ra_28 h, ra_29 h, ra_30 h, ra_31 h, ra_32 h, ra_33 h, ra_34 h, ra_35 h, ra_36 h, ra_37 h, ra_38 h, ra_39 h, rl_50 h, ra_50 h, V_50, W_50, up_e, m_ref0 h, m_refw h, c_machineOf_i h, c1, c2, c3]
        · rw [m_file_t _ s1 hnow q11 q12 q21 q22]
          unfold j_Mo_file_35 j_Mo_file_73
          simp (disch := omega) only [lt__e, bnd_e, bnd2_e, bnd3_e, el0_l, el0_r, el1_l, el1_r, el2_l, el2_r, ↓reduceIte, not_true_eq_false, not_false_eq_true, reduceCtorEq, and_true, true_and, and_false, false_and, or_true, true_or, or_false, false_or, and_self, or_self, ite_true, ite_false, Int.cast_ofNat_Int, Nat.reduceEqDiff, Nat.reduceLT, Int.reduceAdd, Int.reduceSub, Int.reduceMul, Int.reduceNeg, Int.reduceLT, Int.reduceLE, Int.reduceEq, ilt_t, ilt_f, ile_t, ile_f, ieq_t, ieq_f, z_0, z_1, z_2, z_3, z_4, z_5, z_6, z_7, z_8, z_9, z_10, z_12, z_20, z_40, z_80, z_81, z_99, z_100, z_200, z_400, z_3240, z_20000, z_100000, iz_add, iz_sub, iz_mul, iz_neg, iz_nat, iz_lt, iz_le, iz_eq, iz_div, iz_ite, iz_c, md10, md100, izcb_0, izcb_1, isOut_0, isNoCell_0, isGr_0, within_e, isCell_e, np_p, VV_r, VV_n, V_k, W_k, V_0, W_0, V_1, W_1, V_2, W_2, V_3, W_3, V_4, W_4, V_5, W_5, V_6, W_6, V_7, W_7, V_8, W_8, V_9, W_9, VV_r, VV_n, V_20, W_20, V_21, W_21, V_22, W_22, V_23, W_23, V_24, W_24, V_25, W_25, V_26, W_26, V_27, W_27, V_28, W_28, V_29, W_29, V_30, W_30, V_31, W_31, V_32, W_32, V_33, W_33, V_34, W_34, V_35, W_35, V_36, W_36, V_37, W_37, V_38, W_38, V_39, W_39, h.r0_0, h.r0_1, h.r0_2, h.r0_3, h.r0_4, h.r0_5, h.r1_0, h.r1_1, h.r1_2, h.r1_3, h.r12, rf_0 h, rf_1 h, rf_10 h, rf_11 h, rf_12 h, r6_i h, r6_o h, r7_i h, r7_o h, r8_i h, r8_o h, rl_13 h, ra_13 h, rl_2 h, ra_2 h, rl_3 h, ra_3 h, rl_4 h, ra_4 h, rl_5 h, ra_5 h, rl_6 h, ra_6 h, rl_7 h, ra_7 h, rl_8 h, ra_8 h, rl_9 h, ra_9 h, h.r20_2, h.r20_3, h.r20_5, h.r20_6, h.r20_8, h.r20_9, h.r20_10, h.r20_11, h.r20_12, h.r20_13, h.r20_14, h.r20_16, h.r20_18, h.r20_19, h.r20_20, h.r20_21, h.r20_22, h.r20_23, h.r20_25, rf_20 h, ra_21 h, ra_22 h, ra_23 h, ra_24 h, ra_25 h, ra_26 h, ra_27 h, ra_28 h, ra_29 h, ra_30 h, ra_31 h, ra_32 h, ra_33 h, ra_34 h, ra_35 h, ra_36 h, ra_37 h, ra_38 h, ra_39 h, rl_50 h, ra_50 h, V_50, W_50, up_e, m_ref0 h, m_refw h, e3, c1, c2, c3, and_false, cb_f]
        · simp (disch := omega) only [up_e, lt__e, bnd_e, bnd2_e, bnd3_e, el0_l, el0_r, el1_l, el1_r, el2_l, el2_r, ↓reduceIte, not_true_eq_false, not_false_eq_true, reduceCtorEq, and_true, true_and, and_false, false_and, or_true, true_or, or_false, false_or, and_self, or_self, ite_true, ite_false, Int.cast_ofNat_Int, Nat.reduceEqDiff, Nat.reduceLT, Int.reduceAdd, Int.reduceSub, Int.reduceMul, Int.reduceNeg, Int.reduceLT, Int.reduceLE, Int.reduceEq, ilt_t, ilt_f, ile_t, ile_f, ieq_t, ieq_f]
        · omega
    · skip
      refine ⟨2, 0, a, up a 20 0 0 2, r, n, ?_, ?_, ?_, ?_, by omega, GG_r g _⟩
      · unfold f_La_file f_Sk_file
        simp (disch := omega) only [lt__e, bnd_e, bnd2_e, bnd3_e, el0_l, el0_r, el1_l, el1_r, el2_l, el2_r, ↓reduceIte, not_true_eq_false, not_false_eq_true, reduceCtorEq, and_true, true_and, and_false, false_and, or_true, true_or, or_false, false_or, and_self, or_self, ite_true, ite_false, Int.cast_ofNat_Int, Nat.reduceEqDiff, Nat.reduceLT, Int.reduceAdd, Int.reduceSub, Int.reduceMul, Int.reduceNeg, Int.reduceLT, Int.reduceLE, Int.reduceEq, ilt_t, ilt_f, ile_t, ile_f, ieq_t, ieq_f, z_0, z_1, z_2, z_3, z_4, z_5, z_6, z_7, z_8, z_9, z_10, z_12, z_20, z_40, z_80, z_81, z_99, z_100, z_200, z_400, z_3240, z_20000, z_100000, iz_add, iz_sub, iz_mul, iz_neg, iz_nat, iz_lt, iz_le, iz_eq, iz_div, iz_ite, iz_c, md10, md100, izcb_0, izcb_1, isOut_0, isNoCell_0, isGr_0, within_e, isCell_e, np_p, VV_r, VV_n, V_k, W_k, V_0, W_0, V_1, W_1, V_2, W_2, V_3, W_3, V_4, W_4, V_5, W_5, V_6, W_6, V_7, W_7, V_8, W_8, V_9, W_9, VV_r, VV_n, V_20, W_20, V_21, W_21, V_22, W_22, V_23, W_23, V_24, W_24, V_25, W_25, V_26, W_26, V_27, W_27, V_28, W_28, V_29, W_29, V_30, W_30, V_31, W_31, V_32, W_32, V_33, W_33, V_34, W_34, V_35, W_35, V_36, W_36, V_37, W_37, V_38, W_38, V_39, W_39, h.r0_0, h.r0_1, h.r0_2, h.r0_3, h.r0_4, h.r0_5, h.r1_0, h.r1_1, h.r1_2, h.r1_3, h.r12, rf_0 h, rf_1 h, rf_10 h, rf_11 h, rf_12 h, r6_i h, r6_o h, r7_i h, r7_o h, r8_i h, r8_o h, rl_13 h, ra_13 h, rl_2 h, ra_2 h, rl_3 h, ra_3 h, rl_4 h, ra_4 h, rl_5 h, ra_5 h, rl_6 h, ra_6 h, rl_7 h, ra_7 h, rl_8 h, ra_8 h, rl_9 h, ra_9 h, h.r20_2, h.r20_3, h.r20_5, h.r20_6, h.r20_8, h.r20_9, h.r20_10, h.r20_11, h.r20_12, h.r20_13, h.r20_14, h.r20_16, h.r20_18, h.r20_19, h.r20_20, h.r20_21, h.r20_22, h.r20_23, h.r20_25, rf_20 h, ra_21 h, ra_22 h, ra_23 h, ra_24 h, ra_25 h, ra_26 h, ra_27 h, ra_28 h, ra_29 h, ra_30 h, ra_31 h, ra_32 h, ra_33 h, ra_34 h, ra_35 h, ra_36 h, ra_37 h, ra_38 h, ra_39 h, rl_50 h, ra_50 h, V_50, W_50, up_e, m_ref0 h, m_refw h, c_machineOf_i h, c1, c2]
      · rw [m_file_t _ s1 hnow q11 q12 q21 q22]
        unfold j_Mo_file_35 j_Mo_file_73
        simp (disch := omega) only [lt__e, bnd_e, bnd2_e, bnd3_e, el0_l, el0_r, el1_l, el1_r, el2_l, el2_r, ↓reduceIte, not_true_eq_false, not_false_eq_true, reduceCtorEq, and_true, true_and, and_false, false_and, or_true, true_or, or_false, false_or, and_self, or_self, ite_true, ite_false, Int.cast_ofNat_Int, Nat.reduceEqDiff, Nat.reduceLT, Int.reduceAdd, Int.reduceSub, Int.reduceMul, Int.reduceNeg, Int.reduceLT, Int.reduceLE, Int.reduceEq, ilt_t, ilt_f, ile_t, ile_f, ieq_t, ieq_f, z_0, z_1, z_2, z_3, z_4, z_5, z_6, z_7, z_8, z_9, z_10, z_12, z_20, z_40, z_80, z_81, z_99, z_100, z_200, z_400, z_3240, z_20000, z_100000, iz_add, iz_sub, iz_mul, iz_neg, iz_nat, iz_lt, iz_le, iz_eq, iz_div, iz_ite, iz_c, md10, md100, izcb_0, izcb_1, isOut_0, isNoCell_0, isGr_0, within_e, isCell_e, np_p, VV_r, VV_n, V_k, W_k, V_0, W_0, V_1, W_1, V_2, W_2, V_3, W_3, V_4, W_4, V_5, W_5, V_6, W_6, V_7, W_7, V_8, W_8, V_9, W_9, VV_r, VV_n, V_20, W_20, V_21, W_21, V_22, W_22, V_23, W_23, V_24, W_24, V_25, W_25, V_26, W_26, V_27, W_27, V_28, W_28, V_29, W_29, V_30, W_30, V_31, W_31, V_32, W_32, V_33, W_33, V_34, W_34, V_35, W_35, V_36, W_36, V_37, W_37, V_38, W_38, V_39, W_39, h.r0_0, h.r0_1, h.r0_2, h.r0_3, h.r0_4, h.r0_5, h.r1_0, h.r1_1, h.r1_2, h.r1_3, h.r12, rf_0 h, rf_1 h, rf_10 h, rf_11 h, rf_12 h, r6_i h, r6_o h, r7_i h, r7_o h, r8_i h, r8_o h, rl_13 h, ra_13 h, rl_2 h, ra_2 h, rl_3 h, ra_3 h, rl_4 h, ra_4 h, rl_5 h, ra_5 h, rl_6 h, ra_6 h, rl_7 h, ra_7 h, rl_8 h, ra_8 h, rl_9 h, ra_9 h, h.r20_2, h.r20_3, h.r20_5, h.r20_6, h.r20_8, h.r20_9, h.r20_10, h.r20_11, h.r20_12, h.r20_13, h.r20_14, h.r20_16, h.r20_18, h.r20_19, h.r20_20, h.r20_21, h.r20_22, h.r20_23, h.r20_25, rf_20 h, ra_21 h, ra_22 h, ra_23 h, ra_24 h, ra_25 h, ra_26 h, ra_27 h, ra_28 h, ra_29 h, ra_30 h, ra_31 h, ra_32 h, ra_33 h, ra_34 h, ra_35 h, ra_36 h, ra_37 h, ra_38 h, ra_39 h, rl_50 h, ra_50 h, V_50, W_50, up_e, m_ref0 h, m_refw h, e3, c1, c2, cb_f]
      · simp (disch := omega) only [up_e, lt__e, bnd_e, bnd2_e, bnd3_e, el0_l, el0_r, el1_l, el1_r, el2_l, el2_r, ↓reduceIte, not_true_eq_false, not_false_eq_true, reduceCtorEq, and_true, true_and, and_false, false_and, or_true, true_or, or_false, false_or, and_self, or_self, ite_true, ite_false, Int.cast_ofNat_Int, Nat.reduceEqDiff, Nat.reduceLT, Int.reduceAdd, Int.reduceSub, Int.reduceMul, Int.reduceNeg, Int.reduceLT, Int.reduceLE, Int.reduceEq, ilt_t, ilt_f, ile_t, ile_f, ieq_t, ieq_f]
      · omega
  · skip
    refine ⟨1, 0, a, up a 20 0 0 1, r, n, ?_, ?_, ?_, ?_, by omega, GG_r g _⟩
    · unfold f_La_file f_Sk_file
      simp (disch := omega) only [lt__e, bnd_e, bnd2_e, bnd3_e, el0_l, el0_r, el1_l, el1_r, el2_l, el2_r, ↓reduceIte, not_true_eq_false, not_false_eq_true, reduceCtorEq, and_true, true_and, and_false, false_and, or_true, true_or, or_false, false_or, and_self, or_self, ite_true, ite_false, Int.cast_ofNat_Int, Nat.reduceEqDiff, Nat.reduceLT, Int.reduceAdd, Int.reduceSub, Int.reduceMul, Int.reduceNeg, Int.reduceLT, Int.reduceLE, Int.reduceEq, ilt_t, ilt_f, ile_t, ile_f, ieq_t, ieq_f, z_0, z_1, z_2, z_3, z_4, z_5, z_6, z_7, z_8, z_9, z_10, z_12, z_20, z_40, z_80, z_81, z_99, z_100, z_200, z_400, z_3240, z_20000, z_100000, iz_add, iz_sub, iz_mul, iz_neg, iz_nat, iz_lt, iz_le, iz_eq, iz_div, iz_ite, iz_c, md10, md100, izcb_0, izcb_1, isOut_0, isNoCell_0, isGr_0, within_e, isCell_e, np_p, VV_r, VV_n, V_k, W_k, V_0, W_0, V_1, W_1, V_2, W_2, V_3, W_3, V_4, W_4, V_5, W_5, V_6, W_6, V_7, W_7, V_8, W_8, V_9, W_9, VV_r, VV_n, V_20, W_20, V_21, W_21, V_22, W_22, V_23, W_23, V_24, W_24, V_25, W_25, V_26, W_26, V_27, W_27, V_28, W_28, V_29, W_29, V_30, W_30, V_31, W_31, V_32, W_32, V_33, W_33, V_34, W_34, V_35, W_35, V_36, W_36, V_37, W_37, V_38, W_38, V_39, W_39, h.r0_0, h.r0_1, h.r0_2, h.r0_3, h.r0_4, h.r0_5, h.r1_0, h.r1_1, h.r1_2, h.r1_3, h.r12, rf_0 h, rf_1 h, rf_10 h, rf_11 h, rf_12 h, r6_i h, r6_o h, r7_i h, r7_o h, r8_i h, r8_o h, rl_13 h, ra_13 h, rl_2 h, ra_2 h, rl_3 h, ra_3 h, rl_4 h, ra_4 h, rl_5 h, ra_5 h, rl_6 h, ra_6 h, rl_7 h, ra_7 h, rl_8 h, ra_8 h, rl_9 h, ra_9 h, h.r20_2, h.r20_3, h.r20_5, h.r20_6, h.r20_8, h.r20_9, h.r20_10, h.r20_11, h.r20_12, h.r20_13, h.r20_14, h.r20_16, h.r20_18, h.r20_19, h.r20_20, h.r20_21, h.r20_22, h.r20_23, h.r20_25, rf_20 h, ra_21 h, ra_22 h, ra_23 h, ra_24 h, ra_25 h, ra_26 h, ra_27 h, ra_28 h, ra_29 h, ra_30 h, ra_31 h, ra_32 h, ra_33 h, ra_34 h, ra_35 h, ra_36 h, ra_37 h, ra_38 h, ra_39 h, rl_50 h, ra_50 h, V_50, W_50, up_e, m_ref0 h, m_refw h, c_machineOf_o h c1]
    · rw [m_file_t _ s1 hnow q11 q12 q21 q22]
      unfold j_Mo_file_35 j_Mo_file_73
      simp (disch := omega) only [lt__e, bnd_e, bnd2_e, bnd3_e, el0_l, el0_r, el1_l, el1_r, el2_l, el2_r, ↓reduceIte, not_true_eq_false, not_false_eq_true, reduceCtorEq, and_true, true_and, and_false, false_and, or_true, true_or, or_false, false_or, and_self, or_self, ite_true, ite_false, Int.cast_ofNat_Int, Nat.reduceEqDiff, Nat.reduceLT, Int.reduceAdd, Int.reduceSub, Int.reduceMul, Int.reduceNeg, Int.reduceLT, Int.reduceLE, Int.reduceEq, ilt_t, ilt_f, ile_t, ile_f, ieq_t, ieq_f, z_0, z_1, z_2, z_3, z_4, z_5, z_6, z_7, z_8, z_9, z_10, z_12, z_20, z_40, z_80, z_81, z_99, z_100, z_200, z_400, z_3240, z_20000, z_100000, iz_add, iz_sub, iz_mul, iz_neg, iz_nat, iz_lt, iz_le, iz_eq, iz_div, iz_ite, iz_c, md10, md100, izcb_0, izcb_1, isOut_0, isNoCell_0, isGr_0, within_e, isCell_e, np_p, VV_r, VV_n, V_k, W_k, V_0, W_0, V_1, W_1, V_2, W_2, V_3, W_3, V_4, W_4, V_5, W_5, V_6, W_6, V_7, W_7, V_8, W_8, V_9, W_9, VV_r, VV_n, V_20, W_20, V_21, W_21, V_22, W_22, V_23, W_23, V_24, W_24, V_25, W_25, V_26, W_26, V_27, W_27, V_28, W_28, V_29, W_29, V_30, W_30, V_31, W_31, V_32, W_32, V_33, W_33, V_34, W_34, V_35, W_35, V_36, W_36, V_37, W_37, V_38, W_38, V_39, W_39, h.r0_0, h.r0_1, h.r0_2, h.r0_3, h.r0_4, h.r0_5, h.r1_0, h.r1_1, h.r1_2, h.r1_3, h.r12, rf_0 h, rf_1 h, rf_10 h, rf_11 h, rf_12 h, r6_i h, r6_o h, r7_i h, r7_o h, r8_i h, r8_o h, rl_13 h, ra_13 h, rl_2 h, ra_2 h, rl_3 h, ra_3 h, rl_4 h, ra_4 h, rl_5 h, ra_5 h, rl_6 h, ra_6 h, rl_7 h, ra_7 h, rl_8 h, ra_8 h, rl_9 h, ra_9 h, h.r20_2, h.r20_3, h.r20_5, h.r20_6, h.r20_8, h.r20_9, h.r20_10, h.r20_11, h.r20_12, h.r20_13, h.r20_14, h.r20_16, h.r20_18, h.r20_19, h.r20_20, h.r20_21, h.r20_22, h.r20_23, h.r20_25, rf_20 h, ra_21 h, ra_22 h, ra_23 h, ra_24 h, ra_25 h, ra_26 h, ra_27 h, ra_28 h, ra_29 h, ra_30 h, ra_31 h, ra_32 h, ra_33 h, ra_34 h, ra_35 h, ra_36 h, ra_37 h, ra_38 h, ra_39 h, rl_50 h, ra_50 h, V_50, W_50, up_e, m_ref0 h, m_refw h, e3, c1]
    · simp (disch := omega) only [up_e, lt__e, bnd_e, bnd2_e, bnd3_e, el0_l, el0_r, el1_l, el1_r, el2_l, el2_r, ↓reduceIte, not_true_eq_false, not_false_eq_true, reduceCtorEq, and_true, true_and, and_false, false_and, or_true, true_or, or_false, false_or, and_self, or_self, ite_true, ite_false, Int.cast_ofNat_Int, Nat.reduceEqDiff, Nat.reduceLT, Int.reduceAdd, Int.reduceSub, Int.reduceMul, Int.reduceNeg, Int.reduceLT, Int.reduceLE, Int.reduceEq, ilt_t, ilt_f, ile_t, ile_f, ieq_t, ieq_f]
    · omega
end C10
