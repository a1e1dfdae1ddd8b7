/-! what holds behind a step; tick -/
section C20
variable {a b u v s x c : AT} {r : Nat → Nat → Option Nat} {n : Nat → Nat} {nr nm np : Int} {B P S Q Z : Int → Int}
theorem tS4_2 (hI : CI a nr nm np) {i : Int} (i1 : 0 ≤ i) (i2 : i < nm) (h : tS4 a nm i ≠ 3) : tS4 a nm i = tS2 a i ∧ 0 ≤ tB3 a i := by
  obtain ⟨g0, g1, g2, f0, f1, f2, f3, gP, gB, gN⟩ := tF hI i1 i2
  rcases tS4_c a nm i with ⟨_, q⟩ | ⟨_, q⟩
  · exact absurd q h
  · have q2 := q
    unfold tS3 at q
    by_cases c : (tS2 a i = 1 ∨ tS2 a i = 2) ∧ tB3 a i < 0
    · rw [if_pos c] at q; exact absurd q h
    · rw [if_neg c] at q
      exact ⟨q, by omega⟩
theorem CI_step (hI : CI a nr nm np) (hu : CS u a nm np (tB3 a) (tP3 a) (tS5 a nm) (tQ5 a nm) (tZ5 a nm)) (hn : a 0 10 0 < 20000) : CI u nr nm np := by
  have hIa := hI
  obtain ⟨⟨⟨hnr, hnm, hnp⟩, hnow, hns⟩, hC, hD, hR, hMa, hP, hL1, hL2⟩ := hI
  obtain ⟨k1, k2, k3, k4, k5, k6⟩ := hu
  have e13 := k1 13 (by omega) (by omega) (by omega)
  have tw : ∀ m, 0 ≤ m → m < nm → (tS5 a nm m = 0 ∨ tS5 a nm m = 1 ∨ tS5 a nm m = 2 ∨ tS5 a nm m = 3) := fun m m1 m2 => by
    have := (tS4_b hIa m1 m2).1
    unfold tS5; omega
  have qw : ∀ m, 0 ≤ m → m < nm → -1 ≤ tQ5 a nm m ∧ tQ5 a nm m < np := fun m m1 m2 => by
    have w := (hMa m m1 m2).2.2.2.2.2.1
    have : 0 ≤ np := by omega
    unfold tQ5
    by_cases c : tS4 a nm m = 3 ∨ (tS4 a nm m = 1 ∧ a 12 3 (a 11 5 m) + a 12 4 (a 11 5 m) ≤ a 0 10 0 + 1)
    · rw [if_pos c]; omega
    · rw [if_neg c]; exact w
  refine ⟨⟨⟨?_, ?_, ?_⟩, ?_, ?_⟩, CC_c (fun t t1 t2 => k1 t (by omega) (by omega) (by omega)) hC, CD_c (k2 9 (by omega) (by omega)) (k1 9 (by omega) (by omega) (by omega)) hD, CRm_c2 (k1 10 (by omega) (by omega) (by omega)) hR, fun m m1 m2 => ?_, fun p p1 p2 => ?_, fun m m1 m2 => ?_, fun p p1 p2 => ?_⟩
  · rw [k2 6 (by omega) (by omega)]; exact hnr
  · rw [k2 7 (by omega) (by omega)]; exact hnm
  · rw [k2 8 (by omega) (by omega)]; exact hnp
  · rw [k3]; omega
  · rw [k1 1 (by omega) (by omega) (by omega)]; exact hns
  · obtain ⟨y0, y1, y2, y3, y4, y5, y6⟩ := k4 m m1 m2
    obtain ⟨w0, w1, w2, w3, w4, w5, w6⟩ := hMa m m1 m2
    obtain ⟨g0, g1, g2, f0, f1, f2, f3, gP, gB, gN⟩ := tF hIa m1 m2
    have := tw m m1 m2
    have := qw m m1 m2
    rw [y0, y1, y2, y3, y4, y5, y6]
    exact ⟨w0, w1, by omega, gP, by omega, by omega, w6⟩
  · obtain ⟨w1, w2, w3, w4, w5, w6, w7⟩ := hP p p1 p2
    refine ⟨PW_c (a := u) (b := a) ⟨k5 3 p (by omega), k5 4 p (by omega), fun k => by rw [e13]⟩ w1, ?_, ?_, ?_, ?_, ?_, ?_⟩
    · rw [k5 3 p (by omega)]; exact w2
    · rw [k5 4 p (by omega)]; exact w3
    · rw [k5 1 p (by omega)]; exact w4
    · rw [k5 2 p (by omega)]; exact w5
    · rw [k5 5 p (by omega)]; exact w6
    · rw [k6 p p1 p2]
      have z2 : 0 ≤ tZ2 a p ∧ tZ2 a p ≤ 4 := by unfold tZ2; omega
      unfold tZ5
      by_cases c1 : tS2 a (a 12 2 p) = 1 ∧ a 11 5 (a 12 2 p) = p
      · rw [if_pos c1]; omega
      · rw [if_neg c1]; exact z2
  · obtain ⟨y0, y1, y2, y3, y4, y5, y6⟩ := k4 m m1 m2
    obtain ⟨w0, w1, w2, w3, w4, w5, w6⟩ := hMa m m1 m2
    obtain ⟨g0, g1, g2, f0, f1, f2, f3, gP, gB, gN⟩ := tF hIa m1 m2
    obtain ⟨b0, b1, b2, b3⟩ := tS4_b hIa m1 m2
    have q5 := qw m m1 m2
    unfold CL1
    rw [y2, y3, y4, y5, y6, k3, e13]
    simp (disch := omega) only [k5]
    by_cases d1 : tS4 a nm m = 1 ∧ a 12 3 (a 11 5 m) + a 12 4 (a 11 5 m) ≤ a 0 10 0 + 1
    · -- it has landed
      have e5 : tS5 a nm m = 0 := if_pos d1
      have eQ : tQ5 a nm m = -1 := if_pos (Or.inr d1)
      have hB := (tS4_2 hIa m1 m2 (by omega)).2
      obtain ⟨h1, h2, h3, h4, h5, h6, h7, h8⟩ := f1 (b1 d1.1)
      have hl := (hL2 _ h2 h3).1
      have el : a 0 10 0 + 1 - a 12 3 (a 11 5 m) = a 12 4 (a 11 5 m) := by omega
      rw [el] at h8
      rw [e5, eQ]
      exact ⟨fun _ => ⟨by omega, hB, fun z => by omega⟩, fun z => by omega, fun z => by omega, fun z => by omega⟩
    · by_cases d2 : tS4 a nm m = 2 ∧ tP3 a m < 100
      · have e5 : tS5 a nm m = 0 := by unfold tS5; rw [if_neg d1, if_pos d2]
        have eQ : tQ5 a nm m = a 11 5 m := by unfold tQ5; rw [if_neg (fun z => z.elim (fun z => by omega) d1)]
        have hB := (tS4_2 hIa m1 m2 (by omega)).2
        have hf := f2 (b2 d2.1)
        rw [e5, eQ]
        exact ⟨fun _ => ⟨d2.2, hB, fun z => by omega⟩, fun z => by omega, fun z => by omega, fun z => by omega⟩
      · have e5 : tS5 a nm m = tS4 a nm m := by unfold tS5; rw [if_neg d1, if_neg d2]
        rw [e5]
        by_cases d3 : tS4 a nm m = 3
        · have eQ : tQ5 a nm m = -1 := if_pos (Or.inl d3)
          rw [eQ]
          exact ⟨fun z => by omega, fun z => by omega, fun z => by omega, fun _ => rfl⟩
        · have eQ : tQ5 a nm m = a 11 5 m := by unfold tQ5; rw [if_neg (fun z => z.elim d3 d1)]
          obtain ⟨e2, hB⟩ := tS4_2 hIa m1 m2 d3
          rw [eQ, e2]
          refine ⟨fun z => ?_, fun z => ?_, fun z => ?_, fun z => ?_⟩
          · obtain ⟨h1, h2, h3⟩ := f0 z
            have eP : tP3 a m = a 11 3 m := by unfold tP3; rw [if_neg (by omega), if_neg (by omega)]
            rw [eP]
            refine ⟨h2, hB, fun zz => ?_⟩
            obtain ⟨h4, h5, h6⟩ := h3 zz
            refine ⟨?_, h5⟩
            rw [k6 _ zz w5.2]
            unfold tZ5
            rw [h5, if_neg (by omega)]
            unfold tZ2
            rw [if_neg (fun q => h6 q.2)]; exact h4
          · obtain ⟨h1, h2, h3, h4, h5, h6, h7, h8⟩ := f1 z
            refine ⟨hB, h2, ?_, h4, ⟨h7.1, by omega⟩, h8⟩
            rw [k6 _ h2 h3]
            unfold tZ5
            rw [h4, if_pos ⟨z, rfl⟩, if_neg (by omega), if_neg (by omega)]; exact h6
          · obtain ⟨h1, h2, h3, h4, h5⟩ := f2 z
            exact ⟨hB, h3, by omega, h5.1⟩
          · omega
  · obtain ⟨l1, l2⟩ := hL2 p p1 p2
    have own := (hP p p1 p2).2.2.2.2.1
    obtain ⟨y0, y1, y2, y3, y4, y5, y6⟩ := k4 _ own.1 own.2
    obtain ⟨g0, g1, g2, f0, f1, f2, f3, gP, gB, gN⟩ := tF hIa own.1 own.2
    unfold CL2
    rw [k6 p p1 p2, k3, e13]
    simp (disch := omega) only [k5]
    rw [y3, y4, y5]
    refine ⟨l1, fun z => ?_⟩
    by_cases c1 : tS2 a (a 12 2 p) = 1 ∧ a 11 5 (a 12 2 p) = p
    · unfold tZ5 at z
      rw [if_pos c1] at z
      have h6 := (f1 c1.1).2.2.2.2.2.1
      rw [c1.2] at h6
      by_cases c2 : tS4 a nm (a 12 2 p) = 3
      · rw [if_pos c2] at z; omega
      · rw [if_neg c2] at z
        by_cases c3 : a 12 3 p + a 12 4 p ≤ a 0 10 0 + 1
        · rw [if_pos c3] at z; omega
        · rw [if_neg c3] at z; omega
    · unfold tZ5 at z
      rw [if_neg c1] at z
      unfold tZ2 at z
      by_cases c2 : a 12 6 p = 0 ∧ a 12 3 p = a 0 10 0 + 1
      · rw [if_pos c2] at z; omega
      · rw [if_neg c2] at z
        obtain ⟨j1, j2, j3, j4⟩ := l2 z
        have s2 : tS2 a (a 12 2 p) = 0 := by unfold tS2; rw [j3, if_neg (fun q => c2 ⟨z, q.2.2⟩)]; exact j2
        have s3 : tS3 a (a 12 2 p) = 0 := by unfold tS3; rw [if_neg (by omega)]; exact s2
        have s4 : tS4 a nm (a 12 2 p) = 0 := by
          rcases tS4_c a nm (a 12 2 p) with ⟨q, _⟩ | ⟨_, q⟩
          · have := q.1.1; omega
          · rw [q]; exact s3
        have s5 : tS5 a nm (a 12 2 p) = 0 := by unfold tS5; rw [if_neg (by omega), if_neg (by omega)]; exact s4
        have sQ : tQ5 a nm (a 12 2 p) = a 11 5 (a 12 2 p) := by unfold tQ5; rw [if_neg (by omega)]
        have sP : tP3 a (a 12 2 p) = a 11 3 (a 12 2 p) := by unfold tP3; rw [if_neg (by omega), if_neg (by omega)]
        rw [s5, sQ, sP]
        exact ⟨by omega, rfl, j3, j4⟩
theorem kt_e (a : AT) {nm : Int} (k0 : Int) (h : nm ≤ 10) : kt a nm k0 10 = kt a nm k0 nm := by
  unfold kt
  have e1 : (if 10 < nm then 10 else nm) = nm := by omega
  have e2 : (if nm < nm then nm else nm) = nm := by omega
  rw [e1, e2]
theorem MR_step (h : Sh r n nr nm np) (hI : CI a nr nm np) (hM : MR x a nr nm np) (hu : CS u a nm np (tB3 a) (tP3 a) (tS5 a nm) (tQ5 a nm) (tZ5 a nm)) (h13 : u 0 13 0 = kt a nm (a 0 13 0) 10)
    (hc : RS c x a nm np (tB3 a) (tP3 a) (tS5 a nm) (tQ5 a nm) (tZ5 a nm)) (h28 : c 20 28 0 = kt a nm (x 20 28 0) nm) : MR c u nr nm np := by
  have hb := h.b
  obtain ⟨hMC, hMRm, hMP, hMS⟩ := hM
  obtain ⟨s1, s7, s15, s17, s24, s26, s27, s28, s32⟩ := hMS
  obtain ⟨k1, k2, k3, k4, k5, k6⟩ := hu
  obtain ⟨c1, c2, c3, c4, c5, c6, c7⟩ := hc
  have ct : ∀ t, t ≠ 20 → t ≠ 27 → t ≠ 28 → t ≠ 29 → t ≠ 30 → t ≠ 37 → c t = x t := c1
  refine ⟨MC_c2 (fun t t1 t2 => c1 t (by omega) (by omega) (by omega) (by omega) (by omega) (by omega)) (c2 4 (by omega) (by omega)) (fun t t1 t2 => k1 t (by omega) (by omega) (by omega)) hMC, MRm_c (c1 39 (by omega) (by omega) (by omega) (by omega) (by omega) (by omega)) (k1 10 (by omega) (by omega) (by omega)) hMRm, ⟨⟨fun m m1 m2 => ?_, fun m m1 m2 => ?_⟩, fun p p1 p2 => ?_, fun p p1 p2 => ?_⟩, ?_⟩
  · obtain ⟨y0, y1, y2, y3, y4, y5, y6⟩ := k4 m m1 m2
    obtain ⟨z2, z3, z4, z5⟩ := c4 m m1 m2
    obtain ⟨x0, x1, x2, x3, x4, x5, x6⟩ := hMP.1.1 m m1 m2
    rw [y0, y1, y2, y3, y4, y5, y6, z2, z3, z4, z5, c1 25 (by omega) (by omega) (by omega) (by omega) (by omega) (by omega), c1 26 (by omega) (by omega) (by omega) (by omega) (by omega) (by omega), c1 31 (by omega) (by omega) (by omega) (by omega) (by omega) (by omega)]
    refine ⟨x0, x1, rfl, rfl, rfl, rfl, fun z => x6 ?_⟩
    obtain ⟨b0, b1, b2, b3⟩ := tS4_b hI m1 m2
    have e : tS4 a nm m = 2 := by
      unfold tS5 at z
      by_cases d1 : tS4 a nm m = 1 ∧ a 12 3 (a 11 5 m) + a 12 4 (a 11 5 m) ≤ a 0 10 0 + 1
      · rw [if_pos d1] at z; omega
      · rw [if_neg d1] at z
        by_cases d2 : tS4 a nm m = 2 ∧ tP3 a m < 100
        · rw [if_pos d2] at z; omega
        · rw [if_neg d2] at z; exact z
    exact ((tF hI m1 m2).2.2.2.2.2.1 (b2 e)).1
  · rw [c5 m m1 m2]; exact hMP.1.2 m m1 m2
  · obtain ⟨⟨x1, x2, x3⟩, x4, x5, x6⟩ := hMP.2.1 p p1 p2
    rw [c6 p p1 p2, k6 p p1 p2, k5 2 p (by omega), k5 5 p (by omega), c1 33 (by omega) (by omega) (by omega) (by omega) (by omega) (by omega), c1 36 (by omega) (by omega) (by omega) (by omega) (by omega) (by omega)]
    refine ⟨⟨?_, ?_, fun k z1 z2 => ?_⟩, x4, x5, rfl⟩
    · rw [c1 34 (by omega) (by omega) (by omega) (by omega) (by omega) (by omega), k5 3 p (by omega)]; exact x1
    · rw [c1 35 (by omega) (by omega) (by omega) (by omega) (by omega) (by omega), k5 4 p (by omega)]; exact x2
    · rw [k5 4 p (by omega)] at z2
      rw [c1 38 (by omega) (by omega) (by omega) (by omega) (by omega) (by omega), k1 13 (by omega) (by omega) (by omega)]; exact x3 k z1 z2
  · rw [c7 p p1 p2]; exact hMP.2.2 p p1 p2
  · unfold MSc
    rw [c3, k3, c2 7 (by omega) (by omega), c2 15 (by omega) (by omega), c2 17 (by omega) (by omega), c2 24 (by omega) (by omega), c2 26 (by omega) (by omega), c2 27 (by omega) (by omega), h28, h13, s28, kt_e a _ hb.2.1.2, k2 9 (by omega) (by omega), k2 11 (by omega) (by omega), k2 12 (by omega) (by omega), k1 9 (by omega) (by omega) (by omega), c1 32 (by omega) (by omega) (by omega) (by omega) (by omega) (by omega)]
    exact ⟨rfl, s7, s15, s17, s24, s26, s27, rfl, s32⟩
/-- steps, one after another -/
def SPr (nr nm np : Int) (a u : AT) : Prop := CI a nr nm np ∧ CS u a nm np (tB3 a) (tP3 a) (tS5 a nm) (tQ5 a nm) (tZ5 a nm) ∧ u 0 13 0 = kt a nm (a 0 13 0) 10
def Ch (nr nm np : Int) : Nat → AT → AT → Prop
  | 0, a, u => u = a
  | k + 1, a, u => ∃ d, SPr nr nm np a d ∧ Ch nr nm np k d u
theorem c_ticks (h : Sh r n nr nm np) (st : Int) (hst : 0 ≤ st ∧ st ≤ 50) (e : Nat) : ∀ (k : Nat) (a : AT) (i : Int), 0 ≤ i → i + k = st → CI a nr nm np → a 0 10 0 + k ≤ 20000 →
    ∃ u, l_Sk_tick_44 0 (iz st) (k + 1 + e) (iz i) (VV a r n) = some (VV u r n) ∧ Ch nr nm np k a u ∧ CI u nr nm np ∧ u 0 10 0 = a 0 10 0 + k ∧ (∀ t, t ≠ 0 → t ≠ 11 → t ≠ 12 → u t = a t) := by
  intro k
  induction k with
  | zero =>
    intro a i i0 i1 hI hn
    refine ⟨a, ?_, rfl, hI, by omega, fun _ _ _ _ => rfl⟩
    rw [show 0 + 1 + e = e + 1 by omega]
    dsimp only [l_Sk_tick_44, b_Sk_tick_44]
    simp (disch := omega) only [lt__e, bnd_e, bnd2_e, bnd3_e, el0_l, el0_r, el1_l, el1_r, el2_l, el2_r, ↓reduceIte, not_true_eq_false, not_false_eq_true, reduceCtorEq, and_true, true_and, and_false, false_and, or_true, true_or, or_false, false_or, and_self, or_self, ite_true, ite_false, Int.cast_ofNat_Int, Nat.reduceEqDiff, Nat.reduceLT, Int.reduceAdd, Int.reduceSub, Int.reduceMul, Int.reduceNeg, Int.reduceLT, Int.reduceLE, Int.reduceEq, ilt_t, ilt_f, ile_t, ile_f, ieq_t, ieq_f, z_0, z_1, z_2, z_3, z_4, z_5, z_6, z_7, z_8, z_9, z_10, z_12, z_20, z_40, z_80, z_81, z_99, z_100, z_200, z_400, z_3240, z_20000, z_100000, iz_add, iz_sub, iz_mul, iz_neg, iz_nat, iz_lt, iz_le, iz_eq, iz_div, iz_ite, iz_c, md10, md100, izcb_0, izcb_1, isOut_0, isNoCell_0, isGr_0, within_e, isCell_e, np_p]
  | succ k ih =>
    intro a i i0 i1 hI hn
    obtain ⟨d, d1, d2, d3⟩ := c_step h hI
    have hId := CI_step hI d2 (by omega)
    have d10 := d2.2.2.1
    obtain ⟨u, u1, u2, u3, u4, u5⟩ := ih d (i + 1) (by omega) (by omega) hId (by omega)
    refine ⟨u, ?_, ⟨d, ⟨hI, d2, d3⟩, u2⟩, u3, by omega, fun t t1 t2 t3 => by rw [u5 t t1 t2 t3, d2.1 t t1 t2 t3]⟩
    rw [show k + 1 + 1 + e = (k + 1 + e) + 1 by omega]
    dsimp only [l_Sk_tick_44, b_Sk_tick_44]
    simp (disch := omega) only [lt__e, bnd_e, bnd2_e, bnd3_e, el0_l, el0_r, el1_l, el1_r, el2_l, el2_r, ↓reduceIte, not_true_eq_false, not_false_eq_true, reduceCtorEq, and_true, true_and, and_false, false_and, or_true, true_or, or_false, false_or, and_self, or_self, ite_true, ite_false, Int.cast_ofNat_Int, Nat.reduceEqDiff, Nat.reduceLT, Int.reduceAdd, Int.reduceSub, Int.reduceMul, Int.reduceNeg, Int.reduceLT, Int.reduceLE, Int.reduceEq, ilt_t, ilt_f, ile_t, ile_f, ieq_t, ieq_f, z_0, z_1, z_2, z_3, z_4, z_5, z_6, z_7, z_8, z_9, z_10, z_12, z_20, z_40, z_80, z_81, z_99, z_100, z_200, z_400, z_3240, z_20000, z_100000, iz_add, iz_sub, iz_mul, iz_neg, iz_nat, iz_lt, iz_le, iz_eq, iz_div, iz_ite, iz_c, md10, md100, izcb_0, izcb_1, isOut_0, isNoCell_0, isGr_0, within_e, isCell_e, np_p, d1]
    exact u1
theorem m_ticks (h : Sh r n nr nm np) (st : Int) (hst : 0 ≤ st ∧ st ≤ 50) (e : Nat) : ∀ (k : Nat) (a u c : AT) (i : Int), 0 ≤ i → i + k = st → Ch nr nm np k a u → MR c a nr nm np →
    ∃ c', l_Mo_tick_42 20 (iz st) (k + 1 + e) (iz i) (VV c r n) = some (VV c' r n) ∧ MR c' u nr nm np ∧ (∀ t, t < 20 ∨ 40 ≤ t → c' t = c t) ∧ c' 20 0 0 = c 20 0 0 := by
  intro k
  induction k with
  | zero =>
    intro a u c i i0 i1 hu hM
    have hu' : u = a := hu
    subst hu'
    refine ⟨c, ?_, hM, fun _ _ => rfl, rfl⟩
    rw [show 0 + 1 + e = e + 1 by omega]
    dsimp only [l_Mo_tick_42, b_Mo_tick_42]
    simp (disch := omega) only [lt__e, bnd_e, bnd2_e, bnd3_e, el0_l, el0_r, el1_l, el1_r, el2_l, el2_r, ↓reduceIte, not_true_eq_false, not_false_eq_true, reduceCtorEq, and_true, true_and, and_false, false_and, or_true, true_or, or_false, false_or, and_self, or_self, ite_true, ite_false, Int.cast_ofNat_Int, Nat.reduceEqDiff, Nat.reduceLT, Int.reduceAdd, Int.reduceSub, Int.reduceMul, Int.reduceNeg, Int.reduceLT, Int.reduceLE, Int.reduceEq, ilt_t, ilt_f, ile_t, ile_f, ieq_t, ieq_f, z_0, z_1, z_2, z_3, z_4, z_5, z_6, z_7, z_8, z_9, z_10, z_12, z_20, z_40, z_80, z_81, z_99, z_100, z_200, z_400, z_3240, z_20000, z_100000, iz_add, iz_sub, iz_mul, iz_neg, iz_nat, iz_lt, iz_le, iz_eq, iz_div, iz_ite, iz_c, md10, md100, izcb_0, izcb_1, isOut_0, isNoCell_0, isGr_0, within_e, isCell_e, np_p]
  | succ k ih =>
    intro a u c i i0 i1 hu hM
    obtain ⟨d, ⟨hI, d2, d3⟩, hu2⟩ := hu
    obtain ⟨c1, e1, e2, e3⟩ := m_step h hI hM
    have hM1 := MR_step h hI hM d2 d3 e2 e3
    obtain ⟨c', u1, u2, u3, u4⟩ := ih d u c1 (i + 1) (by omega) (by omega) hu2 hM1
    refine ⟨c', ?_, u2, fun t ht => by rw [u3 t ht, e2.1 t (by omega) (by omega) (by omega) (by omega) (by omega) (by omega)], by rw [u4, e2.2.1 0 (by omega) (by omega)]⟩
    rw [show k + 1 + 1 + e = (k + 1 + e) + 1 by omega]
    dsimp only [l_Mo_tick_42, b_Mo_tick_42]
    simp (disch := omega) only [lt__e, bnd_e, bnd2_e, bnd3_e, el0_l, el0_r, el1_l, el1_r, el2_l, el2_r, ↓reduceIte, not_true_eq_false, not_false_eq_true, reduceCtorEq, and_true, true_and, and_false, false_and, or_true, true_or, or_false, false_or, and_self, or_self, ite_true, ite_false, Int.cast_ofNat_Int, Nat.reduceEqDiff, Nat.reduceLT, Int.reduceAdd, Int.reduceSub, Int.reduceMul, Int.reduceNeg, Int.reduceLT, Int.reduceLE, Int.reduceEq, ilt_t, ilt_f, ile_t, ile_f, ieq_t, ieq_f, z_0, z_1, z_2, z_3, z_4, z_5, z_6, z_7, z_8, z_9, z_10, z_12, z_20, z_40, z_80, z_81, z_99, z_100, z_200, z_400, z_3240, z_20000, z_100000, iz_add, iz_sub, iz_mul, iz_neg, iz_nat, iz_lt, iz_le, iz_eq, iz_div, iz_ite, iz_c, md10, md100, izcb_0, izcb_1, isOut_0, isNoCell_0, isGr_0, within_e, isCell_e, np_p, e1]
    exact u1
theorem call_tick (g : GG a r n) {s' : Int} (q01 : -2147483648 ≤ s') (q02 : s' ≤ 2147483647) : ∃ k z A1 A2, f_La_tick (some 0) (iz s') (some 50) (VV a r n) = some (iz k, VV A1 r n) ∧ f_Mo_tick 20 (iz s') (VV A1 r n) = some (iz z, VV A2 r n) ∧ A2 20 0 0 = k ∧ (k = 0 → A2 50 0 0 = z) ∧ (0 ≤ k ∧ k ≤ 3) ∧ GG A2 r n := by
  obtain ⟨nr, nm, np, h, hI, hMR⟩ := g
  have g : GG a r n := ⟨nr, nm, np, h, hI, hMR⟩
  have hI' := hI
  have hMR' := hMR
  obtain ⟨⟨⟨hnr, hnm, hnp⟩, hnow, hns⟩, hC, hD, hR, hMa, hP, hL⟩ := hI
  obtain ⟨hMC, hMRm, hMP, hMS⟩ := hMR
  obtain ⟨s1, s7, s15, s17, s24, s26, s27, s28, s32⟩ := hMS
  have hb := h.b
  have hcs := hC.1
  have hds := hD.1
  by_cases c1 : 1 ≤ s' ∧ s' ≤ 50
  · by_cases c2 : a 0 10 0 + s' ≤ 20000
    · have es : ((s'.toNat : Nat) : Int) = s' := by omega
      obtain ⟨u, u1, u2, u3, u4, u5⟩ := c_ticks h s' (by omega) (4095 - s'.toNat) s'.toNat a 0 (by omega) (by omega) hI' (by omega)
      have ef : s'.toNat + 1 + (4095 - s'.toNat) = 4096 := by omega
      rw [ef] at u1
      rw [es] at u4
      have hM0 : MR (up (up u 50 0 0 (a 0 10 0 + s')) 20 0 0 0) a nr nm np := MR_c hb.2.2.2 (fun t t1 t2 _ => by rw [up_t (by omega), up_t (by omega), u5 t (by omega) (by omega) (by omega)]) (fun j _ => by rw [up_t (by omega), up_t (by omega), u5 38 (by omega) (by omega) (by omega)]) (fun j j1 => by rw [up_s, if_neg (by omega), up_t (by omega), u5 20 (by omega) (by omega) (by omega)]) (fun _ _ => rfl) (EqQ.of rfl rfl) hP hMR'
      obtain ⟨c', d1, d2, d3, d4⟩ := m_ticks h s' (by omega) (4095 - s'.toNat) s'.toNat a u (up (up u 50 0 0 (a 0 10 0 + s')) 20 0 0 0) 0 (by omega) (by omega) u2 hM0
      rw [ef] at d1
      have e20 : up u 50 0 0 (a 0 10 0 + s') 20 1 0 = a 0 10 0 := by rw [up_t (by omega), u5 20 (by omega) (by omega) (by omega)]; exact s1
      have e21 : c' 20 1 0 = a 0 10 0 + s' := by rw [d2.2.2.2.1]; exact u4
      refine ⟨0, a 0 10 0 + s', up u 50 0 0 (a 0 10 0 + s'), c', ?_, ?_, by rw [d4, up_s, if_pos ⟨rfl, rfl⟩], fun _ => by rw [d3 50 (by omega), up_t (by omega), up_s, if_pos ⟨rfl, rfl⟩], by omega, ?_⟩
      · unfold f_La_tick f_Sk_tick
        simp (disch := omega) only [z_50, lt__e, bnd_e, bnd2_e, bnd3_e, el0_l, el0_r, el1_l, el1_r, el2_l, el2_r, ↓reduceIte, not_true_eq_false, not_false_eq_true, reduceCtorEq, and_true, true_and, and_false, false_and, or_true, true_or, or_false, false_or, and_self, or_self, ite_true, ite_false, Int.cast_ofNat_Int, Nat.reduceEqDiff, Nat.reduceLT, Int.reduceAdd, Int.reduceSub, Int.reduceMul, Int.reduceNeg, Int.reduceLT, Int.reduceLE, Int.reduceEq, ilt_t, ilt_f, ile_t, ile_f, ieq_t, ieq_f, z_0, z_1, z_2, z_3, z_4, z_5, z_6, z_7, z_8, z_9, z_10, z_12, z_20, z_40, z_80, z_81, z_99, z_100, z_200, z_400, z_3240, z_20000, z_100000, iz_add, iz_sub, iz_mul, iz_neg, iz_nat, iz_lt, iz_le, iz_eq, iz_div, iz_ite, iz_c, md10, md100, izcb_0, izcb_1, isOut_0, isNoCell_0, isGr_0, within_e, isCell_e, np_p, VV_r, VV_n, V_k, W_k, V_0, W_0, V_1, W_1, V_2, W_2, V_3, W_3, V_4, W_4, V_5, W_5, V_6, W_6, V_7, W_7, V_8, W_8, V_9, W_9, VV_r, VV_n, V_20, W_20, V_21, W_21, V_22, W_22, V_23, W_23, V_24, W_24, V_25, W_25, V_26, W_26, V_27, W_27, V_28, W_28, V_29, W_29, V_30, W_30, V_31, W_31, V_32, W_32, V_33, W_33, V_34, W_34, V_35, W_35, V_36, W_36, V_37, W_37, V_38, W_38, V_39, W_39, h.r0_0, h.r0_1, h.r0_2, h.r0_3, h.r0_4, h.r0_5, h.r1_0, h.r1_1, h.r1_2, h.r1_3, h.r12, rf_0 h, rf_1 h, rf_10 h, rf_11 h, rf_12 h, r6_i h, r6_o h, r7_i h, r7_o h, r8_i h, r8_o h, rl_13 h, ra_13 h, rl_2 h, ra_2 h, rl_3 h, ra_3 h, rl_4 h, ra_4 h, rl_5 h, ra_5 h, rl_6 h, ra_6 h, rl_7 h, ra_7 h, rl_8 h, ra_8 h, rl_9 h, ra_9 h, h.r20_2, h.r20_3, h.r20_5, h.r20_6, h.r20_8, h.r20_9, h.r20_10, h.r20_11, h.r20_12, h.r20_13, h.r20_14, h.r20_16, h.r20_18, h.r20_19, h.r20_20, h.r20_21, h.r20_22, h.r20_23, h.r20_25, rf_20 h, ra_21 h, ra_22 h, ra_23 h, ra_24 h, ra_25 h, ra_26 h, ra_27 h, ra_28 h, ra_29 h, ra_30 h, ra_31 h, ra_32 h, ra_33 h, ra_34 h, ra_35 h, ra_36 h, ra_37 h, ra_38 h, ra_39 h, rl_50 h, ra_50 h, V_50, W_50, up_e, m_ref0 h, m_refw h, c1, u1, u4]
      · unfold f_Mo_tick j_Mo_tick_32
        simp (disch := omega) only [z_50, lt__e, bnd_e, bnd2_e, bnd3_e, el0_l, el0_r, el1_l, el1_r, el2_l, el2_r, ↓reduceIte, not_true_eq_false, not_false_eq_true, reduceCtorEq, and_true, true_and, and_false, false_and, or_true, true_or, or_false, false_or, and_self, or_self, ite_true, ite_false, Int.cast_ofNat_Int, Nat.reduceEqDiff, Nat.reduceLT, Int.reduceAdd, Int.reduceSub, Int.reduceMul, Int.reduceNeg, Int.reduceLT, Int.reduceLE, Int.reduceEq, ilt_t, ilt_f, ile_t, ile_f, ieq_t, ieq_f, z_0, z_1, z_2, z_3, z_4, z_5, z_6, z_7, z_8, z_9, z_10, z_12, z_20, z_40, z_80, z_81, z_99, z_100, z_200, z_400, z_3240, z_20000, z_100000, iz_add, iz_sub, iz_mul, iz_neg, iz_nat, iz_lt, iz_le, iz_eq, iz_div, iz_ite, iz_c, md10, md100, izcb_0, izcb_1, isOut_0, isNoCell_0, isGr_0, within_e, isCell_e, np_p, c1, V_20, e20, m_ref0 h, rf_20 h, VV_n, d1, e21]
      · obtain ⟨m1, m2, m3, m4⟩ := d2
        exact GG_of h u3 (fun t t1 => by rw [d3 t (by omega), up_t (by omega), up_t (by omega)]) m1 m2 m3 m4
    · refine ⟨2, 0, a, up a 20 0 0 2, ?_, ?_, ?_, ?_, by omega, GG_r g _⟩
      · unfold f_La_tick f_Sk_tick
        simp (disch := omega) only [z_50, lt__e, bnd_e, bnd2_e, bnd3_e, el0_l, el0_r, el1_l, el1_r, el2_l, el2_r, ↓reduceIte, not_true_eq_false, not_false_eq_true, reduceCtorEq, and_true, true_and, and_false, false_and, or_true, true_or, or_false, false_or, and_self, or_self, ite_true, ite_false, Int.cast_ofNat_Int, Nat.reduceEqDiff, Nat.reduceLT, Int.reduceAdd, Int.reduceSub, Int.reduceMul, Int.reduceNeg, Int.reduceLT, Int.reduceLE, Int.reduceEq, ilt_t, ilt_f, ile_t, ile_f, ieq_t, ieq_f, z_0, z_1, z_2, z_3, z_4, z_5, z_6, z_7, z_8, z_9, z_10, z_12, z_20, z_40, z_80, z_81, z_99, z_100, z_200, z_400, z_3240, z_20000, z_100000, iz_add, iz_sub, iz_mul, iz_neg, iz_nat, iz_lt, iz_le, iz_eq, iz_div, iz_ite, iz_c, md10, md100, izcb_0, izcb_1, isOut_0, isNoCell_0, isGr_0, within_e, isCell_e, np_p, VV_r, VV_n, V_k, W_k, V_0, W_0, V_1, W_1, V_2, W_2, V_3, W_3, V_4, W_4, V_5, W_5, V_6, W_6, V_7, W_7, V_8, W_8, V_9, W_9, VV_r, VV_n, V_20, W_20, V_21, W_21, V_22, W_22, V_23, W_23, V_24, W_24, V_25, W_25, V_26, W_26, V_27, W_27, V_28, W_28, V_29, W_29, V_30, W_30, V_31, W_31, V_32, W_32, V_33, W_33, V_34, W_34, V_35, W_35, V_36, W_36, V_37, W_37, V_38, W_38, V_39, W_39, h.r0_0, h.r0_1, h.r0_2, h.r0_3, h.r0_4, h.r0_5, h.r1_0, h.r1_1, h.r1_2, h.r1_3, h.r12, rf_0 h, rf_1 h, rf_10 h, rf_11 h, rf_12 h, r6_i h, r6_o h, r7_i h, r7_o h, r8_i h, r8_o h, rl_13 h, ra_13 h, rl_2 h, ra_2 h, rl_3 h, ra_3 h, rl_4 h, ra_4 h, rl_5 h, ra_5 h, rl_6 h, ra_6 h, rl_7 h, ra_7 h, rl_8 h, ra_8 h, rl_9 h, ra_9 h, h.r20_2, h.r20_3, h.r20_5, h.r20_6, h.r20_8, h.r20_9, h.r20_10, h.r20_11, h.r20_12, h.r20_13, h.r20_14, h.r20_16, h.r20_18, h.r20_19, h.r20_20, h.r20_21, h.r20_22, h.r20_23, h.r20_25, rf_20 h, ra_21 h, ra_22 h, ra_23 h, ra_24 h, ra_25 h, ra_26 h, ra_27 h, ra_28 h, ra_29 h, ra_30 h, ra_31 h, ra_32 h, ra_33 h, ra_34 h, ra_35 h, ra_36 h, ra_37 h, ra_38 h, ra_39 h, rl_50 h, ra_50 h, V_50, W_50, up_e, m_ref0 h, m_refw h, c1]
      · unfold f_Mo_tick j_Mo_tick_32
        simp (disch := omega) only [z_50, lt__e, bnd_e, bnd2_e, bnd3_e, el0_l, el0_r, el1_l, el1_r, el2_l, el2_r, ↓reduceIte, not_true_eq_false, not_false_eq_true, reduceCtorEq, and_true, true_and, and_false, false_and, or_true, true_or, or_false, false_or, and_self, or_self, ite_true, ite_false, Int.cast_ofNat_Int, Nat.reduceEqDiff, Nat.reduceLT, Int.reduceAdd, Int.reduceSub, Int.reduceMul, Int.reduceNeg, Int.reduceLT, Int.reduceLE, Int.reduceEq, ilt_t, ilt_f, ile_t, ile_f, ieq_t, ieq_f, z_0, z_1, z_2, z_3, z_4, z_5, z_6, z_7, z_8, z_9, z_10, z_12, z_20, z_40, z_80, z_81, z_99, z_100, z_200, z_400, z_3240, z_20000, z_100000, iz_add, iz_sub, iz_mul, iz_neg, iz_nat, iz_lt, iz_le, iz_eq, iz_div, iz_ite, iz_c, md10, md100, izcb_0, izcb_1, isOut_0, isNoCell_0, isGr_0, within_e, isCell_e, np_p, VV_r, VV_n, V_k, W_k, V_0, W_0, V_1, W_1, V_2, W_2, V_3, W_3, V_4, W_4, V_5, W_5, V_6, W_6, V_7, W_7, V_8, W_8, V_9, W_9, VV_r, VV_n, V_20, W_20, V_21, W_21, V_22, W_22, V_23, W_23, V_24, W_24, V_25, W_25, V_26, W_26, V_27, W_27, V_28, W_28, V_29, W_29, V_30, W_30, V_31, W_31, V_32, W_32, V_33, W_33, V_34, W_34, V_35, W_35, V_36, W_36, V_37, W_37, V_38, W_38, V_39, W_39, h.r0_0, h.r0_1, h.r0_2, h.r0_3, h.r0_4, h.r0_5, h.r1_0, h.r1_1, h.r1_2, h.r1_3, h.r12, rf_0 h, rf_1 h, rf_10 h, rf_11 h, rf_12 h, r6_i h, r6_o h, r7_i h, r7_o h, r8_i h, r8_o h, rl_13 h, ra_13 h, rl_2 h, ra_2 h, rl_3 h, ra_3 h, rl_4 h, ra_4 h, rl_5 h, ra_5 h, rl_6 h, ra_6 h, rl_7 h, ra_7 h, rl_8 h, ra_8 h, rl_9 h, ra_9 h, h.r20_2, h.r20_3, h.r20_5, h.r20_6, h.r20_8, h.r20_9, h.r20_10, h.r20_11, h.r20_12, h.r20_13, h.r20_14, h.r20_16, h.r20_18, h.r20_19, h.r20_20, h.r20_21, h.r20_22, h.r20_23, h.r20_25, rf_20 h, ra_21 h, ra_22 h, ra_23 h, ra_24 h, ra_25 h, ra_26 h, ra_27 h, ra_28 h, ra_29 h, ra_30 h, ra_31 h, ra_32 h, ra_33 h, ra_34 h, ra_35 h, ra_36 h, ra_37 h, ra_38 h, ra_39 h, rl_50 h, ra_50 h, V_50, W_50, up_e, m_ref0 h, m_refw h, c1, s1]
      · simp (disch := omega) only [up_e, lt__e, bnd_e, bnd2_e, bnd3_e, el0_l, el0_r, el1_l, el1_r, el2_l, el2_r, ↓reduceIte, not_true_eq_false, not_false_eq_true, reduceCtorEq, and_true, true_and, and_false, false_and, or_true, true_or, or_false, false_or, and_self, or_self, ite_true, ite_false, Int.cast_ofNat_Int, Nat.reduceEqDiff, Nat.reduceLT, Int.reduceAdd, Int.reduceSub, Int.reduceMul, Int.reduceNeg, Int.reduceLT, Int.reduceLE, Int.reduceEq, ilt_t, ilt_f, ile_t, ile_f, ieq_t, ieq_f]
      · omega
  · refine ⟨1, 0, a, up a 20 0 0 1, ?_, ?_, ?_, ?_, by omega, GG_r g _⟩
    · unfold f_La_tick f_Sk_tick
      simp (disch := omega) only [z_50, lt__e, bnd_e, bnd2_e, bnd3_e, el0_l, el0_r, el1_l, el1_r, el2_l, el2_r, ↓reduceIte, not_true_eq_false, not_false_eq_true, reduceCtorEq, and_true, true_and, and_false, false_and, or_true, true_or, or_false, false_or, and_self, or_self, ite_true, ite_false, Int.cast_ofNat_Int, Nat.reduceEqDiff, Nat.reduceLT, Int.reduceAdd, Int.reduceSub, Int.reduceMul, Int.reduceNeg, Int.reduceLT, Int.reduceLE, Int.reduceEq, ilt_t, ilt_f, ile_t, ile_f, ieq_t, ieq_f, z_0, z_1, z_2, z_3, z_4, z_5, z_6, z_7, z_8, z_9, z_10, z_12, z_20, z_40, z_80, z_81, z_99, z_100, z_200, z_400, z_3240, z_20000, z_100000, iz_add, iz_sub, iz_mul, iz_neg, iz_nat, iz_lt, iz_le, iz_eq, iz_div, iz_ite, iz_c, md10, md100, izcb_0, izcb_1, isOut_0, isNoCell_0, isGr_0, within_e, isCell_e, np_p, VV_r, VV_n, V_k, W_k, V_0, W_0, V_1, W_1, V_2, W_2, V_3, W_3, V_4, W_4, V_5, W_5, V_6, W_6, V_7, W_7, V_8, W_8, V_9, W_9, VV_r, VV_n, V_20, W_20, V_21, W_21, V_22, W_22, V_23, W_23, V_24, W_24, V_25, W_25, V_26, W_26, V_27, W_27, V_28, W_28, V_29, W_29, V_30, W_30, V_31, W_31, V_32, W_32, V_33, W_33, V_34, W_34, V_35, W_35, V_36, W_36, V_37, W_37, V_38, W_38, V_39, W_39, h.r0_0, h.r0_1, h.r0_2, h.r0_3, h.r0_4, h.r0_5, h.r1_0, h.r1_1, h.r1_2, h.r1_3, h.r12, rf_0 h, rf_1 h, rf_10 h, rf_11 h, rf_12 h, r6_i h, r6_o h, r7_i h, r7_o h, r8_i h, r8_o h, rl_13 h, ra_13 h, rl_2 h, ra_2 h, rl_3 h, ra_3 h, rl_4 h, ra_4 h, rl_5 h, ra_5 h, rl_6 h, ra_6 h, rl_7 h, ra_7 h, rl_8 h, ra_8 h, rl_9 h, ra_9 h, h.r20_2, h.r20_3, h.r20_5, h.r20_6, h.r20_8, h.r20_9, h.r20_10, h.r20_11, h.r20_12, h.r20_13, h.r20_14, h.r20_16, h.r20_18, h.r20_19, h.r20_20, h.r20_21, h.r20_22, h.r20_23, h.r20_25, rf_20 h, ra_21 h, ra_22 h, ra_23 h, ra_24 h, ra_25 h, ra_26 h, ra_27 h, ra_28 h, ra_29 h, ra_30 h, ra_31 h, ra_32 h, ra_33 h, ra_34 h, ra_35 h, ra_36 h, ra_37 h, ra_38 h, ra_39 h, rl_50 h, ra_50 h, V_50, W_50, up_e, m_ref0 h, m_refw h, c1]
    · unfold f_Mo_tick j_Mo_tick_32
      simp (disch := omega) only [z_50, lt__e, bnd_e, bnd2_e, bnd3_e, el0_l, el0_r, el1_l, el1_r, el2_l, el2_r, ↓reduceIte, not_true_eq_false, not_false_eq_true, reduceCtorEq, and_true, true_and, and_false, false_and, or_true, true_or, or_false, false_or, and_self, or_self, ite_true, ite_false, Int.cast_ofNat_Int, Nat.reduceEqDiff, Nat.reduceLT, Int.reduceAdd, Int.reduceSub, Int.reduceMul, Int.reduceNeg, Int.reduceLT, Int.reduceLE, Int.reduceEq, ilt_t, ilt_f, ile_t, ile_f, ieq_t, ieq_f, z_0, z_1, z_2, z_3, z_4, z_5, z_6, z_7, z_8, z_9, z_10, z_12, z_20, z_40, z_80, z_81, z_99, z_100, z_200, z_400, z_3240, z_20000, z_100000, iz_add, iz_sub, iz_mul, iz_neg, iz_nat, iz_lt, iz_le, iz_eq, iz_div, iz_ite, iz_c, md10, md100, izcb_0, izcb_1, isOut_0, isNoCell_0, isGr_0, within_e, isCell_e, np_p, VV_r, VV_n, V_k, W_k, V_0, W_0, V_1, W_1, V_2, W_2, V_3, W_3, V_4, W_4, V_5, W_5, V_6, W_6, V_7, W_7, V_8, W_8, V_9, W_9, VV_r, VV_n, V_20, W_20, V_21, W_21, V_22, W_22, V_23, W_23, V_24, W_24, V_25, W_25, V_26, W_26, V_27, W_27, V_28, W_28, V_29, W_29, V_30, W_30, V_31, W_31, V_32, W_32, V_33, W_33, V_34, W_34, V_35, W_35, V_36, W_36, V_37, W_37, V_38, W_38, V_39, W_39, h.r0_0, h.r0_1, h.r0_2, h.r0_3, h.r0_4, h.r0_5, h.r1_0, h.r1_1, h.r1_2, h.r1_3, h.r12, rf_0 h, rf_1 h, rf_10 h, rf_11 h, rf_12 h, r6_i h, r6_o h, r7_i h, r7_o h, r8_i h, r8_o h, rl_13 h, ra_13 h, rl_2 h, ra_2 h, rl_3 h, ra_3 h, rl_4 h, ra_4 h, rl_5 h, ra_5 h, rl_6 h, ra_6 h, rl_7 h, ra_7 h, rl_8 h, ra_8 h, rl_9 h, ra_9 h, h.r20_2, h.r20_3, h.r20_5, h.r20_6, h.r20_8, h.r20_9, h.r20_10, h.r20_11, h.r20_12, h.r20_13, h.r20_14, h.r20_16, h.r20_18, h.r20_19, h.r20_20, h.r20_21, h.r20_22, h.r20_23, h.r20_25, rf_20 h, ra_21 h, ra_22 h, ra_23 h, ra_24 h, ra_25 h, ra_26 h, ra_27 h, ra_28 h, ra_29 h, ra_30 h, ra_31 h, ra_32 h, ra_33 h, ra_34 h, ra_35 h, ra_36 h, ra_37 h, ra_38 h, ra_39 h, rl_50 h, ra_50 h, V_50, W_50, up_e, m_ref0 h, m_refw h, c1]
    · simp (disch := omega) only [up_e, lt__e, bnd_e, bnd2_e, bnd3_e, el0_l, el0_r, el1_l, el1_r, el2_l, el2_r, ↓reduceIte, not_true_eq_false, not_false_eq_true, reduceCtorEq, and_true, true_and, and_false, false_and, or_true, true_or, or_false, false_or, and_self, or_self, ite_true, ite_false, Int.cast_ofNat_Int, Nat.reduceEqDiff, Nat.reduceLT, Int.reduceAdd, Int.reduceSub, Int.reduceMul, Int.reduceNeg, Int.reduceLT, Int.reduceLE, Int.reduceEq, ilt_t, ilt_f, ile_t, ile_f, ieq_t, ieq_f]
    · omega
end C20
