/-! what holds behind a step; tick -/
section C20
variable {a b u v s x c : AT} {r : Nat → Nat → Option Nat} {n : Nat → Nat} {nr nm np : Int} {B P S Q Z : Int → Int}
theorem tS4_2 (hI : CI a nr nm np) {i : Int} (i1 : 0 ≤ i) (i2 : i < nm) (h : tS4 a nm i ≠ 3) : tS4 a nm i = tS2 a i ∧ 0 ≤ tB3 a i := by
  obtain ⟨g0, g1, g2, f0, f1, f2, f3, gP, gB, gN⟩ := tF hI i1 i2
  rcases tS4_c a nm i with ⟨_, q⟩ | ⟨_, q⟩
  · exact absurd q h
  · have q2 := q
    unfold tS3 at q
    by_cases c : (tS2 a i = 1 ∨ tS2 a i = 2) ∧ tB3 a i < 0
    · rw [if_pos c] at q; exact absurd q h
    · rw [if_neg c] at q
      exact ⟨q, by omega⟩
theorem CI_step (hI : CI a nr nm np) (hu : CS u a nm np (tB3 a) (tP3 a) (tS5 a nm) (tQ5 a nm) (tZ5 a nm)) (hn : a 0 10 0 < 20000) : CI u nr nm np := by
  have hIa := hI
  obtain ⟨⟨⟨hnr, hnm, hnp⟩, hnow, hns⟩, hC, hD, hR, hMa, hP, hL1, hL2⟩ := hI
  obtain ⟨k1, k2, k3, k4, k5, k6⟩ := hu
  have e13 := k1 13 (by omega) (by omega) (by omega)
  have tw : ∀ m, 0 ≤ m → m < nm → (tS5 a nm m = 0 ∨ tS5 a nm m = 1 ∨ tS5 a nm m = 2 ∨ tS5 a nm m = 3) := fun m m1 m2 => by
    have := (tS4_b hIa m1 m2).1
    unfold tS5; omega
  have qw : ∀ m, 0 ≤ m → m < nm → -1 ≤ tQ5 a nm m ∧ tQ5 a nm m < np := fun m m1 m2 => by
    have w := (hMa m m1 m2).2.2.2.2.2.1
    have : 0 ≤ np := by omega
    unfold tQ5
    by_cases c : tS4 a nm m = 3 ∨ (tS4 a nm m = 1 ∧ a 12 3 (a 11 5 m) + a 12 4 (a 11 5 m) ≤ a 0 10 0 + 1)
    · rw [if_pos c]; omega
    · rw [if_neg c]; exact w
  refine ⟨⟨⟨?_, ?_, ?_⟩, ?_, ?_⟩, CC_c (fun t t1 t2 => k1 t (by omega) (by omega) (by omega)) hC, CD_c (k2 9 (by omega) (by omega)) (k1 9 (by omega) (by omega) (by omega)) hD, CRm_c2 (k1 10 (by omega) (by omega) (by omega)) hR, fun m m1 m2 => ?_, fun p p1 p2 => ?_, fun m m1 m2 => ?_, fun p p1 p2 => ?_⟩
  · rw [k2 6 (by omega) (by omega)]; exact hnr
  · rw [k2 7 (by omega) (by omega)]; exact hnm
  · rw [k2 8 (by omega) (by omega)]; exact hnp
  · rw [k3]; omega
  · rw [k1 1 (by omega) (by omega) (by omega)]; exact hns
  · obtain ⟨y0, y1, y2, y3, y4, y5, y6⟩ := k4 m m1 m2
    obtain ⟨w0, w1, w2, w3, w4, w5, w6⟩ := hMa m m1 m2
    obtain ⟨g0, g1, g2, f0, f1, f2, f3, gP, gB, gN⟩ := tF hIa m1 m2
    have := tw m m1 m2
    have := qw m m1 m2
    rw [y0, y1, y2, y3, y4, y5, y6]
    exact ⟨w0, w1, by omega, gP, by omega, by omega, w6⟩
  · obtain ⟨w1, w2, w3, w4, w5, w6, w7⟩ := hP p p1 p2
    refine ⟨PW_c (a := u) (b := a) ⟨k5 3 p (by omega), k5 4 p (by omega), fun k => by rw [e13]⟩ w1, ?_, ?_, ?_, ?_, ?_, ?_⟩
    · rw [k5 3 p (by omega)]; exact w2
    · rw [k5 4 p (by omega)]; exact w3
    · rw [k5 1 p (by omega)]; exact w4
    · rw [k5 2 p (by omega)]; exact w5
    · rw [k5 5 p (by omega)]; exact w6
    · rw [k6 p p1 p2]
      have z2 : 0 ≤ tZ2 a p ∧ tZ2 a p ≤ 4 := by unfold tZ2; omega
      unfold tZ5
      by_cases c1 : tS2 a (a 12 2 p) = 1 ∧ a 11 5 (a 12 2 p) = p
      · rw [if_pos c1]; omega
      · rw [if_neg c1]; exact z2
  · obtain ⟨y0, y1, y2, y3, y4, y5, y6⟩ := k4 m m1 m2
    obtain ⟨w0, w1, w2, w3, w4, w5, w6⟩ := hMa m m1 m2
    obtain ⟨g0, g1, g2, f0, f1, f2, f3, gP, gB, gN⟩ := tF hIa m1 m2
    obtain ⟨b0, b1, b2, b3⟩ := tS4_b hIa m1 m2
    have q5 := qw m m1 m2
    unfold CL1
    rw [y2, y3, y4, y5, y6, k3, e13]
    simp (disch := omega) only [k5]
    by_cases d1 : tS4 a nm m = 1 ∧ a 12 3 (a 11 5 m) + a 12 4 (a 11 5 m) ≤ a 0 10 0 + 1
    · -- it has landed
      have e5 : tS5 a nm m = 0 := if_pos d1
      have eQ : tQ5 a nm m = -1 := if_pos (Or.inr d1)
      have hB := (tS4_2 hIa m1 m2 (by omega)).2
      obtain ⟨h1, h2, h3, h4, h5, h6, h7, h8⟩ := f1 (b1 d1.1)
      have hl := (hL2 _ h2 h3).1
      have el : a 0 10 0 + 1 - a 12 3 (a 11 5 m) = a 12 4 (a 11 5 m) := by omega
      rw [el] at h8
      rw [e5, eQ]
      exact ⟨fun _ => ⟨by omega, hB, fun z => by omega⟩, fun z => by omega, fun z => by omega, fun z => by omega⟩
    · by_cases d2 : tS4 a nm m = 2 ∧ tP3 a m < 100
      · have e5 : tS5 a nm m = 0 := by unfold tS5; rw [if_neg d1, if_pos d2]
        have eQ : tQ5 a nm m = a 11 5 m := by unfold tQ5; rw [if_neg (fun z => z.elim (fun z => by omega) d1)]
        have hB := (tS4_2 hIa m1 m2 (by omega)).2
        have hf := f2 (b2 d2.1)
        rw [e5, eQ]
        exact ⟨fun _ => ⟨d2.2, hB, fun z => by omega⟩, fun z => by omega, fun z => by omega, fun z => by omega⟩
      · have e5 : tS5 a nm m = tS4 a nm m := by unfold tS5; rw [if_neg d1, if_neg d2]
        rw [e5]
        by_cases d3 : tS4 a nm m = 3
        · have eQ : tQ5 a nm m = -1 := if_pos (Or.inl d3)
          rw [eQ]
          exact ⟨fun z => by omega, fun z => by omega, fun z => by omega, fun _ => rfl⟩
        · have eQ : tQ5 a nm m = a 11 5 m := by unfold tQ5; rw [if_neg (fun z => z.elim d3 d1)]
          obtain ⟨e2, hB⟩ := tS4_2 hIa m1 m2 d3
          rw [eQ, e2]
          refine ⟨fun z => ?_, fun z => ?_, fun z => ?_, fun z => ?_⟩
          · obtain ⟨h1, h2, h3⟩ := f0 z
            have eP : tP3 a m = a 11 3 m := by unfold tP3; rw [if_neg (by omega), if_neg (by omega)]
            rw [eP]
            refine ⟨h2, hB, fun zz => ?_⟩
            obtain ⟨h4, h5, h6⟩ := h3 zz
            refine ⟨?_, h5⟩
            rw [k6 _ zz w5.2]
            unfold tZ5
            rw [h5, if_neg (by omega)]
            unfold tZ2
            rw [if_neg (fun q => h6 q.2)]; exact h4
          · obtain ⟨h1, h2, h3, h4, h5, h6, h7, h8⟩ := f1 z
            refine ⟨hB, h2, ?_, h4, ⟨h7.1, by omega⟩, h8⟩
            rw [k6 _ h2 h3]
            unfold tZ5
            rw [h4, if_pos ⟨z, rfl⟩, if_neg (by omega), if_neg (by omega)]; exact h6
          · obtain ⟨h1, h2, h3, h4, h5⟩ := f2 z
            exact ⟨hB, h3, by omega, h5.1⟩
          · omega
  · obtain ⟨l1, l2⟩ := hL2 p p1 p2
    have own := (hP p p1 p2).2.2.2.2.1
    obtain ⟨y0, y1, y2, y3, y4, y5, y6⟩ := k4 _ own.1 own.2
    obtain ⟨g0, g1, g2, f0, f1, f2, f3, gP, gB, gN⟩ := tF hIa own.1 own.2
    unfold CL2
    rw [k6 p p1 p2, k3, e13]
    simp (disch := omega) only [k5]
    rw [y3, y4, y5]
    refine ⟨l1, fun z => ?_⟩
    by_cases c1 : tS2 a (a 12 2 p) = 1 ∧ a 11 5 (a 12 2 p) = p
    · unfold tZ5 at z
      rw [if_pos c1] at z
      have h6 := (f1 c1.1).2.2.2.2.2.1
      rw [c1.2] at h6
      by_cases c2 : tS4 a nm (a 12 2 p) = 3
      · rw [if_pos c2] at z; omega
      · rw [if_neg c2] at z
        by_cases c3 : a 12 3 p + a 12 4 p ≤ a 0 10 0 + 1
        · rw [if_pos c3] at z; omega
        · rw [if_neg c3] at z; omega
    · unfold tZ5 at z
      rw [if_neg c1] at z
      unfold tZ2 at z
      by_cases c2 : a 12 6 p = 0 ∧ a 12 3 p = a 0 10 0 + 1
      · rw [if_pos c2] at z; omega
      · rw [if_neg c2] at z
        obtain ⟨j1, j2, j3, j4⟩ := l2 z
        have s2 : tS2 a (a 12 2 p) = 0 := by unfold tS2; rw [j3, if_neg (fun q => c2 ⟨z, q.2.2⟩)]; exact j2
        have s3 : tS3 a (a 12 2 p) = 0 := by unfold tS3; rw [if_neg (by omega)]; exact s2
        have s4 : tS4 a nm (a 12 2 p) = 0 := by
          rcases tS4_c a nm (a 12 2 p) with ⟨q, _⟩ | ⟨_, q⟩
          · have := q.1.1; omega
          · rw [q]; exact s3
        have s5 : tS5 a nm (a 12 2 p) = 0 := by unfold tS5; rw [if_neg (by omega), if_neg (by omega)]; exact s4
        have sQ : tQ5 a nm (a 12 2 p) = a 11 5 (a 12 2 p) := by unfold tQ5; rw [if_neg (by omega)]
        have sP : tP3 a (a 12 2 p) = a 11 3 (a 12 2 p) := by unfold tP3; rw [if_neg (by omega), if_neg (by omega)]
        rw [s5, sQ, sP]
        exact ⟨by omega, rfl, j3, j4⟩
theorem kt_e (a : AT) {nm : Int} (k0 : Int) (h : nm ≤ 10) : kt a nm k0 10 = kt a nm k0 nm := by
  unfold kt
  have e1 : (if 10 < nm then 10 else nm) = nm := by omega
  have e2 : (if nm < nm then nm else nm) = nm := by omega
  rw [e1, e2]
/-- steps, one after another -/
def SPr (nr nm np : Int) (a u : AT) : Prop := CI a nr nm np ∧ CS u a nm np (tB3 a) (tP3 a) (tS5 a nm) (tQ5 a nm) (tZ5 a nm) ∧ u 0 13 0 = kt a nm (a 0 13 0) 10
def Ch (nr nm np : Int) : Nat → AT → AT → Prop
  | 0, a, u => u = a
  | k + 1, a, u => ∃ d, SPr nr nm np a d ∧ Ch nr nm np k d u
theorem c_ticks (h : Sh r n nr nm np) (st : Int) (hst : 0 ≤ st ∧ st ≤ 50) (e : Nat) : ∀ (k : Nat) (a : AT) (i : Int), 0 ≤ i → i + k = st → CI a nr nm np → a 0 10 0 + k ≤ 20000 →
    ∃ u, l_Sk_tick_44 0 (iz st) (k + 1 + e) (iz i) (VV a r n) = some (VV u r n) ∧ Ch nr nm np k a u ∧ CI u nr nm np ∧ u 0 10 0 = a 0 10 0 + k ∧ (∀ t, t ≠ 0 → t ≠ 11 → t ≠ 12 → u t = a t) := by
  intro k
  induction k with
  | zero =>
    intro a i i0 i1 hI hn
    refine ⟨a, ?_, rfl, hI, by omega, fun _ _ _ _ => rfl⟩
    rw [show 0 + 1 + e = e + 1 by omega]
    dsimp only [l_Sk_tick_44, b_Sk_tick_44]
    simp (disch := omega) only [lt__e, bnd_e, bnd2_e, bnd3_e, el0_l, el0_r, el1_l, el1_r, el2_l, el2_r, ↓reduceIte, not_true_eq_false, not_false_eq_true, reduceCtorEq, and_true, true_and, and_false, false_and, or_true, true_or, or_false, false_or, and_self, or_self, ite_true, ite_false, Int.cast_ofNat_Int, Nat.reduceEqDiff, Nat.reduceLT, Int.reduceAdd, Int.reduceSub, Int.reduceMul, Int.reduceNeg, Int.reduceLT, Int.reduceLE, Int.reduceEq, ilt_t, ilt_f, ile_t, ile_f, ieq_t, ieq_f, z_0, z_1, z_2, z_3, z_4, z_5, z_6, z_7, z_8, z_9, z_10, z_12, z_20, z_40, z_80, z_81, z_99, z_100, z_200, z_400, z_3240, z_20000, z_100000, iz_add, iz_sub, iz_mul, iz_neg, iz_nat, iz_lt, iz_le, iz_eq, iz_div, iz_ite, iz_c, md10, md100, izcb_0, izcb_1, isOut_0, isNoCell_0, isGr_0, np_p]
  | succ k ih =>
    intro a i i0 i1 hI hn
    obtain ⟨d, d1, d2, d3⟩ := c_step h hI
    have hId := CI_step hI d2 (by omega)
    have d10 := d2.2.2.1
    obtain ⟨u, u1, u2, u3, u4, u5⟩ := ih d (i + 1) (by omega) (by omega) hId (by omega)
    refine ⟨u, ?_, ⟨d, ⟨hI, d2, d3⟩, u2⟩, u3, by omega, fun t t1 t2 t3 => by rw [u5 t t1 t2 t3, d2.1 t t1 t2 t3]⟩
    rw [show k + 1 + 1 + e = (k + 1 + e) + 1 by omega]
    dsimp only [l_Sk_tick_44, b_Sk_tick_44]
    simp (disch := omega) only [lt__e, bnd_e, bnd2_e, bnd3_e, el0_l, el0_r, el1_l, el1_r, el2_l, el2_r, ↓reduceIte, not_true_eq_false, not_false_eq_true, reduceCtorEq, and_true, true_and, and_false, false_and, or_true, true_or, or_false, false_or, and_self, or_self, ite_true, ite_false, Int.cast_ofNat_Int, Nat.reduceEqDiff, Nat.reduceLT, Int.reduceAdd, Int.reduceSub, Int.reduceMul, Int.reduceNeg, Int.reduceLT, Int.reduceLE, Int.reduceEq, ilt_t, ilt_f, ile_t, ile_f, ieq_t, ieq_f, z_0, z_1, z_2, z_3, z_4, z_5, z_6, z_7, z_8, z_9, z_10, z_12, z_20, z_40, z_80, z_81, z_99, z_100, z_200, z_400, z_3240, z_20000, z_100000, iz_add, iz_sub, iz_mul, iz_neg, iz_nat, iz_lt, iz_le, iz_eq, iz_div, iz_ite, iz_c, md10, md100, izcb_0, izcb_1, isOut_0, isNoCell_0, isGr_0, np_p, d1]
    exact u1
end C20
