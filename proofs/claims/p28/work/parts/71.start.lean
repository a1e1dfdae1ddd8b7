/-! the law's own start: towers, spots -/
section J12
variable {a A : AT} {r : Nat → Nat → Option Nat} {n : Nat → Nat} {L : Nat} {xs : Nat → Int32}
/-- what holds with j spots, ahead of all machines -/
def Zs (a : AT) (j : Int) : Prop := CI a 0 0 0 ∧ (a 0 10 0 = 0 ∧ a 0 11 0 = 0 ∧ a 0 12 0 = -1 ∧ a 0 13 0 = 0) ∧ (a 50 0 0 = 3 ∧ a 50 1 0 = 27 ∧ a 50 2 0 = 50 ∧ a 50 3 0 = 96) ∧ a 1 4 0 = j ∧ ∀ i, 0 ≤ i → i < j → a 3 i 0 = a 50 i 0
theorem Zs.sp {j : Int} (h : Zs a j) (c : Int) : isSp a c ↔ ∃ i, 0 ≤ i ∧ i < j ∧ a 50 i 0 = c := by
  obtain ⟨h1, h2, h3, h4, h5⟩ := h
  constructor
  · rintro ⟨i, i1, i2, e⟩
    exact ⟨i, i1, by omega, by rw [← h5 i i1 (by omega)]; exact e⟩
  · rintro ⟨i, i1, i2, e⟩
    exact ⟨i, i1, by omega, by rw [h5 i i1 i2]; exact e⟩
theorem Zs_tower {j c v : Int} (h : Zs a j) (c1 : 0 ≤ c ∧ c < 100) (v1 : 0 ≤ v ∧ v ≤ 3) : Zs (up a 2 c 0 v) j := by
  obtain ⟨h1, h2, h3, h4, h5⟩ := h
  have e : ∀ t, t ≠ 2 → up a 2 c 0 v t = a t := fun t t1 => up_t t1
  obtain ⟨d1, d2, d3⟩ := h1.2.1
  refine ⟨CI_city h1 (fun t t1 t2 => e t (by omega)) ⟨by rw [e 1 (by omega)]; exact d1, fun i i1 i2 => ?_, ?_⟩ (fun z => by omega), ?_, ?_, ?_, fun i i1 i2 => ?_⟩
  · have := d2 i i1 i2
    rw [up_s]; split <;> omega
  · rw [e 1 (by omega), e 3 (by omega), e 4 (by omega), e 5 (by omega)]; exact d3
  · rw [e 0 (by omega)]; exact h2
  · rw [e 50 (by omega)]; exact h3
  · rw [e 1 (by omega)]; exact h4
  · rw [e 3 (by omega), e 50 (by omega)]; exact h5 i i1 i2
theorem k_tower0 (h : Sh r n 0 0 0) {j c v : Int} (hZ : Zs a j) (c1 : 0 ≤ c ∧ c < 100) (v1 : 0 ≤ v ∧ v ≤ 3) (hs : ¬ isSp a c) : f_La_tower (some 0) (iz c) (iz v) (VV a r n) = some (jz (a 2 c 0), VV (up a 2 c 0 v) r n) := by
  have hC := hZ.1.2.1
  have hh := hC.2.1 c c1.1 c1.2
  have hnp := hZ.1.1.1.2.2
  unfold f_La_tower f_Sk_tower
  simp (disch := omega) only [lt__e, bnd_e, bnd2_e, bnd3_e, el0_l, el0_r, el1_l, el1_r, el2_l, el2_r, ↓reduceIte, not_true_eq_false, not_false_eq_true, reduceCtorEq, and_true, true_and, and_false, false_and, or_true, true_or, or_false, false_or, and_self, or_self, ite_true, ite_false, Int.cast_ofNat_Int, Nat.reduceEqDiff, Nat.reduceLT, Int.reduceAdd, Int.reduceSub, Int.reduceMul, Int.reduceNeg, Int.reduceLT, Int.reduceLE, Int.reduceEq, ilt_t, ilt_f, ile_t, ile_f, ieq_t, ieq_f, z_0, z_1, z_2, z_3, z_4, z_5, z_6, z_7, z_8, z_9, z_10, z_12, z_20, z_40, z_80, z_81, z_99, z_100, z_200, z_400, z_3240, z_20000, z_100000, iz_add, iz_sub, iz_mul, iz_neg, iz_nat, iz_lt, iz_le, iz_eq, iz_div, iz_ite, iz_c, md10, md100, izcb_0, izcb_1, isOut_0, isNoCell_0, isGr_0, np_p, VV_r, VV_n, V_k, W_k, V_0, W_0, V_1, W_1, V_2, W_2, V_3, W_3, V_4, W_4, V_5, W_5, V_6, W_6, V_7, W_7, V_8, W_8, V_9, W_9, h.r0_0, h.r0_1, h.r0_2, h.r0_3, h.r0_4, h.r0_5, h.r1_0, h.r1_1, h.r1_2, h.r1_3, h.r12, rf_0 h, rf_1 h, rf_10 h, rf_11 h, rf_12 h, r6_i h, r6_o h, r7_i h, r7_o h, r8_i h, r8_o h, rl_13 h, ra_13 h, rl_2 h, ra_2 h, rl_3 h, ra_3 h, rl_4 h, ra_4 h, rl_5 h, ra_5 h, rl_6 h, ra_6 h, rl_7 h, ra_7 h, rl_8 h, ra_8 h, rl_9 h, ra_9 h, rl_50 h, ra_50 h, rl_51 h, ra_51 h, V_50, W_50, V_51, W_51, up_e, y_0, y_1, y_2, y_3, y_40, y_100, y_m1, y_m6, y_x1, y_x2, y_x3, z_m1, jz_neg, jz_add, jz_mul, jz_eq, jz_lt, jz_i, jz_l, jz_cmp, cmp_0, cmp_l, cmp_g, c_isSpot h hC, hs, hnp, c_heightOf h, c_setHeight h]
theorem k_towers (h : Sh r n 0 0 0) {j c v : Int} (hZ : Zs a j) (c1 : 0 ≤ c ∧ c < 100) (v1 : 0 ≤ v ∧ v ≤ 3) (hs : isSp a c) : f_La_tower (some 0) (iz c) (iz v) (VV a r n) = some (jz (-9000000000000000003), VV a r n) := by
  have hC := hZ.1.2.1
  unfold f_La_tower f_Sk_tower
  simp (disch := omega) only [lt__e, bnd_e, bnd2_e, bnd3_e, el0_l, el0_r, el1_l, el1_r, el2_l, el2_r, ↓reduceIte, not_true_eq_false, not_false_eq_true, reduceCtorEq, and_true, true_and, and_false, false_and, or_true, true_or, or_false, false_or, and_self, or_self, ite_true, ite_false, Int.cast_ofNat_Int, Nat.reduceEqDiff, Nat.reduceLT, Int.reduceAdd, Int.reduceSub, Int.reduceMul, Int.reduceNeg, Int.reduceLT, Int.reduceLE, Int.reduceEq, ilt_t, ilt_f, ile_t, ile_f, ieq_t, ieq_f, z_0, z_1, z_2, z_3, z_4, z_5, z_6, z_7, z_8, z_9, z_10, z_12, z_20, z_40, z_80, z_81, z_99, z_100, z_200, z_400, z_3240, z_20000, z_100000, iz_add, iz_sub, iz_mul, iz_neg, iz_nat, iz_lt, iz_le, iz_eq, iz_div, iz_ite, iz_c, md10, md100, izcb_0, izcb_1, isOut_0, isNoCell_0, isGr_0, np_p, VV_r, VV_n, V_k, W_k, V_0, W_0, V_1, W_1, V_2, W_2, V_3, W_3, V_4, W_4, V_5, W_5, V_6, W_6, V_7, W_7, V_8, W_8, V_9, W_9, h.r0_0, h.r0_1, h.r0_2, h.r0_3, h.r0_4, h.r0_5, h.r1_0, h.r1_1, h.r1_2, h.r1_3, h.r12, rf_0 h, rf_1 h, rf_10 h, rf_11 h, rf_12 h, r6_i h, r6_o h, r7_i h, r7_o h, r8_i h, r8_o h, rl_13 h, ra_13 h, rl_2 h, ra_2 h, rl_3 h, ra_3 h, rl_4 h, ra_4 h, rl_5 h, ra_5 h, rl_6 h, ra_6 h, rl_7 h, ra_7 h, rl_8 h, ra_8 h, rl_9 h, ra_9 h, rl_50 h, ra_50 h, rl_51 h, ra_51 h, V_50, W_50, V_51, W_51, up_e, y_0, y_1, y_2, y_3, y_40, y_100, y_m1, y_m6, y_x1, y_x2, y_x3, z_m1, jz_neg, jz_add, jz_mul, jz_eq, jz_lt, jz_i, jz_l, jz_cmp, cmp_0, cmp_l, cmp_g, c_isSpot h hC, hs]
theorem k_spot0 (h : Sh r n 0 0 0) {j c : Int} (hZ : Zs a j) (hj : 0 ≤ j ∧ j < 8) (c1 : 0 ≤ c ∧ c < 100) (hs : ¬ isSp a c) (h0 : a 2 c 0 = 0) : f_La_spot (some 0) (iz c) (VV a r n) = some (jz (j + 1), VV (up (up a 3 j 0 c) 1 4 0 (j + 1)) r n) := by
  have hC := hZ.1.2.1
  have h4 := hZ.2.2.2.1
  unfold f_La_spot f_Sk_spot f_Ci_addSpot
  simp (disch := omega) only [lt__e, bnd_e, bnd2_e, bnd3_e, el0_l, el0_r, el1_l, el1_r, el2_l, el2_r, ↓reduceIte, not_true_eq_false, not_false_eq_true, reduceCtorEq, and_true, true_and, and_false, false_and, or_true, true_or, or_false, false_or, and_self, or_self, ite_true, ite_false, Int.cast_ofNat_Int, Nat.reduceEqDiff, Nat.reduceLT, Int.reduceAdd, Int.reduceSub, Int.reduceMul, Int.reduceNeg, Int.reduceLT, Int.reduceLE, Int.reduceEq, ilt_t, ilt_f, ile_t, ile_f, ieq_t, ieq_f, z_0, z_1, z_2, z_3, z_4, z_5, z_6, z_7, z_8, z_9, z_10, z_12, z_20, z_40, z_80, z_81, z_99, z_100, z_200, z_400, z_3240, z_20000, z_100000, iz_add, iz_sub, iz_mul, iz_neg, iz_nat, iz_lt, iz_le, iz_eq, iz_div, iz_ite, iz_c, md10, md100, izcb_0, izcb_1, isOut_0, isNoCell_0, isGr_0, np_p, VV_r, VV_n, V_k, W_k, V_0, W_0, V_1, W_1, V_2, W_2, V_3, W_3, V_4, W_4, V_5, W_5, V_6, W_6, V_7, W_7, V_8, W_8, V_9, W_9, h.r0_0, h.r0_1, h.r0_2, h.r0_3, h.r0_4, h.r0_5, h.r1_0, h.r1_1, h.r1_2, h.r1_3, h.r12, rf_0 h, rf_1 h, rf_10 h, rf_11 h, rf_12 h, r6_i h, r6_o h, r7_i h, r7_o h, r8_i h, r8_o h, rl_13 h, ra_13 h, rl_2 h, ra_2 h, rl_3 h, ra_3 h, rl_4 h, ra_4 h, rl_5 h, ra_5 h, rl_6 h, ra_6 h, rl_7 h, ra_7 h, rl_8 h, ra_8 h, rl_9 h, ra_9 h, rl_50 h, ra_50 h, rl_51 h, ra_51 h, V_50, W_50, V_51, W_51, up_e, y_0, y_1, y_2, y_3, y_40, y_100, y_m1, y_m6, y_x1, y_x2, y_x3, z_m1, jz_neg, jz_add, jz_mul, jz_eq, jz_lt, jz_i, jz_l, jz_cmp, cmp_0, cmp_l, cmp_g, c_isSpot h hC, hs, c_heightOf h, h0, h4]
theorem Zs_spot {j c : Int} (hZ : Zs a j) (hj : 0 ≤ j ∧ j < 4) (hc : a 50 j 0 = c) (c1 : 0 ≤ c ∧ c < 100) : Zs (up (up a 3 j 0 c) 1 4 0 (j + 1)) (j + 1) := by
  obtain ⟨h1, h2, h3, h4, h5⟩ := hZ
  have e : ∀ t, t ≠ 1 → t ≠ 3 → up (up a 3 j 0 c) 1 4 0 (j + 1) t = a t := fun t t1 t2 => by rw [up_t t1, up_t t2]
  have e4 : up (up a 3 j 0 c) 1 4 0 (j + 1) 1 4 0 = j + 1 := by rw [up_s, if_pos ⟨rfl, rfl⟩]
  have e3 : ∀ i, up (up a 3 j 0 c) 1 4 0 (j + 1) 3 i 0 = if i = j then c else a 3 i 0 := fun i => by
    rw [up_t (by omega), up_s]
    by_cases z : i = j
    · rw [if_pos ⟨z, rfl⟩, if_pos z]
    · rw [if_neg (by omega), if_neg z]
  obtain ⟨d1, d2, d3, d4⟩ := h1.2.1
  refine ⟨CI_city h1 (fun t t1 t2 => e t (by omega) (by omega)) ⟨by rw [e4]; omega, by rw [e 2 (by omega) (by omega)]; exact d2, fun i i1 i2 => ?_, by rw [e 4 (by omega) (by omega), e 5 (by omega) (by omega)]; exact d4⟩ (fun z => by omega), ?_, ?_, e4, fun i i1 i2 => ?_⟩
  · rw [e4] at i2
    rw [e3]
    by_cases z : i = j
    · rw [if_pos z]; exact c1
    · rw [if_neg z]; exact d3 i i1 (by omega)
  · rw [e 0 (by omega) (by omega)]; exact h2
  · rw [e 50 (by omega) (by omega)]; exact h3
  · rw [e3, e 50 (by omega) (by omega)]
    by_cases z : i = j
    · rw [if_pos z, z]; exact hc.symm
    · rw [if_neg z]; exact h5 i i1 (by omega)
theorem s_51 (hLn : (L : Int) ≤ 260) (h : Sh r n 0 0 0) {i : Int} (hZ : Zs a 0) (i0 : 0 ≤ i) (i1 : i < 4) (rec : Int32 → Int32 → MS → Option (Int32 × MS)) : ∃ A, Zs A 0 ∧ b_La_law_51 L xs (some 0) (some 50) (some 51) (iz 0) (iz 0) (iz 0) (iz 1) (iz i) (VV a r n) rec = rec (iz 1) (iz (i + 1)) (VV A r n) := by
  obtain ⟨x, ex, x0⟩ := q_draw (L := L) (xs := xs) hLn (i := i) i0 (by omega)
  have hs : ¬ isSp a ((37 * i + 11 + (x - x / 7 * 7) * 5) % 100) := fun z => by
    obtain ⟨q, q1, q2, -⟩ := (hZ.sp _).1 z
    omega
  have hc : 0 ≤ (37 * i + 11 + (x - x / 7 * 7) * 5) % 100 ∧ (37 * i + 11 + (x - x / 7 * 7) * 5) % 100 < 100 := by omega
  have e := k_tower0 h hZ (c := (37 * i + 11 + (x - x / 7 * 7) * 5) % 100) (v := 1 + (x / 8 - x / 8 / 3 * 3)) hc (by omega) hs
  have hh := hZ.1.2.1.2.1 _ hc.1 hc.2
  refine ⟨up a 2 ((37 * i + 11 + (x - x / 7 * 7) * 5) % 100) 0 (1 + (x / 8 - x / 8 / 3 * 3)), Zs_tower hZ hc (by omega), ?_⟩
  generalize hy : a 2 ((37 * i + 11 + (x - x / 7 * 7) * 5) % 100) 0 = y at *
  unfold b_La_law_51
  simp (disch := omega) only [lt__e, bnd_e, bnd2_e, bnd3_e, el0_l, el0_r, el1_l, el1_r, el2_l, el2_r, ↓reduceIte, not_true_eq_false, not_false_eq_true, reduceCtorEq, and_true, true_and, and_false, false_and, or_true, true_or, or_false, false_or, and_self, or_self, ite_true, ite_false, Int.cast_ofNat_Int, Nat.reduceEqDiff, Nat.reduceLT, Int.reduceAdd, Int.reduceSub, Int.reduceMul, Int.reduceNeg, Int.reduceLT, Int.reduceLE, Int.reduceEq, ilt_t, ilt_f, ile_t, ile_f, ieq_t, ieq_f, z_0, z_1, z_2, z_3, z_4, z_5, z_6, z_7, z_8, z_9, z_10, z_12, z_20, z_40, z_80, z_81, z_99, z_100, z_200, z_400, z_3240, z_20000, z_100000, iz_add, iz_sub, iz_mul, iz_neg, iz_nat, iz_lt, iz_le, iz_eq, iz_div, iz_ite, iz_c, md10, md100, izcb_0, izcb_1, isOut_0, isNoCell_0, isGr_0, np_p, VV_r, VV_n, V_k, W_k, V_0, W_0, V_1, W_1, V_2, W_2, V_3, W_3, V_4, W_4, V_5, W_5, V_6, W_6, V_7, W_7, V_8, W_8, V_9, W_9, h.r0_0, h.r0_1, h.r0_2, h.r0_3, h.r0_4, h.r0_5, h.r1_0, h.r1_1, h.r1_2, h.r1_3, h.r12, rf_0 h, rf_1 h, rf_10 h, rf_11 h, rf_12 h, r6_i h, r6_o h, r7_i h, r7_o h, r8_i h, r8_o h, rl_13 h, ra_13 h, rl_2 h, ra_2 h, rl_3 h, ra_3 h, rl_4 h, ra_4 h, rl_5 h, ra_5 h, rl_6 h, ra_6 h, rl_7 h, ra_7 h, rl_8 h, ra_8 h, rl_9 h, ra_9 h, rl_50 h, ra_50 h, rl_51 h, ra_51 h, V_50, W_50, V_51, W_51, up_e, y_0, y_1, y_2, y_3, y_40, y_100, y_m1, y_m6, y_x1, y_x2, y_x3, z_m1, jz_neg, jz_add, jz_mul, jz_eq, jz_lt, jz_i, jz_l, jz_cmp, cmp_0, cmp_l, cmp_g, z_11, z_12, z_16, z_19, z_30, z_31, z_37, z_64, z_128, z_161, z_256, z_2048, z_16384, z_7, z_8, gd_T, ex, e]
theorem s_125 (h : Sh r n 0 0 0) {i : Int} (hZ : Zs a i) (i0 : 0 ≤ i) (i1 : i < 4) (rec : Int32 → Int32 → MS → Option (Int32 × MS)) : ∃ A, Zs A (i + 1) ∧ b_La_law_125 L xs (some 0) (some 50) (some 51) (iz 0) (iz 0) (iz 0) (iz 1) (iz i) (VV a r n) rec = rec (iz 1) (iz (i + 1)) (VV A r n) := by
  obtain ⟨c, hc⟩ : ∃ c, a 50 i 0 = c := ⟨_, rfl⟩
  obtain ⟨s0, s1, s2, s3⟩ := hZ.2.2.1
  have hc1 : 0 ≤ c ∧ c < 100 := by
    rcases (show i = 0 ∨ i = 1 ∨ i = 2 ∨ i = 3 by omega) with rfl | rfl | rfl | rfl <;> omega
  have hs : ¬ isSp a c := fun z => by
    obtain ⟨q, q1, q2, q3⟩ := (hZ.sp _).1 z
    rcases (show i = 0 ∨ i = 1 ∨ i = 2 ∨ i = 3 by omega) with rfl | rfl | rfl | rfl
    · omega
    · have : q = 0 := by omega
      subst this; omega
    · rcases (show q = 0 ∨ q = 1 by omega) with rfl | rfl <;> omega
    · rcases (show q = 0 ∨ q = 1 ∨ q = 2 by omega) with rfl | rfl | rfl <;> omega
  have e1 := k_tower0 h hZ (c := c) (v := 0) hc1 (by omega) hs
  have hZ1 := Zs_tower hZ hc1 (v := 0) (by omega)
  have c50 : up a 2 c 0 0 50 i 0 = c := by rw [up_t (by omega)]; exact hc
  have hs1 : ¬ isSp (up a 2 c 0 0) c := fun z => hs (by
    obtain ⟨q, q1, q2, q3⟩ := (hZ1.sp _).1 z
    exact (hZ.sp _).2 ⟨q, q1, q2, by rw [up_t (by omega)] at q3; exact q3⟩)
  have e2 := k_spot0 h hZ1 (by omega) hc1 hs1 (by rw [up_s, if_pos ⟨rfl, rfl⟩])
  have hZ2 := Zs_spot hZ1 ⟨i0, i1⟩ c50 hc1
  have hh := hZ.1.2.1.2.1 c hc1.1 hc1.2
  generalize hB : up (up (up a 2 c 0 0) 3 i 0 c) 1 4 0 (i + 1) = B at *
  have d50 : B 50 i 0 = c := by rw [← hB, up_t (by omega), up_t (by omega)]; exact c50
  have e3 := k_towers h hZ2 (c := c) (v := 1) hc1 (by omega) ((hZ2.sp _).2 ⟨i, i0, by omega, d50⟩)
  refine ⟨B, hZ2, ?_⟩
  unfold b_La_law_125
  simp (disch := omega) only [lt__e, bnd_e, bnd2_e, bnd3_e, el0_l, el0_r, el1_l, el1_r, el2_l, el2_r, ↓reduceIte, not_true_eq_false, not_false_eq_true, reduceCtorEq, and_true, true_and, and_false, false_and, or_true, true_or, or_false, false_or, and_self, or_self, ite_true, ite_false, Int.cast_ofNat_Int, Nat.reduceEqDiff, Nat.reduceLT, Int.reduceAdd, Int.reduceSub, Int.reduceMul, Int.reduceNeg, Int.reduceLT, Int.reduceLE, Int.reduceEq, ilt_t, ilt_f, ile_t, ile_f, ieq_t, ieq_f, z_0, z_1, z_2, z_3, z_4, z_5, z_6, z_7, z_8, z_9, z_10, z_12, z_20, z_40, z_80, z_81, z_99, z_100, z_200, z_400, z_3240, z_20000, z_100000, iz_add, iz_sub, iz_mul, iz_neg, iz_nat, iz_lt, iz_le, iz_eq, iz_div, iz_ite, iz_c, md10, md100, izcb_0, izcb_1, isOut_0, isNoCell_0, isGr_0, np_p, VV_r, VV_n, V_k, W_k, V_0, W_0, V_1, W_1, V_2, W_2, V_3, W_3, V_4, W_4, V_5, W_5, V_6, W_6, V_7, W_7, V_8, W_8, V_9, W_9, h.r0_0, h.r0_1, h.r0_2, h.r0_3, h.r0_4, h.r0_5, h.r1_0, h.r1_1, h.r1_2, h.r1_3, h.r12, rf_0 h, rf_1 h, rf_10 h, rf_11 h, rf_12 h, r6_i h, r6_o h, r7_i h, r7_o h, r8_i h, r8_o h, rl_13 h, ra_13 h, rl_2 h, ra_2 h, rl_3 h, ra_3 h, rl_4 h, ra_4 h, rl_5 h, ra_5 h, rl_6 h, ra_6 h, rl_7 h, ra_7 h, rl_8 h, ra_8 h, rl_9 h, ra_9 h, rl_50 h, ra_50 h, rl_51 h, ra_51 h, V_50, W_50, V_51, W_51, up_e, y_0, y_1, y_2, y_3, y_40, y_100, y_m1, y_m6, y_x1, y_x2, y_x3, z_m1, jz_neg, jz_add, jz_mul, jz_eq, jz_lt, jz_i, jz_l, jz_cmp, cmp_0, cmp_l, cmp_g, z_11, z_12, z_16, z_19, z_30, z_31, z_37, z_64, z_128, z_161, z_256, z_2048, z_16384, z_7, z_8, gd_T, hc, e1, c50, e2, d50, e3]
theorem l_51 (hLn : (L : Int) ≤ 260) (h : Sh r n 0 0 0) (hZ : Zs a 0) : ∃ A, l_La_law_51 L xs (some 0) (some 50) (some 51) (iz 0) (iz 0) (iz 0) 6 (iz 1) (iz 0) (VV a r n) = some (iz 1, VV A r n) ∧ Zs A 0 := by
  have key := lpQ (L := fun N i (s : AT) => l_La_law_51 L xs (some 0) (some 50) (some 51) (iz 0) (iz 0) (iz 0) N (iz 1) (iz i) (VV s r n)) (hi := 4)
    (Q := fun i s => 0 ≤ i ∧ Zs s 0) (R := fun b => ∃ A, b = (iz 1, VV A r n) ∧ Zs A 0)
    (fun N i s i1 ⟨i0, hs⟩ => Or.inl (by
      obtain ⟨A, hA, e⟩ := s_51 (L := L) (xs := xs) hLn h hs i0 i1 (l_La_law_51 L xs (some 0) (some 50) (some 51) (iz 0) (iz 0) (iz 0) N)
      exact ⟨A, ⟨by omega, hA⟩, e⟩))
    (fun N s ⟨i0, hs⟩ => ⟨_, by
      dsimp only [l_La_law_51]
      unfold b_La_law_51
      simp (disch := omega) only [lt__e, bnd_e, bnd2_e, bnd3_e, el0_l, el0_r, el1_l, el1_r, el2_l, el2_r, ↓reduceIte, not_true_eq_false, not_false_eq_true, reduceCtorEq, and_true, true_and, and_false, false_and, or_true, true_or, or_false, false_or, and_self, or_self, ite_true, ite_false, Int.cast_ofNat_Int, Nat.reduceEqDiff, Nat.reduceLT, Int.reduceAdd, Int.reduceSub, Int.reduceMul, Int.reduceNeg, Int.reduceLT, Int.reduceLE, Int.reduceEq, ilt_t, ilt_f, ile_t, ile_f, ieq_t, ieq_f, z_0, z_1, z_2, z_3, z_4, z_5, z_6, z_7, z_8, z_9, z_10, z_12, z_20, z_40, z_80, z_81, z_99, z_100, z_200, z_400, z_3240, z_20000, z_100000, iz_add, iz_sub, iz_mul, iz_neg, iz_nat, iz_lt, iz_le, iz_eq, iz_div, iz_ite, iz_c, md10, md100, izcb_0, izcb_1, isOut_0, isNoCell_0, isGr_0, np_p], s, rfl, hs⟩) 6 0 a (by omega) (by omega) ⟨Int.le_refl _, hZ⟩
  obtain ⟨v, hv, A, rfl, hA⟩ := key
  exact ⟨A, hv, hA⟩
theorem l_125 (h : Sh r n 0 0 0) (hZ : Zs a 0) : ∃ A, l_La_law_125 L xs (some 0) (some 50) (some 51) (iz 0) (iz 0) (iz 0) 6 (iz 1) (iz 0) (VV a r n) = some (iz 1, VV A r n) ∧ Zs A 4 := by
  have key := lpQ (L := fun N i (s : AT) => l_La_law_125 L xs (some 0) (some 50) (some 51) (iz 0) (iz 0) (iz 0) N (iz 1) (iz i) (VV s r n)) (hi := 4)
    (Q := fun i s => 0 ≤ i ∧ Zs s i) (R := fun b => ∃ A, b = (iz 1, VV A r n) ∧ Zs A 4)
    (fun N i s i1 ⟨i0, hs⟩ => Or.inl (by
      obtain ⟨A, hA, e⟩ := s_125 (L := L) (xs := xs) h hs i0 i1 (l_La_law_125 L xs (some 0) (some 50) (some 51) (iz 0) (iz 0) (iz 0) N)
      exact ⟨A, ⟨by omega, hA⟩, e⟩))
    (fun N s ⟨i0, hs⟩ => ⟨_, by
      dsimp only [l_La_law_125]
      unfold b_La_law_125
      simp (disch := omega) only [lt__e, bnd_e, bnd2_e, bnd3_e, el0_l, el0_r, el1_l, el1_r, el2_l, el2_r, ↓reduceIte, not_true_eq_false, not_false_eq_true, reduceCtorEq, and_true, true_and, and_false, false_and, or_true, true_or, or_false, false_or, and_self, or_self, ite_true, ite_false, Int.cast_ofNat_Int, Nat.reduceEqDiff, Nat.reduceLT, Int.reduceAdd, Int.reduceSub, Int.reduceMul, Int.reduceNeg, Int.reduceLT, Int.reduceLE, Int.reduceEq, ilt_t, ilt_f, ile_t, ile_f, ieq_t, ieq_f, z_0, z_1, z_2, z_3, z_4, z_5, z_6, z_7, z_8, z_9, z_10, z_12, z_20, z_40, z_80, z_81, z_99, z_100, z_200, z_400, z_3240, z_20000, z_100000, iz_add, iz_sub, iz_mul, iz_neg, iz_nat, iz_lt, iz_le, iz_eq, iz_div, iz_ite, iz_c, md10, md100, izcb_0, izcb_1, isOut_0, isNoCell_0, isGr_0, np_p], s, rfl, hs⟩) 6 0 a (by omega) (by omega) ⟨Int.le_refl _, hZ⟩
  obtain ⟨v, hv, A, rfl, hA⟩ := key
  exact ⟨A, hv, hA⟩
theorem Lw_0 (hZ : Zs a 4) : Lw a 0 0 0 0 := by
  obtain ⟨h1, ⟨t0, t1, t2, t3⟩, h3, h4, h5⟩ := hZ
  obtain ⟨s0, s1, s2, s3⟩ := id h3
  refine ⟨h1, ⟨fun m m1 m2 => by omega, fun p p1 p2 => by omega, fun p q p1 p2 => by omega, ?_⟩, ⟨h4, ?_, ?_, ?_, ?_⟩, ⟨h3, fun m m1 m2 => by omega⟩, by omega, by omega, by omega⟩
  · unfold JC
    rw [t3]
    exact ⟨Int.le_refl _, (cnt_b _ _).1⟩
  · rw [h5 0 (by omega) (by omega)]; exact s0
  · rw [h5 1 (by omega) (by omega)]; exact s1
  · rw [h5 2 (by omega) (by omega)]; exact s2
  · rw [h5 3 (by omega) (by omega)]; exact s3
end J12
/-! the start -/
theorem nid_0 {a : AT} {r : Nat → Nat → Option Nat} {n : Nat → Nat} {t : Nat} (h : n t = 0) : nid (VV a r n) t = t := by
  show 64 * n t + t = t
  rw [h]; omega
theorem nw_0 {a : AT} {r : Nat → Nat → Option Nat} {n : Nat → Nat} {t : Nat} (ht : t < 64) (h : n t = 0) : nw (VV a r n) t = VV (zr a t 0) (clr r t) (sn n t) := by
  have := nw_e (a := a) (r := r) (n := n) (t := t) (m := 0) ht (by omega) h
  rw [kk_z] at this
  exact this
def az : AT := fun _ _ _ => 0
def rz : Nat → Nat → Option Nat := fun _ _ => none
def nz : Nat → Nat := fun _ => 0
theorem zr_z (t : Nat) (m : Int) : zr az t m = az := by
  funext t' j' m'
  unfold zr az
  split <;> rfl
theorem zr_u {a : AT} {t t' : Nat} {j m v m' : Int} (h : t ≠ t') : zr (up a t j m v) t' m' = up (zr a t' m') t j m v := by
  funext t1 j1 m1
  show (if t1 = t' ∧ m1 = m' then 0 else (if t1 = t ∧ j1 = j ∧ m1 = m then v else a t1 j1 m1)) = (if t1 = t ∧ j1 = j ∧ m1 = m then v else (if t1 = t' ∧ m1 = m' then 0 else a t1 j1 m1))
  by_cases c : t1 = t' ∧ m1 = m'
  · rw [if_pos c, if_neg (by omega), if_pos c]
  · rw [if_neg c, if_neg c]
theorem m0_e : m0 = VV az rz nz := by
  refine Prod.ext ?_ rfl
  funext k j
  exact z_0
def r_1 : Nat → Nat → Option Nat := sr (clr (sr (clr (sr (clr (sr (clr (clr (clr (rz) 0) 1) 2) 1 0 (some 2)) 3) 1 1 (some 3)) 4) 1 2 (some 4)) 5) 1 3 (some 5)
def n_1 : Nat → Nat := sn (sn (sn (sn (sn (sn (nz) 0) 1) 2) 3) 4) 5
def r_2 : Nat → Nat → Option Nat := sr (sr (clr (clr (sr (clr (sr (clr (sr (clr (sr (clr (sr (r_1) 0 0 (some 1)) 6) 0 1 (some 6)) 7) 0 2 (some 7)) 8) 0 3 (some 8)) 9) 0 4 (some 9)) 12) 13) 12 0 (some 13)) 0 5 (some 12)
def n_2 : Nat → Nat := sn (sn (sn (sn (sn (sn (n_1) 6) 7) 8) 9) 12) 13
def a_2 : AT := up az 0 12 0 (-1)
def r_4 : Nat → Nat → Option Nat := clr (clr (r_2) 50) 51
def n_3 : Nat → Nat := sn (n_2) 50
def n_4 : Nat → Nat := sn (n_3) 51
def a_3 : AT := up (up (up (up a_2 50 0 0 3) 50 1 0 27) 50 2 0 50) 50 3 0 96
theorem i_ci : f_Ci_init 1 (VV az (clr (clr rz 0) 1) (sn (sn nz 0) 1)) = some (VV az r_1 n_1) := by
  have h2 : (sn (sn nz 0) 1) 2 = 0 := rfl
  have h3 : (sn (sn (sn nz 0) 1) 2) 3 = 0 := rfl
  have h4 : (sn (sn (sn (sn nz 0) 1) 2) 3) 4 = 0 := rfl
  have h5 : (sn (sn (sn (sn (sn nz 0) 1) 2) 3) 4) 5 = 0 := rfl
  unfold f_Ci_init
  simp (disch := omega) only [lt__e, nid_0 h2, nw_0 (by omega) h2, nid_0 h3, nw_0 (by omega) h3, nid_0 h4, nw_0 (by omega) h4, nid_0 h5, nw_0 (by omega) h5, zr_z, wr_e]
  rfl
theorem i_sk : f_Sk_init 0 (VV az (clr rz 0) (sn nz 0)) = some (VV a_2 r_2 n_2) := by
  have h1 : (sn nz 0) 1 = 0 := rfl
  have h6 : (n_1) 6 = 0 := rfl
  have h7 : (sn (n_1) 6) 7 = 0 := rfl
  have h8 : (sn (sn (n_1) 6) 7) 8 = 0 := rfl
  have h9 : (sn (sn (sn (n_1) 6) 7) 8) 9 = 0 := rfl
  have h12 : (sn (sn (sn (sn (n_1) 6) 7) 8) 9) 12 = 0 := rfl
  have h13 : (sn (sn (sn (sn (sn (n_1) 6) 7) 8) 9) 12) 13 = 0 := rfl
  unfold f_Sk_init f_Pa_init
  simp (disch := omega) only [lt__e, bnd_e, nid_0 h1, nw_0 (by omega) h1, nid_0 h6, nw_0 (by omega) h6, nid_0 h7, nw_0 (by omega) h7, nid_0 h8, nw_0 (by omega) h8, nid_0 h9, nw_0 (by omega) h9, nid_0 h12, nw_0 (by omega) h12, nid_0 h13, nw_0 (by omega) h13, zr_z, wr_e, i_ci, z_1, iz_neg, W_0, Int.cast_ofNat_Int]
  rfl
theorem law_0 (L : Nat) (xs : Nat → Int32) : f_La_law L xs m0 = bnd2 (l_La_law_51 L xs (some 0) (some 50) (some 51) (iz 0) (iz 0) (iz 0) 6 (iz 1) (iz 0) (VV a_3 r_4 n_4)) fun e73 s75 => bnd2 (l_La_law_125 L xs (some 0) (some 50) (some 51) (iz 0) (iz 0) (iz 0) 6 e73 (iz 0) s75) fun e118 s120 => bnd2 (l_La_law_195 L xs (some 0) (some 50) (some 51) 42 (iz 0) (iz 0) (iz 0) e118 (iz 0) s120) fun e469 s471 => some e469 := by
  have e1 : rf n_2 0 (some 0) = some 0 := rfl
  have e3 : nid (VV az rz nz) 0 = 0 := nid_0 rfl
  have e4 : nw (VV az rz nz) 0 = VV az (clr rz 0) (sn nz 0) := by rw [nw_0 (by omega) rfl, zr_z]
  have e5 : nid (VV a_2 r_2 n_2) 50 = 50 := nid_0 rfl
  have e6 : nw (VV a_2 r_2 n_2) 50 = VV a_2 (clr r_2 50) n_3 := by rw [nw_0 (by omega) rfl]; unfold a_2; rw [zr_u (by omega), zr_z]; rfl
  have q0 : ra n_3 0 (some 50) (0 : Int32) = some 50 := by decide +kernel
  have q1 : ra n_3 0 (some 50) (1 : Int32) = some 50 := by decide +kernel
  have q2 : ra n_3 0 (some 50) (2 : Int32) = some 50 := by decide +kernel
  have q3 : ra n_3 0 (some 50) (3 : Int32) = some 50 := by decide +kernel
  have q4 : rl n_3 0 (some 50) = some 4 := by decide +kernel
  have w : ∀ (b : AT) (r : Nat → Nat → Option Nat) (j : Nat) (v : Int) (x : Int32), x = iz v → wi (VV b r n_3) 50 j x = VV (up b 50 (j : Int) 0 v) r n_3 := fun b r j v x hx => by rw [hx, W_50]
  have e7 : nid (VV a_3 (clr r_2 50) n_3) 51 = 51 := nid_0 rfl
  have e8 : nw (VV a_3 (clr r_2 50) n_3) 51 = VV a_3 r_4 n_4 := by rw [nw_0 (by omega) rfl]; unfold a_3 a_2; rw [zr_u (by omega), zr_u (by omega), zr_u (by omega), zr_u (by omega), zr_u (by omega), zr_z]; rfl
  rw [m0_e]
  unfold f_La_law
  simp only [lt__e, e3, e4, i_sk, bnd_e, VV_n, e1, e5, e6, q0, q1, q2, q3, q4, w _ _ _ 3 (3 : Int32) rfl, w _ _ _ 27 (27 : Int32) rfl, w _ _ _ 50 (50 : Int32) rfl, w _ _ _ 96 (96 : Int32) rfl]
  have e9 : VV (up (up (up (up a_2 50 (((0 : Int32).toNatClampNeg : Nat) : Int) 0 3) 50 (((1 : Int32).toNatClampNeg : Nat) : Int) 0 27) 50 (((2 : Int32).toNatClampNeg : Nat) : Int) 0 50) 50 (((3 : Int32).toNatClampNeg : Nat) : Int) 0 96) (clr r_2 50) n_3 = VV a_3 (clr r_2 50) n_3 := rfl
  rw [e9, e7, e8]
  rfl
theorem n_4_1 : ∀ k : Nat, k < 64 → (k < 10 ∨ k = 50 ∨ k = 51) → n_4 k = 1 := by decide +kernel
theorem Sh_0 : Sh r_4 n_4 0 0 0 := by
  refine ⟨by omega, fun k hk => n_4_1 k (by omega) hk, rfl, rfl, rfl, rfl, rfl, rfl, rfl, rfl, rfl, rfl, rfl, rfl, rfl, rfl, fun i i1 i2 => ?_, fun i i1 i2 => ?_, fun i i1 i2 => ?_, fun i i1 i2 => ?_⟩
  · rw [if_neg (by omega)]; rfl
  · rw [if_neg (by omega)]; rfl
  · rw [if_neg (by omega)]; rfl
  · have : i = 0 := by omega
    subst this
    rfl
theorem Zs_0 : Zs a_3 0 := by
  have v : ∀ t j m, ¬ (t = 0 ∧ j = 12) → t ≠ 50 → a_3 t j m = 0 := fun t j m h1 h2 => by
    unfold a_3
    rw [up_t h2, up_t h2, up_t h2, up_t h2]
    show (if t = 0 ∧ j = 12 ∧ m = 0 then (-1 : Int) else 0) = 0
    rw [if_neg (fun z => h1 ⟨z.1, z.2.1⟩)]
  have e14 : a_3 1 4 0 = 0 := v 1 4 0 (by omega) (by omega)
  refine ⟨⟨⟨⟨?_, ?_, ?_⟩, ?_, fun z => by omega⟩, ⟨?_, fun c c1 c2 => ?_, fun i i1 i2 => by omega, fun l l1 l2 => ?_, fun l l1 l2 => ?_, ?_, ?_, ?_, ?_⟩, ⟨?_, fun k k1 k2 => ?_⟩, fun i i1 i2 => by omega, fun i i1 i2 => by omega, fun i i1 i2 => by omega, fun i i1 i2 => by omega, fun i i1 i2 => by omega⟩, ⟨?_, ?_, rfl, ?_⟩, ⟨rfl, rfl, rfl, rfl⟩, e14, fun i i1 i2 => by omega⟩
  · exact v 0 6 0 (by omega) (by omega)
  · exact v 0 7 0 (by omega) (by omega)
  · exact v 0 8 0 (by omega) (by omega)
  · rw [v 0 10 0 (by omega) (by omega)]; omega
  · rw [e14]; omega
  · rw [v 2 c 0 (by omega) (by omega)]; omega
  · rw [v 4 l 0 (by omega) (by omega)]; omega
  · rw [v 5 l 0 (by omega) (by omega)]; omega
  · exact v 4 0 0 (by omega) (by omega)
  · exact v 5 0 0 (by omega) (by omega)
  · rw [v 4 4 0 (by omega) (by omega), v 4 3 0 (by omega) (by omega)]
  · rw [v 5 4 0 (by omega) (by omega), v 5 3 0 (by omega) (by omega)]
  · rw [v 0 9 0 (by omega) (by omega)]; omega
  · rw [v 0 9 0 (by omega) (by omega)] at k2; omega
  · exact v 0 10 0 (by omega) (by omega)
  · exact v 0 11 0 (by omega) (by omega)
  · exact v 0 13 0 (by omega) (by omega)
theorem law_true {L : Nat} {xs : Nat → Int32} (hL : L ≤ 260) : f_La_law L xs m0 = some 1 := by
  have hLn : (L : Int) ≤ 260 := by omega
  obtain ⟨A, e1, h1⟩ := l_51 (L := L) (xs := xs) hLn Sh_0 Zs_0
  obtain ⟨B, e2, h2⟩ := l_125 (L := L) (xs := xs) Sh_0 h1
  obtain ⟨s, e3⟩ := law_l (L := L) (xs := xs) hLn 42 0 0 0 0 (iz 0) B r_4 n_4 Sh_0 (Lw_0 h2) (by omega) (by omega) (fun z => by omega) (by omega)
  rw [law_0, e1, bnd2_e, e2, bnd2_e, e3, bnd2_e]
  rfl
