/-! rounds: a path is filed, a machine is held, a link is lost; any round -/
section J11
variable {a A : AT} {r : Nat → Nat → Option Nat} {n : Nat → Nat} {nr nm np k i : Int} {L : Nat} {xs : Nat → Int32} {hd : Int32} {rec : Int32 → Int32 → Int32 → Int32 → Int32 → MS → Option (Int32 × MS)}
theorem r_file (h : Sh r n nr nm np) (hL : Lw a nr nm np i) (h0 : 0 < nm) (i0 : 0 ≤ i) (i1 : i < 40) {x y t : Int} (t0 : 1 ≤ t ∧ t < 5) (x0 : 0 ≤ x ∧ x ≤ 2147483647) (y0 : 0 ≤ y ∧ y ≤ 2147483647) : Rd L xs i rec (j_La_law_246 L xs (some 0) (some 50) (some 51) (iz nm) (iz nr) hd (iz i) (iz x) (iz y) (iz t) (VV a r n) rec) := by
  have hb := h.b
  have hj := md_n (q := x / 16) (n := nm) h0
  obtain ⟨m, hm⟩ : ∃ m, x / 16 - x / 16 / nm * nm = m := ⟨_, rfl⟩
  rw [hm] at hj
  have hM := hL.1.2.2.2.2.1
  have e1 := q_ofM1 h hM hj.1 hj.2
  obtain ⟨A, ed, hdr⟩ := k_drafts (a := a) h (iz (a 11 3 m % 100)) (iz (a 50 (y - y / 4 * 4) 0)) (iz (y / 4))
  have hLA := hdr.w hL
  have hn := hLA.1.1.2.1
  have w3 := (hM m hj.1 hj.2).2.2.2.1
  have hc0 := q_count0 (a := A) h hLA.1.1.1.2.2
  have hr := hLA.2.2.2.2.1
  have hc1 := q_count1 (a := A) h (by omega)
  have h12 := hLA.2.2.2.2.2.2
  have n1 : ¬ iz t = (0 : Int32) := by rw [z_0, iz_eq (by omega) (by omega) (by omega) (by omega)]; omega
  have p1 : iz t < (5 : Int32) := by rw [z_5, iz_lt (by omega) (by omega) (by omega) (by omega)]; omega
  have n2 : ¬ iz nm = (0 : Int32) := by rw [z_0, iz_eq (by omega) (by omega) (by omega) (by omega)]; omega
  have em : (iz x / (16 : Int32)) - (iz x / (16 : Int32)) / iz nm * iz nm = iz m := by simp (disch := omega) only [lt__e, bnd_e, bnd2_e, bnd3_e, el0_l, el0_r, el1_l, el1_r, el2_l, el2_r, ↓reduceIte, not_true_eq_false, not_false_eq_true, reduceCtorEq, and_true, true_and, and_false, false_and, or_true, true_or, or_false, false_or, and_self, or_self, ite_true, ite_false, Int.cast_ofNat_Int, Nat.reduceEqDiff, Nat.reduceLT, Int.reduceAdd, Int.reduceSub, Int.reduceMul, Int.reduceNeg, Int.reduceLT, Int.reduceLE, Int.reduceEq, ilt_t, ilt_f, ile_t, ile_f, ieq_t, ieq_f, z_0, z_1, z_2, z_3, z_4, z_5, z_6, z_7, z_8, z_9, z_10, z_12, z_20, z_40, z_80, z_81, z_99, z_100, z_200, z_400, z_3240, z_20000, z_100000, iz_add, iz_sub, iz_mul, iz_neg, iz_nat, iz_lt, iz_le, iz_eq, iz_div, iz_ite, iz_c, md10, md100, izcb_0, izcb_1, isOut_0, isNoCell_0, isGr_0, np_p, z_11, z_12, z_16, z_19, z_30, z_31, z_37, z_64, z_128, z_161, z_256, z_2048, z_16384, z_7, z_8, gd_T, hm]
  have ew : iz y - iz y / (4 : Int32) * (4 : Int32) = iz (y - y / 4 * 4) := by simp (disch := omega) only [lt__e, bnd_e, bnd2_e, bnd3_e, el0_l, el0_r, el1_l, el1_r, el2_l, el2_r, ↓reduceIte, not_true_eq_false, not_false_eq_true, reduceCtorEq, and_true, true_and, and_false, false_and, or_true, true_or, or_false, false_or, and_self, or_self, ite_true, ite_false, Int.cast_ofNat_Int, Nat.reduceEqDiff, Nat.reduceLT, Int.reduceAdd, Int.reduceSub, Int.reduceMul, Int.reduceNeg, Int.reduceLT, Int.reduceLE, Int.reduceEq, ilt_t, ilt_f, ile_t, ile_f, ieq_t, ieq_f, z_0, z_1, z_2, z_3, z_4, z_5, z_6, z_7, z_8, z_9, z_10, z_12, z_20, z_40, z_80, z_81, z_99, z_100, z_200, z_400, z_3240, z_20000, z_100000, iz_add, iz_sub, iz_mul, iz_neg, iz_nat, iz_lt, iz_le, iz_eq, iz_div, iz_ite, iz_c, md10, md100, izcb_0, izcb_1, isOut_0, isNoCell_0, isGr_0, np_p]
  have eb : ra n 0 (some 50) (iz y - iz y / (4 : Int32) * (4 : Int32)) = some 50 := by rw [ew]; exact ra_50 h (by omega) (by omega)
  have ec : (VV a r n).1 50 (iz y - iz y / (4 : Int32) * (4 : Int32)).toNatClampNeg = iz (a 50 (y - y / 4 * 4) 0) := by
    rw [ew, V_50, iz_c (by omega) (by omega)]
  have ey : iz y / (4 : Int32) = iz (y / 4) := by simp (disch := omega) only [lt__e, bnd_e, bnd2_e, bnd3_e, el0_l, el0_r, el1_l, el1_r, el2_l, el2_r, ↓reduceIte, not_true_eq_false, not_false_eq_true, reduceCtorEq, and_true, true_and, and_false, false_and, or_true, true_or, or_false, false_or, and_self, or_self, ite_true, ite_false, Int.cast_ofNat_Int, Nat.reduceEqDiff, Nat.reduceLT, Int.reduceAdd, Int.reduceSub, Int.reduceMul, Int.reduceNeg, Int.reduceLT, Int.reduceLE, Int.reduceEq, ilt_t, ilt_f, ile_t, ile_f, ieq_t, ieq_f, z_0, z_1, z_2, z_3, z_4, z_5, z_6, z_7, z_8, z_9, z_10, z_12, z_20, z_40, z_80, z_81, z_99, z_100, z_200, z_400, z_3240, z_20000, z_100000, iz_add, iz_sub, iz_mul, iz_neg, iz_nat, iz_lt, iz_le, iz_eq, iz_div, iz_ite, iz_c, md10, md100, izcb_0, izcb_1, isOut_0, isNoCell_0, isGr_0, np_p]
  have el : (jz (a 11 3 m % 100)).toInt32 = iz (a 11 3 m % 100) := jz_l (by omega) (by omega)
  have et : iz (A 0 10 0) + (1 : Int32) + ((iz x / (256 : Int32)) - (iz x / (256 : Int32)) / (40 : Int32) * (40 : Int32)) = iz (A 0 10 0 + 1 + (x / 256 - x / 256 / 40 * 40)) := by simp (disch := omega) only [lt__e, bnd_e, bnd2_e, bnd3_e, el0_l, el0_r, el1_l, el1_r, el2_l, el2_r, ↓reduceIte, not_true_eq_false, not_false_eq_true, reduceCtorEq, and_true, true_and, and_false, false_and, or_true, true_or, or_false, false_or, and_self, or_self, ite_true, ite_false, Int.cast_ofNat_Int, Nat.reduceEqDiff, Nat.reduceLT, Int.reduceAdd, Int.reduceSub, Int.reduceMul, Int.reduceNeg, Int.reduceLT, Int.reduceLE, Int.reduceEq, ilt_t, ilt_f, ile_t, ile_f, ieq_t, ieq_f, z_0, z_1, z_2, z_3, z_4, z_5, z_6, z_7, z_8, z_9, z_10, z_12, z_20, z_40, z_80, z_81, z_99, z_100, z_200, z_400, z_3240, z_20000, z_100000, iz_add, iz_sub, iz_mul, iz_neg, iz_nat, iz_lt, iz_le, iz_eq, iz_div, iz_ite, iz_c, md10, md100, izcb_0, izcb_1, isOut_0, isNoCell_0, isGr_0, np_p, z_11, z_12, z_16, z_19, z_30, z_31, z_37, z_64, z_128, z_161, z_256, z_2048, z_16384, z_7, z_8, gd_T]
  have eu : (iz x / (16384 : Int32)) - (iz x / (16384 : Int32)) / (4 : Int32) * (4 : Int32) = iz (x / 16384 - x / 16384 / 4 * 4) := by simp (disch := omega) only [lt__e, bnd_e, bnd2_e, bnd3_e, el0_l, el0_r, el1_l, el1_r, el2_l, el2_r, ↓reduceIte, not_true_eq_false, not_false_eq_true, reduceCtorEq, and_true, true_and, and_false, false_and, or_true, true_or, or_false, false_or, and_self, or_self, ite_true, ite_false, Int.cast_ofNat_Int, Nat.reduceEqDiff, Nat.reduceLT, Int.reduceAdd, Int.reduceSub, Int.reduceMul, Int.reduceNeg, Int.reduceLT, Int.reduceLE, Int.reduceEq, ilt_t, ilt_f, ile_t, ile_f, ieq_t, ieq_f, z_0, z_1, z_2, z_3, z_4, z_5, z_6, z_7, z_8, z_9, z_10, z_12, z_20, z_40, z_80, z_81, z_99, z_100, z_200, z_400, z_3240, z_20000, z_100000, iz_add, iz_sub, iz_mul, iz_neg, iz_nat, iz_lt, iz_le, iz_eq, iz_div, iz_ite, iz_c, md10, md100, izcb_0, izcb_1, isOut_0, isNoCell_0, isGr_0, np_p, z_11, z_12, z_16, z_19, z_30, z_31, z_37, z_64, z_128, z_161, z_256, z_2048, z_16384, z_7, z_8, gd_T]
  rw [← z_1] at e1 hc1
  rw [← z_0] at hc0
  by_cases c40 : np = 40
  · have ef := k_file40 h hLA (m := m) (t := A 0 10 0 + 1 + (x / 256 - x / 256 / 40 * 40)) (u := x / 16384 - x / 16384 / 4 * 4) hj.1 hj.2 (by omega) (by omega) c40
    have key : j_La_law_246 L xs (some 0) (some 50) (some 51) (iz nm) (iz nr) hd (iz i) (iz x) (iz y) (iz t) (VV a r n) rec = j_La_law_1031 L xs (some 0) (some 50) (some 51) (iz nm) (iz nr) hd (iz 1) (iz i) (VV A r n) rec := by
      unfold j_La_law_246
      rw [if_neg n1, if_pos p1, gd_e n2, lt__e, em]
      simp only [VV_n]
      rw [rf_0 h, bnd_e, rl_50 h, bnd_e, rl_51 h, bnd_e, e1, bnd2_e]
      simp only [VV_n]
      rw [eb, bnd_e, rl_50 h, bnd_e, rl_51 h, bnd_e]
      rw [ec, ey, el, ed, bnd_e]
      simp only [VV_n]
      rw [rl_50 h, bnd_e, rl_51 h, bnd_e, hc0, bnd2_e]
      simp only [VV_n]
      rw [rl_50 h, bnd_e, rl_51 h, bnd_e, hc1, bnd2_e, q_time, bnd_e]
      simp only [VV_n]
      rw [rl_50 h, bnd_e, rl_51 h, bnd_e, et, eu, ef, bnd2_e]
      unfold j_La_law_519
      simp (disch := omega) only [lt__e, bnd_e, bnd2_e, bnd3_e, el0_l, el0_r, el1_l, el1_r, el2_l, el2_r, ↓reduceIte, not_true_eq_false, not_false_eq_true, reduceCtorEq, and_true, true_and, and_false, false_and, or_true, true_or, or_false, false_or, and_self, or_self, ite_true, ite_false, Int.cast_ofNat_Int, Nat.reduceEqDiff, Nat.reduceLT, Int.reduceAdd, Int.reduceSub, Int.reduceMul, Int.reduceNeg, Int.reduceLT, Int.reduceLE, Int.reduceEq, ilt_t, ilt_f, ile_t, ile_f, ieq_t, ieq_f, z_0, z_1, z_2, z_3, z_4, z_5, z_6, z_7, z_8, z_9, z_10, z_12, z_20, z_40, z_80, z_81, z_99, z_100, z_200, z_400, z_3240, z_20000, z_100000, iz_add, iz_sub, iz_mul, iz_neg, iz_nat, iz_lt, iz_le, iz_eq, iz_div, iz_ite, iz_c, md10, md100, izcb_0, izcb_1, isOut_0, isNoCell_0, isGr_0, np_p, VV_r, VV_n, V_k, W_k, V_0, W_0, V_1, W_1, V_2, W_2, V_3, W_3, V_4, W_4, V_5, W_5, V_6, W_6, V_7, W_7, V_8, W_8, V_9, W_9, h.r0_0, h.r0_1, h.r0_2, h.r0_3, h.r0_4, h.r0_5, h.r1_0, h.r1_1, h.r1_2, h.r1_3, h.r12, rf_0 h, rf_1 h, rf_10 h, rf_11 h, rf_12 h, r6_i h, r6_o h, r7_i h, r7_o h, r8_i h, r8_o h, rl_13 h, ra_13 h, rl_2 h, ra_2 h, rl_3 h, ra_3 h, rl_4 h, ra_4 h, rl_5 h, ra_5 h, rl_6 h, ra_6 h, rl_7 h, ra_7 h, rl_8 h, ra_8 h, rl_9 h, ra_9 h, rl_50 h, ra_50 h, rl_51 h, ra_51 h, V_50, W_50, V_51, W_51, up_e, y_0, y_1, y_2, y_3, y_40, y_100, y_m1, y_m6, y_x1, y_x2, y_x3, z_m1, jz_neg, jz_add, jz_mul, jz_eq, jz_lt, jz_i, jz_l, jz_cmp, cmp_0, cmp_l, cmp_g]
    rw [key]
    exact Rd.of h (hLA.mono (by omega)) h0 i0 i1
  · rcases k_file h hLA (by omega) (m := m) (t := A 0 10 0 + 1 + (x / 256 - x / 256 / 40 * 40)) (u := x / 16384 - x / 16384 / 4 * 4) hj.1 hj.2 (by omega) (by omega) (by omega) with ⟨z, B, ef, z0, g11, hLB⟩ | ⟨B, r', n', ef, h', g9, hLB⟩
    · have hc1' := q_count1 (a := B) h (by omega)
      rw [g11] at hc1'
      have g12 := hLB.2.2.2.2.2.2
      have key : j_La_law_246 L xs (some 0) (some 50) (some 51) (iz nm) (iz nr) hd (iz i) (iz x) (iz y) (iz t) (VV a r n) rec = j_La_law_1031 L xs (some 0) (some 50) (some 51) (iz nm) (iz nr) hd (iz 1) (iz i) (VV B r n) rec := by
        unfold j_La_law_246
        rw [if_neg n1, if_pos p1, gd_e n2, lt__e, em]
        simp only [VV_n]
        rw [rf_0 h, bnd_e, rl_50 h, bnd_e, rl_51 h, bnd_e, e1, bnd2_e]
        simp only [VV_n]
        rw [eb, bnd_e, rl_50 h, bnd_e, rl_51 h, bnd_e]
        rw [ec, ey, el, ed, bnd_e]
        simp only [VV_n]
        rw [rl_50 h, bnd_e, rl_51 h, bnd_e, hc0, bnd2_e]
        simp only [VV_n]
        rw [rl_50 h, bnd_e, rl_51 h, bnd_e, hc1, bnd2_e, q_time, bnd_e]
        simp only [VV_n]
        rw [rl_50 h, bnd_e, rl_51 h, bnd_e, et, eu, ef, bnd2_e]
        unfold j_La_law_519
        simp (disch := omega) only [lt__e, bnd_e, bnd2_e, bnd3_e, el0_l, el0_r, el1_l, el1_r, el2_l, el2_r, ↓reduceIte, not_true_eq_false, not_false_eq_true, reduceCtorEq, and_true, true_and, and_false, false_and, or_true, true_or, or_false, false_or, and_self, or_self, ite_true, ite_false, Int.cast_ofNat_Int, Nat.reduceEqDiff, Nat.reduceLT, Int.reduceAdd, Int.reduceSub, Int.reduceMul, Int.reduceNeg, Int.reduceLT, Int.reduceLE, Int.reduceEq, ilt_t, ilt_f, ile_t, ile_f, ieq_t, ieq_f, z_0, z_1, z_2, z_3, z_4, z_5, z_6, z_7, z_8, z_9, z_10, z_12, z_20, z_40, z_80, z_81, z_99, z_100, z_200, z_400, z_3240, z_20000, z_100000, iz_add, iz_sub, iz_mul, iz_neg, iz_nat, iz_lt, iz_le, iz_eq, iz_div, iz_ite, iz_c, md10, md100, izcb_0, izcb_1, isOut_0, isNoCell_0, isGr_0, np_p, VV_r, VV_n, V_k, W_k, V_0, W_0, V_1, W_1, V_2, W_2, V_3, W_3, V_4, W_4, V_5, W_5, V_6, W_6, V_7, W_7, V_8, W_8, V_9, W_9, h.r0_0, h.r0_1, h.r0_2, h.r0_3, h.r0_4, h.r0_5, h.r1_0, h.r1_1, h.r1_2, h.r1_3, h.r12, rf_0 h, rf_1 h, rf_10 h, rf_11 h, rf_12 h, r6_i h, r6_o h, r7_i h, r7_o h, r8_i h, r8_o h, rl_13 h, ra_13 h, rl_2 h, ra_2 h, rl_3 h, ra_3 h, rl_4 h, ra_4 h, rl_5 h, ra_5 h, rl_6 h, ra_6 h, rl_7 h, ra_7 h, rl_8 h, ra_8 h, rl_9 h, ra_9 h, rl_50 h, ra_50 h, rl_51 h, ra_51 h, V_50, W_50, V_51, W_51, up_e, y_0, y_1, y_2, y_3, y_40, y_100, y_m1, y_m6, y_x1, y_x2, y_x3, z_m1, jz_neg, jz_add, jz_mul, jz_eq, jz_lt, jz_i, jz_l, jz_cmp, cmp_0, cmp_l, cmp_g, hc1', q_why]
      rw [key]
      exact Rd.of h hLB h0 i0 i1
    · have hc0' := q_count0 (a := B) h' hLB.1.1.1.2.2
      have hLC := (DrO_clear (a := B)).w hLB
      have hcl := k_clear (a := B) (r := r') (n := n')
      rw [g9] at hcl
      have key : j_La_law_246 L xs (some 0) (some 50) (some 51) (iz nm) (iz nr) hd (iz i) (iz x) (iz y) (iz t) (VV a r n) rec = j_La_law_1031 L xs (some 0) (some 50) (some 51) (iz nm) (iz nr) hd (iz 1) (iz i) (VV (up B 0 9 0 0) r' n') rec := by
        unfold j_La_law_246
        rw [if_neg n1, if_pos p1, gd_e n2, lt__e, em]
        simp only [VV_n]
        rw [rf_0 h, bnd_e, rl_50 h, bnd_e, rl_51 h, bnd_e, e1, bnd2_e]
        simp only [VV_n]
        rw [eb, bnd_e, rl_50 h, bnd_e, rl_51 h, bnd_e]
        rw [ec, ey, el, ed, bnd_e]
        simp only [VV_n]
        rw [rl_50 h, bnd_e, rl_51 h, bnd_e, hc0, bnd2_e]
        simp only [VV_n]
        rw [rl_50 h, bnd_e, rl_51 h, bnd_e, hc1, bnd2_e, q_time, bnd_e]
        simp only [VV_n]
        rw [rl_50 h, bnd_e, rl_51 h, bnd_e, et, eu, ef, bnd2_e]
        unfold j_La_law_519
        simp (disch := omega) only [lt__e, bnd_e, bnd2_e, bnd3_e, el0_l, el0_r, el1_l, el1_r, el2_l, el2_r, ↓reduceIte, not_true_eq_false, not_false_eq_true, reduceCtorEq, and_true, true_and, and_false, false_and, or_true, true_or, or_false, false_or, and_self, or_self, ite_true, ite_false, Int.cast_ofNat_Int, Nat.reduceEqDiff, Nat.reduceLT, Int.reduceAdd, Int.reduceSub, Int.reduceMul, Int.reduceNeg, Int.reduceLT, Int.reduceLE, Int.reduceEq, ilt_t, ilt_f, ile_t, ile_f, ieq_t, ieq_f, z_0, z_1, z_2, z_3, z_4, z_5, z_6, z_7, z_8, z_9, z_10, z_12, z_20, z_40, z_80, z_81, z_99, z_100, z_200, z_400, z_3240, z_20000, z_100000, iz_add, iz_sub, iz_mul, iz_neg, iz_nat, iz_lt, iz_le, iz_eq, iz_div, iz_ite, iz_c, md10, md100, izcb_0, izcb_1, isOut_0, isNoCell_0, isGr_0, np_p, VV_r, VV_n, V_k, W_k, V_0, W_0, V_1, W_1, V_2, W_2, V_3, W_3, V_4, W_4, V_5, W_5, V_6, W_6, V_7, W_7, V_8, W_8, V_9, W_9, h.r0_0, h.r0_1, h.r0_2, h.r0_3, h.r0_4, h.r0_5, h.r1_0, h.r1_1, h.r1_2, h.r1_3, h.r12, rf_0 h, rf_1 h, rf_10 h, rf_11 h, rf_12 h, r6_i h, r6_o h, r7_i h, r7_o h, r8_i h, r8_o h, rl_13 h, ra_13 h, rl_2 h, ra_2 h, rl_3 h, ra_3 h, rl_4 h, ra_4 h, rl_5 h, ra_5 h, rl_6 h, ra_6 h, rl_7 h, ra_7 h, rl_8 h, ra_8 h, rl_9 h, ra_9 h, rl_50 h, ra_50 h, rl_51 h, ra_51 h, V_50, W_50, V_51, W_51, up_e, y_0, y_1, y_2, y_3, y_40, y_100, y_m1, y_m6, y_x1, y_x2, y_x3, z_m1, jz_neg, jz_add, jz_mul, jz_eq, jz_lt, jz_i, jz_l, jz_cmp, cmp_0, cmp_l, cmp_g, hc0', hcl, rl_50 h', rl_51 h', rf_0 h']
      rw [key]
      exact Rd.of h' (hLC.mono (by omega)) h0 i0 i1
theorem r_hold (h : Sh r n nr nm np) (hL : Lw a nr nm np i) (h0 : 0 < nm) (i0 : 0 ≤ i) (i1 : i < 40) {x y : Int} (y0 : 0 ≤ y ∧ y ≤ 2147483647) : Rd L xs i rec (j_La_law_246 L xs (some 0) (some 50) (some 51) (iz nm) (iz nr) hd (iz i) (iz x) (iz y) (iz 10) (VV a r n) rec) := by
  have hb := h.b
  have hj := md_n (q := y) (n := nm) h0
  obtain ⟨m, hm⟩ : ∃ m, y - y / nm * nm = m := ⟨_, rfl⟩
  rw [hm] at hj
  have hM := hL.1.2.2.2.2.1
  obtain ⟨w0, w1, w2, w3, w4, w5, w6⟩ := hM m hj.1 hj.2
  have e0 := q_ofM0 h hM hj.1 hj.2
  have e2 := q_ofM2 h hM hj.1 hj.2
  -- behind the call
  have main : ∀ f : Int, (f = 0 ∨ f = 1) → (a 11 4 m = 1 ∧ 100 ≤ a 11 3 m → f = 1) → Rd L xs i rec (j_La_law_821 L xs (some 0) (some 50) (some 51) (iz nm) (iz nr) hd (iz i) (iz y) (iz m) (iz f) (VV a r n) rec) := by
    intro f f1 f2
    rcases k_hold h hL (m := m) (s := 1 + y / 16 % 10) hj.1 hj.2 (by omega) with ⟨A, eh, hLA⟩ | ⟨e, D, eh, he, hfl, ⟨p1, p2, p3⟩, hLD⟩
    · have key : ∃ hd' : Int32, j_La_law_821 L xs (some 0) (some 50) (some 51) (iz nm) (iz nr) hd (iz i) (iz y) (iz m) (iz f) (VV a r n) rec = j_La_law_1031 L xs (some 0) (some 50) (some 51) (iz nm) (iz nr) hd' (iz 1) (iz i) (VV A r n) rec := by
        unfold j_La_law_821 j_La_law_853 j_La_law_858 j_La_law_893 j_La_law_898
        by_cases c : hd = iz 0
        · refine ⟨iz 0, ?_⟩
          simp (disch := omega) only [lt__e, bnd_e, bnd2_e, bnd3_e, el0_l, el0_r, el1_l, el1_r, el2_l, el2_r, ↓reduceIte, not_true_eq_false, not_false_eq_true, reduceCtorEq, and_true, true_and, and_false, false_and, or_true, true_or, or_false, false_or, and_self, or_self, ite_true, ite_false, Int.cast_ofNat_Int, Nat.reduceEqDiff, Nat.reduceLT, Int.reduceAdd, Int.reduceSub, Int.reduceMul, Int.reduceNeg, Int.reduceLT, Int.reduceLE, Int.reduceEq, ilt_t, ilt_f, ile_t, ile_f, ieq_t, ieq_f, z_0, z_1, z_2, z_3, z_4, z_5, z_6, z_7, z_8, z_9, z_10, z_12, z_20, z_40, z_80, z_81, z_99, z_100, z_200, z_400, z_3240, z_20000, z_100000, iz_add, iz_sub, iz_mul, iz_neg, iz_nat, iz_lt, iz_le, iz_eq, iz_div, iz_ite, iz_c, md10, md100, izcb_0, izcb_1, isOut_0, isNoCell_0, isGr_0, np_p, VV_r, VV_n, V_k, W_k, V_0, W_0, V_1, W_1, V_2, W_2, V_3, W_3, V_4, W_4, V_5, W_5, V_6, W_6, V_7, W_7, V_8, W_8, V_9, W_9, h.r0_0, h.r0_1, h.r0_2, h.r0_3, h.r0_4, h.r0_5, h.r1_0, h.r1_1, h.r1_2, h.r1_3, h.r12, rf_0 h, rf_1 h, rf_10 h, rf_11 h, rf_12 h, r6_i h, r6_o h, r7_i h, r7_o h, r8_i h, r8_o h, rl_13 h, ra_13 h, rl_2 h, ra_2 h, rl_3 h, ra_3 h, rl_4 h, ra_4 h, rl_5 h, ra_5 h, rl_6 h, ra_6 h, rl_7 h, ra_7 h, rl_8 h, ra_8 h, rl_9 h, ra_9 h, rl_50 h, ra_50 h, rl_51 h, ra_51 h, V_50, W_50, V_51, W_51, up_e, y_0, y_1, y_2, y_3, y_40, y_100, y_m1, y_m6, y_x1, y_x2, y_x3, z_m1, jz_neg, jz_add, jz_mul, jz_eq, jz_lt, jz_i, jz_l, jz_cmp, cmp_0, cmp_l, cmp_g, z_11, z_12, z_16, z_19, z_30, z_31, z_37, z_64, z_128, z_161, z_256, z_2048, z_16384, z_7, z_8, gd_T, eh, c]
        · refine ⟨iz 1, ?_⟩
          simp (disch := omega) only [lt__e, bnd_e, bnd2_e, bnd3_e, el0_l, el0_r, el1_l, el1_r, el2_l, el2_r, ↓reduceIte, not_true_eq_false, not_false_eq_true, reduceCtorEq, and_true, true_and, and_false, false_and, or_true, true_or, or_false, false_or, and_self, or_self, ite_true, ite_false, Int.cast_ofNat_Int, Nat.reduceEqDiff, Nat.reduceLT, Int.reduceAdd, Int.reduceSub, Int.reduceMul, Int.reduceNeg, Int.reduceLT, Int.reduceLE, Int.reduceEq, ilt_t, ilt_f, ile_t, ile_f, ieq_t, ieq_f, z_0, z_1, z_2, z_3, z_4, z_5, z_6, z_7, z_8, z_9, z_10, z_12, z_20, z_40, z_80, z_81, z_99, z_100, z_200, z_400, z_3240, z_20000, z_100000, iz_add, iz_sub, iz_mul, iz_neg, iz_nat, iz_lt, iz_le, iz_eq, iz_div, iz_ite, iz_c, md10, md100, izcb_0, izcb_1, isOut_0, isNoCell_0, isGr_0, np_p, VV_r, VV_n, V_k, W_k, V_0, W_0, V_1, W_1, V_2, W_2, V_3, W_3, V_4, W_4, V_5, W_5, V_6, W_6, V_7, W_7, V_8, W_8, V_9, W_9, h.r0_0, h.r0_1, h.r0_2, h.r0_3, h.r0_4, h.r0_5, h.r1_0, h.r1_1, h.r1_2, h.r1_3, h.r12, rf_0 h, rf_1 h, rf_10 h, rf_11 h, rf_12 h, r6_i h, r6_o h, r7_i h, r7_o h, r8_i h, r8_o h, rl_13 h, ra_13 h, rl_2 h, ra_2 h, rl_3 h, ra_3 h, rl_4 h, ra_4 h, rl_5 h, ra_5 h, rl_6 h, ra_6 h, rl_7 h, ra_7 h, rl_8 h, ra_8 h, rl_9 h, ra_9 h, rl_50 h, ra_50 h, rl_51 h, ra_51 h, V_50, W_50, V_51, W_51, up_e, y_0, y_1, y_2, y_3, y_40, y_100, y_m1, y_m6, y_x1, y_x2, y_x3, z_m1, jz_neg, jz_add, jz_mul, jz_eq, jz_lt, jz_i, jz_l, jz_cmp, cmp_0, cmp_l, cmp_g, z_11, z_12, z_16, z_19, z_30, z_31, z_37, z_64, z_128, z_161, z_256, z_2048, z_16384, z_7, z_8, gd_T, eh, c]
      obtain ⟨hd', key⟩ := key
      rw [key]
      exact Rd.of h (hLA.mono (by omega)) h0 i0 i1
    · have hf := f2 hfl
      subst hf
      have g5 := q_ofM5 h hLD.1.2.2.2.2.1 hj.1 hj.2
      have g3 := q_ofP3 h hLD.1.2.2.2.2.2.1 p1 p2
      rw [p3] at g3
      have key : j_La_law_821 L xs (some 0) (some 50) (some 51) (iz nm) (iz nr) hd (iz i) (iz y) (iz m) (iz 1) (VV a r n) rec = j_La_law_1031 L xs (some 0) (some 50) (some 51) (iz nm) (iz nr) (iz 1) (iz 1) (iz i) (VV D r n) rec := by
        unfold j_La_law_821 j_La_law_853 j_La_law_858 j_La_law_893 j_La_law_898
        by_cases c : hd = iz 0
        · simp (disch := omega) only [lt__e, bnd_e, bnd2_e, bnd3_e, el0_l, el0_r, el1_l, el1_r, el2_l, el2_r, ↓reduceIte, not_true_eq_false, not_false_eq_true, reduceCtorEq, and_true, true_and, and_false, false_and, or_true, true_or, or_false, false_or, and_self, or_self, ite_true, ite_false, Int.cast_ofNat_Int, Nat.reduceEqDiff, Nat.reduceLT, Int.reduceAdd, Int.reduceSub, Int.reduceMul, Int.reduceNeg, Int.reduceLT, Int.reduceLE, Int.reduceEq, ilt_t, ilt_f, ile_t, ile_f, ieq_t, ieq_f, z_0, z_1, z_2, z_3, z_4, z_5, z_6, z_7, z_8, z_9, z_10, z_12, z_20, z_40, z_80, z_81, z_99, z_100, z_200, z_400, z_3240, z_20000, z_100000, iz_add, iz_sub, iz_mul, iz_neg, iz_nat, iz_lt, iz_le, iz_eq, iz_div, iz_ite, iz_c, md10, md100, izcb_0, izcb_1, isOut_0, isNoCell_0, isGr_0, np_p, VV_r, VV_n, V_k, W_k, V_0, W_0, V_1, W_1, V_2, W_2, V_3, W_3, V_4, W_4, V_5, W_5, V_6, W_6, V_7, W_7, V_8, W_8, V_9, W_9, h.r0_0, h.r0_1, h.r0_2, h.r0_3, h.r0_4, h.r0_5, h.r1_0, h.r1_1, h.r1_2, h.r1_3, h.r12, rf_0 h, rf_1 h, rf_10 h, rf_11 h, rf_12 h, r6_i h, r6_o h, r7_i h, r7_o h, r8_i h, r8_o h, rl_13 h, ra_13 h, rl_2 h, ra_2 h, rl_3 h, ra_3 h, rl_4 h, ra_4 h, rl_5 h, ra_5 h, rl_6 h, ra_6 h, rl_7 h, ra_7 h, rl_8 h, ra_8 h, rl_9 h, ra_9 h, rl_50 h, ra_50 h, rl_51 h, ra_51 h, V_50, W_50, V_51, W_51, up_e, y_0, y_1, y_2, y_3, y_40, y_100, y_m1, y_m6, y_x1, y_x2, y_x3, z_m1, jz_neg, jz_add, jz_mul, jz_eq, jz_lt, jz_i, jz_l, jz_cmp, cmp_0, cmp_l, cmp_g, z_11, z_12, z_16, z_19, z_30, z_31, z_37, z_64, z_128, z_161, z_256, z_2048, z_16384, z_7, z_8, gd_T, eh, c, g5, g3]
        · simp (disch := omega) only [lt__e, bnd_e, bnd2_e, bnd3_e, el0_l, el0_r, el1_l, el1_r, el2_l, el2_r, ↓reduceIte, not_true_eq_false, not_false_eq_true, reduceCtorEq, and_true, true_and, and_false, false_and, or_true, true_or, or_false, false_or, and_self, or_self, ite_true, ite_false, Int.cast_ofNat_Int, Nat.reduceEqDiff, Nat.reduceLT, Int.reduceAdd, Int.reduceSub, Int.reduceMul, Int.reduceNeg, Int.reduceLT, Int.reduceLE, Int.reduceEq, ilt_t, ilt_f, ile_t, ile_f, ieq_t, ieq_f, z_0, z_1, z_2, z_3, z_4, z_5, z_6, z_7, z_8, z_9, z_10, z_12, z_20, z_40, z_80, z_81, z_99, z_100, z_200, z_400, z_3240, z_20000, z_100000, iz_add, iz_sub, iz_mul, iz_neg, iz_nat, iz_lt, iz_le, iz_eq, iz_div, iz_ite, iz_c, md10, md100, izcb_0, izcb_1, isOut_0, isNoCell_0, isGr_0, np_p, VV_r, VV_n, V_k, W_k, V_0, W_0, V_1, W_1, V_2, W_2, V_3, W_3, V_4, W_4, V_5, W_5, V_6, W_6, V_7, W_7, V_8, W_8, V_9, W_9, h.r0_0, h.r0_1, h.r0_2, h.r0_3, h.r0_4, h.r0_5, h.r1_0, h.r1_1, h.r1_2, h.r1_3, h.r12, rf_0 h, rf_1 h, rf_10 h, rf_11 h, rf_12 h, r6_i h, r6_o h, r7_i h, r7_o h, r8_i h, r8_o h, rl_13 h, ra_13 h, rl_2 h, ra_2 h, rl_3 h, ra_3 h, rl_4 h, ra_4 h, rl_5 h, ra_5 h, rl_6 h, ra_6 h, rl_7 h, ra_7 h, rl_8 h, ra_8 h, rl_9 h, ra_9 h, rl_50 h, ra_50 h, rl_51 h, ra_51 h, V_50, W_50, V_51, W_51, up_e, y_0, y_1, y_2, y_3, y_40, y_100, y_m1, y_m6, y_x1, y_x2, y_x3, z_m1, jz_neg, jz_add, jz_mul, jz_eq, jz_lt, jz_i, jz_l, jz_cmp, cmp_0, cmp_l, cmp_g, z_11, z_12, z_16, z_19, z_30, z_31, z_37, z_64, z_128, z_161, z_256, z_2048, z_16384, z_7, z_8, gd_T, eh, c, g5, g3]
      rw [key]
      exact Rd.of h (hLD.mono (by omega)) h0 i0 i1
  by_cases c1 : a 11 4 m = 1
  · by_cases c2 : 0 < a 11 3 m / 100
    · have key : j_La_law_246 L xs (some 0) (some 50) (some 51) (iz nm) (iz nr) hd (iz i) (iz x) (iz y) (iz 10) (VV a r n) rec = j_La_law_821 L xs (some 0) (some 50) (some 51) (iz nm) (iz nr) hd (iz i) (iz y) (iz m) (iz 1) (VV a r n) rec := by
        unfold j_La_law_246
        simp (disch := omega) only [lt__e, bnd_e, bnd2_e, bnd3_e, el0_l, el0_r, el1_l, el1_r, el2_l, el2_r, ↓reduceIte, not_true_eq_false, not_false_eq_true, reduceCtorEq, and_true, true_and, and_false, false_and, or_true, true_or, or_false, false_or, and_self, or_self, ite_true, ite_false, Int.cast_ofNat_Int, Nat.reduceEqDiff, Nat.reduceLT, Int.reduceAdd, Int.reduceSub, Int.reduceMul, Int.reduceNeg, Int.reduceLT, Int.reduceLE, Int.reduceEq, ilt_t, ilt_f, ile_t, ile_f, ieq_t, ieq_f, z_0, z_1, z_2, z_3, z_4, z_5, z_6, z_7, z_8, z_9, z_10, z_12, z_20, z_40, z_80, z_81, z_99, z_100, z_200, z_400, z_3240, z_20000, z_100000, iz_add, iz_sub, iz_mul, iz_neg, iz_nat, iz_lt, iz_le, iz_eq, iz_div, iz_ite, iz_c, md10, md100, izcb_0, izcb_1, isOut_0, isNoCell_0, isGr_0, np_p, VV_r, VV_n, V_k, W_k, V_0, W_0, V_1, W_1, V_2, W_2, V_3, W_3, V_4, W_4, V_5, W_5, V_6, W_6, V_7, W_7, V_8, W_8, V_9, W_9, h.r0_0, h.r0_1, h.r0_2, h.r0_3, h.r0_4, h.r0_5, h.r1_0, h.r1_1, h.r1_2, h.r1_3, h.r12, rf_0 h, rf_1 h, rf_10 h, rf_11 h, rf_12 h, r6_i h, r6_o h, r7_i h, r7_o h, r8_i h, r8_o h, rl_13 h, ra_13 h, rl_2 h, ra_2 h, rl_3 h, ra_3 h, rl_4 h, ra_4 h, rl_5 h, ra_5 h, rl_6 h, ra_6 h, rl_7 h, ra_7 h, rl_8 h, ra_8 h, rl_9 h, ra_9 h, rl_50 h, ra_50 h, rl_51 h, ra_51 h, V_50, W_50, V_51, W_51, up_e, y_0, y_1, y_2, y_3, y_40, y_100, y_m1, y_m6, y_x1, y_x2, y_x3, z_m1, jz_neg, jz_add, jz_mul, jz_eq, jz_lt, jz_i, jz_l, jz_cmp, cmp_0, cmp_l, cmp_g, z_11, z_12, z_16, z_19, z_30, z_31, z_37, z_64, z_128, z_161, z_256, z_2048, z_16384, z_7, z_8, gd_T, hm, e0, e2]
      rw [key]
      exact main 1 (Or.inr rfl) (fun _ => rfl)
    · have key : j_La_law_246 L xs (some 0) (some 50) (some 51) (iz nm) (iz nr) hd (iz i) (iz x) (iz y) (iz 10) (VV a r n) rec = j_La_law_821 L xs (some 0) (some 50) (some 51) (iz nm) (iz nr) hd (iz i) (iz y) (iz m) (iz 0) (VV a r n) rec := by
        unfold j_La_law_246 j_La_law_820
        simp (disch := omega) only [lt__e, bnd_e, bnd2_e, bnd3_e, el0_l, el0_r, el1_l, el1_r, el2_l, el2_r, ↓reduceIte, not_true_eq_false, not_false_eq_true, reduceCtorEq, and_true, true_and, and_false, false_and, or_true, true_or, or_false, false_or, and_self, or_self, ite_true, ite_false, Int.cast_ofNat_Int, Nat.reduceEqDiff, Nat.reduceLT, Int.reduceAdd, Int.reduceSub, Int.reduceMul, Int.reduceNeg, Int.reduceLT, Int.reduceLE, Int.reduceEq, ilt_t, ilt_f, ile_t, ile_f, ieq_t, ieq_f, z_0, z_1, z_2, z_3, z_4, z_5, z_6, z_7, z_8, z_9, z_10, z_12, z_20, z_40, z_80, z_81, z_99, z_100, z_200, z_400, z_3240, z_20000, z_100000, iz_add, iz_sub, iz_mul, iz_neg, iz_nat, iz_lt, iz_le, iz_eq, iz_div, iz_ite, iz_c, md10, md100, izcb_0, izcb_1, isOut_0, isNoCell_0, isGr_0, np_p, VV_r, VV_n, V_k, W_k, V_0, W_0, V_1, W_1, V_2, W_2, V_3, W_3, V_4, W_4, V_5, W_5, V_6, W_6, V_7, W_7, V_8, W_8, V_9, W_9, h.r0_0, h.r0_1, h.r0_2, h.r0_3, h.r0_4, h.r0_5, h.r1_0, h.r1_1, h.r1_2, h.r1_3, h.r12, rf_0 h, rf_1 h, rf_10 h, rf_11 h, rf_12 h, r6_i h, r6_o h, r7_i h, r7_o h, r8_i h, r8_o h, rl_13 h, ra_13 h, rl_2 h, ra_2 h, rl_3 h, ra_3 h, rl_4 h, ra_4 h, rl_5 h, ra_5 h, rl_6 h, ra_6 h, rl_7 h, ra_7 h, rl_8 h, ra_8 h, rl_9 h, ra_9 h, rl_50 h, ra_50 h, rl_51 h, ra_51 h, V_50, W_50, V_51, W_51, up_e, y_0, y_1, y_2, y_3, y_40, y_100, y_m1, y_m6, y_x1, y_x2, y_x3, z_m1, jz_neg, jz_add, jz_mul, jz_eq, jz_lt, jz_i, jz_l, jz_cmp, cmp_0, cmp_l, cmp_g, z_11, z_12, z_16, z_19, z_30, z_31, z_37, z_64, z_128, z_161, z_256, z_2048, z_16384, z_7, z_8, gd_T, hm, e0, e2]
      rw [key]
      exact main 0 (Or.inl rfl) (fun z => by omega)
  · have key : j_La_law_246 L xs (some 0) (some 50) (some 51) (iz nm) (iz nr) hd (iz i) (iz x) (iz y) (iz 10) (VV a r n) rec = j_La_law_821 L xs (some 0) (some 50) (some 51) (iz nm) (iz nr) hd (iz i) (iz y) (iz m) (iz 0) (VV a r n) rec := by
      unfold j_La_law_246 j_La_law_820
      simp (disch := omega) only [lt__e, bnd_e, bnd2_e, bnd3_e, el0_l, el0_r, el1_l, el1_r, el2_l, el2_r, ↓reduceIte, not_true_eq_false, not_false_eq_true, reduceCtorEq, and_true, true_and, and_false, false_and, or_true, true_or, or_false, false_or, and_self, or_self, ite_true, ite_false, Int.cast_ofNat_Int, Nat.reduceEqDiff, Nat.reduceLT, Int.reduceAdd, Int.reduceSub, Int.reduceMul, Int.reduceNeg, Int.reduceLT, Int.reduceLE, Int.reduceEq, ilt_t, ilt_f, ile_t, ile_f, ieq_t, ieq_f, z_0, z_1, z_2, z_3, z_4, z_5, z_6, z_7, z_8, z_9, z_10, z_12, z_20, z_40, z_80, z_81, z_99, z_100, z_200, z_400, z_3240, z_20000, z_100000, iz_add, iz_sub, iz_mul, iz_neg, iz_nat, iz_lt, iz_le, iz_eq, iz_div, iz_ite, iz_c, md10, md100, izcb_0, izcb_1, isOut_0, isNoCell_0, isGr_0, np_p, VV_r, VV_n, V_k, W_k, V_0, W_0, V_1, W_1, V_2, W_2, V_3, W_3, V_4, W_4, V_5, W_5, V_6, W_6, V_7, W_7, V_8, W_8, V_9, W_9, h.r0_0, h.r0_1, h.r0_2, h.r0_3, h.r0_4, h.r0_5, h.r1_0, h.r1_1, h.r1_2, h.r1_3, h.r12, rf_0 h, rf_1 h, rf_10 h, rf_11 h, rf_12 h, r6_i h, r6_o h, r7_i h, r7_o h, r8_i h, r8_o h, rl_13 h, ra_13 h, rl_2 h, ra_2 h, rl_3 h, ra_3 h, rl_4 h, ra_4 h, rl_5 h, ra_5 h, rl_6 h, ra_6 h, rl_7 h, ra_7 h, rl_8 h, ra_8 h, rl_9 h, ra_9 h, rl_50 h, ra_50 h, rl_51 h, ra_51 h, V_50, W_50, V_51, W_51, up_e, y_0, y_1, y_2, y_3, y_40, y_100, y_m1, y_m6, y_x1, y_x2, y_x3, z_m1, jz_neg, jz_add, jz_mul, jz_eq, jz_lt, jz_i, jz_l, jz_cmp, cmp_0, cmp_l, cmp_g, z_11, z_12, z_16, z_19, z_30, z_31, z_37, z_64, z_128, z_161, z_256, z_2048, z_16384, z_7, z_8, gd_T, hm, e0, e2]
    rw [key]
    exact main 0 (Or.inl rfl) (fun z => by omega)
theorem l_1002 (h : Sh r n nr nm np) (hI : CI a nr nm np) : j_La_law_1002 L xs (some 0) (some 50) (some 51) (iz nm) (iz nr) hd (iz i) (VV a r n) rec = j_La_law_1031 L xs (some 0) (some 50) (some 51) (iz nm) (iz nr) hd (iz 1) (iz i) (VV a r n) rec := by
  have hb := h.b
  obtain ⟨v, e1, e2⟩ := q_alerts h hI
  unfold j_La_law_1002 j_La_law_1007 j_La_law_1029
  rw [show (31 : Int32) = iz 31 from rfl] at e2 ⊢
  simp (disch := omega) only [lt__e, bnd_e, bnd2_e, bnd3_e, el0_l, el0_r, el1_l, el1_r, el2_l, el2_r, ↓reduceIte, not_true_eq_false, not_false_eq_true, reduceCtorEq, and_true, true_and, and_false, false_and, or_true, true_or, or_false, false_or, and_self, or_self, ite_true, ite_false, Int.cast_ofNat_Int, Nat.reduceEqDiff, Nat.reduceLT, Int.reduceAdd, Int.reduceSub, Int.reduceMul, Int.reduceNeg, Int.reduceLT, Int.reduceLE, Int.reduceEq, ilt_t, ilt_f, ile_t, ile_f, ieq_t, ieq_f, z_0, z_1, z_2, z_3, z_4, z_5, z_6, z_7, z_8, z_9, z_10, z_12, z_20, z_40, z_80, z_81, z_99, z_100, z_200, z_400, z_3240, z_20000, z_100000, iz_add, iz_sub, iz_mul, iz_neg, iz_nat, iz_lt, iz_le, iz_eq, iz_div, iz_ite, iz_c, md10, md100, izcb_0, izcb_1, isOut_0, isNoCell_0, isGr_0, np_p, VV_n, rf_0 h, e1, e2]
theorem r_lose (h : Sh r n nr nm np) (hL : Lw a nr nm np i) (h0 : 0 < nm) (i0 : 0 ≤ i) (i1 : i < 40) {x y t : Int} (t0 : 11 ≤ t ∧ t < 12) (y0 : 0 ≤ y ∧ y ≤ 2147483647) : Rd L xs i rec (j_La_law_246 L xs (some 0) (some 50) (some 51) (iz nm) (iz nr) hd (iz i) (iz x) (iz y) (iz t) (VV a r n) rec) := by
  have hb := h.b
  have hj := md_n (q := y) (n := nm) h0
  obtain ⟨m, hm⟩ : ∃ m, y - y / nm * nm = m := ⟨_, rfl⟩
  rw [hm] at hj
  have hM := hL.1.2.2.2.2.1
  obtain ⟨w0, w1, w2, w3, w4, w5, w6⟩ := hM m hj.1 hj.2
  have e0 := q_ofM0 h hM hj.1 hj.2
  have e2 := q_ofM2 h hM hj.1 hj.2
  have g0 := l_1002 (a := a) (i := i) (L := L) (xs := xs) (hd := hd) (rec := rec) h hL.1
  have main : ∀ f : Int, (f = 0 ∨ f = 1) → (a 11 4 m = 1 ∧ 100 ≤ a 11 3 m → f = 1) → Rd L xs i rec (j_La_law_939 L xs (some 0) (some 50) (some 51) (iz nm) (iz nr) hd (iz i) (iz y) (iz m) (iz f) (VV a r n) rec) := by
    intro f f1 f2
    have same : j_La_law_963 L xs (some 0) (some 50) (some 51) (iz nm) (iz nr) hd (iz i) (iz m) (iz f) (jz (-9000000000000000003)) (VV a r n) rec = j_La_law_1031 L xs (some 0) (some 50) (some 51) (iz nm) (iz nr) hd (iz 1) (iz i) (VV a r n) rec := by
      unfold j_La_law_963
      simp (disch := omega) only [lt__e, bnd_e, bnd2_e, bnd3_e, el0_l, el0_r, el1_l, el1_r, el2_l, el2_r, ↓reduceIte, not_true_eq_false, not_false_eq_true, reduceCtorEq, and_true, true_and, and_false, false_and, or_true, true_or, or_false, false_or, and_self, or_self, ite_true, ite_false, Int.cast_ofNat_Int, Nat.reduceEqDiff, Nat.reduceLT, Int.reduceAdd, Int.reduceSub, Int.reduceMul, Int.reduceNeg, Int.reduceLT, Int.reduceLE, Int.reduceEq, ilt_t, ilt_f, ile_t, ile_f, ieq_t, ieq_f, z_0, z_1, z_2, z_3, z_4, z_5, z_6, z_7, z_8, z_9, z_10, z_12, z_20, z_40, z_80, z_81, z_99, z_100, z_200, z_400, z_3240, z_20000, z_100000, iz_add, iz_sub, iz_mul, iz_neg, iz_nat, iz_lt, iz_le, iz_eq, iz_div, iz_ite, iz_c, md10, md100, izcb_0, izcb_1, isOut_0, isNoCell_0, isGr_0, np_p, VV_r, VV_n, V_k, W_k, V_0, W_0, V_1, W_1, V_2, W_2, V_3, W_3, V_4, W_4, V_5, W_5, V_6, W_6, V_7, W_7, V_8, W_8, V_9, W_9, h.r0_0, h.r0_1, h.r0_2, h.r0_3, h.r0_4, h.r0_5, h.r1_0, h.r1_1, h.r1_2, h.r1_3, h.r12, rf_0 h, rf_1 h, rf_10 h, rf_11 h, rf_12 h, r6_i h, r6_o h, r7_i h, r7_o h, r8_i h, r8_o h, rl_13 h, ra_13 h, rl_2 h, ra_2 h, rl_3 h, ra_3 h, rl_4 h, ra_4 h, rl_5 h, ra_5 h, rl_6 h, ra_6 h, rl_7 h, ra_7 h, rl_8 h, ra_8 h, rl_9 h, ra_9 h, rl_50 h, ra_50 h, rl_51 h, ra_51 h, V_50, W_50, V_51, W_51, up_e, y_0, y_1, y_2, y_3, y_40, y_100, y_m1, y_m6, y_x1, y_x2, y_x3, z_m1, jz_neg, jz_add, jz_mul, jz_eq, jz_lt, jz_i, jz_l, jz_cmp, cmp_0, cmp_l, cmp_g, g0]
    by_cases c : y / 16 - y / 16 / 3 * 3 = 0
    · rcases k_lose h hL hj.1 hj.2 with el | ⟨Z, B, el, hfl, ⟨z1, z2, z3⟩, b4, hLB⟩
      · have key : j_La_law_939 L xs (some 0) (some 50) (some 51) (iz nm) (iz nr) hd (iz i) (iz y) (iz m) (iz f) (VV a r n) rec = j_La_law_1031 L xs (some 0) (some 50) (some 51) (iz nm) (iz nr) hd (iz 1) (iz i) (VV a r n) rec := by
          unfold j_La_law_939
          simp (disch := omega) only [lt__e, bnd_e, bnd2_e, bnd3_e, el0_l, el0_r, el1_l, el1_r, el2_l, el2_r, ↓reduceIte, not_true_eq_false, not_false_eq_true, reduceCtorEq, and_true, true_and, and_false, false_and, or_true, true_or, or_false, false_or, and_self, or_self, ite_true, ite_false, Int.cast_ofNat_Int, Nat.reduceEqDiff, Nat.reduceLT, Int.reduceAdd, Int.reduceSub, Int.reduceMul, Int.reduceNeg, Int.reduceLT, Int.reduceLE, Int.reduceEq, ilt_t, ilt_f, ile_t, ile_f, ieq_t, ieq_f, z_0, z_1, z_2, z_3, z_4, z_5, z_6, z_7, z_8, z_9, z_10, z_12, z_20, z_40, z_80, z_81, z_99, z_100, z_200, z_400, z_3240, z_20000, z_100000, iz_add, iz_sub, iz_mul, iz_neg, iz_nat, iz_lt, iz_le, iz_eq, iz_div, iz_ite, iz_c, md10, md100, izcb_0, izcb_1, isOut_0, isNoCell_0, isGr_0, np_p, VV_r, VV_n, V_k, W_k, V_0, W_0, V_1, W_1, V_2, W_2, V_3, W_3, V_4, W_4, V_5, W_5, V_6, W_6, V_7, W_7, V_8, W_8, V_9, W_9, h.r0_0, h.r0_1, h.r0_2, h.r0_3, h.r0_4, h.r0_5, h.r1_0, h.r1_1, h.r1_2, h.r1_3, h.r12, rf_0 h, rf_1 h, rf_10 h, rf_11 h, rf_12 h, r6_i h, r6_o h, r7_i h, r7_o h, r8_i h, r8_o h, rl_13 h, ra_13 h, rl_2 h, ra_2 h, rl_3 h, ra_3 h, rl_4 h, ra_4 h, rl_5 h, ra_5 h, rl_6 h, ra_6 h, rl_7 h, ra_7 h, rl_8 h, ra_8 h, rl_9 h, ra_9 h, rl_50 h, ra_50 h, rl_51 h, ra_51 h, V_50, W_50, V_51, W_51, up_e, y_0, y_1, y_2, y_3, y_40, y_100, y_m1, y_m6, y_x1, y_x2, y_x3, z_m1, jz_neg, jz_add, jz_mul, jz_eq, jz_lt, jz_i, jz_l, jz_cmp, cmp_0, cmp_l, cmp_g, z_11, z_12, z_16, z_19, z_30, z_31, z_37, z_64, z_128, z_161, z_256, z_2048, z_16384, z_7, z_8, gd_T, el, same]
        rw [key]
        exact Rd.of h (hL.mono (by omega)) h0 i0 i1
      · have hf := f2 hfl
        subst hf
        have g9 := l_1002 (a := B) (i := i) (L := L) (xs := xs) (hd := hd) (rec := rec) h hLB.1
        have gs := isp_y (a := B) h hLB.2.2.2.1.1 ((hL.2.2.1.i Z).1 z1)
        have gm := q_ofM0 h hLB.1.2.2.2.2.1 hj.1 hj.2
        rw [b4] at gm
        have key : j_La_law_939 L xs (some 0) (some 50) (some 51) (iz nm) (iz nr) hd (iz i) (iz y) (iz m) (iz 1) (VV a r n) rec = j_La_law_1031 L xs (some 0) (some 50) (some 51) (iz nm) (iz nr) hd (iz 1) (iz i) (VV B r n) rec := by
          unfold j_La_law_939 j_La_law_963
          simp (disch := omega) only [lt__e, bnd_e, bnd2_e, bnd3_e, el0_l, el0_r, el1_l, el1_r, el2_l, el2_r, ↓reduceIte, not_true_eq_false, not_false_eq_true, reduceCtorEq, and_true, true_and, and_false, false_and, or_true, true_or, or_false, false_or, and_self, or_self, ite_true, ite_false, Int.cast_ofNat_Int, Nat.reduceEqDiff, Nat.reduceLT, Int.reduceAdd, Int.reduceSub, Int.reduceMul, Int.reduceNeg, Int.reduceLT, Int.reduceLE, Int.reduceEq, ilt_t, ilt_f, ile_t, ile_f, ieq_t, ieq_f, z_0, z_1, z_2, z_3, z_4, z_5, z_6, z_7, z_8, z_9, z_10, z_12, z_20, z_40, z_80, z_81, z_99, z_100, z_200, z_400, z_3240, z_20000, z_100000, iz_add, iz_sub, iz_mul, iz_neg, iz_nat, iz_lt, iz_le, iz_eq, iz_div, iz_ite, iz_c, md10, md100, izcb_0, izcb_1, isOut_0, isNoCell_0, isGr_0, np_p, VV_r, VV_n, V_k, W_k, V_0, W_0, V_1, W_1, V_2, W_2, V_3, W_3, V_4, W_4, V_5, W_5, V_6, W_6, V_7, W_7, V_8, W_8, V_9, W_9, h.r0_0, h.r0_1, h.r0_2, h.r0_3, h.r0_4, h.r0_5, h.r1_0, h.r1_1, h.r1_2, h.r1_3, h.r12, rf_0 h, rf_1 h, rf_10 h, rf_11 h, rf_12 h, r6_i h, r6_o h, r7_i h, r7_o h, r8_i h, r8_o h, rl_13 h, ra_13 h, rl_2 h, ra_2 h, rl_3 h, ra_3 h, rl_4 h, ra_4 h, rl_5 h, ra_5 h, rl_6 h, ra_6 h, rl_7 h, ra_7 h, rl_8 h, ra_8 h, rl_9 h, ra_9 h, rl_50 h, ra_50 h, rl_51 h, ra_51 h, V_50, W_50, V_51, W_51, up_e, y_0, y_1, y_2, y_3, y_40, y_100, y_m1, y_m6, y_x1, y_x2, y_x3, z_m1, jz_neg, jz_add, jz_mul, jz_eq, jz_lt, jz_i, jz_l, jz_cmp, cmp_0, cmp_l, cmp_g, z_11, z_12, z_16, z_19, z_30, z_31, z_37, z_64, z_128, z_161, z_256, z_2048, z_16384, z_7, z_8, gd_T, el, gs, gm, g9]
        rw [key]
        exact Rd.of h (hLB.mono (by omega)) h0 i0 i1
    · have key : j_La_law_939 L xs (some 0) (some 50) (some 51) (iz nm) (iz nr) hd (iz i) (iz y) (iz m) (iz f) (VV a r n) rec = j_La_law_1031 L xs (some 0) (some 50) (some 51) (iz nm) (iz nr) hd (iz 1) (iz i) (VV a r n) rec := by
        unfold j_La_law_939
        simp (disch := omega) only [lt__e, bnd_e, bnd2_e, bnd3_e, el0_l, el0_r, el1_l, el1_r, el2_l, el2_r, ↓reduceIte, not_true_eq_false, not_false_eq_true, reduceCtorEq, and_true, true_and, and_false, false_and, or_true, true_or, or_false, false_or, and_self, or_self, ite_true, ite_false, Int.cast_ofNat_Int, Nat.reduceEqDiff, Nat.reduceLT, Int.reduceAdd, Int.reduceSub, Int.reduceMul, Int.reduceNeg, Int.reduceLT, Int.reduceLE, Int.reduceEq, ilt_t, ilt_f, ile_t, ile_f, ieq_t, ieq_f, z_0, z_1, z_2, z_3, z_4, z_5, z_6, z_7, z_8, z_9, z_10, z_12, z_20, z_40, z_80, z_81, z_99, z_100, z_200, z_400, z_3240, z_20000, z_100000, iz_add, iz_sub, iz_mul, iz_neg, iz_nat, iz_lt, iz_le, iz_eq, iz_div, iz_ite, iz_c, md10, md100, izcb_0, izcb_1, isOut_0, isNoCell_0, isGr_0, np_p, VV_r, VV_n, V_k, W_k, V_0, W_0, V_1, W_1, V_2, W_2, V_3, W_3, V_4, W_4, V_5, W_5, V_6, W_6, V_7, W_7, V_8, W_8, V_9, W_9, h.r0_0, h.r0_1, h.r0_2, h.r0_3, h.r0_4, h.r0_5, h.r1_0, h.r1_1, h.r1_2, h.r1_3, h.r12, rf_0 h, rf_1 h, rf_10 h, rf_11 h, rf_12 h, r6_i h, r6_o h, r7_i h, r7_o h, r8_i h, r8_o h, rl_13 h, ra_13 h, rl_2 h, ra_2 h, rl_3 h, ra_3 h, rl_4 h, ra_4 h, rl_5 h, ra_5 h, rl_6 h, ra_6 h, rl_7 h, ra_7 h, rl_8 h, ra_8 h, rl_9 h, ra_9 h, rl_50 h, ra_50 h, rl_51 h, ra_51 h, V_50, W_50, V_51, W_51, up_e, y_0, y_1, y_2, y_3, y_40, y_100, y_m1, y_m6, y_x1, y_x2, y_x3, z_m1, jz_neg, jz_add, jz_mul, jz_eq, jz_lt, jz_i, jz_l, jz_cmp, cmp_0, cmp_l, cmp_g, z_11, z_12, z_16, z_19, z_30, z_31, z_37, z_64, z_128, z_161, z_256, z_2048, z_16384, z_7, z_8, gd_T, same]
      rw [key]
      exact Rd.of h (hL.mono (by omega)) h0 i0 i1
  by_cases c1 : a 11 4 m = 1
  · by_cases c2 : 0 < a 11 3 m / 100
    · have key : j_La_law_246 L xs (some 0) (some 50) (some 51) (iz nm) (iz nr) hd (iz i) (iz x) (iz y) (iz t) (VV a r n) rec = j_La_law_939 L xs (some 0) (some 50) (some 51) (iz nm) (iz nr) hd (iz i) (iz y) (iz m) (iz 1) (VV a r n) rec := by
        unfold j_La_law_246
        simp (disch := omega) only [lt__e, bnd_e, bnd2_e, bnd3_e, el0_l, el0_r, el1_l, el1_r, el2_l, el2_r, ↓reduceIte, not_true_eq_false, not_false_eq_true, reduceCtorEq, and_true, true_and, and_false, false_and, or_true, true_or, or_false, false_or, and_self, or_self, ite_true, ite_false, Int.cast_ofNat_Int, Nat.reduceEqDiff, Nat.reduceLT, Int.reduceAdd, Int.reduceSub, Int.reduceMul, Int.reduceNeg, Int.reduceLT, Int.reduceLE, Int.reduceEq, ilt_t, ilt_f, ile_t, ile_f, ieq_t, ieq_f, z_0, z_1, z_2, z_3, z_4, z_5, z_6, z_7, z_8, z_9, z_10, z_12, z_20, z_40, z_80, z_81, z_99, z_100, z_200, z_400, z_3240, z_20000, z_100000, iz_add, iz_sub, iz_mul, iz_neg, iz_nat, iz_lt, iz_le, iz_eq, iz_div, iz_ite, iz_c, md10, md100, izcb_0, izcb_1, isOut_0, isNoCell_0, isGr_0, np_p, VV_r, VV_n, V_k, W_k, V_0, W_0, V_1, W_1, V_2, W_2, V_3, W_3, V_4, W_4, V_5, W_5, V_6, W_6, V_7, W_7, V_8, W_8, V_9, W_9, h.r0_0, h.r0_1, h.r0_2, h.r0_3, h.r0_4, h.r0_5, h.r1_0, h.r1_1, h.r1_2, h.r1_3, h.r12, rf_0 h, rf_1 h, rf_10 h, rf_11 h, rf_12 h, r6_i h, r6_o h, r7_i h, r7_o h, r8_i h, r8_o h, rl_13 h, ra_13 h, rl_2 h, ra_2 h, rl_3 h, ra_3 h, rl_4 h, ra_4 h, rl_5 h, ra_5 h, rl_6 h, ra_6 h, rl_7 h, ra_7 h, rl_8 h, ra_8 h, rl_9 h, ra_9 h, rl_50 h, ra_50 h, rl_51 h, ra_51 h, V_50, W_50, V_51, W_51, up_e, y_0, y_1, y_2, y_3, y_40, y_100, y_m1, y_m6, y_x1, y_x2, y_x3, z_m1, jz_neg, jz_add, jz_mul, jz_eq, jz_lt, jz_i, jz_l, jz_cmp, cmp_0, cmp_l, cmp_g, z_11, z_12, z_16, z_19, z_30, z_31, z_37, z_64, z_128, z_161, z_256, z_2048, z_16384, z_7, z_8, gd_T, hm, e0, e2]
      rw [key]
      exact main 1 (Or.inr rfl) (fun _ => rfl)
    · have key : j_La_law_246 L xs (some 0) (some 50) (some 51) (iz nm) (iz nr) hd (iz i) (iz x) (iz y) (iz t) (VV a r n) rec = j_La_law_939 L xs (some 0) (some 50) (some 51) (iz nm) (iz nr) hd (iz i) (iz y) (iz m) (iz 0) (VV a r n) rec := by
        unfold j_La_law_246 j_La_law_938
        simp (disch := omega) only [lt__e, bnd_e, bnd2_e, bnd3_e, el0_l, el0_r, el1_l, el1_r, el2_l, el2_r, ↓reduceIte, not_true_eq_false, not_false_eq_true, reduceCtorEq, and_true, true_and, and_false, false_and, or_true, true_or, or_false, false_or, and_self, or_self, ite_true, ite_false, Int.cast_ofNat_Int, Nat.reduceEqDiff, Nat.reduceLT, Int.reduceAdd, Int.reduceSub, Int.reduceMul, Int.reduceNeg, Int.reduceLT, Int.reduceLE, Int.reduceEq, ilt_t, ilt_f, ile_t, ile_f, ieq_t, ieq_f, z_0, z_1, z_2, z_3, z_4, z_5, z_6, z_7, z_8, z_9, z_10, z_12, z_20, z_40, z_80, z_81, z_99, z_100, z_200, z_400, z_3240, z_20000, z_100000, iz_add, iz_sub, iz_mul, iz_neg, iz_nat, iz_lt, iz_le, iz_eq, iz_div, iz_ite, iz_c, md10, md100, izcb_0, izcb_1, isOut_0, isNoCell_0, isGr_0, np_p, VV_r, VV_n, V_k, W_k, V_0, W_0, V_1, W_1, V_2, W_2, V_3, W_3, V_4, W_4, V_5, W_5, V_6, W_6, V_7, W_7, V_8, W_8, V_9, W_9, h.r0_0, h.r0_1, h.r0_2, h.r0_3, h.r0_4, h.r0_5, h.r1_0, h.r1_1, h.r1_2, h.r1_3, h.r12, rf_0 h, rf_1 h, rf_10 h, rf_11 h, rf_12 h, r6_i h, r6_o h, r7_i h, r7_o h, r8_i h, r8_o h, rl_13 h, ra_13 h, rl_2 h, ra_2 h, rl_3 h, ra_3 h, rl_4 h, ra_4 h, rl_5 h, ra_5 h, rl_6 h, ra_6 h, rl_7 h, ra_7 h, rl_8 h, ra_8 h, rl_9 h, ra_9 h, rl_50 h, ra_50 h, rl_51 h, ra_51 h, V_50, W_50, V_51, W_51, up_e, y_0, y_1, y_2, y_3, y_40, y_100, y_m1, y_m6, y_x1, y_x2, y_x3, z_m1, jz_neg, jz_add, jz_mul, jz_eq, jz_lt, jz_i, jz_l, jz_cmp, cmp_0, cmp_l, cmp_g, z_11, z_12, z_16, z_19, z_30, z_31, z_37, z_64, z_128, z_161, z_256, z_2048, z_16384, z_7, z_8, gd_T, hm, e0, e2]
      rw [key]
      exact main 0 (Or.inl rfl) (fun z => by omega)
  · have key : j_La_law_246 L xs (some 0) (some 50) (some 51) (iz nm) (iz nr) hd (iz i) (iz x) (iz y) (iz t) (VV a r n) rec = j_La_law_939 L xs (some 0) (some 50) (some 51) (iz nm) (iz nr) hd (iz i) (iz y) (iz m) (iz 0) (VV a r n) rec := by
      unfold j_La_law_246 j_La_law_938
      simp (disch := omega) only [lt__e, bnd_e, bnd2_e, bnd3_e, el0_l, el0_r, el1_l, el1_r, el2_l, el2_r, ↓reduceIte, not_true_eq_false, not_false_eq_true, reduceCtorEq, and_true, true_and, and_false, false_and, or_true, true_or, or_false, false_or, and_self, or_self, ite_true, ite_false, Int.cast_ofNat_Int, Nat.reduceEqDiff, Nat.reduceLT, Int.reduceAdd, Int.reduceSub, Int.reduceMul, Int.reduceNeg, Int.reduceLT, Int.reduceLE, Int.reduceEq, ilt_t, ilt_f, ile_t, ile_f, ieq_t, ieq_f, z_0, z_1, z_2, z_3, z_4, z_5, z_6, z_7, z_8, z_9, z_10, z_12, z_20, z_40, z_80, z_81, z_99, z_100, z_200, z_400, z_3240, z_20000, z_100000, iz_add, iz_sub, iz_mul, iz_neg, iz_nat, iz_lt, iz_le, iz_eq, iz_div, iz_ite, iz_c, md10, md100, izcb_0, izcb_1, isOut_0, isNoCell_0, isGr_0, np_p, VV_r, VV_n, V_k, W_k, V_0, W_0, V_1, W_1, V_2, W_2, V_3, W_3, V_4, W_4, V_5, W_5, V_6, W_6, V_7, W_7, V_8, W_8, V_9, W_9, h.r0_0, h.r0_1, h.r0_2, h.r0_3, h.r0_4, h.r0_5, h.r1_0, h.r1_1, h.r1_2, h.r1_3, h.r12, rf_0 h, rf_1 h, rf_10 h, rf_11 h, rf_12 h, r6_i h, r6_o h, r7_i h, r7_o h, r8_i h, r8_o h, rl_13 h, ra_13 h, rl_2 h, ra_2 h, rl_3 h, ra_3 h, rl_4 h, ra_4 h, rl_5 h, ra_5 h, rl_6 h, ra_6 h, rl_7 h, ra_7 h, rl_8 h, ra_8 h, rl_9 h, ra_9 h, rl_50 h, ra_50 h, rl_51 h, ra_51 h, V_50, W_50, V_51, W_51, up_e, y_0, y_1, y_2, y_3, y_40, y_100, y_m1, y_m6, y_x1, y_x2, y_x3, z_m1, jz_neg, jz_add, jz_mul, jz_eq, jz_lt, jz_i, jz_l, jz_cmp, cmp_0, cmp_l, cmp_g, z_11, z_12, z_16, z_19, z_30, z_31, z_37, z_64, z_128, z_161, z_256, z_2048, z_16384, z_7, z_8, gd_T, hm, e0, e2]
    rw [key]
    exact main 0 (Or.inl rfl) (fun z => by omega)
/-- any round -/
theorem law_r (hLn : (L : Int) ≤ 260) (h : Sh r n nr nm np) (hL : Lw a nr nm np i) (i0 : 0 ≤ i) (i1 : i < 40) (h0 : 2 ≤ i → 0 < nm) : Rd L xs i rec (b_La_law_195 L xs (some 0) (some 50) (some 51) (iz nm) (iz nr) hd (iz 1) (iz i) (VV a r n) rec) := by
  have hb := h.b
  obtain ⟨x, ex, x0⟩ := q_draw (L := L) (xs := xs) hLn (i := 4 + 2 * i) (by omega) (by omega)
  obtain ⟨y, ey, y0⟩ := q_draw (L := L) (xs := xs) hLn (i := 5 + 2 * i) (by omega) (by omega)
  by_cases c : i < 2
  · have key : b_La_law_195 L xs (some 0) (some 50) (some 51) (iz nm) (iz nr) hd (iz 1) (iz i) (VV a r n) rec = j_La_law_246 L xs (some 0) (some 50) (some 51) (iz nm) (iz nr) hd (iz i) (iz x) (iz y) (iz 0) (VV a r n) rec := by
      unfold b_La_law_195
      simp (disch := omega) only [lt__e, bnd_e, bnd2_e, bnd3_e, el0_l, el0_r, el1_l, el1_r, el2_l, el2_r, ↓reduceIte, not_true_eq_false, not_false_eq_true, reduceCtorEq, and_true, true_and, and_false, false_and, or_true, true_or, or_false, false_or, and_self, or_self, ite_true, ite_false, Int.cast_ofNat_Int, Nat.reduceEqDiff, Nat.reduceLT, Int.reduceAdd, Int.reduceSub, Int.reduceMul, Int.reduceNeg, Int.reduceLT, Int.reduceLE, Int.reduceEq, ilt_t, ilt_f, ile_t, ile_f, ieq_t, ieq_f, z_0, z_1, z_2, z_3, z_4, z_5, z_6, z_7, z_8, z_9, z_10, z_12, z_20, z_40, z_80, z_81, z_99, z_100, z_200, z_400, z_3240, z_20000, z_100000, iz_add, iz_sub, iz_mul, iz_neg, iz_nat, iz_lt, iz_le, iz_eq, iz_div, iz_ite, iz_c, md10, md100, izcb_0, izcb_1, isOut_0, isNoCell_0, isGr_0, np_p, VV_r, VV_n, V_k, W_k, V_0, W_0, V_1, W_1, V_2, W_2, V_3, W_3, V_4, W_4, V_5, W_5, V_6, W_6, V_7, W_7, V_8, W_8, V_9, W_9, h.r0_0, h.r0_1, h.r0_2, h.r0_3, h.r0_4, h.r0_5, h.r1_0, h.r1_1, h.r1_2, h.r1_3, h.r12, rf_0 h, rf_1 h, rf_10 h, rf_11 h, rf_12 h, r6_i h, r6_o h, r7_i h, r7_o h, r8_i h, r8_o h, rl_13 h, ra_13 h, rl_2 h, ra_2 h, rl_3 h, ra_3 h, rl_4 h, ra_4 h, rl_5 h, ra_5 h, rl_6 h, ra_6 h, rl_7 h, ra_7 h, rl_8 h, ra_8 h, rl_9 h, ra_9 h, rl_50 h, ra_50 h, rl_51 h, ra_51 h, V_50, W_50, V_51, W_51, up_e, y_0, y_1, y_2, y_3, y_40, y_100, y_m1, y_m6, y_x1, y_x2, y_x3, z_m1, jz_neg, jz_add, jz_mul, jz_eq, jz_lt, jz_i, jz_l, jz_cmp, cmp_0, cmp_l, cmp_g, z_11, z_12, z_16, z_19, z_30, z_31, z_37, z_64, z_128, z_161, z_256, z_2048, z_16384, z_7, z_8, gd_T, ex, ey]
    rw [key]
    exact r_machine h hL i0 i1 x0 y0
  · have h0' := h0 (by omega)
    obtain ⟨t, ht, t0⟩ : ∃ t, x - x / 12 * 12 = t ∧ 0 ≤ t ∧ t < 12 := ⟨_, rfl, by omega⟩
    have key : b_La_law_195 L xs (some 0) (some 50) (some 51) (iz nm) (iz nr) hd (iz 1) (iz i) (VV a r n) rec = j_La_law_246 L xs (some 0) (some 50) (some 51) (iz nm) (iz nr) hd (iz i) (iz x) (iz y) (iz t) (VV a r n) rec := by
      unfold b_La_law_195
      simp (disch := omega) only [lt__e, bnd_e, bnd2_e, bnd3_e, el0_l, el0_r, el1_l, el1_r, el2_l, el2_r, ↓reduceIte, not_true_eq_false, not_false_eq_true, reduceCtorEq, and_true, true_and, and_false, false_and, or_true, true_or, or_false, false_or, and_self, or_self, ite_true, ite_false, Int.cast_ofNat_Int, Nat.reduceEqDiff, Nat.reduceLT, Int.reduceAdd, Int.reduceSub, Int.reduceMul, Int.reduceNeg, Int.reduceLT, Int.reduceLE, Int.reduceEq, ilt_t, ilt_f, ile_t, ile_f, ieq_t, ieq_f, z_0, z_1, z_2, z_3, z_4, z_5, z_6, z_7, z_8, z_9, z_10, z_12, z_20, z_40, z_80, z_81, z_99, z_100, z_200, z_400, z_3240, z_20000, z_100000, iz_add, iz_sub, iz_mul, iz_neg, iz_nat, iz_lt, iz_le, iz_eq, iz_div, iz_ite, iz_c, md10, md100, izcb_0, izcb_1, isOut_0, isNoCell_0, isGr_0, np_p, VV_r, VV_n, V_k, W_k, V_0, W_0, V_1, W_1, V_2, W_2, V_3, W_3, V_4, W_4, V_5, W_5, V_6, W_6, V_7, W_7, V_8, W_8, V_9, W_9, h.r0_0, h.r0_1, h.r0_2, h.r0_3, h.r0_4, h.r0_5, h.r1_0, h.r1_1, h.r1_2, h.r1_3, h.r12, rf_0 h, rf_1 h, rf_10 h, rf_11 h, rf_12 h, r6_i h, r6_o h, r7_i h, r7_o h, r8_i h, r8_o h, rl_13 h, ra_13 h, rl_2 h, ra_2 h, rl_3 h, ra_3 h, rl_4 h, ra_4 h, rl_5 h, ra_5 h, rl_6 h, ra_6 h, rl_7 h, ra_7 h, rl_8 h, ra_8 h, rl_9 h, ra_9 h, rl_50 h, ra_50 h, rl_51 h, ra_51 h, V_50, W_50, V_51, W_51, up_e, y_0, y_1, y_2, y_3, y_40, y_100, y_m1, y_m6, y_x1, y_x2, y_x3, z_m1, jz_neg, jz_add, jz_mul, jz_eq, jz_lt, jz_i, jz_l, jz_cmp, cmp_0, cmp_l, cmp_g, z_11, z_12, z_16, z_19, z_30, z_31, z_37, z_64, z_128, z_161, z_256, z_2048, z_16384, z_7, z_8, gd_T, ex, ey, ht]
    rw [key]
    by_cases c0 : t = 0
    · subst c0; exact r_machine h hL i0 i1 x0 y0
    · by_cases c1 : t < 5
      · exact r_file h hL h0' i0 i1 (by omega) x0 y0
      · by_cases c2 : t < 8
        · exact r_tick h hL h0' i0 i1 (by omega) y0
        · by_cases c3 : t = 8
          · subst c3; exact r_wind h hL h0' i0 i1 y0
          · by_cases c4 : t = 9
            · subst c4; exact r_room h hL h0' i0 i1 x0 y0
            · by_cases c5 : t = 10
              · subst c5; exact r_hold h hL h0' i0 i1 y0
              · exact r_lose h hL h0' i0 i1 (by omega) y0
theorem law_l (hLn : (L : Int) ≤ 260) : ∀ (N : Nat) (i nr nm np : Int) (hd : Int32) (a : AT) (r : Nat → Nat → Option Nat) (n : Nat → Nat), Sh r n nr nm np → Lw a nr nm np i → 0 ≤ i → i ≤ 40 → (2 ≤ i → 0 < nm) → 40 < i + N → ∃ s, l_La_law_195 L xs (some 0) (some 50) (some 51) N (iz nm) (iz nr) hd (iz 1) (iz i) (VV a r n) = some (iz 1, s) := by
  intro N
  induction N with
  | zero => intro i nr nm np hd a r n h hL i0 i1 h0 hN; exfalso; omega
  | succ N ih =>
    intro i nr nm np hd a r n h hL i0 i1 h0 hN
    by_cases c : i = 40
    · subst c
      refine ⟨VV a r n, ?_⟩
      dsimp only [l_La_law_195]
      unfold b_La_law_195
      simp (disch := omega) only [lt__e, bnd_e, bnd2_e, bnd3_e, el0_l, el0_r, el1_l, el1_r, el2_l, el2_r, ↓reduceIte, not_true_eq_false, not_false_eq_true, reduceCtorEq, and_true, true_and, and_false, false_and, or_true, true_or, or_false, false_or, and_self, or_self, ite_true, ite_false, Int.cast_ofNat_Int, Nat.reduceEqDiff, Nat.reduceLT, Int.reduceAdd, Int.reduceSub, Int.reduceMul, Int.reduceNeg, Int.reduceLT, Int.reduceLE, Int.reduceEq, ilt_t, ilt_f, ile_t, ile_f, ieq_t, ieq_f, z_0, z_1, z_2, z_3, z_4, z_5, z_6, z_7, z_8, z_9, z_10, z_12, z_20, z_40, z_80, z_81, z_99, z_100, z_200, z_400, z_3240, z_20000, z_100000, iz_add, iz_sub, iz_mul, iz_neg, iz_nat, iz_lt, iz_le, iz_eq, iz_div, iz_ite, iz_c, md10, md100, izcb_0, izcb_1, isOut_0, isNoCell_0, isGr_0, np_p]
    · obtain ⟨A, r', n', nr', nm', np', hd', h', hL', h0', e⟩ := law_r (L := L) (xs := xs) (hd := hd) (rec := l_La_law_195 L xs (some 0) (some 50) (some 51) N) hLn h hL i0 (by omega) h0
      obtain ⟨s, es⟩ := ih (i + 1) nr' nm' np' hd' A r' n' h' hL' (by omega) (by omega) (fun _ => h0') (by omega)
      exact ⟨s, by rw [← es]; exact e⟩
end J11
