/-! the start, the loop over the script, the law's answer -/
theorem sc_x {L : Nat} {xs : Nat → Int32} {j : Int} (h0 : 0 ≤ j) (h1 : j < L) (hL : (L : Int) ≤ 3072) : ∃ y : Int, sc L xs (iz j) = some (iz y) ∧ -2147483648 ≤ y ∧ y ≤ 2147483647 := by
  obtain ⟨y, e, b1, b2⟩ := iz_ex (xs (iz j).toNatClampNeg)
  refine ⟨y, ?_, b1, b2⟩
  unfold sc
  rw [if_pos, e]
  rw [z_0, iz_lt (by omega) (by omega) (by omega) (by omega), iz_n h0 (by omega)]
  omega
theorem mo22_01 {k : Nat} {x y t0 w : Int32} {t1 : Option Nat} {s s' : MS} (h : j_Mo_meets_22 k x y t0 t1 s = some (w, s')) : w = 0 ∨ w = 1 := by
  unfold j_Mo_meets_22 at h
  obtain ⟨k5, -, h⟩ := bnd_go h
  obtain ⟨x10, s9, -, h⟩ := bnd2_go h
  try dsimp only at h
  split at h
  · split at h
    · cases h; exact Or.inl rfl
    · obtain ⟨k13, -, h⟩ := bnd_go h
      obtain ⟨k15, -, h⟩ := bnd_go h
      obtain ⟨x18, -, h⟩ := bnd_go h
      obtain ⟨hp, h⟩ := gd_go h
      cases h; exact hp
  · cases h; exact Or.inl rfl
theorem mo_01 {k : Nat} {x y w : Int32} {s s' : MS} (h : f_Mo_meets k x y s = some (w, s')) : w = 0 ∨ w = 1 := by
  unfold f_Mo_meets j_Mo_meets_21 at h
  obtain ⟨x2, -, h⟩ := bnd_go h
  try dsimp only at h
  split at h
  · exact mo22_01 h
  · obtain ⟨x22, -, h⟩ := bnd_go h
    try dsimp only at h
    split at h
    · exact mo22_01 h
    · exact mo22_01 h
theorem moa_01 {k : Nat} {x y w : Int32} {s s' : MS} (h : f_Mo_meetsAnew k x y s = some (w, s')) : w = 0 ∨ w = 1 := by
  unfold f_Mo_meetsAnew at h
  obtain ⟨x4, s3, h1, h⟩ := bnd2_go h
  obtain ⟨hp, h⟩ := gd_go h
  cases h; exact hp
section LL
variable {a : AT} {r : Nat → Nat → Option Nat} {n : Nat → Nat} {L : Nat} {xs : Nat → Int32} {i : Int}
theorem js_tower (g : GG a r n) (hL : (L : Int) ≤ 3072) (i0 : 0 ≤ i) (i1 : i + 6 ≤ L) (rec : Int32 → MS → Option Int32) : ∃ A r' n', GG A r' n' ∧ j_La_law_156 L xs (some 0) (some 20) (some 50) (iz i) (VV a r n) rec = rec (iz (i + 6)) (VV A r' n') := by
  have g' := g
  obtain ⟨nr, nm, np, h, -⟩ := g'
  obtain ⟨y1, x1, b11, b12⟩ := sc_x (L := L) (xs := xs) (j := i + 1) (by omega) (by omega) hL
  obtain ⟨y2, x2, b21, b22⟩ := sc_x (L := L) (xs := xs) (j := i + 2) (by omega) (by omega) hL
  obtain ⟨k, z, A1, A2, f1, f2, f3, f4, f5, f6⟩ := call_tower g b11 b12 b21 b22
  refine ⟨A2, r, n, f6, ?_⟩
  unfold j_La_law_156
  by_cases c : k = 0
  · have f4 := f4 c
    simp (disch := omega) only [lt__e, bnd_e, bnd2_e, bnd3_e, el0_l, el0_r, el1_l, el1_r, el2_l, el2_r, ↓reduceIte, not_true_eq_false, not_false_eq_true, reduceCtorEq, and_true, true_and, and_false, false_and, or_true, true_or, or_false, false_or, and_self, or_self, ite_true, ite_false, Int.cast_ofNat_Int, Nat.reduceEqDiff, Nat.reduceLT, Int.reduceAdd, Int.reduceSub, Int.reduceMul, Int.reduceNeg, Int.reduceLT, Int.reduceLE, Int.reduceEq, ilt_t, ilt_f, ile_t, ile_f, ieq_t, ieq_f, z_0, z_1, z_2, z_3, z_4, z_5, z_6, z_7, z_8, z_9, z_10, z_12, z_20, z_40, z_80, z_81, z_99, z_100, z_200, z_400, z_3240, z_20000, z_100000, iz_add, iz_sub, iz_mul, iz_neg, iz_nat, iz_lt, iz_le, iz_eq, iz_div, iz_ite, iz_c, md10, md100, izcb_0, izcb_1, isOut_0, isNoCell_0, isGr_0, within_e, isCell_e, np_p, VV_r, VV_n, V_50, m_thrown, rf_0 h, rf_20 h, rl_50 h, ra_50 h, x1, x2, f1, f2, f3, f4, c]
  · simp (disch := omega) only [lt__e, bnd_e, bnd2_e, bnd3_e, el0_l, el0_r, el1_l, el1_r, el2_l, el2_r, ↓reduceIte, not_true_eq_false, not_false_eq_true, reduceCtorEq, and_true, true_and, and_false, false_and, or_true, true_or, or_false, false_or, and_self, or_self, ite_true, ite_false, Int.cast_ofNat_Int, Nat.reduceEqDiff, Nat.reduceLT, Int.reduceAdd, Int.reduceSub, Int.reduceMul, Int.reduceNeg, Int.reduceLT, Int.reduceLE, Int.reduceEq, ilt_t, ilt_f, ile_t, ile_f, ieq_t, ieq_f, z_0, z_1, z_2, z_3, z_4, z_5, z_6, z_7, z_8, z_9, z_10, z_12, z_20, z_40, z_80, z_81, z_99, z_100, z_200, z_400, z_3240, z_20000, z_100000, iz_add, iz_sub, iz_mul, iz_neg, iz_nat, iz_lt, iz_le, iz_eq, iz_div, iz_ite, iz_c, md10, md100, izcb_0, izcb_1, isOut_0, isNoCell_0, isGr_0, within_e, isCell_e, np_p, VV_r, VV_n, V_50, m_thrown, rf_0 h, rf_20 h, rl_50 h, ra_50 h, x1, x2, f1, f2, f3]
theorem js_spot (g : GG a r n) (hL : (L : Int) ≤ 3072) (i0 : 0 ≤ i) (i1 : i + 6 ≤ L) (rec : Int32 → MS → Option Int32) : ∃ A r' n', GG A r' n' ∧ j_La_law_224 L xs (some 0) (some 20) (some 50) (iz i) (VV a r n) rec = rec (iz (i + 6)) (VV A r' n') := by
  have g' := g
  obtain ⟨nr, nm, np, h, -⟩ := g'
  obtain ⟨y1, x1, b11, b12⟩ := sc_x (L := L) (xs := xs) (j := i + 1) (by omega) (by omega) hL
  obtain ⟨k, z, A1, A2, f1, f2, f3, f4, f5, f6⟩ := call_spot g b11 b12
  refine ⟨A2, r, n, f6, ?_⟩
  unfold j_La_law_224
  by_cases c : k = 0
  · have f4 := f4 c
    simp (disch := omega) only [lt__e, bnd_e, bnd2_e, bnd3_e, el0_l, el0_r, el1_l, el1_r, el2_l, el2_r, ↓reduceIte, not_true_eq_false, not_false_eq_true, reduceCtorEq, and_true, true_and, and_false, false_and, or_true, true_or, or_false, false_or, and_self, or_self, ite_true, ite_false, Int.cast_ofNat_Int, Nat.reduceEqDiff, Nat.reduceLT, Int.reduceAdd, Int.reduceSub, Int.reduceMul, Int.reduceNeg, Int.reduceLT, Int.reduceLE, Int.reduceEq, ilt_t, ilt_f, ile_t, ile_f, ieq_t, ieq_f, z_0, z_1, z_2, z_3, z_4, z_5, z_6, z_7, z_8, z_9, z_10, z_12, z_20, z_40, z_80, z_81, z_99, z_100, z_200, z_400, z_3240, z_20000, z_100000, iz_add, iz_sub, iz_mul, iz_neg, iz_nat, iz_lt, iz_le, iz_eq, iz_div, iz_ite, iz_c, md10, md100, izcb_0, izcb_1, isOut_0, isNoCell_0, isGr_0, within_e, isCell_e, np_p, VV_r, VV_n, V_50, m_thrown, rf_0 h, rf_20 h, rl_50 h, ra_50 h, x1, f1, f2, f3, f4, c]
  · simp (disch := omega) only [lt__e, bnd_e, bnd2_e, bnd3_e, el0_l, el0_r, el1_l, el1_r, el2_l, el2_r, ↓reduceIte, not_true_eq_false, not_false_eq_true, reduceCtorEq, and_true, true_and, and_false, false_and, or_true, true_or, or_false, false_or, and_self, or_self, ite_true, ite_false, Int.cast_ofNat_Int, Nat.reduceEqDiff, Nat.reduceLT, Int.reduceAdd, Int.reduceSub, Int.reduceMul, Int.reduceNeg, Int.reduceLT, Int.reduceLE, Int.reduceEq, ilt_t, ilt_f, ile_t, ile_f, ieq_t, ieq_f, z_0, z_1, z_2, z_3, z_4, z_5, z_6, z_7, z_8, z_9, z_10, z_12, z_20, z_40, z_80, z_81, z_99, z_100, z_200, z_400, z_3240, z_20000, z_100000, iz_add, iz_sub, iz_mul, iz_neg, iz_nat, iz_lt, iz_le, iz_eq, iz_div, iz_ite, iz_c, md10, md100, izcb_0, izcb_1, isOut_0, isNoCell_0, isGr_0, within_e, isCell_e, np_p, VV_r, VV_n, V_50, m_thrown, rf_0 h, rf_20 h, rl_50 h, ra_50 h, x1, f1, f2, f3]
theorem js_wind (g : GG a r n) (hL : (L : Int) ≤ 3072) (i0 : 0 ≤ i) (i1 : i + 6 ≤ L) (rec : Int32 → MS → Option Int32) : ∃ A r' n', GG A r' n' ∧ j_La_law_280 L xs (some 0) (some 20) (some 50) (iz i) (VV a r n) rec = rec (iz (i + 6)) (VV A r' n') := by
  have g' := g
  obtain ⟨nr, nm, np, h, -⟩ := g'
  obtain ⟨y1, x1, b11, b12⟩ := sc_x (L := L) (xs := xs) (j := i + 1) (by omega) (by omega) hL
  obtain ⟨y2, x2, b21, b22⟩ := sc_x (L := L) (xs := xs) (j := i + 2) (by omega) (by omega) hL
  obtain ⟨k, z, A1, A2, f1, f2, f3, f4, f5, f6⟩ := call_wind g b11 b12 b21 b22
  refine ⟨A2, r, n, f6, ?_⟩
  unfold j_La_law_280
  by_cases c : k = 0
  · have f4 := f4 c
    simp (disch := omega) only [lt__e, bnd_e, bnd2_e, bnd3_e, el0_l, el0_r, el1_l, el1_r, el2_l, el2_r, ↓reduceIte, not_true_eq_false, not_false_eq_true, reduceCtorEq, and_true, true_and, and_false, false_and, or_true, true_or, or_false, false_or, and_self, or_self, ite_true, ite_false, Int.cast_ofNat_Int, Nat.reduceEqDiff, Nat.reduceLT, Int.reduceAdd, Int.reduceSub, Int.reduceMul, Int.reduceNeg, Int.reduceLT, Int.reduceLE, Int.reduceEq, ilt_t, ilt_f, ile_t, ile_f, ieq_t, ieq_f, z_0, z_1, z_2, z_3, z_4, z_5, z_6, z_7, z_8, z_9, z_10, z_12, z_20, z_40, z_80, z_81, z_99, z_100, z_200, z_400, z_3240, z_20000, z_100000, iz_add, iz_sub, iz_mul, iz_neg, iz_nat, iz_lt, iz_le, iz_eq, iz_div, iz_ite, iz_c, md10, md100, izcb_0, izcb_1, isOut_0, isNoCell_0, isGr_0, within_e, isCell_e, np_p, VV_r, VV_n, V_50, m_thrown, rf_0 h, rf_20 h, rl_50 h, ra_50 h, x1, x2, f1, f2, f3, f4, c]
  · simp (disch := omega) only [lt__e, bnd_e, bnd2_e, bnd3_e, el0_l, el0_r, el1_l, el1_r, el2_l, el2_r, ↓reduceIte, not_true_eq_false, not_false_eq_true, reduceCtorEq, and_true, true_and, and_false, false_and, or_true, true_or, or_false, false_or, and_self, or_self, ite_true, ite_false, Int.cast_ofNat_Int, Nat.reduceEqDiff, Nat.reduceLT, Int.reduceAdd, Int.reduceSub, Int.reduceMul, Int.reduceNeg, Int.reduceLT, Int.reduceLE, Int.reduceEq, ilt_t, ilt_f, ile_t, ile_f, ieq_t, ieq_f, z_0, z_1, z_2, z_3, z_4, z_5, z_6, z_7, z_8, z_9, z_10, z_12, z_20, z_40, z_80, z_81, z_99, z_100, z_200, z_400, z_3240, z_20000, z_100000, iz_add, iz_sub, iz_mul, iz_neg, iz_nat, iz_lt, iz_le, iz_eq, iz_div, iz_ite, iz_c, md10, md100, izcb_0, izcb_1, isOut_0, isNoCell_0, isGr_0, within_e, isCell_e, np_p, VV_r, VV_n, V_50, m_thrown, rf_0 h, rf_20 h, rl_50 h, ra_50 h, x1, x2, f1, f2, f3]
theorem js_gust (g : GG a r n) (hL : (L : Int) ≤ 3072) (i0 : 0 ≤ i) (i1 : i + 6 ≤ L) (rec : Int32 → MS → Option Int32) : ∃ A r' n', GG A r' n' ∧ j_La_law_348 L xs (some 0) (some 20) (some 50) (iz i) (VV a r n) rec = rec (iz (i + 6)) (VV A r' n') := by
  have g' := g
  obtain ⟨nr, nm, np, h, -⟩ := g'
  obtain ⟨y1, x1, b11, b12⟩ := sc_x (L := L) (xs := xs) (j := i + 1) (by omega) (by omega) hL
  obtain ⟨y2, x2, b21, b22⟩ := sc_x (L := L) (xs := xs) (j := i + 2) (by omega) (by omega) hL
  obtain ⟨k, z, A1, A2, f1, f2, f3, f4, f5, f6⟩ := call_gust g b11 b12 b21 b22
  refine ⟨A2, r, n, f6, ?_⟩
  unfold j_La_law_348
  by_cases c : k = 0
  · have f4 := f4 c
    simp (disch := omega) only [lt__e, bnd_e, bnd2_e, bnd3_e, el0_l, el0_r, el1_l, el1_r, el2_l, el2_r, ↓reduceIte, not_true_eq_false, not_false_eq_true, reduceCtorEq, and_true, true_and, and_false, false_and, or_true, true_or, or_false, false_or, and_self, or_self, ite_true, ite_false, Int.cast_ofNat_Int, Nat.reduceEqDiff, Nat.reduceLT, Int.reduceAdd, Int.reduceSub, Int.reduceMul, Int.reduceNeg, Int.reduceLT, Int.reduceLE, Int.reduceEq, ilt_t, ilt_f, ile_t, ile_f, ieq_t, ieq_f, z_0, z_1, z_2, z_3, z_4, z_5, z_6, z_7, z_8, z_9, z_10, z_12, z_20, z_40, z_80, z_81, z_99, z_100, z_200, z_400, z_3240, z_20000, z_100000, iz_add, iz_sub, iz_mul, iz_neg, iz_nat, iz_lt, iz_le, iz_eq, iz_div, iz_ite, iz_c, md10, md100, izcb_0, izcb_1, isOut_0, isNoCell_0, isGr_0, within_e, isCell_e, np_p, VV_r, VV_n, V_50, m_thrown, rf_0 h, rf_20 h, rl_50 h, ra_50 h, x1, x2, f1, f2, f3, f4, c]
  · simp (disch := omega) only [lt__e, bnd_e, bnd2_e, bnd3_e, el0_l, el0_r, el1_l, el1_r, el2_l, el2_r, ↓reduceIte, not_true_eq_false, not_false_eq_true, reduceCtorEq, and_true, true_and, and_false, false_and, or_true, true_or, or_false, false_or, and_self, or_self, ite_true, ite_false, Int.cast_ofNat_Int, Nat.reduceEqDiff, Nat.reduceLT, Int.reduceAdd, Int.reduceSub, Int.reduceMul, Int.reduceNeg, Int.reduceLT, Int.reduceLE, Int.reduceEq, ilt_t, ilt_f, ile_t, ile_f, ieq_t, ieq_f, z_0, z_1, z_2, z_3, z_4, z_5, z_6, z_7, z_8, z_9, z_10, z_12, z_20, z_40, z_80, z_81, z_99, z_100, z_200, z_400, z_3240, z_20000, z_100000, iz_add, iz_sub, iz_mul, iz_neg, iz_nat, iz_lt, iz_le, iz_eq, iz_div, iz_ite, iz_c, md10, md100, izcb_0, izcb_1, isOut_0, isNoCell_0, isGr_0, within_e, isCell_e, np_p, VV_r, VV_n, V_50, m_thrown, rf_0 h, rf_20 h, rl_50 h, ra_50 h, x1, x2, f1, f2, f3]
theorem js_close (g : GG a r n) (hL : (L : Int) ≤ 3072) (i0 : 0 ≤ i) (i1 : i + 6 ≤ L) (rec : Int32 → MS → Option Int32) : ∃ A r' n', GG A r' n' ∧ j_La_law_416 L xs (some 0) (some 20) (some 50) (iz i) (VV a r n) rec = rec (iz (i + 6)) (VV A r' n') := by
  have g' := g
  obtain ⟨nr, nm, np, h, -⟩ := g'
  obtain ⟨y1, x1, b11, b12⟩ := sc_x (L := L) (xs := xs) (j := i + 1) (by omega) (by omega) hL
  obtain ⟨y2, x2, b21, b22⟩ := sc_x (L := L) (xs := xs) (j := i + 2) (by omega) (by omega) hL
  obtain ⟨y3, x3, b31, b32⟩ := sc_x (L := L) (xs := xs) (j := i + 3) (by omega) (by omega) hL
  obtain ⟨y4, x4, b41, b42⟩ := sc_x (L := L) (xs := xs) (j := i + 4) (by omega) (by omega) hL
  obtain ⟨y5, x5, b51, b52⟩ := sc_x (L := L) (xs := xs) (j := i + 5) (by omega) (by omega) hL
  obtain ⟨k, z, A1, A2, r', n', f1, f2, f3, f4, f5, f6⟩ := call_close g b11 b12 b21 b22 b31 b32 b41 b42 b51 b52
  have f7 := f6
  obtain ⟨nr', nm', np', h', -⟩ := f7
  refine ⟨A2, r', n', f6, ?_⟩
  unfold j_La_law_416
  by_cases c : k = 0
  · have f4 := f4 c
    simp (disch := omega) only [lt__e, bnd_e, bnd2_e, bnd3_e, el0_l, el0_r, el1_l, el1_r, el2_l, el2_r, ↓reduceIte, not_true_eq_false, not_false_eq_true, reduceCtorEq, and_true, true_and, and_false, false_and, or_true, true_or, or_false, false_or, and_self, or_self, ite_true, ite_false, Int.cast_ofNat_Int, Nat.reduceEqDiff, Nat.reduceLT, Int.reduceAdd, Int.reduceSub, Int.reduceMul, Int.reduceNeg, Int.reduceLT, Int.reduceLE, Int.reduceEq, ilt_t, ilt_f, ile_t, ile_f, ieq_t, ieq_f, z_0, z_1, z_2, z_3, z_4, z_5, z_6, z_7, z_8, z_9, z_10, z_12, z_20, z_40, z_80, z_81, z_99, z_100, z_200, z_400, z_3240, z_20000, z_100000, iz_add, iz_sub, iz_mul, iz_neg, iz_nat, iz_lt, iz_le, iz_eq, iz_div, iz_ite, iz_c, md10, md100, izcb_0, izcb_1, isOut_0, isNoCell_0, isGr_0, within_e, isCell_e, np_p, VV_r, VV_n, V_50, m_thrown, rf_0 h, rf_20 h, rl_50 h, ra_50 h, ra_50 h', x1, x2, x3, x4, x5, f1, f2, f3, f4, c]
  · simp (disch := omega) only [lt__e, bnd_e, bnd2_e, bnd3_e, el0_l, el0_r, el1_l, el1_r, el2_l, el2_r, ↓reduceIte, not_true_eq_false, not_false_eq_true, reduceCtorEq, and_true, true_and, and_false, false_and, or_true, true_or, or_false, false_or, and_self, or_self, ite_true, ite_false, Int.cast_ofNat_Int, Nat.reduceEqDiff, Nat.reduceLT, Int.reduceAdd, Int.reduceSub, Int.reduceMul, Int.reduceNeg, Int.reduceLT, Int.reduceLE, Int.reduceEq, ilt_t, ilt_f, ile_t, ile_f, ieq_t, ieq_f, z_0, z_1, z_2, z_3, z_4, z_5, z_6, z_7, z_8, z_9, z_10, z_12, z_20, z_40, z_80, z_81, z_99, z_100, z_200, z_400, z_3240, z_20000, z_100000, iz_add, iz_sub, iz_mul, iz_neg, iz_nat, iz_lt, iz_le, iz_eq, iz_div, iz_ite, iz_c, md10, md100, izcb_0, izcb_1, isOut_0, isNoCell_0, isGr_0, within_e, isCell_e, np_p, VV_r, VV_n, V_50, m_thrown, rf_0 h, rf_20 h, rl_50 h, ra_50 h, ra_50 h', x1, x2, x3, x4, x5, f1, f2, f3]
theorem js_open (g : GG a r n) (hL : (L : Int) ≤ 3072) (i0 : 0 ≤ i) (i1 : i + 6 ≤ L) (rec : Int32 → MS → Option Int32) : ∃ A r' n', GG A r' n' ∧ j_La_law_520 L xs (some 0) (some 20) (some 50) (iz i) (VV a r n) rec = rec (iz (i + 6)) (VV A r' n') := by
  have g' := g
  obtain ⟨nr, nm, np, h, -⟩ := g'
  obtain ⟨y1, x1, b11, b12⟩ := sc_x (L := L) (xs := xs) (j := i + 1) (by omega) (by omega) hL
  obtain ⟨k, A1, A2, f1, f2, f3, f5, f6⟩ := call_open g b11 b12
  refine ⟨A2, r, n, f6, ?_⟩
  unfold j_La_law_520
  simp (disch := omega) only [lt__e, bnd_e, bnd2_e, bnd3_e, el0_l, el0_r, el1_l, el1_r, el2_l, el2_r, ↓reduceIte, not_true_eq_false, not_false_eq_true, reduceCtorEq, and_true, true_and, and_false, false_and, or_true, true_or, or_false, false_or, and_self, or_self, ite_true, ite_false, Int.cast_ofNat_Int, Nat.reduceEqDiff, Nat.reduceLT, Int.reduceAdd, Int.reduceSub, Int.reduceMul, Int.reduceNeg, Int.reduceLT, Int.reduceLE, Int.reduceEq, ilt_t, ilt_f, ile_t, ile_f, ieq_t, ieq_f, z_0, z_1, z_2, z_3, z_4, z_5, z_6, z_7, z_8, z_9, z_10, z_12, z_20, z_40, z_80, z_81, z_99, z_100, z_200, z_400, z_3240, z_20000, z_100000, iz_add, iz_sub, iz_mul, iz_neg, iz_nat, iz_lt, iz_le, iz_eq, iz_div, iz_ite, iz_c, md10, md100, izcb_0, izcb_1, isOut_0, isNoCell_0, isGr_0, within_e, isCell_e, np_p, VV_r, VV_n, V_50, m_thrown, rf_0 h, rf_20 h, rl_50 h, ra_50 h, x1, f1, f2, f3]
theorem js_machine (g : GG a r n) (hL : (L : Int) ≤ 3072) (i0 : 0 ≤ i) (i1 : i + 6 ≤ L) (rec : Int32 → MS → Option Int32) : ∃ A r' n', GG A r' n' ∧ j_La_law_556 L xs (some 0) (some 20) (some 50) (iz i) (VV a r n) rec = rec (iz (i + 6)) (VV A r' n') := by
  have g' := g
  obtain ⟨nr, nm, np, h, -⟩ := g'
  obtain ⟨y1, x1, b11, b12⟩ := sc_x (L := L) (xs := xs) (j := i + 1) (by omega) (by omega) hL
  obtain ⟨y2, x2, b21, b22⟩ := sc_x (L := L) (xs := xs) (j := i + 2) (by omega) (by omega) hL
  obtain ⟨y3, x3, b31, b32⟩ := sc_x (L := L) (xs := xs) (j := i + 3) (by omega) (by omega) hL
  obtain ⟨k, z, A1, A2, r', n', f1, f2, f3, f4, f5, f6⟩ := call_machine g b11 b12 b21 b22 b31 b32
  have f7 := f6
  obtain ⟨nr', nm', np', h', -⟩ := f7
  refine ⟨A2, r', n', f6, ?_⟩
  unfold j_La_law_556
  by_cases c : k = 0
  · have f4 := f4 c
    simp (disch := omega) only [lt__e, bnd_e, bnd2_e, bnd3_e, el0_l, el0_r, el1_l, el1_r, el2_l, el2_r, ↓reduceIte, not_true_eq_false, not_false_eq_true, reduceCtorEq, and_true, true_and, and_false, false_and, or_true, true_or, or_false, false_or, and_self, or_self, ite_true, ite_false, Int.cast_ofNat_Int, Nat.reduceEqDiff, Nat.reduceLT, Int.reduceAdd, Int.reduceSub, Int.reduceMul, Int.reduceNeg, Int.reduceLT, Int.reduceLE, Int.reduceEq, ilt_t, ilt_f, ile_t, ile_f, ieq_t, ieq_f, z_0, z_1, z_2, z_3, z_4, z_5, z_6, z_7, z_8, z_9, z_10, z_12, z_20, z_40, z_80, z_81, z_99, z_100, z_200, z_400, z_3240, z_20000, z_100000, iz_add, iz_sub, iz_mul, iz_neg, iz_nat, iz_lt, iz_le, iz_eq, iz_div, iz_ite, iz_c, md10, md100, izcb_0, izcb_1, isOut_0, isNoCell_0, isGr_0, within_e, isCell_e, np_p, VV_r, VV_n, V_50, m_thrown, rf_0 h, rf_20 h, rl_50 h, ra_50 h, ra_50 h', x1, x2, x3, f1, f2, f3, f4, c]
  · simp (disch := omega) only [lt__e, bnd_e, bnd2_e, bnd3_e, el0_l, el0_r, el1_l, el1_r, el2_l, el2_r, ↓reduceIte, not_true_eq_false, not_false_eq_true, reduceCtorEq, and_true, true_and, and_false, false_and, or_true, true_or, or_false, false_or, and_self, or_self, ite_true, ite_false, Int.cast_ofNat_Int, Nat.reduceEqDiff, Nat.reduceLT, Int.reduceAdd, Int.reduceSub, Int.reduceMul, Int.reduceNeg, Int.reduceLT, Int.reduceLE, Int.reduceEq, ilt_t, ilt_f, ile_t, ile_f, ieq_t, ieq_f, z_0, z_1, z_2, z_3, z_4, z_5, z_6, z_7, z_8, z_9, z_10, z_12, z_20, z_40, z_80, z_81, z_99, z_100, z_200, z_400, z_3240, z_20000, z_100000, iz_add, iz_sub, iz_mul, iz_neg, iz_nat, iz_lt, iz_le, iz_eq, iz_div, iz_ite, iz_c, md10, md100, izcb_0, izcb_1, isOut_0, isNoCell_0, isGr_0, within_e, isCell_e, np_p, VV_r, VV_n, V_50, m_thrown, rf_0 h, rf_20 h, rl_50 h, ra_50 h, ra_50 h', x1, x2, x3, f1, f2, f3]
theorem js_move (g : GG a r n) (hL : (L : Int) ≤ 3072) (i0 : 0 ≤ i) (i1 : i + 6 ≤ L) (rec : Int32 → MS → Option Int32) : ∃ A r' n', GG A r' n' ∧ j_La_law_636 L xs (some 0) (some 20) (some 50) (iz i) (VV a r n) rec = rec (iz (i + 6)) (VV A r' n') := by
  have g' := g
  obtain ⟨nr, nm, np, h, -⟩ := g'
  obtain ⟨y1, x1, b11, b12⟩ := sc_x (L := L) (xs := xs) (j := i + 1) (by omega) (by omega) hL
  obtain ⟨y2, x2, b21, b22⟩ := sc_x (L := L) (xs := xs) (j := i + 2) (by omega) (by omega) hL
  obtain ⟨k, z, A1, A2, f1, f2, f3, f4, f5, f6⟩ := call_move g b11 b12 b21 b22
  refine ⟨A2, r, n, f6, ?_⟩
  unfold j_La_law_636
  by_cases c : k = 0
  · have f4 := f4 c
    simp (disch := omega) only [lt__e, bnd_e, bnd2_e, bnd3_e, el0_l, el0_r, el1_l, el1_r, el2_l, el2_r, ↓reduceIte, not_true_eq_false, not_false_eq_true, reduceCtorEq, and_true, true_and, and_false, false_and, or_true, true_or, or_false, false_or, and_self, or_self, ite_true, ite_false, Int.cast_ofNat_Int, Nat.reduceEqDiff, Nat.reduceLT, Int.reduceAdd, Int.reduceSub, Int.reduceMul, Int.reduceNeg, Int.reduceLT, Int.reduceLE, Int.reduceEq, ilt_t, ilt_f, ile_t, ile_f, ieq_t, ieq_f, z_0, z_1, z_2, z_3, z_4, z_5, z_6, z_7, z_8, z_9, z_10, z_12, z_20, z_40, z_80, z_81, z_99, z_100, z_200, z_400, z_3240, z_20000, z_100000, iz_add, iz_sub, iz_mul, iz_neg, iz_nat, iz_lt, iz_le, iz_eq, iz_div, iz_ite, iz_c, md10, md100, izcb_0, izcb_1, isOut_0, isNoCell_0, isGr_0, within_e, isCell_e, np_p, VV_r, VV_n, V_50, m_thrown, rf_0 h, rf_20 h, rl_50 h, ra_50 h, x1, x2, f1, f2, f3, f4, c]
  · simp (disch := omega) only [lt__e, bnd_e, bnd2_e, bnd3_e, el0_l, el0_r, el1_l, el1_r, el2_l, el2_r, ↓reduceIte, not_true_eq_false, not_false_eq_true, reduceCtorEq, and_true, true_and, and_false, false_and, or_true, true_or, or_false, false_or, and_self, or_self, ite_true, ite_false, Int.cast_ofNat_Int, Nat.reduceEqDiff, Nat.reduceLT, Int.reduceAdd, Int.reduceSub, Int.reduceMul, Int.reduceNeg, Int.reduceLT, Int.reduceLE, Int.reduceEq, ilt_t, ilt_f, ile_t, ile_f, ieq_t, ieq_f, z_0, z_1, z_2, z_3, z_4, z_5, z_6, z_7, z_8, z_9, z_10, z_12, z_20, z_40, z_80, z_81, z_99, z_100, z_200, z_400, z_3240, z_20000, z_100000, iz_add, iz_sub, iz_mul, iz_neg, iz_nat, iz_lt, iz_le, iz_eq, iz_div, iz_ite, iz_c, md10, md100, izcb_0, izcb_1, isOut_0, isNoCell_0, isGr_0, within_e, isCell_e, np_p, VV_r, VV_n, V_50, m_thrown, rf_0 h, rf_20 h, rl_50 h, ra_50 h, x1, x2, f1, f2, f3]
theorem js_clear (g : GG a r n) (hL : (L : Int) ≤ 3072) (i0 : 0 ≤ i) (i1 : i + 6 ≤ L) (rec : Int32 → MS → Option Int32) : ∃ A r' n', GG A r' n' ∧ j_La_law_704 L xs (some 0) (some 20) (some 50) (iz i) (VV a r n) rec = rec (iz (i + 6)) (VV A r' n') := by
  have g' := g
  obtain ⟨nr, nm, np, h, -⟩ := g'
  obtain ⟨z, A1, A2, f1, f2, f6⟩ := call_clear g
  refine ⟨A2, r, n, f6, ?_⟩
  unfold j_La_law_704
  simp (disch := omega) only [lt__e, bnd_e, bnd2_e, bnd3_e, el0_l, el0_r, el1_l, el1_r, el2_l, el2_r, ↓reduceIte, not_true_eq_false, not_false_eq_true, reduceCtorEq, and_true, true_and, and_false, false_and, or_true, true_or, or_false, false_or, and_self, or_self, ite_true, ite_false, Int.cast_ofNat_Int, Nat.reduceEqDiff, Nat.reduceLT, Int.reduceAdd, Int.reduceSub, Int.reduceMul, Int.reduceNeg, Int.reduceLT, Int.reduceLE, Int.reduceEq, ilt_t, ilt_f, ile_t, ile_f, ieq_t, ieq_f, z_0, z_1, z_2, z_3, z_4, z_5, z_6, z_7, z_8, z_9, z_10, z_12, z_20, z_40, z_80, z_81, z_99, z_100, z_200, z_400, z_3240, z_20000, z_100000, iz_add, iz_sub, iz_mul, iz_neg, iz_nat, iz_lt, iz_le, iz_eq, iz_div, iz_ite, iz_c, md10, md100, izcb_0, izcb_1, isOut_0, isNoCell_0, isGr_0, within_e, isCell_e, np_p, VV_r, VV_n, V_50, m_thrown, rf_0 h, rf_20 h, rl_50 h, ra_50 h, f1, f2]
theorem js_takes (g : GG a r n) (hL : (L : Int) ≤ 3072) (i0 : 0 ≤ i) (i1 : i + 6 ≤ L) (rec : Int32 → MS → Option Int32) : ∃ A r' n', GG A r' n' ∧ j_La_law_717 L xs (some 0) (some 20) (some 50) (iz i) (VV a r n) rec = rec (iz (i + 6)) (VV A r' n') := by
  have g' := g
  obtain ⟨nr, nm, np, h, -⟩ := g'
  obtain ⟨y1, x1, b11, b12⟩ := sc_x (L := L) (xs := xs) (j := i + 1) (by omega) (by omega) hL
  obtain ⟨k, z, A1, A2, f1, f2, f3, f4, f5, f6⟩ := call_takes g b11 b12
  refine ⟨A2, r, n, f6, ?_⟩
  unfold j_La_law_717
  by_cases c : k = 0
  · have f4 := f4 c
    simp (disch := omega) only [lt__e, bnd_e, bnd2_e, bnd3_e, el0_l, el0_r, el1_l, el1_r, el2_l, el2_r, ↓reduceIte, not_true_eq_false, not_false_eq_true, reduceCtorEq, and_true, true_and, and_false, false_and, or_true, true_or, or_false, false_or, and_self, or_self, ite_true, ite_false, Int.cast_ofNat_Int, Nat.reduceEqDiff, Nat.reduceLT, Int.reduceAdd, Int.reduceSub, Int.reduceMul, Int.reduceNeg, Int.reduceLT, Int.reduceLE, Int.reduceEq, ilt_t, ilt_f, ile_t, ile_f, ieq_t, ieq_f, z_0, z_1, z_2, z_3, z_4, z_5, z_6, z_7, z_8, z_9, z_10, z_12, z_20, z_40, z_80, z_81, z_99, z_100, z_200, z_400, z_3240, z_20000, z_100000, iz_add, iz_sub, iz_mul, iz_neg, iz_nat, iz_lt, iz_le, iz_eq, iz_div, iz_ite, iz_c, md10, md100, izcb_0, izcb_1, isOut_0, isNoCell_0, isGr_0, within_e, isCell_e, np_p, VV_r, VV_n, V_50, m_thrown, rf_0 h, rf_20 h, rl_50 h, ra_50 h, x1, f1, f2, f3, f4, c]
  · simp (disch := omega) only [lt__e, bnd_e, bnd2_e, bnd3_e, el0_l, el0_r, el1_l, el1_r, el2_l, el2_r, ↓reduceIte, not_true_eq_false, not_false_eq_true, reduceCtorEq, and_true, true_and, and_false, false_and, or_true, true_or, or_false, false_or, and_self, or_self, ite_true, ite_false, Int.cast_ofNat_Int, Nat.reduceEqDiff, Nat.reduceLT, Int.reduceAdd, Int.reduceSub, Int.reduceMul, Int.reduceNeg, Int.reduceLT, Int.reduceLE, Int.reduceEq, ilt_t, ilt_f, ile_t, ile_f, ieq_t, ieq_f, z_0, z_1, z_2, z_3, z_4, z_5, z_6, z_7, z_8, z_9, z_10, z_12, z_20, z_40, z_80, z_81, z_99, z_100, z_200, z_400, z_3240, z_20000, z_100000, iz_add, iz_sub, iz_mul, iz_neg, iz_nat, iz_lt, iz_le, iz_eq, iz_div, iz_ite, iz_c, md10, md100, izcb_0, izcb_1, isOut_0, isNoCell_0, isGr_0, within_e, isCell_e, np_p, VV_r, VV_n, V_50, m_thrown, rf_0 h, rf_20 h, rl_50 h, ra_50 h, x1, f1, f2, f3]
theorem js_file (g : GG a r n) (hL : (L : Int) ≤ 3072) (i0 : 0 ≤ i) (i1 : i + 6 ≤ L) (rec : Int32 → MS → Option Int32) : ∃ A r' n', GG A r' n' ∧ j_La_law_773 L xs (some 0) (some 20) (some 50) (iz i) (VV a r n) rec = rec (iz (i + 6)) (VV A r' n') := by
  have g' := g
  obtain ⟨nr, nm, np, h, -⟩ := g'
  obtain ⟨y1, x1, b11, b12⟩ := sc_x (L := L) (xs := xs) (j := i + 1) (by omega) (by omega) hL
  obtain ⟨y2, x2, b21, b22⟩ := sc_x (L := L) (xs := xs) (j := i + 2) (by omega) (by omega) hL
  obtain ⟨y3, x3, b31, b32⟩ := sc_x (L := L) (xs := xs) (j := i + 3) (by omega) (by omega) hL
  obtain ⟨k, z, A1, A2, r', n', f1, f2, f3, f4, f5, f6⟩ := call_file g b11 b12 b21 b22 b31 b32
  have f7 := f6
  obtain ⟨nr', nm', np', h', -⟩ := f7
  refine ⟨A2, r', n', f6, ?_⟩
  unfold j_La_law_773
  by_cases c : k = 0
  · have f4 := f4 c
    simp (disch := omega) only [lt__e, bnd_e, bnd2_e, bnd3_e, el0_l, el0_r, el1_l, el1_r, el2_l, el2_r, ↓reduceIte, not_true_eq_false, not_false_eq_true, reduceCtorEq, and_true, true_and, and_false, false_and, or_true, true_or, or_false, false_or, and_self, or_self, ite_true, ite_false, Int.cast_ofNat_Int, Nat.reduceEqDiff, Nat.reduceLT, Int.reduceAdd, Int.reduceSub, Int.reduceMul, Int.reduceNeg, Int.reduceLT, Int.reduceLE, Int.reduceEq, ilt_t, ilt_f, ile_t, ile_f, ieq_t, ieq_f, z_0, z_1, z_2, z_3, z_4, z_5, z_6, z_7, z_8, z_9, z_10, z_12, z_20, z_40, z_80, z_81, z_99, z_100, z_200, z_400, z_3240, z_20000, z_100000, iz_add, iz_sub, iz_mul, iz_neg, iz_nat, iz_lt, iz_le, iz_eq, iz_div, iz_ite, iz_c, md10, md100, izcb_0, izcb_1, isOut_0, isNoCell_0, isGr_0, within_e, isCell_e, np_p, VV_r, VV_n, V_50, m_thrown, rf_0 h, rf_20 h, rl_50 h, ra_50 h, ra_50 h', x1, x2, x3, f1, f2, f3, f4, c]
  · simp (disch := omega) only [lt__e, bnd_e, bnd2_e, bnd3_e, el0_l, el0_r, el1_l, el1_r, el2_l, el2_r, ↓reduceIte, not_true_eq_false, not_false_eq_true, reduceCtorEq, and_true, true_and, and_false, false_and, or_true, true_or, or_false, false_or, and_self, or_self, ite_true, ite_false, Int.cast_ofNat_Int, Nat.reduceEqDiff, Nat.reduceLT, Int.reduceAdd, Int.reduceSub, Int.reduceMul, Int.reduceNeg, Int.reduceLT, Int.reduceLE, Int.reduceEq, ilt_t, ilt_f, ile_t, ile_f, ieq_t, ieq_f, z_0, z_1, z_2, z_3, z_4, z_5, z_6, z_7, z_8, z_9, z_10, z_12, z_20, z_40, z_80, z_81, z_99, z_100, z_200, z_400, z_3240, z_20000, z_100000, iz_add, iz_sub, iz_mul, iz_neg, iz_nat, iz_lt, iz_le, iz_eq, iz_div, iz_ite, iz_c, md10, md100, izcb_0, izcb_1, isOut_0, isNoCell_0, isGr_0, within_e, isCell_e, np_p, VV_r, VV_n, V_50, m_thrown, rf_0 h, rf_20 h, rl_50 h, ra_50 h, ra_50 h', x1, x2, x3, f1, f2, f3]
theorem js_why (g : GG a r n) (hL : (L : Int) ≤ 3072) (i0 : 0 ≤ i) (i1 : i + 6 ≤ L) (rec : Int32 → MS → Option Int32) : ∃ A r' n', GG A r' n' ∧ j_La_law_853 L xs (some 0) (some 20) (some 50) (iz i) (VV a r n) rec = rec (iz (i + 6)) (VV A r' n') := by
  have g' := g
  obtain ⟨nr, nm, np, h, -⟩ := g'
  obtain ⟨z, A2, f1, f2, f6⟩ := call_why g
  refine ⟨A2, r, n, f6, ?_⟩
  unfold j_La_law_853
  simp (disch := omega) only [lt__e, bnd_e, bnd2_e, bnd3_e, el0_l, el0_r, el1_l, el1_r, el2_l, el2_r, ↓reduceIte, not_true_eq_false, not_false_eq_true, reduceCtorEq, and_true, true_and, and_false, false_and, or_true, true_or, or_false, false_or, and_self, or_self, ite_true, ite_false, Int.cast_ofNat_Int, Nat.reduceEqDiff, Nat.reduceLT, Int.reduceAdd, Int.reduceSub, Int.reduceMul, Int.reduceNeg, Int.reduceLT, Int.reduceLE, Int.reduceEq, ilt_t, ilt_f, ile_t, ile_f, ieq_t, ieq_f, z_0, z_1, z_2, z_3, z_4, z_5, z_6, z_7, z_8, z_9, z_10, z_12, z_20, z_40, z_80, z_81, z_99, z_100, z_200, z_400, z_3240, z_20000, z_100000, iz_add, iz_sub, iz_mul, iz_neg, iz_nat, iz_lt, iz_le, iz_eq, iz_div, iz_ite, iz_c, md10, md100, izcb_0, izcb_1, isOut_0, isNoCell_0, isGr_0, within_e, isCell_e, np_p, VV_r, VV_n, V_50, m_thrown, rf_0 h, rf_20 h, rl_50 h, ra_50 h, f1, f2]
theorem js_withdraw (g : GG a r n) (hL : (L : Int) ≤ 3072) (i0 : 0 ≤ i) (i1 : i + 6 ≤ L) (rec : Int32 → MS → Option Int32) : ∃ A r' n', GG A r' n' ∧ j_La_law_866 L xs (some 0) (some 20) (some 50) (iz i) (VV a r n) rec = rec (iz (i + 6)) (VV A r' n') := by
  have g' := g
  obtain ⟨nr, nm, np, h, -⟩ := g'
  obtain ⟨y1, x1, b11, b12⟩ := sc_x (L := L) (xs := xs) (j := i + 1) (by omega) (by omega) hL
  obtain ⟨k, A1, A2, f1, f2, f3, f5, f6⟩ := call_withdraw g b11 b12
  refine ⟨A2, r, n, f6, ?_⟩
  unfold j_La_law_866
  simp (disch := omega) only [lt__e, bnd_e, bnd2_e, bnd3_e, el0_l, el0_r, el1_l, el1_r, el2_l, el2_r, ↓reduceIte, not_true_eq_false, not_false_eq_true, reduceCtorEq, and_true, true_and, and_false, false_and, or_true, true_or, or_false, false_or, and_self, or_self, ite_true, ite_false, Int.cast_ofNat_Int, Nat.reduceEqDiff, Nat.reduceLT, Int.reduceAdd, Int.reduceSub, Int.reduceMul, Int.reduceNeg, Int.reduceLT, Int.reduceLE, Int.reduceEq, ilt_t, ilt_f, ile_t, ile_f, ieq_t, ieq_f, z_0, z_1, z_2, z_3, z_4, z_5, z_6, z_7, z_8, z_9, z_10, z_12, z_20, z_40, z_80, z_81, z_99, z_100, z_200, z_400, z_3240, z_20000, z_100000, iz_add, iz_sub, iz_mul, iz_neg, iz_nat, iz_lt, iz_le, iz_eq, iz_div, iz_ite, iz_c, md10, md100, izcb_0, izcb_1, isOut_0, isNoCell_0, isGr_0, within_e, isCell_e, np_p, VV_r, VV_n, V_50, m_thrown, rf_0 h, rf_20 h, rl_50 h, ra_50 h, x1, f1, f2, f3]
theorem js_tick (g : GG a r n) (hL : (L : Int) ≤ 3072) (i0 : 0 ≤ i) (i1 : i + 6 ≤ L) (rec : Int32 → MS → Option Int32) : ∃ A r' n', GG A r' n' ∧ j_La_law_902 L xs (some 0) (some 20) (some 50) (iz i) (VV a r n) rec = rec (iz (i + 6)) (VV A r' n') := by
  have g' := g
  obtain ⟨nr, nm, np, h, -⟩ := g'
  obtain ⟨y1, x1, b11, b12⟩ := sc_x (L := L) (xs := xs) (j := i + 1) (by omega) (by omega) hL
  obtain ⟨k, z, A1, A2, f1, f2, f3, f4, f5, f6⟩ := call_tick g b11 b12
  refine ⟨A2, r, n, f6, ?_⟩
  unfold j_La_law_902
  by_cases c : k = 0
  · have f4 := f4 c
    simp (disch := omega) only [lt__e, bnd_e, bnd2_e, bnd3_e, el0_l, el0_r, el1_l, el1_r, el2_l, el2_r, ↓reduceIte, not_true_eq_false, not_false_eq_true, reduceCtorEq, and_true, true_and, and_false, false_and, or_true, true_or, or_false, false_or, and_self, or_self, ite_true, ite_false, Int.cast_ofNat_Int, Nat.reduceEqDiff, Nat.reduceLT, Int.reduceAdd, Int.reduceSub, Int.reduceMul, Int.reduceNeg, Int.reduceLT, Int.reduceLE, Int.reduceEq, ilt_t, ilt_f, ile_t, ile_f, ieq_t, ieq_f, z_0, z_1, z_2, z_3, z_4, z_5, z_6, z_7, z_8, z_9, z_10, z_12, z_20, z_40, z_80, z_81, z_99, z_100, z_200, z_400, z_3240, z_20000, z_100000, iz_add, iz_sub, iz_mul, iz_neg, iz_nat, iz_lt, iz_le, iz_eq, iz_div, iz_ite, iz_c, md10, md100, izcb_0, izcb_1, isOut_0, isNoCell_0, isGr_0, within_e, isCell_e, np_p, VV_r, VV_n, V_50, m_thrown, rf_0 h, rf_20 h, rl_50 h, ra_50 h, x1, f1, f2, f3, f4, c]
  · simp (disch := omega) only [lt__e, bnd_e, bnd2_e, bnd3_e, el0_l, el0_r, el1_l, el1_r, el2_l, el2_r, ↓reduceIte, not_true_eq_false, not_false_eq_true, reduceCtorEq, and_true, true_and, and_false, false_and, or_true, true_or, or_false, false_or, and_self, or_self, ite_true, ite_false, Int.cast_ofNat_Int, Nat.reduceEqDiff, Nat.reduceLT, Int.reduceAdd, Int.reduceSub, Int.reduceMul, Int.reduceNeg, Int.reduceLT, Int.reduceLE, Int.reduceEq, ilt_t, ilt_f, ile_t, ile_f, ieq_t, ieq_f, z_0, z_1, z_2, z_3, z_4, z_5, z_6, z_7, z_8, z_9, z_10, z_12, z_20, z_40, z_80, z_81, z_99, z_100, z_200, z_400, z_3240, z_20000, z_100000, iz_add, iz_sub, iz_mul, iz_neg, iz_nat, iz_lt, iz_le, iz_eq, iz_div, iz_ite, iz_c, md10, md100, izcb_0, izcb_1, isOut_0, isNoCell_0, isGr_0, within_e, isCell_e, np_p, VV_r, VV_n, V_50, m_thrown, rf_0 h, rf_20 h, rl_50 h, ra_50 h, x1, f1, f2, f3]
theorem js_lose (g : GG a r n) (hL : (L : Int) ≤ 3072) (i0 : 0 ≤ i) (i1 : i + 6 ≤ L) (rec : Int32 → MS → Option Int32) : ∃ A r' n', GG A r' n' ∧ j_La_law_958 L xs (some 0) (some 20) (some 50) (iz i) (VV a r n) rec = rec (iz (i + 6)) (VV A r' n') := by
  have g' := g
  obtain ⟨nr, nm, np, h, -⟩ := g'
  obtain ⟨y1, x1, b11, b12⟩ := sc_x (L := L) (xs := xs) (j := i + 1) (by omega) (by omega) hL
  obtain ⟨k, z, A1, A2, f1, f2, f3, f4, f5, f6⟩ := call_lose g b11 b12
  refine ⟨A2, r, n, f6, ?_⟩
  unfold j_La_law_958
  by_cases c : k = 0
  · have f4 := f4 c
    simp (disch := omega) only [lt__e, bnd_e, bnd2_e, bnd3_e, el0_l, el0_r, el1_l, el1_r, el2_l, el2_r, ↓reduceIte, not_true_eq_false, not_false_eq_true, reduceCtorEq, and_true, true_and, and_false, false_and, or_true, true_or, or_false, false_or, and_self, or_self, ite_true, ite_false, Int.cast_ofNat_Int, Nat.reduceEqDiff, Nat.reduceLT, Int.reduceAdd, Int.reduceSub, Int.reduceMul, Int.reduceNeg, Int.reduceLT, Int.reduceLE, Int.reduceEq, ilt_t, ilt_f, ile_t, ile_f, ieq_t, ieq_f, z_0, z_1, z_2, z_3, z_4, z_5, z_6, z_7, z_8, z_9, z_10, z_12, z_20, z_40, z_80, z_81, z_99, z_100, z_200, z_400, z_3240, z_20000, z_100000, iz_add, iz_sub, iz_mul, iz_neg, iz_nat, iz_lt, iz_le, iz_eq, iz_div, iz_ite, iz_c, md10, md100, izcb_0, izcb_1, isOut_0, isNoCell_0, isGr_0, within_e, isCell_e, np_p, VV_r, VV_n, V_50, m_thrown, rf_0 h, rf_20 h, rl_50 h, ra_50 h, x1, f1, f2, f3, f4, c]
  · simp (disch := omega) only [lt__e, bnd_e, bnd2_e, bnd3_e, el0_l, el0_r, el1_l, el1_r, el2_l, el2_r, ↓reduceIte, not_true_eq_false, not_false_eq_true, reduceCtorEq, and_true, true_and, and_false, false_and, or_true, true_or, or_false, false_or, and_self, or_self, ite_true, ite_false, Int.cast_ofNat_Int, Nat.reduceEqDiff, Nat.reduceLT, Int.reduceAdd, Int.reduceSub, Int.reduceMul, Int.reduceNeg, Int.reduceLT, Int.reduceLE, Int.reduceEq, ilt_t, ilt_f, ile_t, ile_f, ieq_t, ieq_f, z_0, z_1, z_2, z_3, z_4, z_5, z_6, z_7, z_8, z_9, z_10, z_12, z_20, z_40, z_80, z_81, z_99, z_100, z_200, z_400, z_3240, z_20000, z_100000, iz_add, iz_sub, iz_mul, iz_neg, iz_nat, iz_lt, iz_le, iz_eq, iz_div, iz_ite, iz_c, md10, md100, izcb_0, izcb_1, isOut_0, isNoCell_0, isGr_0, within_e, isCell_e, np_p, VV_r, VV_n, V_50, m_thrown, rf_0 h, rf_20 h, rl_50 h, ra_50 h, x1, f1, f2, f3]
theorem js_hold (g : GG a r n) (hL : (L : Int) ≤ 3072) (i0 : 0 ≤ i) (i1 : i + 6 ≤ L) (rec : Int32 → MS → Option Int32) : ∃ A r' n', GG A r' n' ∧ j_La_law_1014 L xs (some 0) (some 20) (some 50) (iz i) (VV a r n) rec = rec (iz (i + 6)) (VV A r' n') := by
  have g' := g
  obtain ⟨nr, nm, np, h, -⟩ := g'
  obtain ⟨y1, x1, b11, b12⟩ := sc_x (L := L) (xs := xs) (j := i + 1) (by omega) (by omega) hL
  obtain ⟨y2, x2, b21, b22⟩ := sc_x (L := L) (xs := xs) (j := i + 2) (by omega) (by omega) hL
  obtain ⟨k, z, A1, A2, f1, f2, f3, f4, f5, f6⟩ := call_hold g b11 b12 b21 b22
  refine ⟨A2, r, n, f6, ?_⟩
  unfold j_La_law_1014
  by_cases c : k = 0
  · have f4 := f4 c
    simp (disch := omega) only [lt__e, bnd_e, bnd2_e, bnd3_e, el0_l, el0_r, el1_l, el1_r, el2_l, el2_r, ↓reduceIte, not_true_eq_false, not_false_eq_true, reduceCtorEq, and_true, true_and, and_false, false_and, or_true, true_or, or_false, false_or, and_self, or_self, ite_true, ite_false, Int.cast_ofNat_Int, Nat.reduceEqDiff, Nat.reduceLT, Int.reduceAdd, Int.reduceSub, Int.reduceMul, Int.reduceNeg, Int.reduceLT, Int.reduceLE, Int.reduceEq, ilt_t, ilt_f, ile_t, ile_f, ieq_t, ieq_f, z_0, z_1, z_2, z_3, z_4, z_5, z_6, z_7, z_8, z_9, z_10, z_12, z_20, z_40, z_80, z_81, z_99, z_100, z_200, z_400, z_3240, z_20000, z_100000, iz_add, iz_sub, iz_mul, iz_neg, iz_nat, iz_lt, iz_le, iz_eq, iz_div, iz_ite, iz_c, md10, md100, izcb_0, izcb_1, isOut_0, isNoCell_0, isGr_0, within_e, isCell_e, np_p, VV_r, VV_n, V_50, m_thrown, rf_0 h, rf_20 h, rl_50 h, ra_50 h, x1, x2, f1, f2, f3, f4, c]
  · simp (disch := omega) only [lt__e, bnd_e, bnd2_e, bnd3_e, el0_l, el0_r, el1_l, el1_r, el2_l, el2_r, ↓reduceIte, not_true_eq_false, not_false_eq_true, reduceCtorEq, and_true, true_and, and_false, false_and, or_true, true_or, or_false, false_or, and_self, or_self, ite_true, ite_false, Int.cast_ofNat_Int, Nat.reduceEqDiff, Nat.reduceLT, Int.reduceAdd, Int.reduceSub, Int.reduceMul, Int.reduceNeg, Int.reduceLT, Int.reduceLE, Int.reduceEq, ilt_t, ilt_f, ile_t, ile_f, ieq_t, ieq_f, z_0, z_1, z_2, z_3, z_4, z_5, z_6, z_7, z_8, z_9, z_10, z_12, z_20, z_40, z_80, z_81, z_99, z_100, z_200, z_400, z_3240, z_20000, z_100000, iz_add, iz_sub, iz_mul, iz_neg, iz_nat, iz_lt, iz_le, iz_eq, iz_div, iz_ite, iz_c, md10, md100, izcb_0, izcb_1, isOut_0, isNoCell_0, isGr_0, within_e, isCell_e, np_p, VV_r, VV_n, V_50, m_thrown, rf_0 h, rf_20 h, rl_50 h, ra_50 h, x1, x2, f1, f2, f3]
theorem js_time (g : GG a r n) (hL : (L : Int) ≤ 3072) (i0 : 0 ≤ i) (i1 : i + 6 ≤ L) (rec : Int32 → MS → Option Int32) : ∃ A r' n', GG A r' n' ∧ j_La_law_1082 L xs (some 0) (some 20) (some 50) (iz i) (VV a r n) rec = rec (iz (i + 6)) (VV A r' n') := by
  have g' := g
  obtain ⟨nr, nm, np, h, -⟩ := g'
  obtain ⟨z, A2, f1, f2, f6⟩ := call_time g
  refine ⟨A2, r, n, f6, ?_⟩
  unfold j_La_law_1082
  simp (disch := omega) only [lt__e, bnd_e, bnd2_e, bnd3_e, el0_l, el0_r, el1_l, el1_r, el2_l, el2_r, ↓reduceIte, not_true_eq_false, not_false_eq_true, reduceCtorEq, and_true, true_and, and_false, false_and, or_true, true_or, or_false, false_or, and_self, or_self, ite_true, ite_false, Int.cast_ofNat_Int, Nat.reduceEqDiff, Nat.reduceLT, Int.reduceAdd, Int.reduceSub, Int.reduceMul, Int.reduceNeg, Int.reduceLT, Int.reduceLE, Int.reduceEq, ilt_t, ilt_f, ile_t, ile_f, ieq_t, ieq_f, z_0, z_1, z_2, z_3, z_4, z_5, z_6, z_7, z_8, z_9, z_10, z_12, z_20, z_40, z_80, z_81, z_99, z_100, z_200, z_400, z_3240, z_20000, z_100000, iz_add, iz_sub, iz_mul, iz_neg, iz_nat, iz_lt, iz_le, iz_eq, iz_div, iz_ite, iz_c, md10, md100, izcb_0, izcb_1, isOut_0, isNoCell_0, isGr_0, within_e, isCell_e, np_p, VV_r, VV_n, V_50, m_thrown, rf_0 h, rf_20 h, rl_50 h, ra_50 h, f1, f2]
theorem js_alerts (g : GG a r n) (hL : (L : Int) ≤ 3072) (i0 : 0 ≤ i) (i1 : i + 6 ≤ L) (rec : Int32 → MS → Option Int32) : ∃ A r' n', GG A r' n' ∧ j_La_law_1095 L xs (some 0) (some 20) (some 50) (iz i) (VV a r n) rec = rec (iz (i + 6)) (VV A r' n') := by
  have g' := g
  obtain ⟨nr, nm, np, h, -⟩ := g'
  obtain ⟨v, A2, r', n', f1, f2, f6⟩ := call_alerts g
  refine ⟨A2, r', n', f6, ?_⟩
  unfold j_La_law_1095
  simp (disch := omega) only [lt__e, bnd_e, bnd2_e, bnd3_e, el0_l, el0_r, el1_l, el1_r, el2_l, el2_r, ↓reduceIte, not_true_eq_false, not_false_eq_true, reduceCtorEq, and_true, true_and, and_false, false_and, or_true, true_or, or_false, false_or, and_self, or_self, ite_true, ite_false, Int.cast_ofNat_Int, Nat.reduceEqDiff, Nat.reduceLT, Int.reduceAdd, Int.reduceSub, Int.reduceMul, Int.reduceNeg, Int.reduceLT, Int.reduceLE, Int.reduceEq, ilt_t, ilt_f, ile_t, ile_f, ieq_t, ieq_f, z_0, z_1, z_2, z_3, z_4, z_5, z_6, z_7, z_8, z_9, z_10, z_12, z_20, z_40, z_80, z_81, z_99, z_100, z_200, z_400, z_3240, z_20000, z_100000, iz_add, iz_sub, iz_mul, iz_neg, iz_nat, iz_lt, iz_le, iz_eq, iz_div, iz_ite, iz_c, md10, md100, izcb_0, izcb_1, isOut_0, isNoCell_0, isGr_0, within_e, isCell_e, np_p, VV_r, VV_n, V_50, m_thrown, rf_0 h, rf_20 h, rl_50 h, ra_50 h, f1, f2]
theorem js_home (g : GG a r n) (hL : (L : Int) ≤ 3072) (i0 : 0 ≤ i) (i1 : i + 6 ≤ L) (rec : Int32 → MS → Option Int32) : ∃ A r' n', GG A r' n' ∧ j_La_law_1108 L xs (some 0) (some 20) (some 50) (iz i) (VV a r n) rec = rec (iz (i + 6)) (VV A r' n') := by
  have g' := g
  obtain ⟨nr, nm, np, h, -⟩ := g'
  obtain ⟨y1, x1, b11, b12⟩ := sc_x (L := L) (xs := xs) (j := i + 1) (by omega) (by omega) hL
  obtain ⟨k, z, A1, A2, f1, f2, f3, f4, f5, f6⟩ := call_home g b11 b12
  refine ⟨A2, r, n, f6, ?_⟩
  unfold j_La_law_1108
  by_cases c : k = 0
  · have f4 := f4 c
    simp (disch := omega) only [lt__e, bnd_e, bnd2_e, bnd3_e, el0_l, el0_r, el1_l, el1_r, el2_l, el2_r, ↓reduceIte, not_true_eq_false, not_false_eq_true, reduceCtorEq, and_true, true_and, and_false, false_and, or_true, true_or, or_false, false_or, and_self, or_self, ite_true, ite_false, Int.cast_ofNat_Int, Nat.reduceEqDiff, Nat.reduceLT, Int.reduceAdd, Int.reduceSub, Int.reduceMul, Int.reduceNeg, Int.reduceLT, Int.reduceLE, Int.reduceEq, ilt_t, ilt_f, ile_t, ile_f, ieq_t, ieq_f, z_0, z_1, z_2, z_3, z_4, z_5, z_6, z_7, z_8, z_9, z_10, z_12, z_20, z_40, z_80, z_81, z_99, z_100, z_200, z_400, z_3240, z_20000, z_100000, iz_add, iz_sub, iz_mul, iz_neg, iz_nat, iz_lt, iz_le, iz_eq, iz_div, iz_ite, iz_c, md10, md100, izcb_0, izcb_1, isOut_0, isNoCell_0, isGr_0, within_e, isCell_e, np_p, VV_r, VV_n, V_50, m_thrown, rf_0 h, rf_20 h, rl_50 h, ra_50 h, x1, f1, f2, f3, f4, c]
  · simp (disch := omega) only [lt__e, bnd_e, bnd2_e, bnd3_e, el0_l, el0_r, el1_l, el1_r, el2_l, el2_r, ↓reduceIte, not_true_eq_false, not_false_eq_true, reduceCtorEq, and_true, true_and, and_false, false_and, or_true, true_or, or_false, false_or, and_self, or_self, ite_true, ite_false, Int.cast_ofNat_Int, Nat.reduceEqDiff, Nat.reduceLT, Int.reduceAdd, Int.reduceSub, Int.reduceMul, Int.reduceNeg, Int.reduceLT, Int.reduceLE, Int.reduceEq, ilt_t, ilt_f, ile_t, ile_f, ieq_t, ieq_f, z_0, z_1, z_2, z_3, z_4, z_5, z_6, z_7, z_8, z_9, z_10, z_12, z_20, z_40, z_80, z_81, z_99, z_100, z_200, z_400, z_3240, z_20000, z_100000, iz_add, iz_sub, iz_mul, iz_neg, iz_nat, iz_lt, iz_le, iz_eq, iz_div, iz_ite, iz_c, md10, md100, izcb_0, izcb_1, isOut_0, isNoCell_0, isGr_0, within_e, isCell_e, np_p, VV_r, VV_n, V_50, m_thrown, rf_0 h, rf_20 h, rl_50 h, ra_50 h, x1, f1, f2, f3]
theorem js_placeAt (g : GG a r n) (hL : (L : Int) ≤ 3072) (i0 : 0 ≤ i) (i1 : i + 6 ≤ L) (rec : Int32 → MS → Option Int32) : ∃ A r' n', GG A r' n' ∧ j_La_law_1164 L xs (some 0) (some 20) (some 50) (iz i) (VV a r n) rec = rec (iz (i + 6)) (VV A r' n') := by
  have g' := g
  obtain ⟨nr, nm, np, h, -⟩ := g'
  obtain ⟨y1, x1, b11, b12⟩ := sc_x (L := L) (xs := xs) (j := i + 1) (by omega) (by omega) hL
  obtain ⟨y2, x2, b21, b22⟩ := sc_x (L := L) (xs := xs) (j := i + 2) (by omega) (by omega) hL
  obtain ⟨k, z, A1, A2, f1, f2, f3, f4, f5, f6⟩ := call_placeAt g b11 b12 b21 b22
  refine ⟨A2, r, n, f6, ?_⟩
  unfold j_La_law_1164
  by_cases c : k = 0
  · have f4 := f4 c
    simp (disch := omega) only [lt__e, bnd_e, bnd2_e, bnd3_e, el0_l, el0_r, el1_l, el1_r, el2_l, el2_r, ↓reduceIte, not_true_eq_false, not_false_eq_true, reduceCtorEq, and_true, true_and, and_false, false_and, or_true, true_or, or_false, false_or, and_self, or_self, ite_true, ite_false, Int.cast_ofNat_Int, Nat.reduceEqDiff, Nat.reduceLT, Int.reduceAdd, Int.reduceSub, Int.reduceMul, Int.reduceNeg, Int.reduceLT, Int.reduceLE, Int.reduceEq, ilt_t, ilt_f, ile_t, ile_f, ieq_t, ieq_f, z_0, z_1, z_2, z_3, z_4, z_5, z_6, z_7, z_8, z_9, z_10, z_12, z_20, z_40, z_80, z_81, z_99, z_100, z_200, z_400, z_3240, z_20000, z_100000, iz_add, iz_sub, iz_mul, iz_neg, iz_nat, iz_lt, iz_le, iz_eq, iz_div, iz_ite, iz_c, md10, md100, izcb_0, izcb_1, isOut_0, isNoCell_0, isGr_0, within_e, isCell_e, np_p, VV_r, VV_n, V_50, m_thrown, rf_0 h, rf_20 h, rl_50 h, ra_50 h, x1, x2, f1, f2, f3, f4, c]
  · simp (disch := omega) only [lt__e, bnd_e, bnd2_e, bnd3_e, el0_l, el0_r, el1_l, el1_r, el2_l, el2_r, ↓reduceIte, not_true_eq_false, not_false_eq_true, reduceCtorEq, and_true, true_and, and_false, false_and, or_true, true_or, or_false, false_or, and_self, or_self, ite_true, ite_false, Int.cast_ofNat_Int, Nat.reduceEqDiff, Nat.reduceLT, Int.reduceAdd, Int.reduceSub, Int.reduceMul, Int.reduceNeg, Int.reduceLT, Int.reduceLE, Int.reduceEq, ilt_t, ilt_f, ile_t, ile_f, ieq_t, ieq_f, z_0, z_1, z_2, z_3, z_4, z_5, z_6, z_7, z_8, z_9, z_10, z_12, z_20, z_40, z_80, z_81, z_99, z_100, z_200, z_400, z_3240, z_20000, z_100000, iz_add, iz_sub, iz_mul, iz_neg, iz_nat, iz_lt, iz_le, iz_eq, iz_div, iz_ite, iz_c, md10, md100, izcb_0, izcb_1, isOut_0, isNoCell_0, isGr_0, within_e, isCell_e, np_p, VV_r, VV_n, V_50, m_thrown, rf_0 h, rf_20 h, rl_50 h, ra_50 h, x1, x2, f1, f2, f3]
theorem js_meets (g : GG a r n) (hL : (L : Int) ≤ 3072) (i0 : 0 ≤ i) (i1 : i + 6 ≤ L) (rec : Int32 → MS → Option Int32) : ∃ A r' n', GG A r' n' ∧ j_La_law_1232 L xs (some 0) (some 20) (some 50) (iz i) (VV a r n) rec = rec (iz (i + 6)) (VV A r' n') := by
  have g' := g
  obtain ⟨nr, nm, np, h, -⟩ := g'
  obtain ⟨y1, x1, b11, b12⟩ := sc_x (L := L) (xs := xs) (j := i + 1) (by omega) (by omega) hL
  obtain ⟨y2, x2, b21, b22⟩ := sc_x (L := L) (xs := xs) (j := i + 2) (by omega) (by omega) hL
  obtain ⟨k, z, A1, A2, f1, f2, f3, f4, f5, f6⟩ := call_meets g b11 b12 b21 b22
  refine ⟨A2, r, n, f6, ?_⟩
  unfold j_La_law_1232
  have hz := mo_01 f2
  by_cases c : k = 0
  · have f4 := f4 c
    subst c
    rcases hz with hz | hz
    · simp (disch := omega) only [lt__e, bnd_e, bnd2_e, bnd3_e, el0_l, el0_r, el1_l, el1_r, el2_l, el2_r, ↓reduceIte, not_true_eq_false, not_false_eq_true, reduceCtorEq, and_true, true_and, and_false, false_and, or_true, true_or, or_false, false_or, and_self, or_self, ite_true, ite_false, Int.cast_ofNat_Int, Nat.reduceEqDiff, Nat.reduceLT, Int.reduceAdd, Int.reduceSub, Int.reduceMul, Int.reduceNeg, Int.reduceLT, Int.reduceLE, Int.reduceEq, ilt_t, ilt_f, ile_t, ile_f, ieq_t, ieq_f, z_0, z_1, z_2, z_3, z_4, z_5, z_6, z_7, z_8, z_9, z_10, z_12, z_20, z_40, z_80, z_81, z_99, z_100, z_200, z_400, z_3240, z_20000, z_100000, iz_add, iz_sub, iz_mul, iz_neg, iz_nat, iz_lt, iz_le, iz_eq, iz_div, iz_ite, iz_c, md10, md100, izcb_0, izcb_1, isOut_0, isNoCell_0, isGr_0, within_e, isCell_e, np_p, VV_r, VV_n, V_50, m_thrown, rf_0 h, rf_20 h, rl_50 h, ra_50 h, x1, x2, f1, f2, f3, f4, hz]
    · simp (disch := omega) only [lt__e, bnd_e, bnd2_e, bnd3_e, el0_l, el0_r, el1_l, el1_r, el2_l, el2_r, ↓reduceIte, not_true_eq_false, not_false_eq_true, reduceCtorEq, and_true, true_and, and_false, false_and, or_true, true_or, or_false, false_or, and_self, or_self, ite_true, ite_false, Int.cast_ofNat_Int, Nat.reduceEqDiff, Nat.reduceLT, Int.reduceAdd, Int.reduceSub, Int.reduceMul, Int.reduceNeg, Int.reduceLT, Int.reduceLE, Int.reduceEq, ilt_t, ilt_f, ile_t, ile_f, ieq_t, ieq_f, z_0, z_1, z_2, z_3, z_4, z_5, z_6, z_7, z_8, z_9, z_10, z_12, z_20, z_40, z_80, z_81, z_99, z_100, z_200, z_400, z_3240, z_20000, z_100000, iz_add, iz_sub, iz_mul, iz_neg, iz_nat, iz_lt, iz_le, iz_eq, iz_div, iz_ite, iz_c, md10, md100, izcb_0, izcb_1, isOut_0, isNoCell_0, isGr_0, within_e, isCell_e, np_p, VV_r, VV_n, V_50, m_thrown, rf_0 h, rf_20 h, rl_50 h, ra_50 h, x1, x2, f1, f2, f3, f4, hz]
  · simp (disch := omega) only [lt__e, bnd_e, bnd2_e, bnd3_e, el0_l, el0_r, el1_l, el1_r, el2_l, el2_r, ↓reduceIte, not_true_eq_false, not_false_eq_true, reduceCtorEq, and_true, true_and, and_false, false_and, or_true, true_or, or_false, false_or, and_self, or_self, ite_true, ite_false, Int.cast_ofNat_Int, Nat.reduceEqDiff, Nat.reduceLT, Int.reduceAdd, Int.reduceSub, Int.reduceMul, Int.reduceNeg, Int.reduceLT, Int.reduceLE, Int.reduceEq, ilt_t, ilt_f, ile_t, ile_f, ieq_t, ieq_f, z_0, z_1, z_2, z_3, z_4, z_5, z_6, z_7, z_8, z_9, z_10, z_12, z_20, z_40, z_80, z_81, z_99, z_100, z_200, z_400, z_3240, z_20000, z_100000, iz_add, iz_sub, iz_mul, iz_neg, iz_nat, iz_lt, iz_le, iz_eq, iz_div, iz_ite, iz_c, md10, md100, izcb_0, izcb_1, isOut_0, isNoCell_0, isGr_0, within_e, isCell_e, np_p, VV_r, VV_n, V_50, m_thrown, rf_0 h, rf_20 h, rl_50 h, ra_50 h, x1, x2, f1, f2, f3]
theorem js_meetsAnew (g : GG a r n) (hL : (L : Int) ≤ 3072) (i0 : 0 ≤ i) (i1 : i + 6 ≤ L) (rec : Int32 → MS → Option Int32) : ∃ A r' n', GG A r' n' ∧ j_La_law_1307 L xs (some 0) (some 20) (some 50) (iz i) (VV a r n) rec = rec (iz (i + 6)) (VV A r' n') := by
  have g' := g
  obtain ⟨nr, nm, np, h, -⟩ := g'
  obtain ⟨y1, x1, b11, b12⟩ := sc_x (L := L) (xs := xs) (j := i + 1) (by omega) (by omega) hL
  obtain ⟨y2, x2, b21, b22⟩ := sc_x (L := L) (xs := xs) (j := i + 2) (by omega) (by omega) hL
  obtain ⟨k, z, A1, A2, f1, f2, f3, f4, f5, f6⟩ := call_meetsAnew g b11 b12 b21 b22
  refine ⟨A2, r, n, f6, ?_⟩
  unfold j_La_law_1307
  have hz := moa_01 f2
  by_cases c : k = 0
  · have f4 := f4 c
    subst c
    rcases hz with hz | hz
    · simp (disch := omega) only [lt__e, bnd_e, bnd2_e, bnd3_e, el0_l, el0_r, el1_l, el1_r, el2_l, el2_r, ↓reduceIte, not_true_eq_false, not_false_eq_true, reduceCtorEq, and_true, true_and, and_false, false_and, or_true, true_or, or_false, false_or, and_self, or_self, ite_true, ite_false, Int.cast_ofNat_Int, Nat.reduceEqDiff, Nat.reduceLT, Int.reduceAdd, Int.reduceSub, Int.reduceMul, Int.reduceNeg, Int.reduceLT, Int.reduceLE, Int.reduceEq, ilt_t, ilt_f, ile_t, ile_f, ieq_t, ieq_f, z_0, z_1, z_2, z_3, z_4, z_5, z_6, z_7, z_8, z_9, z_10, z_12, z_20, z_40, z_80, z_81, z_99, z_100, z_200, z_400, z_3240, z_20000, z_100000, iz_add, iz_sub, iz_mul, iz_neg, iz_nat, iz_lt, iz_le, iz_eq, iz_div, iz_ite, iz_c, md10, md100, izcb_0, izcb_1, isOut_0, isNoCell_0, isGr_0, within_e, isCell_e, np_p, VV_r, VV_n, V_50, m_thrown, rf_0 h, rf_20 h, rl_50 h, ra_50 h, x1, x2, f1, f2, f3, f4, hz]
    · simp (disch := omega) only [lt__e, bnd_e, bnd2_e, bnd3_e, el0_l, el0_r, el1_l, el1_r, el2_l, el2_r, ↓reduceIte, not_true_eq_false, not_false_eq_true, reduceCtorEq, and_true, true_and, and_false, false_and, or_true, true_or, or_false, false_or, and_self, or_self, ite_true, ite_false, Int.cast_ofNat_Int, Nat.reduceEqDiff, Nat.reduceLT, Int.reduceAdd, Int.reduceSub, Int.reduceMul, Int.reduceNeg, Int.reduceLT, Int.reduceLE, Int.reduceEq, ilt_t, ilt_f, ile_t, ile_f, ieq_t, ieq_f, z_0, z_1, z_2, z_3, z_4, z_5, z_6, z_7, z_8, z_9, z_10, z_12, z_20, z_40, z_80, z_81, z_99, z_100, z_200, z_400, z_3240, z_20000, z_100000, iz_add, iz_sub, iz_mul, iz_neg, iz_nat, iz_lt, iz_le, iz_eq, iz_div, iz_ite, iz_c, md10, md100, izcb_0, izcb_1, isOut_0, isNoCell_0, isGr_0, within_e, isCell_e, np_p, VV_r, VV_n, V_50, m_thrown, rf_0 h, rf_20 h, rl_50 h, ra_50 h, x1, x2, f1, f2, f3, f4, hz]
  · simp (disch := omega) only [lt__e, bnd_e, bnd2_e, bnd3_e, el0_l, el0_r, el1_l, el1_r, el2_l, el2_r, ↓reduceIte, not_true_eq_false, not_false_eq_true, reduceCtorEq, and_true, true_and, and_false, false_and, or_true, true_or, or_false, false_or, and_self, or_self, ite_true, ite_false, Int.cast_ofNat_Int, Nat.reduceEqDiff, Nat.reduceLT, Int.reduceAdd, Int.reduceSub, Int.reduceMul, Int.reduceNeg, Int.reduceLT, Int.reduceLE, Int.reduceEq, ilt_t, ilt_f, ile_t, ile_f, ieq_t, ieq_f, z_0, z_1, z_2, z_3, z_4, z_5, z_6, z_7, z_8, z_9, z_10, z_12, z_20, z_40, z_80, z_81, z_99, z_100, z_200, z_400, z_3240, z_20000, z_100000, iz_add, iz_sub, iz_mul, iz_neg, iz_nat, iz_lt, iz_le, iz_eq, iz_div, iz_ite, iz_c, md10, md100, izcb_0, izcb_1, isOut_0, isNoCell_0, isGr_0, within_e, isCell_e, np_p, VV_r, VV_n, V_50, m_thrown, rf_0 h, rf_20 h, rl_50 h, ra_50 h, x1, x2, f1, f2, f3]
theorem js_ofMachine (g : GG a r n) (hL : (L : Int) ≤ 3072) (i0 : 0 ≤ i) (i1 : i + 6 ≤ L) (rec : Int32 → MS → Option Int32) : ∃ A r' n', GG A r' n' ∧ j_La_law_1382 L xs (some 0) (some 20) (some 50) (iz i) (VV a r n) rec = rec (iz (i + 6)) (VV A r' n') := by
  have g' := g
  obtain ⟨nr, nm, np, h, -⟩ := g'
  obtain ⟨y1, x1, b11, b12⟩ := sc_x (L := L) (xs := xs) (j := i + 1) (by omega) (by omega) hL
  obtain ⟨y2, x2, b21, b22⟩ := sc_x (L := L) (xs := xs) (j := i + 2) (by omega) (by omega) hL
  obtain ⟨k, z, A1, A2, f1, f2, f3, f4, f5, f6⟩ := call_ofMachine g b11 b12 b21 b22
  refine ⟨A2, r, n, f6, ?_⟩
  unfold j_La_law_1382
  by_cases c : k = 0
  · have f4 := f4 c
    simp (disch := omega) only [lt__e, bnd_e, bnd2_e, bnd3_e, el0_l, el0_r, el1_l, el1_r, el2_l, el2_r, ↓reduceIte, not_true_eq_false, not_false_eq_true, reduceCtorEq, and_true, true_and, and_false, false_and, or_true, true_or, or_false, false_or, and_self, or_self, ite_true, ite_false, Int.cast_ofNat_Int, Nat.reduceEqDiff, Nat.reduceLT, Int.reduceAdd, Int.reduceSub, Int.reduceMul, Int.reduceNeg, Int.reduceLT, Int.reduceLE, Int.reduceEq, ilt_t, ilt_f, ile_t, ile_f, ieq_t, ieq_f, z_0, z_1, z_2, z_3, z_4, z_5, z_6, z_7, z_8, z_9, z_10, z_12, z_20, z_40, z_80, z_81, z_99, z_100, z_200, z_400, z_3240, z_20000, z_100000, iz_add, iz_sub, iz_mul, iz_neg, iz_nat, iz_lt, iz_le, iz_eq, iz_div, iz_ite, iz_c, md10, md100, izcb_0, izcb_1, isOut_0, isNoCell_0, isGr_0, within_e, isCell_e, np_p, VV_r, VV_n, V_50, m_thrown, rf_0 h, rf_20 h, rl_50 h, ra_50 h, x1, x2, f1, f2, f3, f4, c]
  · simp (disch := omega) only [lt__e, bnd_e, bnd2_e, bnd3_e, el0_l, el0_r, el1_l, el1_r, el2_l, el2_r, ↓reduceIte, not_true_eq_false, not_false_eq_true, reduceCtorEq, and_true, true_and, and_false, false_and, or_true, true_or, or_false, false_or, and_self, or_self, ite_true, ite_false, Int.cast_ofNat_Int, Nat.reduceEqDiff, Nat.reduceLT, Int.reduceAdd, Int.reduceSub, Int.reduceMul, Int.reduceNeg, Int.reduceLT, Int.reduceLE, Int.reduceEq, ilt_t, ilt_f, ile_t, ile_f, ieq_t, ieq_f, z_0, z_1, z_2, z_3, z_4, z_5, z_6, z_7, z_8, z_9, z_10, z_12, z_20, z_40, z_80, z_81, z_99, z_100, z_200, z_400, z_3240, z_20000, z_100000, iz_add, iz_sub, iz_mul, iz_neg, iz_nat, iz_lt, iz_le, iz_eq, iz_div, iz_ite, iz_c, md10, md100, izcb_0, izcb_1, isOut_0, isNoCell_0, isGr_0, within_e, isCell_e, np_p, VV_r, VV_n, V_50, m_thrown, rf_0 h, rf_20 h, rl_50 h, ra_50 h, x1, x2, f1, f2, f3]
theorem js_ofPath (g : GG a r n) (hL : (L : Int) ≤ 3072) (i0 : 0 ≤ i) (i1 : i + 6 ≤ L) (rec : Int32 → MS → Option Int32) : ∃ A r' n', GG A r' n' ∧ j_La_law_1450 L xs (some 0) (some 20) (some 50) (iz i) (VV a r n) rec = rec (iz (i + 6)) (VV A r' n') := by
  have g' := g
  obtain ⟨nr, nm, np, h, -⟩ := g'
  obtain ⟨y1, x1, b11, b12⟩ := sc_x (L := L) (xs := xs) (j := i + 1) (by omega) (by omega) hL
  obtain ⟨y2, x2, b21, b22⟩ := sc_x (L := L) (xs := xs) (j := i + 2) (by omega) (by omega) hL
  obtain ⟨k, z, A1, A2, f1, f2, f3, f4, f5, f6⟩ := call_ofPath g b11 b12 b21 b22
  refine ⟨A2, r, n, f6, ?_⟩
  unfold j_La_law_1450
  by_cases c : k = 0
  · have f4 := f4 c
    simp (disch := omega) only [lt__e, bnd_e, bnd2_e, bnd3_e, el0_l, el0_r, el1_l, el1_r, el2_l, el2_r, ↓reduceIte, not_true_eq_false, not_false_eq_true, reduceCtorEq, and_true, true_and, and_false, false_and, or_true, true_or, or_false, false_or, and_self, or_self, ite_true, ite_false, Int.cast_ofNat_Int, Nat.reduceEqDiff, Nat.reduceLT, Int.reduceAdd, Int.reduceSub, Int.reduceMul, Int.reduceNeg, Int.reduceLT, Int.reduceLE, Int.reduceEq, ilt_t, ilt_f, ile_t, ile_f, ieq_t, ieq_f, z_0, z_1, z_2, z_3, z_4, z_5, z_6, z_7, z_8, z_9, z_10, z_12, z_20, z_40, z_80, z_81, z_99, z_100, z_200, z_400, z_3240, z_20000, z_100000, iz_add, iz_sub, iz_mul, iz_neg, iz_nat, iz_lt, iz_le, iz_eq, iz_div, iz_ite, iz_c, md10, md100, izcb_0, izcb_1, isOut_0, isNoCell_0, isGr_0, within_e, isCell_e, np_p, VV_r, VV_n, V_50, m_thrown, rf_0 h, rf_20 h, rl_50 h, ra_50 h, x1, x2, f1, f2, f3, f4, c]
  · simp (disch := omega) only [lt__e, bnd_e, bnd2_e, bnd3_e, el0_l, el0_r, el1_l, el1_r, el2_l, el2_r, ↓reduceIte, not_true_eq_false, not_false_eq_true, reduceCtorEq, and_true, true_and, and_false, false_and, or_true, true_or, or_false, false_or, and_self, or_self, ite_true, ite_false, Int.cast_ofNat_Int, Nat.reduceEqDiff, Nat.reduceLT, Int.reduceAdd, Int.reduceSub, Int.reduceMul, Int.reduceNeg, Int.reduceLT, Int.reduceLE, Int.reduceEq, ilt_t, ilt_f, ile_t, ile_f, ieq_t, ieq_f, z_0, z_1, z_2, z_3, z_4, z_5, z_6, z_7, z_8, z_9, z_10, z_12, z_20, z_40, z_80, z_81, z_99, z_100, z_200, z_400, z_3240, z_20000, z_100000, iz_add, iz_sub, iz_mul, iz_neg, iz_nat, iz_lt, iz_le, iz_eq, iz_div, iz_ite, iz_c, md10, md100, izcb_0, izcb_1, isOut_0, isNoCell_0, isGr_0, within_e, isCell_e, np_p, VV_r, VV_n, V_50, m_thrown, rf_0 h, rf_20 h, rl_50 h, ra_50 h, x1, x2, f1, f2, f3]
theorem js_count (g : GG a r n) (hL : (L : Int) ≤ 3072) (i0 : 0 ≤ i) (i1 : i + 6 ≤ L) (rec : Int32 → MS → Option Int32) : ∃ A r' n', GG A r' n' ∧ j_La_law_1518 L xs (some 0) (some 20) (some 50) (iz i) (VV a r n) rec = rec (iz (i + 6)) (VV A r' n') := by
  have g' := g
  obtain ⟨nr, nm, np, h, -⟩ := g'
  obtain ⟨y1, x1, b11, b12⟩ := sc_x (L := L) (xs := xs) (j := i + 1) (by omega) (by omega) hL
  obtain ⟨k, z, A1, A2, f1, f2, f3, f4, f5, f6⟩ := call_count g b11 b12
  refine ⟨A2, r, n, f6, ?_⟩
  unfold j_La_law_1518
  by_cases c : k = 0
  · have f4 := f4 c
    simp (disch := omega) only [lt__e, bnd_e, bnd2_e, bnd3_e, el0_l, el0_r, el1_l, el1_r, el2_l, el2_r, ↓reduceIte, not_true_eq_false, not_false_eq_true, reduceCtorEq, and_true, true_and, and_false, false_and, or_true, true_or, or_false, false_or, and_self, or_self, ite_true, ite_false, Int.cast_ofNat_Int, Nat.reduceEqDiff, Nat.reduceLT, Int.reduceAdd, Int.reduceSub, Int.reduceMul, Int.reduceNeg, Int.reduceLT, Int.reduceLE, Int.reduceEq, ilt_t, ilt_f, ile_t, ile_f, ieq_t, ieq_f, z_0, z_1, z_2, z_3, z_4, z_5, z_6, z_7, z_8, z_9, z_10, z_12, z_20, z_40, z_80, z_81, z_99, z_100, z_200, z_400, z_3240, z_20000, z_100000, iz_add, iz_sub, iz_mul, iz_neg, iz_nat, iz_lt, iz_le, iz_eq, iz_div, iz_ite, iz_c, md10, md100, izcb_0, izcb_1, isOut_0, isNoCell_0, isGr_0, within_e, isCell_e, np_p, VV_r, VV_n, V_50, m_thrown, rf_0 h, rf_20 h, rl_50 h, ra_50 h, x1, f1, f2, f3, f4, c]
  · simp (disch := omega) only [lt__e, bnd_e, bnd2_e, bnd3_e, el0_l, el0_r, el1_l, el1_r, el2_l, el2_r, ↓reduceIte, not_true_eq_false, not_false_eq_true, reduceCtorEq, and_true, true_and, and_false, false_and, or_true, true_or, or_false, false_or, and_self, or_self, ite_true, ite_false, Int.cast_ofNat_Int, Nat.reduceEqDiff, Nat.reduceLT, Int.reduceAdd, Int.reduceSub, Int.reduceMul, Int.reduceNeg, Int.reduceLT, Int.reduceLE, Int.reduceEq, ilt_t, ilt_f, ile_t, ile_f, ieq_t, ieq_f, z_0, z_1, z_2, z_3, z_4, z_5, z_6, z_7, z_8, z_9, z_10, z_12, z_20, z_40, z_80, z_81, z_99, z_100, z_200, z_400, z_3240, z_20000, z_100000, iz_add, iz_sub, iz_mul, iz_neg, iz_nat, iz_lt, iz_le, iz_eq, iz_div, iz_ite, iz_c, md10, md100, izcb_0, izcb_1, isOut_0, isNoCell_0, isGr_0, within_e, isCell_e, np_p, VV_r, VV_n, V_50, m_thrown, rf_0 h, rf_20 h, rl_50 h, ra_50 h, x1, f1, f2, f3]
theorem law_s (g : GG a r n) (hL : (L : Int) ≤ 3072) (i0 : 0 ≤ i) (i1 : i + 6 ≤ L) (rec : Int32 → MS → Option Int32) : ∃ A r' n', GG A r' n' ∧ b_La_law_23 L xs (some 0) (some 20) (some 50) (iz i) (VV a r n) rec = rec (iz (i + 6)) (VV A r' n') := by
  obtain ⟨y, x0, b1, b2⟩ := sc_x (L := L) (xs := xs) (j := i) i0 (by omega) hL
  have e1 : ¬ (Int32.ofNat L - (6 : Int32) < iz i) := by
    rw [iz_nat, z_6, iz_sub, iz_lt (by omega) (by omega) (by omega) (by omega)]; omega
  unfold b_La_law_23
  rw [if_neg e1, x0, bnd_e, lt__e]
  by_cases e_0 : iz y &&& (31 : Int32) = (0 : Int32)
  · rw [if_pos e_0]; exact js_tower g hL i0 i1 rec
  rw [if_neg e_0]
  by_cases e_1 : iz y &&& (31 : Int32) = (1 : Int32)
  · rw [if_pos e_1]; exact js_spot g hL i0 i1 rec
  rw [if_neg e_1]
  by_cases e_2 : iz y &&& (31 : Int32) = (2 : Int32)
  · rw [if_pos e_2]; exact js_wind g hL i0 i1 rec
  rw [if_neg e_2]
  by_cases e_3 : iz y &&& (31 : Int32) = (3 : Int32)
  · rw [if_pos e_3]; exact js_gust g hL i0 i1 rec
  rw [if_neg e_3]
  by_cases e_4 : iz y &&& (31 : Int32) = (4 : Int32)
  · rw [if_pos e_4]; exact js_close g hL i0 i1 rec
  rw [if_neg e_4]
  by_cases e_5 : iz y &&& (31 : Int32) = (5 : Int32)
  · rw [if_pos e_5]; exact js_open g hL i0 i1 rec
  rw [if_neg e_5]
  by_cases e_6 : iz y &&& (31 : Int32) = (6 : Int32)
  · rw [if_pos e_6]; exact js_machine g hL i0 i1 rec
  rw [if_neg e_6]
  by_cases e_7 : iz y &&& (31 : Int32) = (7 : Int32)
  · rw [if_pos e_7]; exact js_move g hL i0 i1 rec
  rw [if_neg e_7]
  by_cases e_8 : iz y &&& (31 : Int32) = (8 : Int32)
  · rw [if_pos e_8]; exact js_clear g hL i0 i1 rec
  rw [if_neg e_8]
  by_cases e_9 : iz y &&& (31 : Int32) = (9 : Int32)
  · rw [if_pos e_9]; exact js_takes g hL i0 i1 rec
  rw [if_neg e_9]
  by_cases e_10 : iz y &&& (31 : Int32) = (10 : Int32)
  · rw [if_pos e_10]; exact js_file g hL i0 i1 rec
  rw [if_neg e_10]
  by_cases e_11 : iz y &&& (31 : Int32) = (11 : Int32)
  · rw [if_pos e_11]; exact js_why g hL i0 i1 rec
  rw [if_neg e_11]
  by_cases e_12 : iz y &&& (31 : Int32) = (12 : Int32)
  · rw [if_pos e_12]; exact js_withdraw g hL i0 i1 rec
  rw [if_neg e_12]
  by_cases e_13 : iz y &&& (31 : Int32) = (13 : Int32)
  · rw [if_pos e_13]; exact js_tick g hL i0 i1 rec
  rw [if_neg e_13]
  by_cases e_14 : iz y &&& (31 : Int32) = (14 : Int32)
  · rw [if_pos e_14]; exact js_lose g hL i0 i1 rec
  rw [if_neg e_14]
  by_cases e_15 : iz y &&& (31 : Int32) = (15 : Int32)
  · rw [if_pos e_15]; exact js_hold g hL i0 i1 rec
  rw [if_neg e_15]
  by_cases e_16 : iz y &&& (31 : Int32) = (16 : Int32)
  · rw [if_pos e_16]; exact js_time g hL i0 i1 rec
  rw [if_neg e_16]
  by_cases e_17 : iz y &&& (31 : Int32) = (17 : Int32)
  · rw [if_pos e_17]; exact js_alerts g hL i0 i1 rec
  rw [if_neg e_17]
  by_cases e_18 : iz y &&& (31 : Int32) = (18 : Int32)
  · rw [if_pos e_18]; exact js_home g hL i0 i1 rec
  rw [if_neg e_18]
  by_cases e_19 : iz y &&& (31 : Int32) = (19 : Int32)
  · rw [if_pos e_19]; exact js_placeAt g hL i0 i1 rec
  rw [if_neg e_19]
  by_cases e_20 : iz y &&& (31 : Int32) = (20 : Int32)
  · rw [if_pos e_20]; exact js_meets g hL i0 i1 rec
  rw [if_neg e_20]
  by_cases e_21 : iz y &&& (31 : Int32) = (21 : Int32)
  · rw [if_pos e_21]; exact js_meetsAnew g hL i0 i1 rec
  rw [if_neg e_21]
  by_cases e_22 : iz y &&& (31 : Int32) = (22 : Int32)
  · rw [if_pos e_22]; exact js_ofMachine g hL i0 i1 rec
  rw [if_neg e_22]
  by_cases e_23 : iz y &&& (31 : Int32) = (23 : Int32)
  · rw [if_pos e_23]; exact js_ofPath g hL i0 i1 rec
  rw [if_neg e_23]
  by_cases e_24 : iz y &&& (31 : Int32) = (24 : Int32)
  · rw [if_pos e_24]; exact js_count g hL i0 i1 rec
  rw [if_neg e_24]
  refine ⟨a, r, n, g, ?_⟩
  simp (disch := omega) only [lt__e, bnd_e, bnd2_e, bnd3_e, el0_l, el0_r, el1_l, el1_r, el2_l, el2_r, ↓reduceIte, not_true_eq_false, not_false_eq_true, reduceCtorEq, and_true, true_and, and_false, false_and, or_true, true_or, or_false, false_or, and_self, or_self, ite_true, ite_false, Int.cast_ofNat_Int, Nat.reduceEqDiff, Nat.reduceLT, Int.reduceAdd, Int.reduceSub, Int.reduceMul, Int.reduceNeg, Int.reduceLT, Int.reduceLE, Int.reduceEq, ilt_t, ilt_f, ile_t, ile_f, ieq_t, ieq_f, z_0, z_1, z_2, z_3, z_4, z_5, z_6, z_7, z_8, z_9, z_10, z_12, z_20, z_40, z_80, z_81, z_99, z_100, z_200, z_400, z_3240, z_20000, z_100000, iz_add, iz_sub, iz_mul, iz_neg, iz_nat, iz_lt, iz_le, iz_eq, iz_div, iz_ite, iz_c, md10, md100, izcb_0, izcb_1, isOut_0, isNoCell_0, isGr_0, within_e, isCell_e, np_p]
theorem law_l (hL : (L : Int) ≤ 3072) : ∀ (N : Nat) (i : Int) (a : AT) (r : Nat → Nat → Option Nat) (n : Nat → Nat), GG a r n → 0 ≤ i → i ≤ L → (L : Int) < i + 6 * N → l_La_law_23 L xs (some 0) (some 20) (some 50) N (iz i) (VV a r n) = some 1 := by
  intro N
  induction N with
  | zero => intro i a r n g i0 i1 i2; exfalso; omega
  | succ N ih =>
    intro i a r n g i0 i1 i2
    show b_La_law_23 L xs (some 0) (some 20) (some 50) (iz i) (VV a r n) (l_La_law_23 L xs (some 0) (some 20) (some 50) N) = some 1
    by_cases c : i + 6 ≤ L
    · obtain ⟨A, r', n', g2, e⟩ := law_s (xs := xs) g hL i0 c (l_La_law_23 L xs (some 0) (some 20) (some 50) N)
      rw [e]
      exact ih (i + 6) A r' n' g2 (by omega) (by omega) (by omega)
    · unfold b_La_law_23
      rw [if_pos]
      rw [iz_nat, z_6, iz_sub, iz_lt (by omega) (by omega) (by omega) (by omega)]; omega
end LL
