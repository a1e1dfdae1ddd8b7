/-! calls of the law that change something, and what holds behind them -/
section J7
variable {a A : AT} {r : Nat → Nat → Option Nat} {n : Nat → Nat} {nr nm np k : Int}
theorem CI_city (hI : CI a nr nm np) (h1 : ∀ t, t < 14 → ¬ (1 ≤ t ∧ t ≤ 5) → A t = a t) (hC : CC A) (hns : 0 < nm → 0 < A 1 4 0) : CI A nr nm np := by
  obtain ⟨k1, k2, k3, k4, k5, k6, k7⟩ := hI
  have e0 := h1 0 (by omega) (by omega)
  have q : EqQ A a np := EqQ.of (h1 12 (by omega) (by omega)) (h1 13 (by omega) (by omega))
  refine ⟨⟨?_, ?_, hns⟩, hC, CD_c (by rw [e0]) (h1 9 (by omega) (by omega)) k3, CRm_c2 (h1 10 (by omega) (by omega)) k4, CMa_c (h1 11 (by omega) (by omega)) k5, CP_c q k6, CL_c (by rw [e0]) (h1 11 (by omega) (by omega)) q k5 k7 k6⟩
  · rw [e0]; exact k1.1
  · rw [e0]; exact k1.2.1
theorem Lw_tell {t : Nat} (ht : t = 4 ∨ t = 5) (hL : Lw a nr nm np k) {l v : Int} (l1 : 1 ≤ l ∧ l ≤ 3) (v1 : 0 ≤ v ∧ v ≤ 5) (hA : ∀ u, u ≠ t → A u = a u) (hv : ∀ j, A t j 0 = if j = l ∨ (l = 3 ∧ j = 4) then v else a t j 0) : Lw A nr nm np k := by
  have hL' := hL
  obtain ⟨hI, -⟩ := hL
  have hC := hI.2.1
  refine Lw_c (fun j _ => by rw [hA 0 (by omega)]) (hA 1 (by omega)) (hA 3 (by omega)) (hA 11 (by omega)) (hA 50 (by omega)) (hA 51 (by omega)) (EqQ.of (hA 12 (by omega)) (hA 13 (by omega))) (CI_city hI (fun u u1 u2 => hA u (by omega)) ?_ (by rw [hA 1 (by omega)]; exact hI.1.2.2)) hL'
  obtain ⟨c1, c2, c3, c4, c5, c6, c7, c8, c9⟩ := hC
  rcases ht with rfl | rfl
  · refine ⟨by rw [hA 1 (by omega)]; exact c1, by rw [hA 2 (by omega)]; exact c2, by rw [hA 1 (by omega), hA 3 (by omega)]; exact c3, fun j j1 j2 => ?_, by rw [hA 5 (by omega)]; exact c5, ?_, by rw [hA 5 (by omega)]; exact c7, ?_, by rw [hA 5 (by omega)]; exact c9⟩
    · have := c4 j j1 j2
      rw [hv]; split <;> omega
    · rw [hv, if_neg (by omega)]; exact c6
    · rw [hv, hv]
      by_cases e : l = 3
      · rw [if_pos (Or.inr ⟨e, rfl⟩), if_pos (Or.inl e.symm)]
      · rw [if_neg (by omega), if_neg (by omega)]; exact c8
  · refine ⟨by rw [hA 1 (by omega)]; exact c1, by rw [hA 2 (by omega)]; exact c2, by rw [hA 1 (by omega), hA 3 (by omega)]; exact c3, by rw [hA 4 (by omega)]; exact c4, fun j j1 j2 => ?_, by rw [hA 4 (by omega)]; exact c6, ?_, by rw [hA 4 (by omega)]; exact c8, ?_⟩
    · have := c5 j j1 j2
      rw [hv]; split <;> omega
    · rw [hv, if_neg (by omega)]; exact c7
    · rw [hv, hv]
      by_cases e : l = 3
      · rw [if_pos (Or.inr ⟨e, rfl⟩), if_pos (Or.inl e.symm)]
      · rw [if_neg (by omega), if_neg (by omega)]; exact c9
theorem tell_u (t : Nat) (l v : Int) : (∀ u, u ≠ t → (if l = 3 then up (up a t l 0 v) t 4 0 v else up a t l 0 v) u = a u) ∧ ∀ j, (if l = 3 then up (up a t l 0 v) t 4 0 v else up a t l 0 v) t j 0 = if j = l ∨ (l = 3 ∧ j = 4) then v else a t j 0 := by
  by_cases e : l = 3
  · rw [if_pos e]
    refine ⟨fun u hu => by rw [up_t hu, up_t hu], fun j => ?_⟩
    rw [up_s, up_s]
    by_cases c : j = 4
    · rw [if_pos ⟨c, rfl⟩, if_pos (Or.inr ⟨e, c⟩)]
    · rw [if_neg (by omega)]
      by_cases c2 : j = l
      · rw [if_pos ⟨c2, rfl⟩, if_pos (Or.inl c2)]
      · rw [if_neg (by omega), if_neg (by omega)]
  · rw [if_neg e]
    refine ⟨fun u hu => by rw [up_t hu], fun j => ?_⟩
    rw [up_s]
    by_cases c2 : j = l
    · rw [if_pos ⟨c2, rfl⟩, if_pos (Or.inl c2)]
    · rw [if_neg (by omega), if_neg (by omega)]
theorem k_wind (h : Sh r n nr nm np) (hL : Lw a nr nm np k) {l v : Int} (l1 : 1 ≤ l ∧ l ≤ 3) (v1 : 0 ≤ v ∧ v ≤ 3) : ∃ z A, f_La_wind (some 0) (iz l) (iz v) (VV a r n) = some (jz z, VV A r n) ∧ (0 ≤ z ∧ z ≤ 5) ∧ Lw A nr nm np k := by
  have hb := hL.1.2.1.2.2.2.1 l (by omega) (by omega)
  have e := c_tell (a := a) h (t := 4) (l := l) (v := v) (Or.inl rfl) (by omega) (by omega)
  obtain ⟨u1, u2⟩ := tell_u (a := a) 4 l v
  generalize hA : (if l = 3 then up (up a 4 l 0 v) 4 4 0 v else up a 4 l 0 v) = A at *
  refine ⟨a 4 l 0, A, ?_, hb, Lw_tell (Or.inl rfl) hL l1 (by omega) u1 u2⟩
  unfold f_La_wind f_Sk_wind
  simp (disch := omega) only [lt__e, bnd_e, bnd2_e, bnd3_e, el0_l, el0_r, el1_l, el1_r, el2_l, el2_r, ↓reduceIte, not_true_eq_false, not_false_eq_true, reduceCtorEq, and_true, true_and, and_false, false_and, or_true, true_or, or_false, false_or, and_self, or_self, ite_true, ite_false, Int.cast_ofNat_Int, Nat.reduceEqDiff, Nat.reduceLT, Int.reduceAdd, Int.reduceSub, Int.reduceMul, Int.reduceNeg, Int.reduceLT, Int.reduceLE, Int.reduceEq, ilt_t, ilt_f, ile_t, ile_f, ieq_t, ieq_f, z_0, z_1, z_2, z_3, z_4, z_5, z_6, z_7, z_8, z_9, z_10, z_12, z_20, z_40, z_80, z_81, z_99, z_100, z_200, z_400, z_3240, z_20000, z_100000, iz_add, iz_sub, iz_mul, iz_neg, iz_nat, iz_lt, iz_le, iz_eq, iz_div, iz_ite, iz_c, md10, md100, izcb_0, izcb_1, isOut_0, isNoCell_0, isGr_0, np_p, VV_r, VV_n, V_k, W_k, V_0, W_0, V_1, W_1, V_2, W_2, V_3, W_3, V_4, W_4, V_5, W_5, V_6, W_6, V_7, W_7, V_8, W_8, V_9, W_9, h.r0_0, h.r0_1, h.r0_2, h.r0_3, h.r0_4, h.r0_5, h.r1_0, h.r1_1, h.r1_2, h.r1_3, h.r12, rf_0 h, rf_1 h, rf_10 h, rf_11 h, rf_12 h, r6_i h, r6_o h, r7_i h, r7_o h, r8_i h, r8_o h, rl_13 h, ra_13 h, rl_2 h, ra_2 h, rl_3 h, ra_3 h, rl_4 h, ra_4 h, rl_5 h, ra_5 h, rl_6 h, ra_6 h, rl_7 h, ra_7 h, rl_8 h, ra_8 h, rl_9 h, ra_9 h, rl_50 h, ra_50 h, rl_51 h, ra_51 h, V_50, W_50, V_51, W_51, up_e, y_0, y_1, y_2, y_3, y_40, y_100, y_m1, y_m6, y_x1, y_x2, y_x3, z_m1, jz_neg, jz_add, jz_mul, jz_eq, jz_lt, jz_i, jz_l, jz_cmp, cmp_0, cmp_l, cmp_g, e]
theorem k_gust (h : Sh r n nr nm np) (hL : Lw a nr nm np k) {l v : Int} (l1 : 1 ≤ l ∧ l ≤ 3) (v1 : 0 ≤ v ∧ v ≤ 5) : ∃ z A, f_La_gust (some 0) (iz l) (iz v) (VV a r n) = some (jz z, VV A r n) ∧ (0 ≤ z ∧ z ≤ 5) ∧ Lw A nr nm np k := by
  have hb := hL.1.2.1.2.2.2.2.1 l (by omega) (by omega)
  have e := c_tell (a := a) h (t := 5) (l := l) (v := v) (Or.inr rfl) (by omega) (by omega)
  obtain ⟨u1, u2⟩ := tell_u (a := a) 5 l v
  generalize hA : (if l = 3 then up (up a 5 l 0 v) 5 4 0 v else up a 5 l 0 v) = A at *
  refine ⟨a 5 l 0, A, ?_, hb, Lw_tell (Or.inr rfl) hL l1 (by omega) u1 u2⟩
  unfold f_La_gust f_Sk_gust
  simp (disch := omega) only [lt__e, bnd_e, bnd2_e, bnd3_e, el0_l, el0_r, el1_l, el1_r, el2_l, el2_r, ↓reduceIte, not_true_eq_false, not_false_eq_true, reduceCtorEq, and_true, true_and, and_false, false_and, or_true, true_or, or_false, false_or, and_self, or_self, ite_true, ite_false, Int.cast_ofNat_Int, Nat.reduceEqDiff, Nat.reduceLT, Int.reduceAdd, Int.reduceSub, Int.reduceMul, Int.reduceNeg, Int.reduceLT, Int.reduceLE, Int.reduceEq, ilt_t, ilt_f, ile_t, ile_f, ieq_t, ieq_f, z_0, z_1, z_2, z_3, z_4, z_5, z_6, z_7, z_8, z_9, z_10, z_12, z_20, z_40, z_80, z_81, z_99, z_100, z_200, z_400, z_3240, z_20000, z_100000, iz_add, iz_sub, iz_mul, iz_neg, iz_nat, iz_lt, iz_le, iz_eq, iz_div, iz_ite, iz_c, md10, md100, izcb_0, izcb_1, isOut_0, isNoCell_0, isGr_0, np_p, VV_r, VV_n, V_k, W_k, V_0, W_0, V_1, W_1, V_2, W_2, V_3, W_3, V_4, W_4, V_5, W_5, V_6, W_6, V_7, W_7, V_8, W_8, V_9, W_9, h.r0_0, h.r0_1, h.r0_2, h.r0_3, h.r0_4, h.r0_5, h.r1_0, h.r1_1, h.r1_2, h.r1_3, h.r12, rf_0 h, rf_1 h, rf_10 h, rf_11 h, rf_12 h, r6_i h, r6_o h, r7_i h, r7_o h, r8_i h, r8_o h, rl_13 h, ra_13 h, rl_2 h, ra_2 h, rl_3 h, ra_3 h, rl_4 h, ra_4 h, rl_5 h, ra_5 h, rl_6 h, ra_6 h, rl_7 h, ra_7 h, rl_8 h, ra_8 h, rl_9 h, ra_9 h, rl_50 h, ra_50 h, rl_51 h, ra_51 h, V_50, W_50, V_51, W_51, up_e, y_0, y_1, y_2, y_3, y_40, y_100, y_m1, y_m6, y_x1, y_x2, y_x3, z_m1, jz_neg, jz_add, jz_mul, jz_eq, jz_lt, jz_i, jz_l, jz_cmp, cmp_0, cmp_l, cmp_g, e]
/-! the draft -/
def DrO (A a : AT) : Prop := (∀ t, t ≠ 0 → t ≠ 9 → A t = a t) ∧ (∀ j, j ≠ 9 → A 0 j 0 = a 0 j 0) ∧ CD A
theorem DrO.tr {B : AT} (h1 : DrO B A) (h2 : DrO A a) : DrO B a := ⟨fun t t1 t2 => by rw [h1.1 t t1 t2, h2.1 t t1 t2], fun j j1 => by rw [h1.2.1 j j1, h2.2.1 j j1], h1.2.2⟩
theorem DrO.w (h : DrO A a) (hL : Lw a nr nm np k) : Lw A nr nm np k := by
  have hL' := hL
  obtain ⟨⟨k1, k2, k3, k4, k5, k6, k7⟩, -⟩ := hL
  obtain ⟨h1, h2, h3⟩ := h
  have q : EqQ A a np := EqQ.of (h1 12 (by omega) (by omega)) (h1 13 (by omega) (by omega))
  exact Lw_c (fun j j1 => h2 j (by omega)) (h1 1 (by omega) (by omega)) (h1 3 (by omega) (by omega)) (h1 11 (by omega) (by omega)) (h1 50 (by omega) (by omega)) (h1 51 (by omega) (by omega)) q ⟨CN_c (fun j j1 => h2 j (by omega)) (h1 1 (by omega) (by omega)) k1, CC_c (fun t t1 t2 => h1 t (by omega) (by omega)) k2, h3, CRm_c2 (h1 10 (by omega) (by omega)) k4, CMa_c (h1 11 (by omega) (by omega)) k5, CP_c q k6, CL_c (h2 10 (by omega)) (h1 11 (by omega) (by omega)) q k5 k7 k6⟩ hL'
theorem k_clear : f_Sk_clear 0 (VV a r n) = some (iz (a 0 9 0), VV (up a 0 9 0 0) r n) := by
  unfold f_Sk_clear
  simp (disch := omega) only [lt__e, bnd_e, bnd2_e, bnd3_e, el0_l, el0_r, el1_l, el1_r, el2_l, el2_r, ↓reduceIte, not_true_eq_false, not_false_eq_true, reduceCtorEq, and_true, true_and, and_false, false_and, or_true, true_or, or_false, false_or, and_self, or_self, ite_true, ite_false, Int.cast_ofNat_Int, Nat.reduceEqDiff, Nat.reduceLT, Int.reduceAdd, Int.reduceSub, Int.reduceMul, Int.reduceNeg, Int.reduceLT, Int.reduceLE, Int.reduceEq, ilt_t, ilt_f, ile_t, ile_f, ieq_t, ieq_f, z_0, z_1, z_2, z_3, z_4, z_5, z_6, z_7, z_8, z_9, z_10, z_12, z_20, z_40, z_80, z_81, z_99, z_100, z_200, z_400, z_3240, z_20000, z_100000, iz_add, iz_sub, iz_mul, iz_neg, iz_nat, iz_lt, iz_le, iz_eq, iz_div, iz_ite, iz_c, md10, md100, izcb_0, izcb_1, isOut_0, isNoCell_0, isGr_0, np_p, VV_r, VV_n, V_k, W_k, V_0, W_0, V_1, W_1, V_2, W_2, V_3, W_3, V_4, W_4, V_5, W_5, V_6, W_6, V_7, W_7, V_8, W_8, V_9, W_9]
theorem DrO_clear : DrO (up a 0 9 0 0) a := ⟨fun t t1 _ => up_t t1, fun j j1 => by rw [up_s, if_neg (by omega)], by rw [up_s, if_pos ⟨rfl, rfl⟩]; omega, fun k k1 k2 => by rw [up_s, if_pos ⟨rfl, rfl⟩] at k2; omega⟩
theorem DrO_refl (hD : CD a) : DrO a a := ⟨fun _ _ _ => rfl, fun _ _ => rfl, hD⟩
theorem k_move (h : Sh r n nr nm np) (hD : CD a) (v t : Int32) : ∃ z A, f_La_move (some 0) v t (VV a r n) = some (z, VV A r n) ∧ DrO A a := by
  obtain ⟨v', rfl, q01, q02⟩ := iz_ex v
  obtain ⟨t', rfl, q11, q12⟩ := iz_ex t
  have hds := hD.1
  by_cases c1 : 0 ≤ v' ∧ v' ≤ 6
  · by_cases c2 : 1 ≤ t' ∧ t' ≤ 10
    · by_cases c3 : a 0 9 0 + t' ≤ 40
      · obtain ⟨A, d1, d2, d3, d4, d5, d6⟩ := c_move_l (a := a) h (d := a 0 9 0) (mv := v') (ti := t') rfl hds.1 (by omega) c3
        refine ⟨jz (a 0 9 0 + t'), A, ?_, d5, d6, by omega, fun k k1 k2 => ?_⟩
        · unfold f_La_move f_Sk_move
          simp (disch := omega) only [lt__e, bnd_e, bnd2_e, bnd3_e, el0_l, el0_r, el1_l, el1_r, el2_l, el2_r, ↓reduceIte, not_true_eq_false, not_false_eq_true, reduceCtorEq, and_true, true_and, and_false, false_and, or_true, true_or, or_false, false_or, and_self, or_self, ite_true, ite_false, Int.cast_ofNat_Int, Nat.reduceEqDiff, Nat.reduceLT, Int.reduceAdd, Int.reduceSub, Int.reduceMul, Int.reduceNeg, Int.reduceLT, Int.reduceLE, Int.reduceEq, ilt_t, ilt_f, ile_t, ile_f, ieq_t, ieq_f, z_0, z_1, z_2, z_3, z_4, z_5, z_6, z_7, z_8, z_9, z_10, z_12, z_20, z_40, z_80, z_81, z_99, z_100, z_200, z_400, z_3240, z_20000, z_100000, iz_add, iz_sub, iz_mul, iz_neg, iz_nat, iz_lt, iz_le, iz_eq, iz_div, iz_ite, iz_c, md10, md100, izcb_0, izcb_1, isOut_0, isNoCell_0, isGr_0, np_p, VV_r, VV_n, V_k, W_k, V_0, W_0, V_1, W_1, V_2, W_2, V_3, W_3, V_4, W_4, V_5, W_5, V_6, W_6, V_7, W_7, V_8, W_8, V_9, W_9, h.r0_0, h.r0_1, h.r0_2, h.r0_3, h.r0_4, h.r0_5, h.r1_0, h.r1_1, h.r1_2, h.r1_3, h.r12, rf_0 h, rf_1 h, rf_10 h, rf_11 h, rf_12 h, r6_i h, r6_o h, r7_i h, r7_o h, r8_i h, r8_o h, rl_13 h, ra_13 h, rl_2 h, ra_2 h, rl_3 h, ra_3 h, rl_4 h, ra_4 h, rl_5 h, ra_5 h, rl_6 h, ra_6 h, rl_7 h, ra_7 h, rl_8 h, ra_8 h, rl_9 h, ra_9 h, rl_50 h, ra_50 h, rl_51 h, ra_51 h, V_50, W_50, V_51, W_51, up_e, y_0, y_1, y_2, y_3, y_40, y_100, y_m1, y_m6, y_x1, y_x2, y_x3, z_m1, jz_neg, jz_add, jz_mul, jz_eq, jz_lt, jz_i, jz_l, jz_cmp, cmp_0, cmp_l, cmp_g, d1, d2]
        · by_cases e : k < a 0 9 0
          · rw [d4 k e]; exact hD.2 k k1 e
          · rw [d3 k (by omega) (by omega)]; exact c1
      · refine ⟨jz (-9000000000000000003), a, ?_, DrO_refl hD⟩
        unfold f_La_move f_Sk_move
        simp (disch := omega) only [lt__e, bnd_e, bnd2_e, bnd3_e, el0_l, el0_r, el1_l, el1_r, el2_l, el2_r, ↓reduceIte, not_true_eq_false, not_false_eq_true, reduceCtorEq, and_true, true_and, and_false, false_and, or_true, true_or, or_false, false_or, and_self, or_self, ite_true, ite_false, Int.cast_ofNat_Int, Nat.reduceEqDiff, Nat.reduceLT, Int.reduceAdd, Int.reduceSub, Int.reduceMul, Int.reduceNeg, Int.reduceLT, Int.reduceLE, Int.reduceEq, ilt_t, ilt_f, ile_t, ile_f, ieq_t, ieq_f, z_0, z_1, z_2, z_3, z_4, z_5, z_6, z_7, z_8, z_9, z_10, z_12, z_20, z_40, z_80, z_81, z_99, z_100, z_200, z_400, z_3240, z_20000, z_100000, iz_add, iz_sub, iz_mul, iz_neg, iz_nat, iz_lt, iz_le, iz_eq, iz_div, iz_ite, iz_c, md10, md100, izcb_0, izcb_1, isOut_0, isNoCell_0, isGr_0, np_p, VV_r, VV_n, V_k, W_k, V_0, W_0, V_1, W_1, V_2, W_2, V_3, W_3, V_4, W_4, V_5, W_5, V_6, W_6, V_7, W_7, V_8, W_8, V_9, W_9, h.r0_0, h.r0_1, h.r0_2, h.r0_3, h.r0_4, h.r0_5, h.r1_0, h.r1_1, h.r1_2, h.r1_3, h.r12, rf_0 h, rf_1 h, rf_10 h, rf_11 h, rf_12 h, r6_i h, r6_o h, r7_i h, r7_o h, r8_i h, r8_o h, rl_13 h, ra_13 h, rl_2 h, ra_2 h, rl_3 h, ra_3 h, rl_4 h, ra_4 h, rl_5 h, ra_5 h, rl_6 h, ra_6 h, rl_7 h, ra_7 h, rl_8 h, ra_8 h, rl_9 h, ra_9 h, rl_50 h, ra_50 h, rl_51 h, ra_51 h, V_50, W_50, V_51, W_51, up_e, y_0, y_1, y_2, y_3, y_40, y_100, y_m1, y_m6, y_x1, y_x2, y_x3, z_m1, jz_neg, jz_add, jz_mul, jz_eq, jz_lt, jz_i, jz_l, jz_cmp, cmp_0, cmp_l, cmp_g]
    · refine ⟨jz (-9000000000000000002), a, ?_, DrO_refl hD⟩
      unfold f_La_move f_Sk_move
      simp (disch := omega) only [lt__e, bnd_e, bnd2_e, bnd3_e, el0_l, el0_r, el1_l, el1_r, el2_l, el2_r, ↓reduceIte, not_true_eq_false, not_false_eq_true, reduceCtorEq, and_true, true_and, and_false, false_and, or_true, true_or, or_false, false_or, and_self, or_self, ite_true, ite_false, Int.cast_ofNat_Int, Nat.reduceEqDiff, Nat.reduceLT, Int.reduceAdd, Int.reduceSub, Int.reduceMul, Int.reduceNeg, Int.reduceLT, Int.reduceLE, Int.reduceEq, ilt_t, ilt_f, ile_t, ile_f, ieq_t, ieq_f, z_0, z_1, z_2, z_3, z_4, z_5, z_6, z_7, z_8, z_9, z_10, z_12, z_20, z_40, z_80, z_81, z_99, z_100, z_200, z_400, z_3240, z_20000, z_100000, iz_add, iz_sub, iz_mul, iz_neg, iz_nat, iz_lt, iz_le, iz_eq, iz_div, iz_ite, iz_c, md10, md100, izcb_0, izcb_1, isOut_0, isNoCell_0, isGr_0, np_p, VV_r, VV_n, V_k, W_k, V_0, W_0, V_1, W_1, V_2, W_2, V_3, W_3, V_4, W_4, V_5, W_5, V_6, W_6, V_7, W_7, V_8, W_8, V_9, W_9, h.r0_0, h.r0_1, h.r0_2, h.r0_3, h.r0_4, h.r0_5, h.r1_0, h.r1_1, h.r1_2, h.r1_3, h.r12, rf_0 h, rf_1 h, rf_10 h, rf_11 h, rf_12 h, r6_i h, r6_o h, r7_i h, r7_o h, r8_i h, r8_o h, rl_13 h, ra_13 h, rl_2 h, ra_2 h, rl_3 h, ra_3 h, rl_4 h, ra_4 h, rl_5 h, ra_5 h, rl_6 h, ra_6 h, rl_7 h, ra_7 h, rl_8 h, ra_8 h, rl_9 h, ra_9 h, rl_50 h, ra_50 h, rl_51 h, ra_51 h, V_50, W_50, V_51, W_51, up_e, y_0, y_1, y_2, y_3, y_40, y_100, y_m1, y_m6, y_x1, y_x2, y_x3, z_m1, jz_neg, jz_add, jz_mul, jz_eq, jz_lt, jz_i, jz_l, jz_cmp, cmp_0, cmp_l, cmp_g, c1, c2]
  · refine ⟨jz (-9000000000000000002), a, ?_, DrO_refl hD⟩
    unfold f_La_move f_Sk_move
    simp (disch := omega) only [lt__e, bnd_e, bnd2_e, bnd3_e, el0_l, el0_r, el1_l, el1_r, el2_l, el2_r, ↓reduceIte, not_true_eq_false, not_false_eq_true, reduceCtorEq, and_true, true_and, and_false, false_and, or_true, true_or, or_false, false_or, and_self, or_self, ite_true, ite_false, Int.cast_ofNat_Int, Nat.reduceEqDiff, Nat.reduceLT, Int.reduceAdd, Int.reduceSub, Int.reduceMul, Int.reduceNeg, Int.reduceLT, Int.reduceLE, Int.reduceEq, ilt_t, ilt_f, ile_t, ile_f, ieq_t, ieq_f, z_0, z_1, z_2, z_3, z_4, z_5, z_6, z_7, z_8, z_9, z_10, z_12, z_20, z_40, z_80, z_81, z_99, z_100, z_200, z_400, z_3240, z_20000, z_100000, iz_add, iz_sub, iz_mul, iz_neg, iz_nat, iz_lt, iz_le, iz_eq, iz_div, iz_ite, iz_c, md10, md100, izcb_0, izcb_1, isOut_0, isNoCell_0, isGr_0, np_p, VV_r, VV_n, V_k, W_k, V_0, W_0, V_1, W_1, V_2, W_2, V_3, W_3, V_4, W_4, V_5, W_5, V_6, W_6, V_7, W_7, V_8, W_8, V_9, W_9, h.r0_0, h.r0_1, h.r0_2, h.r0_3, h.r0_4, h.r0_5, h.r1_0, h.r1_1, h.r1_2, h.r1_3, h.r12, rf_0 h, rf_1 h, rf_10 h, rf_11 h, rf_12 h, r6_i h, r6_o h, r7_i h, r7_o h, r8_i h, r8_o h, rl_13 h, ra_13 h, rl_2 h, ra_2 h, rl_3 h, ra_3 h, rl_4 h, ra_4 h, rl_5 h, ra_5 h, rl_6 h, ra_6 h, rl_7 h, ra_7 h, rl_8 h, ra_8 h, rl_9 h, ra_9 h, rl_50 h, ra_50 h, rl_51 h, ra_51 h, V_50, W_50, V_51, W_51, up_e, y_0, y_1, y_2, y_3, y_40, y_100, y_m1, y_m6, y_x1, y_x2, y_x3, z_m1, jz_neg, jz_add, jz_mul, jz_eq, jz_lt, jz_i, jz_l, jz_cmp, cmp_0, cmp_l, cmp_g, c1]
theorem d_149 (h : Sh r n nr nm np) (hD : CD a) (t0 t1 : Int32) : ∃ A, j_La_drafts_149 t0 t1 (some 0) (VV a r n) = some (VV A r n) ∧ DrO A a := by
  obtain ⟨z, A, e, hA⟩ := k_move h hD t1 t0
  refine ⟨A, ?_, hA⟩
  unfold j_La_drafts_149
  rw [e, bnd2_e]
theorem d_130 (h : Sh r n nr nm np) (hD : CD a) (x3 x4 : Int32) : ∃ A, j_La_drafts_130 (some 0) x3 x4 (VV a r n) = some (VV A r n) ∧ DrO A a := by
  unfold j_La_drafts_130
  split
  · exact d_149 h hD _ _
  · exact d_149 h hD _ _
theorem d_126 (h : Sh r n nr nm np) (hD : CD a) (x3 x4 x5 x6 : Int32) : ∃ A, j_La_drafts_126 (some 0) x3 x4 x5 x6 (some 0) (VV a r n) = some (VV A r n) ∧ DrO A a := by
  obtain ⟨z, A, e, hA⟩ := k_move h hD x6 x5
  obtain ⟨B, e2, hB⟩ := d_130 (a := A) h hA.2.2 x3 x4
  refine ⟨B, ?_, hB.tr hA⟩
  unfold j_La_drafts_126
  rw [VV_n, rf_0 h, bnd_e, e, bnd2_e, e2]
theorem d_97 (h : Sh r n nr nm np) (hD : CD a) (x3 x4 x6 : Int32) : ∃ A, j_La_drafts_97 (some 0) x3 x4 x6 (VV a r n) = some (VV A r n) ∧ DrO A a := by
  unfold j_La_drafts_97 j_La_drafts_113
  split
  · exact d_130 h hD _ _
  · split
    · exact d_126 h hD _ _ _ _
    · exact d_126 h hD _ _ _ _
theorem d_75 (h : Sh r n nr nm np) (hD : CD a) (x3 x4 x6 : Int32) : ∃ A, j_La_drafts_75 (some 0) x3 x4 x6 (VV a r n) = some (VV A r n) ∧ DrO A a := by
  unfold j_La_drafts_75
  split
  · obtain ⟨z, A, e, hA⟩ := k_move h hD (0 : Int32) ((1 : Int32) + ((x3 / (16 : Int32)) - (x3 / (16 : Int32)) / (4 : Int32) * (4 : Int32)))
    obtain ⟨B, e2, hB⟩ := d_97 (a := A) h hA.2.2 x3 x4 x6
    refine ⟨B, ?_, hB.tr hA⟩
    rw [VV_n, rf_0 h, bnd_e, e, bnd2_e, e2]
  · exact d_97 h hD _ _ _
theorem d_71 (h : Sh r n nr nm np) (hD : CD a) (x3 x4 x6 t0 t1 : Int32) : ∃ A, j_La_drafts_71 (some 0) x3 x4 x6 t0 t1 (some 0) (VV a r n) = some (VV A r n) ∧ DrO A a := by
  obtain ⟨z, A, e, hA⟩ := k_move h hD t1 t0
  obtain ⟨B, e2, hB⟩ := d_75 (a := A) h hA.2.2 x3 x4 x6
  refine ⟨B, ?_, hB.tr hA⟩
  unfold j_La_drafts_71
  rw [VV_n, rf_0 h, bnd_e, e, bnd2_e, e2]
theorem d_58 (h : Sh r n nr nm np) (hD : CD a) (x3 x4 x5 x6 t0 : Int32) : ∃ A, j_La_drafts_58 (some 0) x3 x4 x5 x6 t0 (some 0) (VV a r n) = some (VV A r n) ∧ DrO A a := by
  unfold j_La_drafts_58
  split
  · exact d_71 h hD _ _ _ _ _
  · exact d_71 h hD _ _ _ _ _
theorem k_drafts (h : Sh r n nr nm np) (x1 x2 x3 : Int32) : ∃ A, f_La_drafts (some 0) x1 x2 x3 (VV a r n) = some (VV A r n) ∧ DrO A a := by
  have h0 : DrO (up a 0 9 0 0) a := DrO_clear
  unfold f_La_drafts
  simp only [lt__e]
  rw [VV_n, rf_0 h, bnd_e, k_clear, bnd2_e]
  obtain ⟨z, A, e, hA⟩ := k_move (a := up a 0 9 0 0) h h0.2.2 (5 : Int32) ((1 : Int32) + (x3 - x3 / (3 : Int32) * (3 : Int32)))
  rw [e, bnd2_e]
  have key : ∀ y, (∃ B, y = some (VV B r n) ∧ DrO B A) → ∃ B, y = some (VV B r n) ∧ DrO B a := fun y ⟨B, b1, b2⟩ => ⟨B, b1, b2.tr (hA.tr h0)⟩
  refine key _ ?_
  split
  · exact d_75 h hA.2.2 _ _ _
  · split
    · exact d_58 h hA.2.2 _ _ _ _ _
    · exact d_58 h hA.2.2 _ _ _ _ _
/-! rooms are opened -/
theorem k_open (h : Sh r n nr nm np) (hL : Lw a nr nm np k) {x : Int} (x1 : 0 ≤ x) (x2 : x < nr) : ∃ z A, f_La_open (some 0) (iz x) (VV a r n) = some (jz z, VV A r n) ∧ (z = 0 ∨ z = -9000000000000000003) ∧ Lw A nr nm np k := by
  have hb := h.b
  have hI := hL.1
  have hR := hI.2.2.2.1
  have hr := hR x x1 x2
  by_cases c2 : a 10 7 x = 0
  · have e : ∀ t, t ≠ 10 → up a 10 7 x 1 t = a t := fun t t1 => up_t t1
    refine ⟨0, up a 10 7 x 1, ?_, Or.inl rfl, ?_⟩
    · unfold f_La_open f_Sk_open
      simp (disch := omega) only [lt__e, bnd_e, bnd2_e, bnd3_e, el0_l, el0_r, el1_l, el1_r, el2_l, el2_r, ↓reduceIte, not_true_eq_false, not_false_eq_true, reduceCtorEq, and_true, true_and, and_false, false_and, or_true, true_or, or_false, false_or, and_self, or_self, ite_true, ite_false, Int.cast_ofNat_Int, Nat.reduceEqDiff, Nat.reduceLT, Int.reduceAdd, Int.reduceSub, Int.reduceMul, Int.reduceNeg, Int.reduceLT, Int.reduceLE, Int.reduceEq, ilt_t, ilt_f, ile_t, ile_f, ieq_t, ieq_f, z_0, z_1, z_2, z_3, z_4, z_5, z_6, z_7, z_8, z_9, z_10, z_12, z_20, z_40, z_80, z_81, z_99, z_100, z_200, z_400, z_3240, z_20000, z_100000, iz_add, iz_sub, iz_mul, iz_neg, iz_nat, iz_lt, iz_le, iz_eq, iz_div, iz_ite, iz_c, md10, md100, izcb_0, izcb_1, isOut_0, isNoCell_0, isGr_0, np_p, VV_r, VV_n, V_k, W_k, V_0, W_0, V_1, W_1, V_2, W_2, V_3, W_3, V_4, W_4, V_5, W_5, V_6, W_6, V_7, W_7, V_8, W_8, V_9, W_9, h.r0_0, h.r0_1, h.r0_2, h.r0_3, h.r0_4, h.r0_5, h.r1_0, h.r1_1, h.r1_2, h.r1_3, h.r12, rf_0 h, rf_1 h, rf_10 h, rf_11 h, rf_12 h, r6_i h, r6_o h, r7_i h, r7_o h, r8_i h, r8_o h, rl_13 h, ra_13 h, rl_2 h, ra_2 h, rl_3 h, ra_3 h, rl_4 h, ra_4 h, rl_5 h, ra_5 h, rl_6 h, ra_6 h, rl_7 h, ra_7 h, rl_8 h, ra_8 h, rl_9 h, ra_9 h, rl_50 h, ra_50 h, rl_51 h, ra_51 h, V_50, W_50, V_51, W_51, up_e, y_0, y_1, y_2, y_3, y_40, y_100, y_m1, y_m6, y_x1, y_x2, y_x3, z_m1, jz_neg, jz_add, jz_mul, jz_eq, jz_lt, jz_i, jz_l, jz_cmp, cmp_0, cmp_l, cmp_g, c_roomOf_i h, c2]
    · obtain ⟨k1, k2, k3, k4, k5, k6, k7⟩ := hI
      have q : EqQ (up a 10 7 x 1) a np := EqQ.of (e 12 (by omega)) (e 13 (by omega))
      refine Lw_c (fun j _ => by rw [e 0 (by omega)]) (e 1 (by omega)) (e 3 (by omega)) (e 11 (by omega)) (e 50 (by omega)) (e 51 (by omega)) q ⟨CN_c (fun j _ => by rw [e 0 (by omega)]) (e 1 (by omega)) k1, CC_c (fun t t1 t2 => e t (by omega)) k2, CD_c (by rw [e 0 (by omega)]) (e 9 (by omega)) k3, fun i i1 i2 => ?_, CMa_c (e 11 (by omega)) k5, CP_c q k6, CL_c (by rw [e 0 (by omega)]) (e 11 (by omega)) q k5 k7 k6⟩ hL
      have := hR i i1 i2
      by_cases ei : i = x
      · simp (disch := omega) only [up_e, lt__e, bnd_e, bnd2_e, bnd3_e, el0_l, el0_r, el1_l, el1_r, el2_l, el2_r, ↓reduceIte, not_true_eq_false, not_false_eq_true, reduceCtorEq, and_true, true_and, and_false, false_and, or_true, true_or, or_false, false_or, and_self, or_self, ite_true, ite_false, Int.cast_ofNat_Int, Nat.reduceEqDiff, Nat.reduceLT, Int.reduceAdd, Int.reduceSub, Int.reduceMul, Int.reduceNeg, Int.reduceLT, Int.reduceLE, Int.reduceEq, ilt_t, ilt_f, ile_t, ile_f, ieq_t, ieq_f] <;> omega
      · simp (disch := omega) only [up_e, lt__e, bnd_e, bnd2_e, bnd3_e, el0_l, el0_r, el1_l, el1_r, el2_l, el2_r, ↓reduceIte, not_true_eq_false, not_false_eq_true, reduceCtorEq, and_true, true_and, and_false, false_and, or_true, true_or, or_false, false_or, and_self, or_self, ite_true, ite_false, Int.cast_ofNat_Int, Nat.reduceEqDiff, Nat.reduceLT, Int.reduceAdd, Int.reduceSub, Int.reduceMul, Int.reduceNeg, Int.reduceLT, Int.reduceLE, Int.reduceEq, ilt_t, ilt_f, ile_t, ile_f, ieq_t, ieq_f] <;> first | omega | exact this
  · refine ⟨-9000000000000000003, a, ?_, Or.inr rfl, hL⟩
    unfold f_La_open f_Sk_open
    simp (disch := omega) only [lt__e, bnd_e, bnd2_e, bnd3_e, el0_l, el0_r, el1_l, el1_r, el2_l, el2_r, ↓reduceIte, not_true_eq_false, not_false_eq_true, reduceCtorEq, and_true, true_and, and_false, false_and, or_true, true_or, or_false, false_or, and_self, or_self, ite_true, ite_false, Int.cast_ofNat_Int, Nat.reduceEqDiff, Nat.reduceLT, Int.reduceAdd, Int.reduceSub, Int.reduceMul, Int.reduceNeg, Int.reduceLT, Int.reduceLE, Int.reduceEq, ilt_t, ilt_f, ile_t, ile_f, ieq_t, ieq_f, z_0, z_1, z_2, z_3, z_4, z_5, z_6, z_7, z_8, z_9, z_10, z_12, z_20, z_40, z_80, z_81, z_99, z_100, z_200, z_400, z_3240, z_20000, z_100000, iz_add, iz_sub, iz_mul, iz_neg, iz_nat, iz_lt, iz_le, iz_eq, iz_div, iz_ite, iz_c, md10, md100, izcb_0, izcb_1, isOut_0, isNoCell_0, isGr_0, np_p, VV_r, VV_n, V_k, W_k, V_0, W_0, V_1, W_1, V_2, W_2, V_3, W_3, V_4, W_4, V_5, W_5, V_6, W_6, V_7, W_7, V_8, W_8, V_9, W_9, h.r0_0, h.r0_1, h.r0_2, h.r0_3, h.r0_4, h.r0_5, h.r1_0, h.r1_1, h.r1_2, h.r1_3, h.r12, rf_0 h, rf_1 h, rf_10 h, rf_11 h, rf_12 h, r6_i h, r6_o h, r7_i h, r7_o h, r8_i h, r8_o h, rl_13 h, ra_13 h, rl_2 h, ra_2 h, rl_3 h, ra_3 h, rl_4 h, ra_4 h, rl_5 h, ra_5 h, rl_6 h, ra_6 h, rl_7 h, ra_7 h, rl_8 h, ra_8 h, rl_9 h, ra_9 h, rl_50 h, ra_50 h, rl_51 h, ra_51 h, V_50, W_50, V_51, W_51, up_e, y_0, y_1, y_2, y_3, y_40, y_100, y_m1, y_m6, y_x1, y_x2, y_x3, z_m1, jz_neg, jz_add, jz_mul, jz_eq, jz_lt, jz_i, jz_l, jz_cmp, cmp_0, cmp_l, cmp_g, c_roomOf_i h, c2]
/-! time passes -/
theorem k_tick (h : Sh r n nr nm np) (hL : Lw a nr nm np k) (hk : 0 ≤ k ∧ k < 40) {s : Int} (s1 : 1 ≤ s ∧ s ≤ 9) : ∃ A, f_La_tick (some 0) (iz s) (VV a r n) = some (jz (a 0 10 0 + s), VV A r n) ∧ Lw A nr nm np (k + 1) := by
  have hb := h.b
  obtain ⟨hI, hJ, hS, hA, h11, h10, h12⟩ := hL
  have hnow := hI.1.2.1
  have es : ((s.toNat : Nat) : Int) = s := by omega
  obtain ⟨u, u1, u2, u3, u4, u5⟩ := c_ticks h s (by omega) (4095 - s.toNat) s.toNat a 0 (by omega) (by omega) hI (by omega)
  have ef : s.toNat + 1 + (4095 - s.toNat) = 4096 := by omega
  rw [ef] at u1
  rw [es] at u4
  have hJu := CJ_ch hb.2.1 s.toNat a u u2 hJ
  obtain ⟨y1, y2, y3⟩ := Ch_k s.toNat a u u2
  refine ⟨u, ?_, u3, hJu, SPS_c (y3 1 (by omega) (by omega) (by omega)) (y3 3 (by omega) (by omega) (by omega)) hS, LA_c (y3 50 (by omega) (by omega) (by omega)) (y3 51 (by omega) (by omega) (by omega)) y2 hA, ?_, ?_, ?_⟩
  · unfold f_La_tick f_Sk_tick
    simp (disch := omega) only [z_50, lt__e, bnd_e, bnd2_e, bnd3_e, el0_l, el0_r, el1_l, el1_r, el2_l, el2_r, ↓reduceIte, not_true_eq_false, not_false_eq_true, reduceCtorEq, and_true, true_and, and_false, false_and, or_true, true_or, or_false, false_or, and_self, or_self, ite_true, ite_false, Int.cast_ofNat_Int, Nat.reduceEqDiff, Nat.reduceLT, Int.reduceAdd, Int.reduceSub, Int.reduceMul, Int.reduceNeg, Int.reduceLT, Int.reduceLE, Int.reduceEq, ilt_t, ilt_f, ile_t, ile_f, ieq_t, ieq_f, z_0, z_1, z_2, z_3, z_4, z_5, z_6, z_7, z_8, z_9, z_10, z_12, z_20, z_40, z_80, z_81, z_99, z_100, z_200, z_400, z_3240, z_20000, z_100000, iz_add, iz_sub, iz_mul, iz_neg, iz_nat, iz_lt, iz_le, iz_eq, iz_div, iz_ite, iz_c, md10, md100, izcb_0, izcb_1, isOut_0, isNoCell_0, isGr_0, np_p, VV_r, VV_n, V_k, W_k, V_0, W_0, V_1, W_1, V_2, W_2, V_3, W_3, V_4, W_4, V_5, W_5, V_6, W_6, V_7, W_7, V_8, W_8, V_9, W_9, h.r0_0, h.r0_1, h.r0_2, h.r0_3, h.r0_4, h.r0_5, h.r1_0, h.r1_1, h.r1_2, h.r1_3, h.r12, rf_0 h, rf_1 h, rf_10 h, rf_11 h, rf_12 h, r6_i h, r6_o h, r7_i h, r7_o h, r8_i h, r8_o h, rl_13 h, ra_13 h, rl_2 h, ra_2 h, rl_3 h, ra_3 h, rl_4 h, ra_4 h, rl_5 h, ra_5 h, rl_6 h, ra_6 h, rl_7 h, ra_7 h, rl_8 h, ra_8 h, rl_9 h, ra_9 h, rl_50 h, ra_50 h, rl_51 h, ra_51 h, V_50, W_50, V_51, W_51, up_e, y_0, y_1, y_2, y_3, y_40, y_100, y_m1, y_m6, y_x1, y_x2, y_x3, z_m1, jz_neg, jz_add, jz_mul, jz_eq, jz_lt, jz_i, jz_l, jz_cmp, cmp_0, cmp_l, cmp_g, u1, u4]
  · rw [y1 11 (by omega) (by omega)]; omega
  · rw [u4]; omega
  · rw [y1 12 (by omega) (by omega)]; exact h12
/-! alerts are of machines that there are -/
theorem shr_0 : ∀ v : Nat, v < 1024 → ∀ k : Nat, k ≤ 10 → v < 2 ^ k → (Int32.ofNat v >>> (iz k &&& (31 : Int32))) = iz 0 := by decide +kernel
theorem q_alerts (h : Sh r n nr nm np) (hI : CI a nr nm np) : ∃ x, f_Sk_alerts 0 (VV a r n) = some x ∧ (x >>> (iz nm &&& (31 : Int32))) = iz 0 := by
  have hb := h.b
  refine ⟨_, c_alerts h hI, ?_⟩
  obtain ⟨v, v1, v2, v3⟩ := bts_v (alr a nr nm) 10 (Nat.le_refl _)
  have hv : v < 2 ^ nm.toNat := by
    refine Nat.lt_pow_two_of_testBit v (fun i hi => ?_)
    by_cases c : i < 10
    · cases e : v.testBit i with
      | false => rfl
      | true =>
        have := ((v3 i c).1 e).2.1
        omega
    · exact Nat.testBit_lt_two_pow (Nat.lt_of_lt_of_le v1 (Nat.pow_le_pow_right (n := 2) (by omega) (show 10 ≤ i by omega)))
  have e := shr_0 v v1 nm.toNat (by omega) hv
  rw [show ((nm.toNat : Nat) : Int) = nm by omega] at e
  rw [v2]; exact e
end J7
