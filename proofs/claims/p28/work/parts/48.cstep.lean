/-! a step of time in the class: charging, beginning, moving -/
section C16
variable {a u v s x : AT} {r : Nat → Nat → Option Nat} {n : Nat → Nat} {nr nm np : Int} {B P S Q Z : Int → Int}
theorem CI.own (hI : CI a nr nm np) : ∀ p, 0 ≤ p → p < np → 0 ≤ a 12 2 p ∧ a 12 2 p < nm := fun p p1 p2 => (hI.2.2.2.2.2.1 p p1 p2).2.2.2.2.1
theorem c_charge (h : Sh r n nr nm np) (hI : CI a nr nm np) : ∃ u, f_Sk_chargeParked 0 (VV (up a 0 10 0 (a 0 10 0 + 1)) r n) = some (VV u r n) ∧ CS u a nm np (tB1 a) (a 11 3) (a 11 4) (a 11 5) (a 12 6) ∧ u 0 13 0 = a 0 13 0 := by
  have hb := h.b
  have hMa := hI.2.2.2.2.1
  have key := loopC (r := r) (n := n) (L := fun n' i u => l_Sk_chargeParked_10 0 (some 7) (iz 10) n' (iz i) (VV u r n)) (kx := fun _ => a 0 13 0) (s := up a 0 10 0 (a 0 10 0 + 1)) (a := a) (B := a 11 2) (P := a 11 3) (S := a 11 4) (Q := a 11 5) (Z := a 12 6) (B' := tB1 a) (P' := a 11 3) (S' := a 11 4) (Q' := a 11 5) (Z' := a 12 6) hb.2.1 hI.own
    ⟨fun t t1 t2 t3 => up_t t1, fun j j1 j2 => by rw [up_s, if_neg (by omega)], by rw [up_s, if_pos ⟨rfl, rfl⟩], fun m m1 m2 => by rw [up_t (by omega)]; exact ⟨rfl, rfl, rfl, rfl, rfl, rfl, rfl⟩, fun j p j1 => by rw [up_t (by omega)], fun p p1 p2 => by rw [up_t (by omega)]⟩
    (by rw [up_s, if_neg (by omega)]) ?_ (fun _ _ _ => rfl) ?_ ?_
  · obtain ⟨u, k1, k2, k3⟩ := key
    refine ⟨u, ?_, k2, k3⟩
    unfold f_Sk_chargeParked
    simp (disch := omega) only [lt__e, bnd_e, bnd2_e, bnd3_e, el0_l, el0_r, el1_l, el1_r, el2_l, el2_r, ↓reduceIte, not_true_eq_false, not_false_eq_true, reduceCtorEq, and_true, true_and, and_false, false_and, or_true, true_or, or_false, false_or, and_self, or_self, ite_true, ite_false, Int.cast_ofNat_Int, Nat.reduceEqDiff, Nat.reduceLT, Int.reduceAdd, Int.reduceSub, Int.reduceMul, Int.reduceNeg, Int.reduceLT, Int.reduceLE, Int.reduceEq, ilt_t, ilt_f, ile_t, ile_f, ieq_t, ieq_f, z_0, z_1, z_2, z_3, z_4, z_5, z_6, z_7, z_8, z_9, z_10, z_12, z_20, z_40, z_80, z_81, z_99, z_100, z_200, z_400, z_3240, z_20000, z_100000, iz_add, iz_sub, iz_mul, iz_neg, iz_nat, iz_lt, iz_le, iz_eq, iz_div, iz_ite, iz_c, md10, md100, izcb_0, izcb_1, isOut_0, isNoCell_0, isGr_0, np_p, VV_r, VV_n, V_k, W_k, V_0, W_0, V_1, W_1, V_2, W_2, V_3, W_3, V_4, W_4, V_5, W_5, V_6, W_6, V_7, W_7, V_8, W_8, V_9, W_9, h.r0_0, h.r0_1, h.r0_2, h.r0_3, h.r0_4, h.r0_5, h.r1_0, h.r1_1, h.r1_2, h.r1_3, h.r12, rf_0 h, rf_1 h, rf_10 h, rf_11 h, rf_12 h, r6_i h, r6_o h, r7_i h, r7_o h, r8_i h, r8_o h, rl_13 h, ra_13 h, rl_2 h, ra_2 h, rl_3 h, ra_3 h, rl_4 h, ra_4 h, rl_5 h, ra_5 h, rl_6 h, ra_6 h, rl_7 h, ra_7 h, rl_8 h, ra_8 h, rl_9 h, ra_9 h, up_e, k1]
  · intro n' i u i1 i2 hu hk
    have y := hu.2.2.2.1 i i1 i2
    simp only [mx_i] at y
    obtain ⟨y0, y1, y2, y3, y4, y5, y6⟩ := y
    obtain ⟨w0, w1, w2, w3, w4, w5, w6⟩ := hMa i i1 i2
    have z := hu.2.2.2.2.2
    rw [mo_self] at z
    by_cases c : a 11 4 i = 0
    · have eb : tB1 a i = (if a 11 2 i + 5 < a 11 1 i then a 11 2 i + 5 else a 11 1 i) := if_pos c
      refine ⟨up u 11 2 i (tB1 a i), CS_step i1 hu (fun t t1 t2 t3 => up_t t2) (fun j _ => by rw [up_t (by omega)]) (fun j m hm => by rw [up_s, if_neg (by omega)]) ⟨by rw [up_s, if_neg (by omega)]; exact y0, by rw [up_s, if_neg (by omega)]; exact y1, by rw [up_s, if_pos ⟨rfl, rfl⟩], by rw [up_s, if_neg (by omega)]; exact y3, by rw [up_s, if_neg (by omega)]; exact y4, by rw [up_s, if_neg (by omega)]; exact y5, by rw [up_s, if_neg (by omega)]; exact y6⟩ (fun j p _ => by rw [up_t (by omega)]) (fun p _ _ _ => by rw [up_t (by omega)]) (fun p p1 p2 _ => by rw [up_t (by omega)]; exact z p p1 p2), by rw [up_t (by omega)]; exact hk, ?_⟩
      rw [eb]
      dsimp only [l_Sk_chargeParked_10, b_Sk_chargeParked_10, f_Ma_batteryAfter]
      simp (disch := omega) only [lt__e, bnd_e, bnd2_e, bnd3_e, el0_l, el0_r, el1_l, el1_r, el2_l, el2_r, ↓reduceIte, not_true_eq_false, not_false_eq_true, reduceCtorEq, and_true, true_and, and_false, false_and, or_true, true_or, or_false, false_or, and_self, or_self, ite_true, ite_false, Int.cast_ofNat_Int, Nat.reduceEqDiff, Nat.reduceLT, Int.reduceAdd, Int.reduceSub, Int.reduceMul, Int.reduceNeg, Int.reduceLT, Int.reduceLE, Int.reduceEq, ilt_t, ilt_f, ile_t, ile_f, ieq_t, ieq_f, z_0, z_1, z_2, z_3, z_4, z_5, z_6, z_7, z_8, z_9, z_10, z_12, z_20, z_40, z_80, z_81, z_99, z_100, z_200, z_400, z_3240, z_20000, z_100000, iz_add, iz_sub, iz_mul, iz_neg, iz_nat, iz_lt, iz_le, iz_eq, iz_div, iz_ite, iz_c, md10, md100, izcb_0, izcb_1, isOut_0, isNoCell_0, isGr_0, np_p, VV_r, VV_n, V_k, W_k, V_0, W_0, V_1, W_1, V_2, W_2, V_3, W_3, V_4, W_4, V_5, W_5, V_6, W_6, V_7, W_7, V_8, W_8, V_9, W_9, h.r0_0, h.r0_1, h.r0_2, h.r0_3, h.r0_4, h.r0_5, h.r1_0, h.r1_1, h.r1_2, h.r1_3, h.r12, rf_0 h, rf_1 h, rf_10 h, rf_11 h, rf_12 h, r6_i h, r6_o h, r7_i h, r7_o h, r8_i h, r8_o h, rl_13 h, ra_13 h, rl_2 h, ra_2 h, rl_3 h, ra_3 h, rl_4 h, ra_4 h, rl_5 h, ra_5 h, rl_6 h, ra_6 h, rl_7 h, ra_7 h, rl_8 h, ra_8 h, rl_9 h, ra_9 h, up_e, y1, y2, y4, c]
    · have eb : tB1 a i = a 11 2 i := if_neg c
      refine ⟨u, CS_step i1 hu (fun _ _ _ _ => rfl) (fun _ _ => rfl) (fun _ _ _ => rfl) ⟨y0, y1, by rw [eb]; exact y2, y3, y4, y5, y6⟩ (fun _ _ _ => rfl) (fun _ _ _ _ => rfl) (fun p p1 p2 _ => z p p1 p2), hk, ?_⟩
      dsimp only [l_Sk_chargeParked_10, b_Sk_chargeParked_10, f_Ma_batteryAfter]
      simp (disch := omega) only [lt__e, bnd_e, bnd2_e, bnd3_e, el0_l, el0_r, el1_l, el1_r, el2_l, el2_r, ↓reduceIte, not_true_eq_false, not_false_eq_true, reduceCtorEq, and_true, true_and, and_false, false_and, or_true, true_or, or_false, false_or, and_self, or_self, ite_true, ite_false, Int.cast_ofNat_Int, Nat.reduceEqDiff, Nat.reduceLT, Int.reduceAdd, Int.reduceSub, Int.reduceMul, Int.reduceNeg, Int.reduceLT, Int.reduceLE, Int.reduceEq, ilt_t, ilt_f, ile_t, ile_f, ieq_t, ieq_f, z_0, z_1, z_2, z_3, z_4, z_5, z_6, z_7, z_8, z_9, z_10, z_12, z_20, z_40, z_80, z_81, z_99, z_100, z_200, z_400, z_3240, z_20000, z_100000, iz_add, iz_sub, iz_mul, iz_neg, iz_nat, iz_lt, iz_le, iz_eq, iz_div, iz_ite, iz_c, md10, md100, izcb_0, izcb_1, isOut_0, isNoCell_0, isGr_0, np_p, VV_r, VV_n, V_k, W_k, V_0, W_0, V_1, W_1, V_2, W_2, V_3, W_3, V_4, W_4, V_5, W_5, V_6, W_6, V_7, W_7, V_8, W_8, V_9, W_9, h.r0_0, h.r0_1, h.r0_2, h.r0_3, h.r0_4, h.r0_5, h.r1_0, h.r1_1, h.r1_2, h.r1_3, h.r12, rf_0 h, rf_1 h, rf_10 h, rf_11 h, rf_12 h, r6_i h, r6_o h, r7_i h, r7_o h, r8_i h, r8_o h, rl_13 h, ra_13 h, rl_2 h, ra_2 h, rl_3 h, ra_3 h, rl_4 h, ra_4 h, rl_5 h, ra_5 h, rl_6 h, ra_6 h, rl_7 h, ra_7 h, rl_8 h, ra_8 h, rl_9 h, ra_9 h, up_e, y4, c]
  · intro n' i u i1 i2
    dsimp only [l_Sk_chargeParked_10, b_Sk_chargeParked_10]
    simp (disch := omega) only [lt__e, bnd_e, bnd2_e, bnd3_e, el0_l, el0_r, el1_l, el1_r, el2_l, el2_r, ↓reduceIte, not_true_eq_false, not_false_eq_true, reduceCtorEq, and_true, true_and, and_false, false_and, or_true, true_or, or_false, false_or, and_self, or_self, ite_true, ite_false, Int.cast_ofNat_Int, Nat.reduceEqDiff, Nat.reduceLT, Int.reduceAdd, Int.reduceSub, Int.reduceMul, Int.reduceNeg, Int.reduceLT, Int.reduceLE, Int.reduceEq, ilt_t, ilt_f, ile_t, ile_f, ieq_t, ieq_f, z_0, z_1, z_2, z_3, z_4, z_5, z_6, z_7, z_8, z_9, z_10, z_12, z_20, z_40, z_80, z_81, z_99, z_100, z_200, z_400, z_3240, z_20000, z_100000, iz_add, iz_sub, iz_mul, iz_neg, iz_nat, iz_lt, iz_le, iz_eq, iz_div, iz_ite, iz_c, md10, md100, izcb_0, izcb_1, isOut_0, isNoCell_0, isGr_0, np_p, VV_r, VV_n, V_k, W_k, V_0, W_0, V_1, W_1, V_2, W_2, V_3, W_3, V_4, W_4, V_5, W_5, V_6, W_6, V_7, W_7, V_8, W_8, V_9, W_9, h.r0_0, h.r0_1, h.r0_2, h.r0_3, h.r0_4, h.r0_5, h.r1_0, h.r1_1, h.r1_2, h.r1_3, h.r12, rf_0 h, rf_1 h, rf_10 h, rf_11 h, rf_12 h, r6_i h, r6_o h, r7_i h, r7_o h, r8_i h, r8_o h, rl_13 h, ra_13 h, rl_2 h, ra_2 h, rl_3 h, ra_3 h, rl_4 h, ra_4 h, rl_5 h, ra_5 h, rl_6 h, ra_6 h, rl_7 h, ra_7 h, rl_8 h, ra_8 h, rl_9 h, ra_9 h, up_e]
  · intro n' u
    dsimp only [l_Sk_chargeParked_10, b_Sk_chargeParked_10]
    simp (disch := omega) only [lt__e, bnd_e, bnd2_e, bnd3_e, el0_l, el0_r, el1_l, el1_r, el2_l, el2_r, ↓reduceIte, not_true_eq_false, not_false_eq_true, reduceCtorEq, and_true, true_and, and_false, false_and, or_true, true_or, or_false, false_or, and_self, or_self, ite_true, ite_false, Int.cast_ofNat_Int, Nat.reduceEqDiff, Nat.reduceLT, Int.reduceAdd, Int.reduceSub, Int.reduceMul, Int.reduceNeg, Int.reduceLT, Int.reduceLE, Int.reduceEq, ilt_t, ilt_f, ile_t, ile_f, ieq_t, ieq_f, z_0, z_1, z_2, z_3, z_4, z_5, z_6, z_7, z_8, z_9, z_10, z_12, z_20, z_40, z_80, z_81, z_99, z_100, z_200, z_400, z_3240, z_20000, z_100000, iz_add, iz_sub, iz_mul, iz_neg, iz_nat, iz_lt, iz_le, iz_eq, iz_div, iz_ite, iz_c, md10, md100, izcb_0, izcb_1, isOut_0, isNoCell_0, isGr_0, np_p, VV_r, VV_n, V_k, W_k, V_0, W_0, V_1, W_1, V_2, W_2, V_3, W_3, V_4, W_4, V_5, W_5, V_6, W_6, V_7, W_7, V_8, W_8, V_9, W_9, h.r0_0, h.r0_1, h.r0_2, h.r0_3, h.r0_4, h.r0_5, h.r1_0, h.r1_1, h.r1_2, h.r1_3, h.r12, rf_0 h, rf_1 h, rf_10 h, rf_11 h, rf_12 h, r6_i h, r6_o h, r7_i h, r7_o h, r8_i h, r8_o h, rl_13 h, ra_13 h, rl_2 h, ra_2 h, rl_3 h, ra_3 h, rl_4 h, ra_4 h, rl_5 h, ra_5 h, rl_6 h, ra_6 h, rl_7 h, ra_7 h, rl_8 h, ra_8 h, rl_9 h, ra_9 h, up_e]
theorem tS2_p (hI : CI a nr nm np) {i m : Int} (i1 : 0 ≤ i) (m1 : 0 ≤ m) (m2 : m < nm) (he : a 11 5 m = i) (hq : ¬ (a 12 6 i = 0 ∧ a 12 3 i = a 0 10 0 + 1)) : tS2 a m = a 11 4 m := by
  have l := (hI.2.2.2.2.2.2.1 m m1 m2).1
  unfold tS2
  refine if_neg (fun z => hq ?_)
  have y := (l z.1).2.2 z.2.1
  rw [he] at y z
  exact ⟨y.1, z.2.2⟩
theorem own_ne (hI : CI a nr nm np) {i m : Int} (i1 : 0 ≤ i) (m1 : 0 ≤ m) (m2 : m < nm) (hq : a 12 6 i = 0) (hm : m ≠ a 12 2 i) : a 11 5 m ≠ i := fun he => by
  have l := hI.2.2.2.2.2.2.1 m m1 m2
  have w := (hI.2.2.2.2.1 m m1 m2).2.2.2.2.1
  rcases (by omega : a 11 4 m = 0 ∨ a 11 4 m = 1 ∨ a 11 4 m = 2 ∨ a 11 4 m = 3) with e | e | e | e
  · have y := (l.1 e).2.2 (by omega)
    rw [he] at y; exact hm y.2.symm
  · have y := l.2.1 e
    rw [he] at y; omega
  · have y := l.2.2.1 e; omega
  · have y := l.2.2.2 e; omega
theorem c_begin (h : Sh r n nr nm np) (hI : CI a nr nm np) (hu : CS u a nm np (tB1 a) (a 11 3) (a 11 4) (a 11 5) (a 12 6)) :
    ∃ v, f_Sk_beginPaths 0 (VV u r n) = some (VV v r n) ∧ CS v a nm np (tB1 a) (a 11 3) (tS2 a) (a 11 5) (tZ2 a) ∧ v 0 13 0 = u 0 13 0 := by
  have hb := h.b
  have hP := hI.2.2.2.2.2.1
  have hMa := hI.2.2.2.2.1
  have hnow := hI.1.2.1
  have key := lpQ (L := fun n' i v => l_Sk_beginPaths_10 0 (some 8) (iz 40) n' (iz i) (VV v r n)) (hi := 40)
    (Q := fun i v => 0 ≤ i ∧ CS v a nm np (tB1 a) (a 11 3) (fun m => if a 11 5 m < i then tS2 a m else a 11 4 m) (a 11 5) (fun p => if p < i then tZ2 a p else a 12 6 p) ∧ v 0 13 0 = u 0 13 0)
    (R := fun w => ∃ v, w = VV v r n ∧ CS v a nm np (tB1 a) (a 11 3) (tS2 a) (a 11 5) (tZ2 a) ∧ v 0 13 0 = u 0 13 0) ?_ ?_ 4096 0 u (by omega) (by omega) ⟨by omega, CS_c hu (fun m m1 m2 => ⟨rfl, rfl, ?_, rfl⟩) (fun p p1 p2 => (if_neg (by omega)).symm), rfl⟩
  · obtain ⟨w, hw, v, rfl, k⟩ := key
    refine ⟨v, ?_, k⟩
    unfold f_Sk_beginPaths
    simp (disch := omega) only [lt__e, bnd_e, bnd2_e, bnd3_e, el0_l, el0_r, el1_l, el1_r, el2_l, el2_r, ↓reduceIte, not_true_eq_false, not_false_eq_true, reduceCtorEq, and_true, true_and, and_false, false_and, or_true, true_or, or_false, false_or, and_self, or_self, ite_true, ite_false, Int.cast_ofNat_Int, Nat.reduceEqDiff, Nat.reduceLT, Int.reduceAdd, Int.reduceSub, Int.reduceMul, Int.reduceNeg, Int.reduceLT, Int.reduceLE, Int.reduceEq, ilt_t, ilt_f, ile_t, ile_f, ieq_t, ieq_f, z_0, z_1, z_2, z_3, z_4, z_5, z_6, z_7, z_8, z_9, z_10, z_12, z_20, z_40, z_80, z_81, z_99, z_100, z_200, z_400, z_3240, z_20000, z_100000, iz_add, iz_sub, iz_mul, iz_neg, iz_nat, iz_lt, iz_le, iz_eq, iz_div, iz_ite, iz_c, md10, md100, izcb_0, izcb_1, isOut_0, isNoCell_0, isGr_0, np_p, VV_r, VV_n, V_k, W_k, V_0, W_0, V_1, W_1, V_2, W_2, V_3, W_3, V_4, W_4, V_5, W_5, V_6, W_6, V_7, W_7, V_8, W_8, V_9, W_9, h.r0_0, h.r0_1, h.r0_2, h.r0_3, h.r0_4, h.r0_5, h.r1_0, h.r1_1, h.r1_2, h.r1_3, h.r12, rf_0 h, rf_1 h, rf_10 h, rf_11 h, rf_12 h, r6_i h, r6_o h, r7_i h, r7_o h, r8_i h, r8_o h, rl_13 h, ra_13 h, rl_2 h, ra_2 h, rl_3 h, ra_3 h, rl_4 h, ra_4 h, rl_5 h, ra_5 h, rl_6 h, ra_6 h, rl_7 h, ra_7 h, rl_8 h, ra_8 h, rl_9 h, ra_9 h, up_e, hw]
  · rintro n' i v h3 ⟨h4, h5, h6⟩
    left
    dsimp only [l_Sk_beginPaths_10, b_Sk_beginPaths_10, j_Sk_beginPaths_45, j_Sk_beginPaths_58]
    by_cases c1 : i < np
    · obtain ⟨w1, w2, w3, w4, w5, w6, w7⟩ := hP i h4 c1
      obtain ⟨q1, q2, q3, q4, q5, q6⟩ := h5
      have z6 : v 12 6 i = if i < i then tZ2 a i else a 12 6 i := q6 i h4 c1
      rw [if_neg (by omega)] at z6
      have z3 := q5 3 i (by omega)
      have z2 := q5 2 i (by omega)
      by_cases c2 : a 12 6 i = 0 ∧ a 12 3 i = a 0 10 0 + 1
      · have l2 := (hI.2.2.2.2.2.2.2 i h4 c1).2 c2.1
        refine ⟨up (up v 12 6 i 1) 11 4 (a 12 2 i) 1, ⟨by omega, ⟨fun t t1 t2 t3 => by rw [up_t t2, up_t t3]; exact q1 t t1 t2 t3, fun j j1 j2 => by rw [up_t (by omega), up_t (by omega)]; exact q2 j j1 j2, by rw [up_t (by omega), up_t (by omega)]; exact q3, fun m m1 m2 => ?_, fun j p j1 => by rw [up_t (by omega), up_s, if_neg (by omega)]; exact q5 j p j1, fun p p1 p2 => ?_⟩, by rw [up_t (by omega), up_t (by omega)]; exact h6⟩, ?_⟩
        · have y := q4 m m1 m2
          have y4 : v 11 4 m = if a 11 5 m < i then tS2 a m else a 11 4 m := y.2.2.2.2.1
          have f : ∀ j, j ≠ 4 → up (up v 12 6 i 1) 11 4 (a 12 2 i) 1 11 j m = v 11 j m := fun j hj => by rw [up_s, if_neg (by omega), up_t (by omega)]
          rw [f 0 (by omega), f 1 (by omega), f 2 (by omega), f 3 (by omega), f 5 (by omega), f 6 (by omega)]
          refine ⟨y.1, y.2.1, y.2.2.1, y.2.2.2.1, ?_, y.2.2.2.2.2.1, y.2.2.2.2.2.2⟩
          show _ = if a 11 5 m < i + 1 then tS2 a m else a 11 4 m
          by_cases e : m = a 12 2 i
          · rw [e, up_s, if_pos ⟨rfl, rfl⟩, l2.2.2.1, if_pos (by omega)]
            unfold tS2
            rw [l2.2.2.1, if_pos ⟨l2.2.1, h4, c2.2⟩]
          · have e2 := own_ne hI h4 m1 m2 c2.1 e
            rw [up_s, if_neg (by omega), up_t (by omega), y4]
            by_cases e3 : a 11 5 m < i
            · rw [if_pos e3, if_pos (by omega)]
            · rw [if_neg e3, if_neg (by omega)]
        · have y : v 12 6 p = if p < i then tZ2 a p else a 12 6 p := q6 p p1 p2
          show _ = if p < i + 1 then tZ2 a p else a 12 6 p
          rw [up_t (by omega)]
          by_cases e : p = i
          · rw [e, up_s, if_pos ⟨rfl, rfl⟩, if_pos (by omega)]
            exact (if_pos c2).symm
          · rw [up_s, if_neg (by omega), y]
            by_cases e3 : p < i
            · rw [if_pos e3, if_pos (by omega)]
            · rw [if_neg e3, if_neg (by omega)]
        · simp (disch := omega) only [lt__e, bnd_e, bnd2_e, bnd3_e, el0_l, el0_r, el1_l, el1_r, el2_l, el2_r, ↓reduceIte, not_true_eq_false, not_false_eq_true, reduceCtorEq, and_true, true_and, and_false, false_and, or_true, true_or, or_false, false_or, and_self, or_self, ite_true, ite_false, Int.cast_ofNat_Int, Nat.reduceEqDiff, Nat.reduceLT, Int.reduceAdd, Int.reduceSub, Int.reduceMul, Int.reduceNeg, Int.reduceLT, Int.reduceLE, Int.reduceEq, ilt_t, ilt_f, ile_t, ile_f, ieq_t, ieq_f, z_0, z_1, z_2, z_3, z_4, z_5, z_6, z_7, z_8, z_9, z_10, z_12, z_20, z_40, z_80, z_81, z_99, z_100, z_200, z_400, z_3240, z_20000, z_100000, iz_add, iz_sub, iz_mul, iz_neg, iz_nat, iz_lt, iz_le, iz_eq, iz_div, iz_ite, iz_c, md10, md100, izcb_0, izcb_1, isOut_0, isNoCell_0, isGr_0, np_p, VV_r, VV_n, V_k, W_k, V_0, W_0, V_1, W_1, V_2, W_2, V_3, W_3, V_4, W_4, V_5, W_5, V_6, W_6, V_7, W_7, V_8, W_8, V_9, W_9, h.r0_0, h.r0_1, h.r0_2, h.r0_3, h.r0_4, h.r0_5, h.r1_0, h.r1_1, h.r1_2, h.r1_3, h.r12, rf_0 h, rf_1 h, rf_10 h, rf_11 h, rf_12 h, r6_i h, r6_o h, r7_i h, r7_o h, r8_i h, r8_o h, rl_13 h, ra_13 h, rl_2 h, ra_2 h, rl_3 h, ra_3 h, rl_4 h, ra_4 h, rl_5 h, ra_5 h, rl_6 h, ra_6 h, rl_7 h, ra_7 h, rl_8 h, ra_8 h, rl_9 h, ra_9 h, up_e, z6, z3, z2, q3, c2, c_machineOf_i h]
      · refine ⟨v, ⟨by omega, CS_c ⟨q1, q2, q3, q4, q5, q6⟩ (fun m m1 m2 => ⟨rfl, rfl, ?_, rfl⟩) (fun p p1 p2 => ?_), h6⟩, ?_⟩
        · show (if a 11 5 m < i then tS2 a m else a 11 4 m) = if a 11 5 m < i + 1 then tS2 a m else a 11 4 m
          by_cases e : a 11 5 m = i
          · rw [if_neg (by omega), if_pos (by omega), tS2_p hI h4 m1 m2 e c2]
          · by_cases e3 : a 11 5 m < i
            · rw [if_pos e3, if_pos (by omega)]
            · rw [if_neg e3, if_neg (by omega)]
        · show (if p < i then tZ2 a p else a 12 6 p) = if p < i + 1 then tZ2 a p else a 12 6 p
          by_cases e : p = i
          · rw [if_neg (by omega), if_pos (by omega), e]
            exact (if_neg c2).symm
          · by_cases e3 : p < i
            · rw [if_pos e3, if_pos (by omega)]
            · rw [if_neg e3, if_neg (by omega)]
        · by_cases c3 : a 12 6 i = 0
          · simp (disch := omega) only [lt__e, bnd_e, bnd2_e, bnd3_e, el0_l, el0_r, el1_l, el1_r, el2_l, el2_r, ↓reduceIte, not_true_eq_false, not_false_eq_true, reduceCtorEq, and_true, true_and, and_false, false_and, or_true, true_or, or_false, false_or, and_self, or_self, ite_true, ite_false, Int.cast_ofNat_Int, Nat.reduceEqDiff, Nat.reduceLT, Int.reduceAdd, Int.reduceSub, Int.reduceMul, Int.reduceNeg, Int.reduceLT, Int.reduceLE, Int.reduceEq, ilt_t, ilt_f, ile_t, ile_f, ieq_t, ieq_f, z_0, z_1, z_2, z_3, z_4, z_5, z_6, z_7, z_8, z_9, z_10, z_12, z_20, z_40, z_80, z_81, z_99, z_100, z_200, z_400, z_3240, z_20000, z_100000, iz_add, iz_sub, iz_mul, iz_neg, iz_nat, iz_lt, iz_le, iz_eq, iz_div, iz_ite, iz_c, md10, md100, izcb_0, izcb_1, isOut_0, isNoCell_0, isGr_0, np_p, VV_r, VV_n, V_k, W_k, V_0, W_0, V_1, W_1, V_2, W_2, V_3, W_3, V_4, W_4, V_5, W_5, V_6, W_6, V_7, W_7, V_8, W_8, V_9, W_9, h.r0_0, h.r0_1, h.r0_2, h.r0_3, h.r0_4, h.r0_5, h.r1_0, h.r1_1, h.r1_2, h.r1_3, h.r12, rf_0 h, rf_1 h, rf_10 h, rf_11 h, rf_12 h, r6_i h, r6_o h, r7_i h, r7_o h, r8_i h, r8_o h, rl_13 h, ra_13 h, rl_2 h, ra_2 h, rl_3 h, ra_3 h, rl_4 h, ra_4 h, rl_5 h, ra_5 h, rl_6 h, ra_6 h, rl_7 h, ra_7 h, rl_8 h, ra_8 h, rl_9 h, ra_9 h, up_e, z6, z3, q3, c3]
          · simp (disch := omega) only [lt__e, bnd_e, bnd2_e, bnd3_e, el0_l, el0_r, el1_l, el1_r, el2_l, el2_r, ↓reduceIte, not_true_eq_false, not_false_eq_true, reduceCtorEq, and_true, true_and, and_false, false_and, or_true, true_or, or_false, false_or, and_self, or_self, ite_true, ite_false, Int.cast_ofNat_Int, Nat.reduceEqDiff, Nat.reduceLT, Int.reduceAdd, Int.reduceSub, Int.reduceMul, Int.reduceNeg, Int.reduceLT, Int.reduceLE, Int.reduceEq, ilt_t, ilt_f, ile_t, ile_f, ieq_t, ieq_f, z_0, z_1, z_2, z_3, z_4, z_5, z_6, z_7, z_8, z_9, z_10, z_12, z_20, z_40, z_80, z_81, z_99, z_100, z_200, z_400, z_3240, z_20000, z_100000, iz_add, iz_sub, iz_mul, iz_neg, iz_nat, iz_lt, iz_le, iz_eq, iz_div, iz_ite, iz_c, md10, md100, izcb_0, izcb_1, isOut_0, isNoCell_0, isGr_0, np_p, VV_r, VV_n, V_k, W_k, V_0, W_0, V_1, W_1, V_2, W_2, V_3, W_3, V_4, W_4, V_5, W_5, V_6, W_6, V_7, W_7, V_8, W_8, V_9, W_9, h.r0_0, h.r0_1, h.r0_2, h.r0_3, h.r0_4, h.r0_5, h.r1_0, h.r1_1, h.r1_2, h.r1_3, h.r12, rf_0 h, rf_1 h, rf_10 h, rf_11 h, rf_12 h, r6_i h, r6_o h, r7_i h, r7_o h, r8_i h, r8_o h, rl_13 h, ra_13 h, rl_2 h, ra_2 h, rl_3 h, ra_3 h, rl_4 h, ra_4 h, rl_5 h, ra_5 h, rl_6 h, ra_6 h, rl_7 h, ra_7 h, rl_8 h, ra_8 h, rl_9 h, ra_9 h, up_e, z6, c3]
    · refine ⟨v, ⟨by omega, CS_c h5 (fun m m1 m2 => ⟨rfl, rfl, ?_, rfl⟩) (fun p p1 p2 => ?_), h6⟩, ?_⟩
      · have := (hMa m m1 m2).2.2.2.2.2.1
        show (if a 11 5 m < i then tS2 a m else a 11 4 m) = if a 11 5 m < i + 1 then tS2 a m else a 11 4 m
        rw [if_pos (by omega), if_pos (by omega)]
      · show (if p < i then tZ2 a p else a 12 6 p) = if p < i + 1 then tZ2 a p else a 12 6 p
        rw [if_pos (by omega), if_pos (by omega)]
      · simp (disch := omega) only [lt__e, bnd_e, bnd2_e, bnd3_e, el0_l, el0_r, el1_l, el1_r, el2_l, el2_r, ↓reduceIte, not_true_eq_false, not_false_eq_true, reduceCtorEq, and_true, true_and, and_false, false_and, or_true, true_or, or_false, false_or, and_self, or_self, ite_true, ite_false, Int.cast_ofNat_Int, Nat.reduceEqDiff, Nat.reduceLT, Int.reduceAdd, Int.reduceSub, Int.reduceMul, Int.reduceNeg, Int.reduceLT, Int.reduceLE, Int.reduceEq, ilt_t, ilt_f, ile_t, ile_f, ieq_t, ieq_f, z_0, z_1, z_2, z_3, z_4, z_5, z_6, z_7, z_8, z_9, z_10, z_12, z_20, z_40, z_80, z_81, z_99, z_100, z_200, z_400, z_3240, z_20000, z_100000, iz_add, iz_sub, iz_mul, iz_neg, iz_nat, iz_lt, iz_le, iz_eq, iz_div, iz_ite, iz_c, md10, md100, izcb_0, izcb_1, isOut_0, isNoCell_0, isGr_0, np_p, VV_r, VV_n, V_k, W_k, V_0, W_0, V_1, W_1, V_2, W_2, V_3, W_3, V_4, W_4, V_5, W_5, V_6, W_6, V_7, W_7, V_8, W_8, V_9, W_9, h.r0_0, h.r0_1, h.r0_2, h.r0_3, h.r0_4, h.r0_5, h.r1_0, h.r1_1, h.r1_2, h.r1_3, h.r12, rf_0 h, rf_1 h, rf_10 h, rf_11 h, rf_12 h, r6_i h, r6_o h, r7_i h, r7_o h, r8_i h, r8_o h, rl_13 h, ra_13 h, rl_2 h, ra_2 h, rl_3 h, ra_3 h, rl_4 h, ra_4 h, rl_5 h, ra_5 h, rl_6 h, ra_6 h, rl_7 h, ra_7 h, rl_8 h, ra_8 h, rl_9 h, ra_9 h, up_e]
  · rintro n' v ⟨h4, h5, h6⟩
    refine ⟨_, ?_, v, rfl, CS_c h5 (fun m m1 m2 => ⟨rfl, rfl, ?_, rfl⟩) (fun p p1 p2 => if_pos (by omega)), h6⟩
    · dsimp only [l_Sk_beginPaths_10, b_Sk_beginPaths_10]
      simp (disch := omega) only [lt__e, bnd_e, bnd2_e, bnd3_e, el0_l, el0_r, el1_l, el1_r, el2_l, el2_r, ↓reduceIte, not_true_eq_false, not_false_eq_true, reduceCtorEq, and_true, true_and, and_false, false_and, or_true, true_or, or_false, false_or, and_self, or_self, ite_true, ite_false, Int.cast_ofNat_Int, Nat.reduceEqDiff, Nat.reduceLT, Int.reduceAdd, Int.reduceSub, Int.reduceMul, Int.reduceNeg, Int.reduceLT, Int.reduceLE, Int.reduceEq, ilt_t, ilt_f, ile_t, ile_f, ieq_t, ieq_f, z_0, z_1, z_2, z_3, z_4, z_5, z_6, z_7, z_8, z_9, z_10, z_12, z_20, z_40, z_80, z_81, z_99, z_100, z_200, z_400, z_3240, z_20000, z_100000, iz_add, iz_sub, iz_mul, iz_neg, iz_nat, iz_lt, iz_le, iz_eq, iz_div, iz_ite, iz_c, md10, md100, izcb_0, izcb_1, isOut_0, isNoCell_0, isGr_0, np_p, VV_r, VV_n, V_k, W_k, V_0, W_0, V_1, W_1, V_2, W_2, V_3, W_3, V_4, W_4, V_5, W_5, V_6, W_6, V_7, W_7, V_8, W_8, V_9, W_9, h.r0_0, h.r0_1, h.r0_2, h.r0_3, h.r0_4, h.r0_5, h.r1_0, h.r1_1, h.r1_2, h.r1_3, h.r12, rf_0 h, rf_1 h, rf_10 h, rf_11 h, rf_12 h, r6_i h, r6_o h, r7_i h, r7_o h, r8_i h, r8_o h, rl_13 h, ra_13 h, rl_2 h, ra_2 h, rl_3 h, ra_3 h, rl_4 h, ra_4 h, rl_5 h, ra_5 h, rl_6 h, ra_6 h, rl_7 h, ra_7 h, rl_8 h, ra_8 h, rl_9 h, ra_9 h, up_e]
    · have := (hMa m m1 m2).2.2.2.2.2.1
      exact if_pos (by omega)
  · show a 11 4 m = if a 11 5 m < 0 then tS2 a m else a 11 4 m
    by_cases e : a 11 5 m < 0
    · rw [if_pos e]
      unfold tS2
      rw [if_neg (by omega)]
    · rw [if_neg e]
theorem c_bring1 (h : Sh r n nr nm np) {i q : Int} (i1 : 0 ≤ i) (i2 : i < nm) (h4 : v 11 4 i = 1) (h5 : v 11 5 i = q) (q1 : 0 ≤ q) (q2 : q < np) (ho : v 12 2 q = i) :
    f_Sk_bringDown 0 (some (kk 11 i)) (VV v r n) = some (VV (up (up (up v 12 6 q 4) 11 5 i (-1)) 11 4 i 3) r n) := by
  have k1 := c_flownBy_y (a := v) h i1 i2 h4 (by omega) (by omega)
  have k2 := c_finish (a := v) h (p := q) (v := 4) q1 (by omega) (by omega) (by omega)
  rw [h5] at k1
  rw [ho] at k2
  unfold f_Sk_bringDown
  simp (disch := omega) only [lt__e, bnd_e, bnd2_e, bnd3_e, el0_l, el0_r, el1_l, el1_r, el2_l, el2_r, ↓reduceIte, not_true_eq_false, not_false_eq_true, reduceCtorEq, and_true, true_and, and_false, false_and, or_true, true_or, or_false, false_or, and_self, or_self, ite_true, ite_false, Int.cast_ofNat_Int, Nat.reduceEqDiff, Nat.reduceLT, Int.reduceAdd, Int.reduceSub, Int.reduceMul, Int.reduceNeg, Int.reduceLT, Int.reduceLE, Int.reduceEq, ilt_t, ilt_f, ile_t, ile_f, ieq_t, ieq_f, z_0, z_1, z_2, z_3, z_4, z_5, z_6, z_7, z_8, z_9, z_10, z_12, z_20, z_40, z_80, z_81, z_99, z_100, z_200, z_400, z_3240, z_20000, z_100000, iz_add, iz_sub, iz_mul, iz_neg, iz_nat, iz_lt, iz_le, iz_eq, iz_div, iz_ite, iz_c, md10, md100, izcb_0, izcb_1, isOut_0, isNoCell_0, isGr_0, np_p, VV_r, VV_n, V_k, W_k, V_0, W_0, V_1, W_1, V_2, W_2, V_3, W_3, V_4, W_4, V_5, W_5, V_6, W_6, V_7, W_7, V_8, W_8, V_9, W_9, h.r0_0, h.r0_1, h.r0_2, h.r0_3, h.r0_4, h.r0_5, h.r1_0, h.r1_1, h.r1_2, h.r1_3, h.r12, rf_0 h, rf_1 h, rf_10 h, rf_11 h, rf_12 h, r6_i h, r6_o h, r7_i h, r7_o h, r8_i h, r8_o h, rl_13 h, ra_13 h, rl_2 h, ra_2 h, rl_3 h, ra_3 h, rl_4 h, ra_4 h, rl_5 h, ra_5 h, rl_6 h, ra_6 h, rl_7 h, ra_7 h, rl_8 h, ra_8 h, rl_9 h, ra_9 h, up_e, k1, k2]
theorem c_bring2 (h : Sh r n nr nm np) {i : Int} (i1 : 0 ≤ i) (i2 : i < nm) (h4 : v 11 4 i = 2) :
    f_Sk_bringDown 0 (some (kk 11 i)) (VV v r n) = some (VV (up v 11 4 i 3) r n) := by
  have k1 := c_flownBy_n (a := v) h i1 i2 (by omega) (by omega) (by omega)
  unfold f_Sk_bringDown
  simp (disch := omega) only [lt__e, bnd_e, bnd2_e, bnd3_e, el0_l, el0_r, el1_l, el1_r, el2_l, el2_r, ↓reduceIte, not_true_eq_false, not_false_eq_true, reduceCtorEq, and_true, true_and, and_false, false_and, or_true, true_or, or_false, false_or, and_self, or_self, ite_true, ite_false, Int.cast_ofNat_Int, Nat.reduceEqDiff, Nat.reduceLT, Int.reduceAdd, Int.reduceSub, Int.reduceMul, Int.reduceNeg, Int.reduceLT, Int.reduceLE, Int.reduceEq, ilt_t, ilt_f, ile_t, ile_f, ieq_t, ieq_f, z_0, z_1, z_2, z_3, z_4, z_5, z_6, z_7, z_8, z_9, z_10, z_12, z_20, z_40, z_80, z_81, z_99, z_100, z_200, z_400, z_3240, z_20000, z_100000, iz_add, iz_sub, iz_mul, iz_neg, iz_nat, iz_lt, iz_le, iz_eq, iz_div, iz_ite, iz_c, md10, md100, izcb_0, izcb_1, isOut_0, isNoCell_0, isGr_0, np_p, VV_r, VV_n, V_k, W_k, V_0, W_0, V_1, W_1, V_2, W_2, V_3, W_3, V_4, W_4, V_5, W_5, V_6, W_6, V_7, W_7, V_8, W_8, V_9, W_9, h.r0_0, h.r0_1, h.r0_2, h.r0_3, h.r0_4, h.r0_5, h.r1_0, h.r1_1, h.r1_2, h.r1_3, h.r12, rf_0 h, rf_1 h, rf_10 h, rf_11 h, rf_12 h, r6_i h, r6_o h, r7_i h, r7_o h, r8_i h, r8_o h, rl_13 h, ra_13 h, rl_2 h, ra_2 h, rl_3 h, ra_3 h, rl_4 h, ra_4 h, rl_5 h, ra_5 h, rl_6 h, ra_6 h, rl_7 h, ra_7 h, rl_8 h, ra_8 h, rl_9 h, ra_9 h, up_e, k1]
theorem c_j93 (h : Sh r n nr nm np) {i : Int} (i1 : 0 ≤ i) (i2 : i < nm) (hs : 0 ≤ v 11 4 i ∧ v 11 4 i ≤ 3) (hB : -1000 ≤ v 11 2 i ∧ v 11 2 i ≤ 1000) (rec : Int32 → MS → Option MS) (w : Int32) :
    ((¬ ((v 11 4 i = 1 ∨ v 11 4 i = 2) ∧ v 11 2 i < 0)) → j_Sk_moveMachines_93 0 (some 7) w (iz i) (some (kk 11 i)) (VV v r n) rec = rec (iz (i + 1)) (VV v r n)) ∧
    (v 11 4 i = 1 → v 11 2 i < 0 → ∀ q, v 11 5 i = q → 0 ≤ q → q < np → v 12 2 q = i → j_Sk_moveMachines_93 0 (some 7) w (iz i) (some (kk 11 i)) (VV v r n) rec = rec (iz (i + 1)) (VV (up (up (up v 12 6 q 4) 11 5 i (-1)) 11 4 i 3) r n)) ∧
    (v 11 4 i = 2 → v 11 2 i < 0 → j_Sk_moveMachines_93 0 (some 7) w (iz i) (some (kk 11 i)) (VV v r n) rec = rec (iz (i + 1)) (VV (up v 11 4 i 3) r n)) := by
  have hb := h.b
  have k1 := c_isUnderWay (a := v) h i1 i2 hs.1 hs.2
  unfold j_Sk_moveMachines_93
  refine ⟨fun c => ?_, fun c1 c2 q q1 q2 q3 q4 => ?_, fun c1 c2 => ?_⟩
  · by_cases c1 : v 11 4 i = 1 ∨ v 11 4 i = 2
    · rw [cb_t c1] at k1
      simp (disch := omega) only [lt__e, bnd_e, bnd2_e, bnd3_e, el0_l, el0_r, el1_l, el1_r, el2_l, el2_r, ↓reduceIte, not_true_eq_false, not_false_eq_true, reduceCtorEq, and_true, true_and, and_false, false_and, or_true, true_or, or_false, false_or, and_self, or_self, ite_true, ite_false, Int.cast_ofNat_Int, Nat.reduceEqDiff, Nat.reduceLT, Int.reduceAdd, Int.reduceSub, Int.reduceMul, Int.reduceNeg, Int.reduceLT, Int.reduceLE, Int.reduceEq, ilt_t, ilt_f, ile_t, ile_f, ieq_t, ieq_f, z_0, z_1, z_2, z_3, z_4, z_5, z_6, z_7, z_8, z_9, z_10, z_12, z_20, z_40, z_80, z_81, z_99, z_100, z_200, z_400, z_3240, z_20000, z_100000, iz_add, iz_sub, iz_mul, iz_neg, iz_nat, iz_lt, iz_le, iz_eq, iz_div, iz_ite, iz_c, md10, md100, izcb_0, izcb_1, isOut_0, isNoCell_0, isGr_0, np_p, VV_r, VV_n, V_k, W_k, V_0, W_0, V_1, W_1, V_2, W_2, V_3, W_3, V_4, W_4, V_5, W_5, V_6, W_6, V_7, W_7, V_8, W_8, V_9, W_9, h.r0_0, h.r0_1, h.r0_2, h.r0_3, h.r0_4, h.r0_5, h.r1_0, h.r1_1, h.r1_2, h.r1_3, h.r12, rf_0 h, rf_1 h, rf_10 h, rf_11 h, rf_12 h, r6_i h, r6_o h, r7_i h, r7_o h, r8_i h, r8_o h, rl_13 h, ra_13 h, rl_2 h, ra_2 h, rl_3 h, ra_3 h, rl_4 h, ra_4 h, rl_5 h, ra_5 h, rl_6 h, ra_6 h, rl_7 h, ra_7 h, rl_8 h, ra_8 h, rl_9 h, ra_9 h, up_e, k1]
    · rw [cb_f c1] at k1
      simp (disch := omega) only [lt__e, bnd_e, bnd2_e, bnd3_e, el0_l, el0_r, el1_l, el1_r, el2_l, el2_r, ↓reduceIte, not_true_eq_false, not_false_eq_true, reduceCtorEq, and_true, true_and, and_false, false_and, or_true, true_or, or_false, false_or, and_self, or_self, ite_true, ite_false, Int.cast_ofNat_Int, Nat.reduceEqDiff, Nat.reduceLT, Int.reduceAdd, Int.reduceSub, Int.reduceMul, Int.reduceNeg, Int.reduceLT, Int.reduceLE, Int.reduceEq, ilt_t, ilt_f, ile_t, ile_f, ieq_t, ieq_f, z_0, z_1, z_2, z_3, z_4, z_5, z_6, z_7, z_8, z_9, z_10, z_12, z_20, z_40, z_80, z_81, z_99, z_100, z_200, z_400, z_3240, z_20000, z_100000, iz_add, iz_sub, iz_mul, iz_neg, iz_nat, iz_lt, iz_le, iz_eq, iz_div, iz_ite, iz_c, md10, md100, izcb_0, izcb_1, isOut_0, isNoCell_0, isGr_0, np_p, VV_r, VV_n, V_k, W_k, V_0, W_0, V_1, W_1, V_2, W_2, V_3, W_3, V_4, W_4, V_5, W_5, V_6, W_6, V_7, W_7, V_8, W_8, V_9, W_9, h.r0_0, h.r0_1, h.r0_2, h.r0_3, h.r0_4, h.r0_5, h.r1_0, h.r1_1, h.r1_2, h.r1_3, h.r12, rf_0 h, rf_1 h, rf_10 h, rf_11 h, rf_12 h, r6_i h, r6_o h, r7_i h, r7_o h, r8_i h, r8_o h, rl_13 h, ra_13 h, rl_2 h, ra_2 h, rl_3 h, ra_3 h, rl_4 h, ra_4 h, rl_5 h, ra_5 h, rl_6 h, ra_6 h, rl_7 h, ra_7 h, rl_8 h, ra_8 h, rl_9 h, ra_9 h, up_e, k1]
  · rw [cb_t (Or.inl c1)] at k1
    simp (disch := omega) only [lt__e, bnd_e, bnd2_e, bnd3_e, el0_l, el0_r, el1_l, el1_r, el2_l, el2_r, ↓reduceIte, not_true_eq_false, not_false_eq_true, reduceCtorEq, and_true, true_and, and_false, false_and, or_true, true_or, or_false, false_or, and_self, or_self, ite_true, ite_false, Int.cast_ofNat_Int, Nat.reduceEqDiff, Nat.reduceLT, Int.reduceAdd, Int.reduceSub, Int.reduceMul, Int.reduceNeg, Int.reduceLT, Int.reduceLE, Int.reduceEq, ilt_t, ilt_f, ile_t, ile_f, ieq_t, ieq_f, z_0, z_1, z_2, z_3, z_4, z_5, z_6, z_7, z_8, z_9, z_10, z_12, z_20, z_40, z_80, z_81, z_99, z_100, z_200, z_400, z_3240, z_20000, z_100000, iz_add, iz_sub, iz_mul, iz_neg, iz_nat, iz_lt, iz_le, iz_eq, iz_div, iz_ite, iz_c, md10, md100, izcb_0, izcb_1, isOut_0, isNoCell_0, isGr_0, np_p, VV_r, VV_n, V_k, W_k, V_0, W_0, V_1, W_1, V_2, W_2, V_3, W_3, V_4, W_4, V_5, W_5, V_6, W_6, V_7, W_7, V_8, W_8, V_9, W_9, h.r0_0, h.r0_1, h.r0_2, h.r0_3, h.r0_4, h.r0_5, h.r1_0, h.r1_1, h.r1_2, h.r1_3, h.r12, rf_0 h, rf_1 h, rf_10 h, rf_11 h, rf_12 h, r6_i h, r6_o h, r7_i h, r7_o h, r8_i h, r8_o h, rl_13 h, ra_13 h, rl_2 h, ra_2 h, rl_3 h, ra_3 h, rl_4 h, ra_4 h, rl_5 h, ra_5 h, rl_6 h, ra_6 h, rl_7 h, ra_7 h, rl_8 h, ra_8 h, rl_9 h, ra_9 h, up_e, k1, c_bring1 h i1 i2 c1 q1 q2 q3 q4]
  · rw [cb_t (Or.inr c1)] at k1
    simp (disch := omega) only [lt__e, bnd_e, bnd2_e, bnd3_e, el0_l, el0_r, el1_l, el1_r, el2_l, el2_r, ↓reduceIte, not_true_eq_false, not_false_eq_true, reduceCtorEq, and_true, true_and, and_false, false_and, or_true, true_or, or_false, false_or, and_self, or_self, ite_true, ite_false, Int.cast_ofNat_Int, Nat.reduceEqDiff, Nat.reduceLT, Int.reduceAdd, Int.reduceSub, Int.reduceMul, Int.reduceNeg, Int.reduceLT, Int.reduceLE, Int.reduceEq, ilt_t, ilt_f, ile_t, ile_f, ieq_t, ieq_f, z_0, z_1, z_2, z_3, z_4, z_5, z_6, z_7, z_8, z_9, z_10, z_12, z_20, z_40, z_80, z_81, z_99, z_100, z_200, z_400, z_3240, z_20000, z_100000, iz_add, iz_sub, iz_mul, iz_neg, iz_nat, iz_lt, iz_le, iz_eq, iz_div, iz_ite, iz_c, md10, md100, izcb_0, izcb_1, isOut_0, isNoCell_0, isGr_0, np_p, VV_r, VV_n, V_k, W_k, V_0, W_0, V_1, W_1, V_2, W_2, V_3, W_3, V_4, W_4, V_5, W_5, V_6, W_6, V_7, W_7, V_8, W_8, V_9, W_9, h.r0_0, h.r0_1, h.r0_2, h.r0_3, h.r0_4, h.r0_5, h.r1_0, h.r1_1, h.r1_2, h.r1_3, h.r12, rf_0 h, rf_1 h, rf_10 h, rf_11 h, rf_12 h, r6_i h, r6_o h, r7_i h, r7_o h, r8_i h, r8_o h, rl_13 h, ra_13 h, rl_2 h, ra_2 h, rl_3 h, ra_3 h, rl_4 h, ra_4 h, rl_5 h, ra_5 h, rl_6 h, ra_6 h, rl_7 h, ra_7 h, rl_8 h, ra_8 h, rl_9 h, ra_9 h, up_e, k1, c_bring2 h i1 i2 c1]
theorem CS.hC (hu : CS u a nm np B P S Q Z) (hI : CI a nr nm np) : CC u := CC_c (fun t t1 t2 => hu.1 t (by omega) (by omega) (by omega)) hI.2.1
theorem CS.eq (hu : CS u a nm np B P S Q Z) (p : Int) : EqP u a p := ⟨hu.2.2.2.2.1 3 p (by omega), hu.2.2.2.2.1 4 p (by omega), fun k => by rw [hu.1 13 (by omega) (by omega) (by omega)]⟩
theorem c_moves (h : Sh r n nr nm np) (hI : CI a nr nm np) (hv : CS v a nm np (tB1 a) (a 11 3) (tS2 a) (a 11 5) (tZ2 a)) :
    ∃ u, f_Sk_moveMachines 0 (VV v r n) = some (VV u r n) ∧ CS u a nm np (tB3 a) (tP3 a) (tS3 a) (tQ3 a) (tZ3 a) ∧ u 0 13 0 = v 0 13 0 := by
  have hb := h.b
  have hnow := hI.1.2.1
  have key := loopC (r := r) (n := n) (L := fun n' i u => l_Sk_moveMachines_10 0 (some 7) (iz 10) n' (iz i) (VV u r n)) (kx := fun _ => v 0 13 0) (s := v) (a := a) (B' := tB3 a) (P' := tP3 a) (S' := tS3 a) (Q' := tQ3 a) (Z' := tZ3 a) hb.2.1 hI.own hv rfl ?_ (fun _ _ _ => rfl) ?_ ?_
  · obtain ⟨u, k1, k2, k3⟩ := key
    refine ⟨u, ?_, k2, k3⟩
    unfold f_Sk_moveMachines
    simp (disch := omega) only [lt__e, bnd_e, bnd2_e, bnd3_e, el0_l, el0_r, el1_l, el1_r, el2_l, el2_r, ↓reduceIte, not_true_eq_false, not_false_eq_true, reduceCtorEq, and_true, true_and, and_false, false_and, or_true, true_or, or_false, false_or, and_self, or_self, ite_true, ite_false, Int.cast_ofNat_Int, Nat.reduceEqDiff, Nat.reduceLT, Int.reduceAdd, Int.reduceSub, Int.reduceMul, Int.reduceNeg, Int.reduceLT, Int.reduceLE, Int.reduceEq, ilt_t, ilt_f, ile_t, ile_f, ieq_t, ieq_f, z_0, z_1, z_2, z_3, z_4, z_5, z_6, z_7, z_8, z_9, z_10, z_12, z_20, z_40, z_80, z_81, z_99, z_100, z_200, z_400, z_3240, z_20000, z_100000, iz_add, iz_sub, iz_mul, iz_neg, iz_nat, iz_lt, iz_le, iz_eq, iz_div, iz_ite, iz_c, md10, md100, izcb_0, izcb_1, isOut_0, isNoCell_0, isGr_0, np_p, VV_r, VV_n, V_k, W_k, V_0, W_0, V_1, W_1, V_2, W_2, V_3, W_3, V_4, W_4, V_5, W_5, V_6, W_6, V_7, W_7, V_8, W_8, V_9, W_9, h.r0_0, h.r0_1, h.r0_2, h.r0_3, h.r0_4, h.r0_5, h.r1_0, h.r1_1, h.r1_2, h.r1_3, h.r12, rf_0 h, rf_1 h, rf_10 h, rf_11 h, rf_12 h, r6_i h, r6_o h, r7_i h, r7_o h, r8_i h, r8_o h, rl_13 h, ra_13 h, rl_2 h, ra_2 h, rl_3 h, ra_3 h, rl_4 h, ra_4 h, rl_5 h, ra_5 h, rl_6 h, ra_6 h, rl_7 h, ra_7 h, rl_8 h, ra_8 h, rl_9 h, ra_9 h, up_e, k1]
  · intro n' i u i1 i2 hu hk
    have y := hu.2.2.2.1 i i1 i2
    simp only [mx_i] at y
    obtain ⟨y0, y1, y2, y3, y4, y5, y6⟩ := y
    obtain ⟨g0, g1, g2, f0, f1, f2, f3, gP, gB, gN⟩ := tF hI i1 i2
    have hMa := (hI.2.2.2.2.1 i i1 i2)
    have zz : ∀ p, 0 ≤ p → p < np → a 12 2 p = i → u 12 6 p = tZ2 a p := fun p p1 p2 pe => by
      have := hu.2.2.2.2.2 p p1 p2
      unfold mo at this
      rw [if_neg (by omega)] at this; exact this
    have z10 := hu.2.2.1
    have hCu := hu.hC hI
    -- the memory is as it was but for the state of paths
    have keep : tS3 a i = tS2 a i → tB3 a i = tB1 a i → tP3 a i = a 11 3 i → tS2 a i ≠ 3 ∨ a 11 5 i = -1 → CS u a nm np (mx (i + 1) (tB3 a) (tB1 a)) (mx (i + 1) (tP3 a) (a 11 3)) (mx (i + 1) (tS3 a) (tS2 a)) (mx (i + 1) (tQ3 a) (a 11 5)) (mo a (i + 1) (tZ3 a) (tZ2 a)) := fun e1 e2 e3 e4 =>
      CS_step i1 hu (fun _ _ _ _ => rfl) (fun _ _ => rfl) (fun _ _ _ => rfl) ⟨y0, y1, by rw [e2]; exact y2, by rw [e3]; exact y3, by rw [e1]; exact y4, by
        unfold tQ3
        by_cases c : tS3 a i = 3
        · rw [if_pos c, y5]; omega
        · rw [if_neg c, y5], y6⟩ (fun _ _ _ => rfl) (fun _ _ _ _ => rfl) (fun p p1 p2 pe => by
        unfold tZ3
        rw [pe, if_neg (by omega)]; exact zz p p1 p2 pe)
    have moved : ∀ w : AT, (∀ t, t ≠ 11 → w t = u t) → (∀ j m, ¬ (m = i ∧ (j = 2 ∨ j = 3)) → w 11 j m = u 11 j m) → w 11 2 i = tB3 a i → w 11 3 i = tP3 a i → tS3 a i = tS2 a i → tS2 a i ≠ 3 → CS w a nm np (mx (i + 1) (tB3 a) (tB1 a)) (mx (i + 1) (tP3 a) (a 11 3)) (mx (i + 1) (tS3 a) (tS2 a)) (mx (i + 1) (tQ3 a) (a 11 5)) (mo a (i + 1) (tZ3 a) (tZ2 a)) := fun w w1 w2 w3 w4 e1 e2 =>
      CS_step i1 hu (fun t _ t2 _ => w1 t t2) (fun j _ => by rw [w1 0 (by omega)]) (fun j m hm => w2 j m (by omega)) ⟨by rw [w2 0 i (by omega)]; exact y0, by rw [w2 1 i (by omega)]; exact y1, w3, w4, by rw [w2 4 i (by omega), e1]; exact y4, by
        unfold tQ3
        rw [if_neg (by omega), w2 5 i (by omega), y5], by rw [w2 6 i (by omega)]; exact y6⟩ (fun j p _ => by rw [w1 12 (by omega)]) (fun p _ _ _ => by rw [w1 12 (by omega)]) (fun p p1 p2 pe => by
        unfold tZ3
        rw [pe, if_neg (by omega), w1 12 (by omega)]; exact zz p p1 p2 pe)
    rcases g2 with e | e | e | e
    · -- PARKED
      have e1 : tS3 a i = tS2 a i := by unfold tS3; rw [if_neg (by omega)]
      have e2 : tB3 a i = tB1 a i := by unfold tB3; rw [if_neg (by omega)]
      have e3 : tP3 a i = a 11 3 i := by unfold tP3; rw [if_neg (by omega), if_neg (by omega)]
      refine ⟨u, keep e1 e2 e3 (Or.inl (by omega)), hk, ?_⟩
      have k1 := c_flownBy_n (a := u) h i1 i2 (by omega) (by omega) (by omega)
      have k2 := (c_j93 (v := u) h i1 i2 (by omega) (by omega) (fun i s => l_Sk_moveMachines_10 0 (some 7) (iz 10) n' i s) (iz 10)).1 (by omega)
      dsimp only [l_Sk_moveMachines_10, b_Sk_moveMachines_10]
      simp (disch := omega) only [lt__e, bnd_e, bnd2_e, bnd3_e, el0_l, el0_r, el1_l, el1_r, el2_l, el2_r, ↓reduceIte, not_true_eq_false, not_false_eq_true, reduceCtorEq, and_true, true_and, and_false, false_and, or_true, true_or, or_false, false_or, and_self, or_self, ite_true, ite_false, Int.cast_ofNat_Int, Nat.reduceEqDiff, Nat.reduceLT, Int.reduceAdd, Int.reduceSub, Int.reduceMul, Int.reduceNeg, Int.reduceLT, Int.reduceLE, Int.reduceEq, ilt_t, ilt_f, ile_t, ile_f, ieq_t, ieq_f, z_0, z_1, z_2, z_3, z_4, z_5, z_6, z_7, z_8, z_9, z_10, z_12, z_20, z_40, z_80, z_81, z_99, z_100, z_200, z_400, z_3240, z_20000, z_100000, iz_add, iz_sub, iz_mul, iz_neg, iz_nat, iz_lt, iz_le, iz_eq, iz_div, iz_ite, iz_c, md10, md100, izcb_0, izcb_1, isOut_0, isNoCell_0, isGr_0, np_p, VV_r, VV_n, V_k, W_k, V_0, W_0, V_1, W_1, V_2, W_2, V_3, W_3, V_4, W_4, V_5, W_5, V_6, W_6, V_7, W_7, V_8, W_8, V_9, W_9, h.r0_0, h.r0_1, h.r0_2, h.r0_3, h.r0_4, h.r0_5, h.r1_0, h.r1_1, h.r1_2, h.r1_3, h.r12, rf_0 h, rf_1 h, rf_10 h, rf_11 h, rf_12 h, r6_i h, r6_o h, r7_i h, r7_o h, r8_i h, r8_o h, rl_13 h, ra_13 h, rl_2 h, ra_2 h, rl_3 h, ra_3 h, rl_4 h, ra_4 h, rl_5 h, ra_5 h, rl_6 h, ra_6 h, rl_7 h, ra_7 h, rl_8 h, ra_8 h, rl_9 h, ra_9 h, up_e, k1, j_Sk_moveMachines_60, y4, e]
      exact k2
    · -- FLIES
      obtain ⟨h1, h2, h3, h4, h5, h6, h7, h8⟩ := f1 e
      have h5b := h5.1
      have k1 := c_flownBy_y (a := u) h i1 i2 (by omega) (by omega) (by omega)
      rw [y5] at k1
      have hwu := PW_c (hu.eq (a 11 5 i)) h5
      have b3 := hu.2.2.2.2.1 3 (a 11 5 i) (by omega)
      have own := hu.2.2.2.2.1 2 (a 11 5 i) (by omega)
      rw [h4] at own
      by_cases c1 : a 12 3 (a 11 5 i) < a 0 10 0 + 1
      · have hpl := c_placeWhen (a := u) h h2 (by omega) hwu (t := a 0 10 0 + 1) (by omega) (by omega)
        have ePL : PL u (a 11 5 i) (a 0 10 0 + 1) = tP3 a i := by
          rw [PL_c (hu.eq _)]
          unfold tP3
          rw [if_pos e, if_pos c1]
        rw [ePL] at hpl
        have ht := c_taken (a := u) h hCu (t := 5) (Or.inr rfl) (p := u 11 3 i) (q := tP3 a i) (by omega) (by omega) gP.1 gP.2
        have ec : cost u 5 (u 11 3 i) (tP3 a i) = tB1 a i - tB3 a i := by
          rw [cost_c (fun t t1 t2 => hu.1 t (by omega) (by omega) (by omega)) (Or.inr rfl), y3]
          unfold tB3
          rw [if_pos (Or.inl ⟨e, c1⟩)]; omega
        rw [ec] at ht
        have eB : tB1 a i - (tB1 a i - tB3 a i) = tB3 a i := by omega
        have W4 : up (up u 11 2 i (tB3 a i)) 11 3 i (tP3 a i) 11 4 i = 1 := by simp (disch := omega) only [up_e, lt__e, bnd_e, bnd2_e, bnd3_e, el0_l, el0_r, el1_l, el1_r, el2_l, el2_r, ↓reduceIte, not_true_eq_false, not_false_eq_true, reduceCtorEq, and_true, true_and, and_false, false_and, or_true, true_or, or_false, false_or, and_self, or_self, ite_true, ite_false, Int.cast_ofNat_Int, Nat.reduceEqDiff, Nat.reduceLT, Int.reduceAdd, Int.reduceSub, Int.reduceMul, Int.reduceNeg, Int.reduceLT, Int.reduceLE, Int.reduceEq, ilt_t, ilt_f, ile_t, ile_f, ieq_t, ieq_f] <;> omega
        have W2 : up (up u 11 2 i (tB3 a i)) 11 3 i (tP3 a i) 11 2 i = tB3 a i := by simp (disch := omega) only [up_e, lt__e, bnd_e, bnd2_e, bnd3_e, el0_l, el0_r, el1_l, el1_r, el2_l, el2_r, ↓reduceIte, not_true_eq_false, not_false_eq_true, reduceCtorEq, and_true, true_and, and_false, false_and, or_true, true_or, or_false, false_or, and_self, or_self, ite_true, ite_false, Int.cast_ofNat_Int, Nat.reduceEqDiff, Nat.reduceLT, Int.reduceAdd, Int.reduceSub, Int.reduceMul, Int.reduceNeg, Int.reduceLT, Int.reduceLE, Int.reduceEq, ilt_t, ilt_f, ile_t, ile_f, ieq_t, ieq_f]
        have W5 : up (up u 11 2 i (tB3 a i)) 11 3 i (tP3 a i) 11 5 i = a 11 5 i := by simp (disch := omega) only [up_e, lt__e, bnd_e, bnd2_e, bnd3_e, el0_l, el0_r, el1_l, el1_r, el2_l, el2_r, ↓reduceIte, not_true_eq_false, not_false_eq_true, reduceCtorEq, and_true, true_and, and_false, false_and, or_true, true_or, or_false, false_or, and_self, or_self, ite_true, ite_false, Int.cast_ofNat_Int, Nat.reduceEqDiff, Nat.reduceLT, Int.reduceAdd, Int.reduceSub, Int.reduceMul, Int.reduceNeg, Int.reduceLT, Int.reduceLE, Int.reduceEq, ilt_t, ilt_f, ile_t, ile_f, ieq_t, ieq_f] <;> exact y5
        have W12 : up (up u 11 2 i (tB3 a i)) 11 3 i (tP3 a i) 12 = u 12 := by simp (disch := omega) only [up_t]
        have k2 := c_j93 (v := up (up u 11 2 i (tB3 a i)) 11 3 i (tP3 a i)) h i1 i2 (by omega) (by omega) (fun i s => l_Sk_moveMachines_10 0 (some 7) (iz 10) n' i s) (iz 10)
        have main : ∀ u' : AT, j_Sk_moveMachines_93 0 (some 7) (iz 10) (iz i) (some (kk 11 i)) (VV (up (up u 11 2 i (tB3 a i)) 11 3 i (tP3 a i)) r n) (fun i s => l_Sk_moveMachines_10 0 (some 7) (iz 10) n' i s) = l_Sk_moveMachines_10 0 (some 7) (iz 10) n' (iz (i + 1)) (VV u' r n) → l_Sk_moveMachines_10 0 (some 7) (iz 10) (n' + 1) (iz i) (VV u r n) = l_Sk_moveMachines_10 0 (some 7) (iz 10) n' (iz (i + 1)) (VV u' r n) := fun u' hh => by
          rw [← hh]
          dsimp only [l_Sk_moveMachines_10, b_Sk_moveMachines_10, f_Sk_moveTo]
          simp (disch := omega) only [lt__e, bnd_e, bnd2_e, bnd3_e, el0_l, el0_r, el1_l, el1_r, el2_l, el2_r, ↓reduceIte, not_true_eq_false, not_false_eq_true, reduceCtorEq, and_true, true_and, and_false, false_and, or_true, true_or, or_false, false_or, and_self, or_self, ite_true, ite_false, Int.cast_ofNat_Int, Nat.reduceEqDiff, Nat.reduceLT, Int.reduceAdd, Int.reduceSub, Int.reduceMul, Int.reduceNeg, Int.reduceLT, Int.reduceLE, Int.reduceEq, ilt_t, ilt_f, ile_t, ile_f, ieq_t, ieq_f, z_0, z_1, z_2, z_3, z_4, z_5, z_6, z_7, z_8, z_9, z_10, z_12, z_20, z_40, z_80, z_81, z_99, z_100, z_200, z_400, z_3240, z_20000, z_100000, iz_add, iz_sub, iz_mul, iz_neg, iz_nat, iz_lt, iz_le, iz_eq, iz_div, iz_ite, iz_c, md10, md100, izcb_0, izcb_1, isOut_0, isNoCell_0, isGr_0, np_p, VV_r, VV_n, V_k, W_k, V_0, W_0, V_1, W_1, V_2, W_2, V_3, W_3, V_4, W_4, V_5, W_5, V_6, W_6, V_7, W_7, V_8, W_8, V_9, W_9, h.r0_0, h.r0_1, h.r0_2, h.r0_3, h.r0_4, h.r0_5, h.r1_0, h.r1_1, h.r1_2, h.r1_3, h.r12, rf_0 h, rf_1 h, rf_10 h, rf_11 h, rf_12 h, r6_i h, r6_o h, r7_i h, r7_o h, r8_i h, r8_o h, rl_13 h, ra_13 h, rl_2 h, ra_2 h, rl_3 h, ra_3 h, rl_4 h, ra_4 h, rl_5 h, ra_5 h, rl_6 h, ra_6 h, rl_7 h, ra_7 h, rl_8 h, ra_8 h, rl_9 h, ra_9 h, up_e, k1, b3, z10, hpl, ht, y2, y4, e, eB, j_Sk_moveMachines_60]
        by_cases c2 : tB3 a i < 0
        · have e1 : tS3 a i = 3 := by unfold tS3; rw [if_pos ⟨Or.inl e, c2⟩]
          refine ⟨up (up (up (up (up u 11 2 i (tB3 a i)) 11 3 i (tP3 a i)) 12 6 (a 11 5 i) 4) 11 5 i (-1)) 11 4 i 3, CS_step i1 hu (fun t t1 t2 t3 => ?_) (fun j _ => ?_) (fun j m hm => ?_) ⟨?_, ?_, ?_, ?_, ?_, ?_, ?_⟩ (fun j p j1 => ?_) (fun p p1 p2 pe => ?_) (fun p p1 p2 pe => ?_), ?_, main _ (k2.2.1 W4 (by omega) _ W5 h2 h3 (by rw [W12]; exact own))⟩
          · rw [up_t t2, up_t t2, up_t t3, up_t t2, up_t t2]
          · rw [up_t (by omega), up_t (by omega), up_t (by omega), up_t (by omega), up_t (by omega)]
          · rw [up_s, if_neg (by omega), up_s, if_neg (by omega), up_t (by omega), up_s, if_neg (by omega), up_s, if_neg (by omega)]
          · simp (disch := omega) only [up_e, lt__e, bnd_e, bnd2_e, bnd3_e, el0_l, el0_r, el1_l, el1_r, el2_l, el2_r, ↓reduceIte, not_true_eq_false, not_false_eq_true, reduceCtorEq, and_true, true_and, and_false, false_and, or_true, true_or, or_false, false_or, and_self, or_self, ite_true, ite_false, Int.cast_ofNat_Int, Nat.reduceEqDiff, Nat.reduceLT, Int.reduceAdd, Int.reduceSub, Int.reduceMul, Int.reduceNeg, Int.reduceLT, Int.reduceLE, Int.reduceEq, ilt_t, ilt_f, ile_t, ile_f, ieq_t, ieq_f] <;> exact y0
          · simp (disch := omega) only [up_e, lt__e, bnd_e, bnd2_e, bnd3_e, el0_l, el0_r, el1_l, el1_r, el2_l, el2_r, ↓reduceIte, not_true_eq_false, not_false_eq_true, reduceCtorEq, and_true, true_and, and_false, false_and, or_true, true_or, or_false, false_or, and_self, or_self, ite_true, ite_false, Int.cast_ofNat_Int, Nat.reduceEqDiff, Nat.reduceLT, Int.reduceAdd, Int.reduceSub, Int.reduceMul, Int.reduceNeg, Int.reduceLT, Int.reduceLE, Int.reduceEq, ilt_t, ilt_f, ile_t, ile_f, ieq_t, ieq_f] <;> exact y1
          · simp (disch := omega) only [up_e, lt__e, bnd_e, bnd2_e, bnd3_e, el0_l, el0_r, el1_l, el1_r, el2_l, el2_r, ↓reduceIte, not_true_eq_false, not_false_eq_true, reduceCtorEq, and_true, true_and, and_false, false_and, or_true, true_or, or_false, false_or, and_self, or_self, ite_true, ite_false, Int.cast_ofNat_Int, Nat.reduceEqDiff, Nat.reduceLT, Int.reduceAdd, Int.reduceSub, Int.reduceMul, Int.reduceNeg, Int.reduceLT, Int.reduceLE, Int.reduceEq, ilt_t, ilt_f, ile_t, ile_f, ieq_t, ieq_f]
          · simp (disch := omega) only [up_e, lt__e, bnd_e, bnd2_e, bnd3_e, el0_l, el0_r, el1_l, el1_r, el2_l, el2_r, ↓reduceIte, not_true_eq_false, not_false_eq_true, reduceCtorEq, and_true, true_and, and_false, false_and, or_true, true_or, or_false, false_or, and_self, or_self, ite_true, ite_false, Int.cast_ofNat_Int, Nat.reduceEqDiff, Nat.reduceLT, Int.reduceAdd, Int.reduceSub, Int.reduceMul, Int.reduceNeg, Int.reduceLT, Int.reduceLE, Int.reduceEq, ilt_t, ilt_f, ile_t, ile_f, ieq_t, ieq_f]
          · rw [e1]; simp (disch := omega) only [up_e, lt__e, bnd_e, bnd2_e, bnd3_e, el0_l, el0_r, el1_l, el1_r, el2_l, el2_r, ↓reduceIte, not_true_eq_false, not_false_eq_true, reduceCtorEq, and_true, true_and, and_false, false_and, or_true, true_or, or_false, false_or, and_self, or_self, ite_true, ite_false, Int.cast_ofNat_Int, Nat.reduceEqDiff, Nat.reduceLT, Int.reduceAdd, Int.reduceSub, Int.reduceMul, Int.reduceNeg, Int.reduceLT, Int.reduceLE, Int.reduceEq, ilt_t, ilt_f, ile_t, ile_f, ieq_t, ieq_f]
          · unfold tQ3; rw [if_pos e1]; simp (disch := omega) only [up_e, lt__e, bnd_e, bnd2_e, bnd3_e, el0_l, el0_r, el1_l, el1_r, el2_l, el2_r, ↓reduceIte, not_true_eq_false, not_false_eq_true, reduceCtorEq, and_true, true_and, and_false, false_and, or_true, true_or, or_false, false_or, and_self, or_self, ite_true, ite_false, Int.cast_ofNat_Int, Nat.reduceEqDiff, Nat.reduceLT, Int.reduceAdd, Int.reduceSub, Int.reduceMul, Int.reduceNeg, Int.reduceLT, Int.reduceLE, Int.reduceEq, ilt_t, ilt_f, ile_t, ile_f, ieq_t, ieq_f]
          · simp (disch := omega) only [up_e, lt__e, bnd_e, bnd2_e, bnd3_e, el0_l, el0_r, el1_l, el1_r, el2_l, el2_r, ↓reduceIte, not_true_eq_false, not_false_eq_true, reduceCtorEq, and_true, true_and, and_false, false_and, or_true, true_or, or_false, false_or, and_self, or_self, ite_true, ite_false, Int.cast_ofNat_Int, Nat.reduceEqDiff, Nat.reduceLT, Int.reduceAdd, Int.reduceSub, Int.reduceMul, Int.reduceNeg, Int.reduceLT, Int.reduceLE, Int.reduceEq, ilt_t, ilt_f, ile_t, ile_f, ieq_t, ieq_f] <;> exact y6
          · rw [up_t (by omega), up_t (by omega), up_s, if_neg (by omega), up_t (by omega), up_t (by omega)]
          · rw [up_t (by omega), up_t (by omega), up_s, if_neg (fun z => pe (by rw [z.2]; exact h4)), up_t (by omega), up_t (by omega)]
          · rw [up_t (by omega), up_t (by omega), up_s]
            unfold tZ3
            by_cases e5 : p = a 11 5 i
            · rw [if_pos ⟨rfl, e5⟩, pe, if_pos ⟨e, e5.symm, e1⟩]
            · rw [if_neg (fun z => e5 z.2), pe, if_neg (fun z => e5 z.2.1.symm), up_t (by omega), up_t (by omega)]; exact zz p p1 p2 pe
          · rw [up_t (by omega), up_t (by omega), up_t (by omega), up_t (by omega), up_t (by omega)]; exact hk
        · have e1 : tS3 a i = tS2 a i := by unfold tS3; rw [if_neg (by omega)]
          refine ⟨up (up u 11 2 i (tB3 a i)) 11 3 i (tP3 a i), moved _ (fun t t1 => by rw [up_t t1, up_t t1]) (fun j m hm => by rw [up_s, if_neg (by omega), up_s, if_neg (by omega)]) W2 (by rw [up_s, if_pos ⟨rfl, rfl⟩]) e1 (by omega), by rw [up_t (by omega), up_t (by omega)]; exact hk, main _ (k2.1 (by omega))⟩
      · have e2 : tB3 a i = tB1 a i := by unfold tB3; rw [if_neg (by omega)]
        have e1 : tS3 a i = tS2 a i := by unfold tS3; rw [if_neg (by omega)]
        have e3 : tP3 a i = a 11 3 i := by unfold tP3; rw [if_pos e, if_neg c1]
        refine ⟨u, keep e1 e2 e3 (Or.inl (by omega)), hk, ?_⟩
        have k2 := (c_j93 (v := u) h i1 i2 (by omega) (by omega) (fun i s => l_Sk_moveMachines_10 0 (some 7) (iz 10) n' i s) (iz 10)).1 (by omega)
        dsimp only [l_Sk_moveMachines_10, b_Sk_moveMachines_10]
        simp (disch := omega) only [lt__e, bnd_e, bnd2_e, bnd3_e, el0_l, el0_r, el1_l, el1_r, el2_l, el2_r, ↓reduceIte, not_true_eq_false, not_false_eq_true, reduceCtorEq, and_true, true_and, and_false, false_and, or_true, true_or, or_false, false_or, and_self, or_self, ite_true, ite_false, Int.cast_ofNat_Int, Nat.reduceEqDiff, Nat.reduceLT, Int.reduceAdd, Int.reduceSub, Int.reduceMul, Int.reduceNeg, Int.reduceLT, Int.reduceLE, Int.reduceEq, ilt_t, ilt_f, ile_t, ile_f, ieq_t, ieq_f, z_0, z_1, z_2, z_3, z_4, z_5, z_6, z_7, z_8, z_9, z_10, z_12, z_20, z_40, z_80, z_81, z_99, z_100, z_200, z_400, z_3240, z_20000, z_100000, iz_add, iz_sub, iz_mul, iz_neg, iz_nat, iz_lt, iz_le, iz_eq, iz_div, iz_ite, iz_c, md10, md100, izcb_0, izcb_1, isOut_0, isNoCell_0, isGr_0, np_p, VV_r, VV_n, V_k, W_k, V_0, W_0, V_1, W_1, V_2, W_2, V_3, W_3, V_4, W_4, V_5, W_5, V_6, W_6, V_7, W_7, V_8, W_8, V_9, W_9, h.r0_0, h.r0_1, h.r0_2, h.r0_3, h.r0_4, h.r0_5, h.r1_0, h.r1_1, h.r1_2, h.r1_3, h.r12, rf_0 h, rf_1 h, rf_10 h, rf_11 h, rf_12 h, r6_i h, r6_o h, r7_i h, r7_o h, r8_i h, r8_o h, rl_13 h, ra_13 h, rl_2 h, ra_2 h, rl_3 h, ra_3 h, rl_4 h, ra_4 h, rl_5 h, ra_5 h, rl_6 h, ra_6 h, rl_7 h, ra_7 h, rl_8 h, ra_8 h, rl_9 h, ra_9 h, up_e, k1, b3, z10, j_Sk_moveMachines_60, y4, e]
        exact k2
    · -- LOST
      obtain ⟨h1, h2, h3, h4, h5⟩ := f2 e
      have k1 := c_flownBy_n (a := u) h i1 i2 (by omega) (by omega) (by omega)
      have eh : tP3 a i = hwd (a 11 3 i) (a 11 6 i) := by unfold tP3; rw [if_neg (by omega), if_pos e]
      have hh := c_homeward (x := a 11 3 i) (g := a 11 6 i) (by omega) (by omega) h5.1 h5.2
      rw [← eh] at hh
      have ht := c_taken (a := u) h hCu (t := 5) (Or.inr rfl) (p := u 11 3 i) (q := tP3 a i) (by omega) (by omega) gP.1 gP.2
      have ec : cost u 5 (u 11 3 i) (tP3 a i) = tB1 a i - tB3 a i := by
        rw [cost_c (fun t t1 t2 => hu.1 t (by omega) (by omega) (by omega)) (Or.inr rfl), y3]
        unfold tB3
        rw [if_pos (Or.inr e)]; omega
      rw [ec] at ht
      rw [y3] at ht
      have eB : tB1 a i - (tB1 a i - tB3 a i) = tB3 a i := by omega
      have W4 : up (up u 11 2 i (tB3 a i)) 11 3 i (tP3 a i) 11 4 i = 2 := by simp (disch := omega) only [up_e, lt__e, bnd_e, bnd2_e, bnd3_e, el0_l, el0_r, el1_l, el1_r, el2_l, el2_r, ↓reduceIte, not_true_eq_false, not_false_eq_true, reduceCtorEq, and_true, true_and, and_false, false_and, or_true, true_or, or_false, false_or, and_self, or_self, ite_true, ite_false, Int.cast_ofNat_Int, Nat.reduceEqDiff, Nat.reduceLT, Int.reduceAdd, Int.reduceSub, Int.reduceMul, Int.reduceNeg, Int.reduceLT, Int.reduceLE, Int.reduceEq, ilt_t, ilt_f, ile_t, ile_f, ieq_t, ieq_f] <;> omega
      have W2 : up (up u 11 2 i (tB3 a i)) 11 3 i (tP3 a i) 11 2 i = tB3 a i := by simp (disch := omega) only [up_e, lt__e, bnd_e, bnd2_e, bnd3_e, el0_l, el0_r, el1_l, el1_r, el2_l, el2_r, ↓reduceIte, not_true_eq_false, not_false_eq_true, reduceCtorEq, and_true, true_and, and_false, false_and, or_true, true_or, or_false, false_or, and_self, or_self, ite_true, ite_false, Int.cast_ofNat_Int, Nat.reduceEqDiff, Nat.reduceLT, Int.reduceAdd, Int.reduceSub, Int.reduceMul, Int.reduceNeg, Int.reduceLT, Int.reduceLE, Int.reduceEq, ilt_t, ilt_f, ile_t, ile_f, ieq_t, ieq_f]
      have k2 := c_j93 (v := up (up u 11 2 i (tB3 a i)) 11 3 i (tP3 a i)) h i1 i2 (by omega) (by omega) (fun i s => l_Sk_moveMachines_10 0 (some 7) (iz 10) n' i s) (iz 10)
      have main : ∀ u' : AT, j_Sk_moveMachines_93 0 (some 7) (iz 10) (iz i) (some (kk 11 i)) (VV (up (up u 11 2 i (tB3 a i)) 11 3 i (tP3 a i)) r n) (fun i s => l_Sk_moveMachines_10 0 (some 7) (iz 10) n' i s) = l_Sk_moveMachines_10 0 (some 7) (iz 10) n' (iz (i + 1)) (VV u' r n) → l_Sk_moveMachines_10 0 (some 7) (iz 10) (n' + 1) (iz i) (VV u r n) = l_Sk_moveMachines_10 0 (some 7) (iz 10) n' (iz (i + 1)) (VV u' r n) := fun u' hh' => by
        rw [← hh']
        dsimp only [l_Sk_moveMachines_10, b_Sk_moveMachines_10, f_Sk_moveTo]
        simp (disch := omega) only [lt__e, bnd_e, bnd2_e, bnd3_e, el0_l, el0_r, el1_l, el1_r, el2_l, el2_r, ↓reduceIte, not_true_eq_false, not_false_eq_true, reduceCtorEq, and_true, true_and, and_false, false_and, or_true, true_or, or_false, false_or, and_self, or_self, ite_true, ite_false, Int.cast_ofNat_Int, Nat.reduceEqDiff, Nat.reduceLT, Int.reduceAdd, Int.reduceSub, Int.reduceMul, Int.reduceNeg, Int.reduceLT, Int.reduceLE, Int.reduceEq, ilt_t, ilt_f, ile_t, ile_f, ieq_t, ieq_f, z_0, z_1, z_2, z_3, z_4, z_5, z_6, z_7, z_8, z_9, z_10, z_12, z_20, z_40, z_80, z_81, z_99, z_100, z_200, z_400, z_3240, z_20000, z_100000, iz_add, iz_sub, iz_mul, iz_neg, iz_nat, iz_lt, iz_le, iz_eq, iz_div, iz_ite, iz_c, md10, md100, izcb_0, izcb_1, isOut_0, isNoCell_0, isGr_0, np_p, VV_r, VV_n, V_k, W_k, V_0, W_0, V_1, W_1, V_2, W_2, V_3, W_3, V_4, W_4, V_5, W_5, V_6, W_6, V_7, W_7, V_8, W_8, V_9, W_9, h.r0_0, h.r0_1, h.r0_2, h.r0_3, h.r0_4, h.r0_5, h.r1_0, h.r1_1, h.r1_2, h.r1_3, h.r12, rf_0 h, rf_1 h, rf_10 h, rf_11 h, rf_12 h, r6_i h, r6_o h, r7_i h, r7_o h, r8_i h, r8_o h, rl_13 h, ra_13 h, rl_2 h, ra_2 h, rl_3 h, ra_3 h, rl_4 h, ra_4 h, rl_5 h, ra_5 h, rl_6 h, ra_6 h, rl_7 h, ra_7 h, rl_8 h, ra_8 h, rl_9 h, ra_9 h, up_e, k1, y4, e, y3, y6, hh, ht, y2, eB, j_Sk_moveMachines_60, f_Sk_moveTo]
      by_cases c2 : tB3 a i < 0
      · have e1 : tS3 a i = 3 := by unfold tS3; rw [if_pos ⟨Or.inr e, c2⟩]
        refine ⟨up (up (up u 11 2 i (tB3 a i)) 11 3 i (tP3 a i)) 11 4 i 3, CS_step i1 hu (fun t t1 t2 t3 => ?_) (fun j _ => ?_) (fun j m hm => ?_) ⟨?_, ?_, ?_, ?_, ?_, ?_, ?_⟩ (fun j p j1 => ?_) (fun p p1 p2 pe => ?_) (fun p p1 p2 pe => ?_), ?_, main _ (k2.2.2 W4 (by omega))⟩
        · rw [up_t t2, up_t t2, up_t t2]
        · rw [up_t (by omega), up_t (by omega), up_t (by omega)]
        · rw [up_s, if_neg (by omega), up_s, if_neg (by omega), up_s, if_neg (by omega)]
        · simp (disch := omega) only [up_e, lt__e, bnd_e, bnd2_e, bnd3_e, el0_l, el0_r, el1_l, el1_r, el2_l, el2_r, ↓reduceIte, not_true_eq_false, not_false_eq_true, reduceCtorEq, and_true, true_and, and_false, false_and, or_true, true_or, or_false, false_or, and_self, or_self, ite_true, ite_false, Int.cast_ofNat_Int, Nat.reduceEqDiff, Nat.reduceLT, Int.reduceAdd, Int.reduceSub, Int.reduceMul, Int.reduceNeg, Int.reduceLT, Int.reduceLE, Int.reduceEq, ilt_t, ilt_f, ile_t, ile_f, ieq_t, ieq_f] <;> exact y0
        · simp (disch := omega) only [up_e, lt__e, bnd_e, bnd2_e, bnd3_e, el0_l, el0_r, el1_l, el1_r, el2_l, el2_r, ↓reduceIte, not_true_eq_false, not_false_eq_true, reduceCtorEq, and_true, true_and, and_false, false_and, or_true, true_or, or_false, false_or, and_self, or_self, ite_true, ite_false, Int.cast_ofNat_Int, Nat.reduceEqDiff, Nat.reduceLT, Int.reduceAdd, Int.reduceSub, Int.reduceMul, Int.reduceNeg, Int.reduceLT, Int.reduceLE, Int.reduceEq, ilt_t, ilt_f, ile_t, ile_f, ieq_t, ieq_f] <;> exact y1
        · simp (disch := omega) only [up_e, lt__e, bnd_e, bnd2_e, bnd3_e, el0_l, el0_r, el1_l, el1_r, el2_l, el2_r, ↓reduceIte, not_true_eq_false, not_false_eq_true, reduceCtorEq, and_true, true_and, and_false, false_and, or_true, true_or, or_false, false_or, and_self, or_self, ite_true, ite_false, Int.cast_ofNat_Int, Nat.reduceEqDiff, Nat.reduceLT, Int.reduceAdd, Int.reduceSub, Int.reduceMul, Int.reduceNeg, Int.reduceLT, Int.reduceLE, Int.reduceEq, ilt_t, ilt_f, ile_t, ile_f, ieq_t, ieq_f]
        · simp (disch := omega) only [up_e, lt__e, bnd_e, bnd2_e, bnd3_e, el0_l, el0_r, el1_l, el1_r, el2_l, el2_r, ↓reduceIte, not_true_eq_false, not_false_eq_true, reduceCtorEq, and_true, true_and, and_false, false_and, or_true, true_or, or_false, false_or, and_self, or_self, ite_true, ite_false, Int.cast_ofNat_Int, Nat.reduceEqDiff, Nat.reduceLT, Int.reduceAdd, Int.reduceSub, Int.reduceMul, Int.reduceNeg, Int.reduceLT, Int.reduceLE, Int.reduceEq, ilt_t, ilt_f, ile_t, ile_f, ieq_t, ieq_f]
        · rw [e1]; simp (disch := omega) only [up_e, lt__e, bnd_e, bnd2_e, bnd3_e, el0_l, el0_r, el1_l, el1_r, el2_l, el2_r, ↓reduceIte, not_true_eq_false, not_false_eq_true, reduceCtorEq, and_true, true_and, and_false, false_and, or_true, true_or, or_false, false_or, and_self, or_self, ite_true, ite_false, Int.cast_ofNat_Int, Nat.reduceEqDiff, Nat.reduceLT, Int.reduceAdd, Int.reduceSub, Int.reduceMul, Int.reduceNeg, Int.reduceLT, Int.reduceLE, Int.reduceEq, ilt_t, ilt_f, ile_t, ile_f, ieq_t, ieq_f]
        · unfold tQ3; rw [if_pos e1]; simp (disch := omega) only [up_e, lt__e, bnd_e, bnd2_e, bnd3_e, el0_l, el0_r, el1_l, el1_r, el2_l, el2_r, ↓reduceIte, not_true_eq_false, not_false_eq_true, reduceCtorEq, and_true, true_and, and_false, false_and, or_true, true_or, or_false, false_or, and_self, or_self, ite_true, ite_false, Int.cast_ofNat_Int, Nat.reduceEqDiff, Nat.reduceLT, Int.reduceAdd, Int.reduceSub, Int.reduceMul, Int.reduceNeg, Int.reduceLT, Int.reduceLE, Int.reduceEq, ilt_t, ilt_f, ile_t, ile_f, ieq_t, ieq_f] <;> omega
        · simp (disch := omega) only [up_e, lt__e, bnd_e, bnd2_e, bnd3_e, el0_l, el0_r, el1_l, el1_r, el2_l, el2_r, ↓reduceIte, not_true_eq_false, not_false_eq_true, reduceCtorEq, and_true, true_and, and_false, false_and, or_true, true_or, or_false, false_or, and_self, or_self, ite_true, ite_false, Int.cast_ofNat_Int, Nat.reduceEqDiff, Nat.reduceLT, Int.reduceAdd, Int.reduceSub, Int.reduceMul, Int.reduceNeg, Int.reduceLT, Int.reduceLE, Int.reduceEq, ilt_t, ilt_f, ile_t, ile_f, ieq_t, ieq_f] <;> exact y6
        · rw [up_t (by omega), up_t (by omega), up_t (by omega)]
        · rw [up_t (by omega), up_t (by omega), up_t (by omega)]
        · rw [up_t (by omega), up_t (by omega), up_t (by omega)]
          unfold tZ3
          rw [pe, if_neg (by omega)]; exact zz p p1 p2 pe
        · rw [up_t (by omega), up_t (by omega), up_t (by omega)]; exact hk
      · have e1 : tS3 a i = tS2 a i := by unfold tS3; rw [if_neg (by omega)]
        refine ⟨up (up u 11 2 i (tB3 a i)) 11 3 i (tP3 a i), moved _ (fun t t1 => by rw [up_t t1, up_t t1]) (fun j m hm => by rw [up_s, if_neg (by omega), up_s, if_neg (by omega)]) W2 (by rw [up_s, if_pos ⟨rfl, rfl⟩]) e1 (by omega), by rw [up_t (by omega), up_t (by omega)]; exact hk, main _ (k2.1 (by omega))⟩
    · -- DOWN
      have e1 : tS3 a i = tS2 a i := by unfold tS3; rw [if_neg (by omega)]
      have e2 : tB3 a i = tB1 a i := by unfold tB3; rw [if_neg (by omega)]
      have e3 : tP3 a i = a 11 3 i := by unfold tP3; rw [if_neg (by omega), if_neg (by omega)]
      refine ⟨u, keep e1 e2 e3 (Or.inr (f3 e).2), hk, ?_⟩
      have k1 := c_flownBy_n (a := u) h i1 i2 (by omega) (by omega) (by omega)
      have k2 := (c_j93 (v := u) h i1 i2 (by omega) (by omega) (fun i s => l_Sk_moveMachines_10 0 (some 7) (iz 10) n' i s) (iz 10)).1 (by omega)
      dsimp only [l_Sk_moveMachines_10, b_Sk_moveMachines_10]
      simp (disch := omega) only [lt__e, bnd_e, bnd2_e, bnd3_e, el0_l, el0_r, el1_l, el1_r, el2_l, el2_r, ↓reduceIte, not_true_eq_false, not_false_eq_true, reduceCtorEq, and_true, true_and, and_false, false_and, or_true, true_or, or_false, false_or, and_self, or_self, ite_true, ite_false, Int.cast_ofNat_Int, Nat.reduceEqDiff, Nat.reduceLT, Int.reduceAdd, Int.reduceSub, Int.reduceMul, Int.reduceNeg, Int.reduceLT, Int.reduceLE, Int.reduceEq, ilt_t, ilt_f, ile_t, ile_f, ieq_t, ieq_f, z_0, z_1, z_2, z_3, z_4, z_5, z_6, z_7, z_8, z_9, z_10, z_12, z_20, z_40, z_80, z_81, z_99, z_100, z_200, z_400, z_3240, z_20000, z_100000, iz_add, iz_sub, iz_mul, iz_neg, iz_nat, iz_lt, iz_le, iz_eq, iz_div, iz_ite, iz_c, md10, md100, izcb_0, izcb_1, isOut_0, isNoCell_0, isGr_0, np_p, VV_r, VV_n, V_k, W_k, V_0, W_0, V_1, W_1, V_2, W_2, V_3, W_3, V_4, W_4, V_5, W_5, V_6, W_6, V_7, W_7, V_8, W_8, V_9, W_9, h.r0_0, h.r0_1, h.r0_2, h.r0_3, h.r0_4, h.r0_5, h.r1_0, h.r1_1, h.r1_2, h.r1_3, h.r12, rf_0 h, rf_1 h, rf_10 h, rf_11 h, rf_12 h, r6_i h, r6_o h, r7_i h, r7_o h, r8_i h, r8_o h, rl_13 h, ra_13 h, rl_2 h, ra_2 h, rl_3 h, ra_3 h, rl_4 h, ra_4 h, rl_5 h, ra_5 h, rl_6 h, ra_6 h, rl_7 h, ra_7 h, rl_8 h, ra_8 h, rl_9 h, ra_9 h, up_e, k1, j_Sk_moveMachines_60, y4, e]
      exact k2
  · intro n' i u i1 i2
    dsimp only [l_Sk_moveMachines_10, b_Sk_moveMachines_10]
    simp (disch := omega) only [lt__e, bnd_e, bnd2_e, bnd3_e, el0_l, el0_r, el1_l, el1_r, el2_l, el2_r, ↓reduceIte, not_true_eq_false, not_false_eq_true, reduceCtorEq, and_true, true_and, and_false, false_and, or_true, true_or, or_false, false_or, and_self, or_self, ite_true, ite_false, Int.cast_ofNat_Int, Nat.reduceEqDiff, Nat.reduceLT, Int.reduceAdd, Int.reduceSub, Int.reduceMul, Int.reduceNeg, Int.reduceLT, Int.reduceLE, Int.reduceEq, ilt_t, ilt_f, ile_t, ile_f, ieq_t, ieq_f, z_0, z_1, z_2, z_3, z_4, z_5, z_6, z_7, z_8, z_9, z_10, z_12, z_20, z_40, z_80, z_81, z_99, z_100, z_200, z_400, z_3240, z_20000, z_100000, iz_add, iz_sub, iz_mul, iz_neg, iz_nat, iz_lt, iz_le, iz_eq, iz_div, iz_ite, iz_c, md10, md100, izcb_0, izcb_1, isOut_0, isNoCell_0, isGr_0, np_p, VV_r, VV_n, V_k, W_k, V_0, W_0, V_1, W_1, V_2, W_2, V_3, W_3, V_4, W_4, V_5, W_5, V_6, W_6, V_7, W_7, V_8, W_8, V_9, W_9, h.r0_0, h.r0_1, h.r0_2, h.r0_3, h.r0_4, h.r0_5, h.r1_0, h.r1_1, h.r1_2, h.r1_3, h.r12, rf_0 h, rf_1 h, rf_10 h, rf_11 h, rf_12 h, r6_i h, r6_o h, r7_i h, r7_o h, r8_i h, r8_o h, rl_13 h, ra_13 h, rl_2 h, ra_2 h, rl_3 h, ra_3 h, rl_4 h, ra_4 h, rl_5 h, ra_5 h, rl_6 h, ra_6 h, rl_7 h, ra_7 h, rl_8 h, ra_8 h, rl_9 h, ra_9 h, up_e, c_flownBy_0]
    unfold j_Sk_moveMachines_60 j_Sk_moveMachines_93
    simp (disch := omega) only [lt__e, bnd_e, bnd2_e, bnd3_e, el0_l, el0_r, el1_l, el1_r, el2_l, el2_r, ↓reduceIte, not_true_eq_false, not_false_eq_true, reduceCtorEq, and_true, true_and, and_false, false_and, or_true, true_or, or_false, false_or, and_self, or_self, ite_true, ite_false, Int.cast_ofNat_Int, Nat.reduceEqDiff, Nat.reduceLT, Int.reduceAdd, Int.reduceSub, Int.reduceMul, Int.reduceNeg, Int.reduceLT, Int.reduceLE, Int.reduceEq, ilt_t, ilt_f, ile_t, ile_f, ieq_t, ieq_f, z_0, z_1, z_2, z_3, z_4, z_5, z_6, z_7, z_8, z_9, z_10, z_12, z_20, z_40, z_80, z_81, z_99, z_100, z_200, z_400, z_3240, z_20000, z_100000, iz_add, iz_sub, iz_mul, iz_neg, iz_nat, iz_lt, iz_le, iz_eq, iz_div, iz_ite, iz_c, md10, md100, izcb_0, izcb_1, isOut_0, isNoCell_0, isGr_0, np_p, c_isUnderWay_0]
  · intro n' u
    dsimp only [l_Sk_moveMachines_10, b_Sk_moveMachines_10]
    simp (disch := omega) only [lt__e, bnd_e, bnd2_e, bnd3_e, el0_l, el0_r, el1_l, el1_r, el2_l, el2_r, ↓reduceIte, not_true_eq_false, not_false_eq_true, reduceCtorEq, and_true, true_and, and_false, false_and, or_true, true_or, or_false, false_or, and_self, or_self, ite_true, ite_false, Int.cast_ofNat_Int, Nat.reduceEqDiff, Nat.reduceLT, Int.reduceAdd, Int.reduceSub, Int.reduceMul, Int.reduceNeg, Int.reduceLT, Int.reduceLE, Int.reduceEq, ilt_t, ilt_f, ile_t, ile_f, ieq_t, ieq_f, z_0, z_1, z_2, z_3, z_4, z_5, z_6, z_7, z_8, z_9, z_10, z_12, z_20, z_40, z_80, z_81, z_99, z_100, z_200, z_400, z_3240, z_20000, z_100000, iz_add, iz_sub, iz_mul, iz_neg, iz_nat, iz_lt, iz_le, iz_eq, iz_div, iz_ite, iz_c, md10, md100, izcb_0, izcb_1, isOut_0, isNoCell_0, isGr_0, np_p, VV_r, VV_n, V_k, W_k, V_0, W_0, V_1, W_1, V_2, W_2, V_3, W_3, V_4, W_4, V_5, W_5, V_6, W_6, V_7, W_7, V_8, W_8, V_9, W_9, h.r0_0, h.r0_1, h.r0_2, h.r0_3, h.r0_4, h.r0_5, h.r1_0, h.r1_1, h.r1_2, h.r1_3, h.r12, rf_0 h, rf_1 h, rf_10 h, rf_11 h, rf_12 h, r6_i h, r6_o h, r7_i h, r7_o h, r8_i h, r8_o h, rl_13 h, ra_13 h, rl_2 h, ra_2 h, rl_3 h, ra_3 h, rl_4 h, ra_4 h, rl_5 h, ra_5 h, rl_6 h, ra_6 h, rl_7 h, ra_7 h, rl_8 h, ra_8 h, rl_9 h, ra_9 h, up_e]
end C16
