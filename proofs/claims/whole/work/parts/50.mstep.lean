/-! a step of time in the reference -/
def tB4 (b : AT) (m : Int) : Int := if tS2 b m = 1 then tB3 b m else tB1 b m
def tP4 (b : AT) (m : Int) : Int := if tS2 b m = 1 then tP3 b m else b 11 3 m
def tR3 (b : AT) (m : Int) : Int := if tS2 b m = 2 then (if tP3 b m < 100 then 0 else 2) else tS2 b m
def tR4 (b : AT) (m : Int) : Int := if tS3 b m = 3 then 3 else tR3 b m
noncomputable def tR5 (b : AT) (nm m : Int) : Int := if tS4 b nm m = 3 then 3 else tR3 b m
section C18
variable {a b u v s x c : AT} {r : Nat → Nat → Option Nat} {n : Nat → Nat} {nr nm np : Int} {B P S Q Z : Int → Int}
theorem RS.f (hu : RS u x b nm np B P S Q Z) (hM : MR x b nr nm np) : MC u b ∧ u 20 7 0 = nm ∧ u 20 17 0 = np ∧ u 20 1 0 = b 0 10 0 + 1 := by
  obtain ⟨hMC, hMRm, hMP, hMS⟩ := hM
  refine ⟨MC_c2 (fun t t1 t2 => hu.1 t (by omega) (by omega) (by omega) (by omega) (by omega) (by omega)) (hu.2.1 4 (by omega) (by omega)) (fun _ _ _ => rfl) hMC, ?_, ?_, hu.2.2.1⟩
  · rw [hu.2.1 7 (by omega) (by omega)]; exact hMS.2.1
  · rw [hu.2.1 17 (by omega) (by omega)]; exact hMS.2.2.2.1
theorem m_charge (h : Sh r n nr nm np) (hI : CI b nr nm np) (hM : MR x b nr nm np) :
    ∃ u, l_Mo_step_12 20 4096 (iz 0) (VV (up x 20 1 0 (b 0 10 0 + 1)) r n) = some (VV u r n) ∧ RS u x b nm np (tB1 b) (b 11 3) (b 11 4) (b 11 5) (b 12 6) ∧ u 20 28 0 = x 20 28 0 := by
  have hb := h.b
  have hMM := hM.2.2.1
  refine loopM (r := r) (n := n) (L := fun n' i u => l_Mo_step_12 20 n' (iz i) (VV u r n)) (kx := fun _ => x 20 28 0) (c := up x 20 1 0 (b 0 10 0 + 1)) (x := x) (b := b) (B := b 11 2) (P := b 11 3) (S := b 11 4) (Q := b 11 5) (Z := b 12 6) (B' := tB1 b) (P' := b 11 3) (S' := b 11 4) (Q' := b 11 5) (Z' := b 12 6) hb.2.1 hI.own
    ⟨fun t t1 _ _ _ _ _ => up_t t1, fun j j1 j2 => by rw [up_s, if_neg (by omega)], by rw [up_s, if_pos ⟨rfl, rfl⟩], fun m m1 m2 => ?_, fun m m1 m2 => by rw [up_t (by omega)], fun p p1 p2 => ?_, fun p p1 p2 => by rw [up_t (by omega)]⟩ (by rw [up_s, if_neg (by omega)]) ?_ ?_
  · obtain ⟨k0, k1, k2, k3, k4, k5, k6⟩ := hMM.1.1 m m1 m2
    rw [up_t (by omega), up_t (by omega), up_t (by omega), up_t (by omega)]
    exact ⟨k2, k3, k4, k5⟩
  · rw [up_t (by omega)]; exact (hMM.2.1 p p1 p2).2.2.2
  · intro n' i u i1 i2 hu hk
    obtain ⟨e1, e7, e17, e10⟩ := hu.f hM
    have y := hu.2.2.2.1 i i1 i2
    simp only [mx_i] at y
    obtain ⟨y2, y3, y4, y5⟩ := y
    have z := hu.2.2.2.2.2.1
    rw [mo_self] at z
    have x26 : u 26 i 0 = b 11 1 i := by rw [hu.1 26 (by omega) (by omega) (by omega) (by omega) (by omega) (by omega)]; exact (hMM.1.1 i i1 i2).2.1
    have w := hI.2.2.2.2.1 i i1 i2
    by_cases c1 : b 11 4 i = 0
    · refine ⟨up u 27 i 0 (tB1 b i), RS_step i1 i2 hu (fun t t1 t2 t3 t4 t5 t6 => up_t t2) (fun j _ => by rw [up_t (by omega)]) (fun m hm => ⟨by rw [up_s, if_neg (by omega)], by rw [up_t (by omega)], by rw [up_t (by omega)], by rw [up_t (by omega)]⟩) ⟨by rw [up_s, if_pos ⟨rfl, rfl⟩], by rw [up_t (by omega)]; exact y3, by rw [up_t (by omega)]; exact y4, by rw [up_t (by omega)]; exact y5⟩ (fun p _ => by rw [up_t (by omega)]) (fun p p1 p2 _ => by rw [up_t (by omega)]; exact z p p1 p2), by rw [up_t (by omega)]; exact hk, ?_⟩
      dsimp only [l_Mo_step_12, b_Mo_step_12]
      by_cases c2 : b 11 2 i + 5 < b 11 1 i
      · have eb : tB1 b i = b 11 2 i + 5 := by unfold tB1; rw [if_pos c1, if_pos c2]
        rw [eb]
        simp (disch := omega) only [lt__e, bnd_e, bnd2_e, bnd3_e, el0_l, el0_r, el1_l, el1_r, el2_l, el2_r, ↓reduceIte, not_true_eq_false, not_false_eq_true, reduceCtorEq, and_true, true_and, and_false, false_and, or_true, true_or, or_false, false_or, and_self, or_self, ite_true, ite_false, Int.cast_ofNat_Int, Nat.reduceEqDiff, Nat.reduceLT, Int.reduceAdd, Int.reduceSub, Int.reduceMul, Int.reduceNeg, Int.reduceLT, Int.reduceLE, Int.reduceEq, ilt_t, ilt_f, ile_t, ile_f, ieq_t, ieq_f, z_0, z_1, z_2, z_3, z_4, z_5, z_6, z_7, z_8, z_9, z_10, z_12, z_20, z_40, z_80, z_81, z_99, z_100, z_200, z_400, z_3240, z_20000, z_100000, iz_add, iz_sub, iz_mul, iz_neg, iz_nat, iz_lt, iz_le, iz_eq, iz_div, iz_ite, iz_c, md10, md100, izcb_0, izcb_1, isOut_0, isNoCell_0, isGr_0, within_e, isCell_e, np_p, VV_r, VV_n, V_20, W_20, V_21, W_21, V_22, W_22, V_23, W_23, V_24, W_24, V_25, W_25, V_26, W_26, V_27, W_27, V_28, W_28, V_29, W_29, V_30, W_30, V_31, W_31, V_32, W_32, V_33, W_33, V_34, W_34, V_35, W_35, V_36, W_36, V_37, W_37, V_38, W_38, V_39, W_39, h.r20_2, h.r20_3, h.r20_5, h.r20_6, h.r20_8, h.r20_9, h.r20_10, h.r20_11, h.r20_12, h.r20_13, h.r20_14, h.r20_16, h.r20_18, h.r20_19, h.r20_20, h.r20_21, h.r20_22, h.r20_23, h.r20_25, rf_20 h, ra_21 h, ra_22 h, ra_23 h, ra_24 h, ra_25 h, ra_26 h, ra_27 h, ra_28 h, ra_29 h, ra_30 h, ra_31 h, ra_32 h, ra_33 h, ra_34 h, ra_35 h, ra_36 h, ra_37 h, ra_38 h, ra_39 h, up_e, e7, y4, y2, x26, c1]
      · have eb : tB1 b i = b 11 1 i := by unfold tB1; rw [if_pos c1, if_neg c2]
        rw [eb]
        simp (disch := omega) only [lt__e, bnd_e, bnd2_e, bnd3_e, el0_l, el0_r, el1_l, el1_r, el2_l, el2_r, ↓reduceIte, not_true_eq_false, not_false_eq_true, reduceCtorEq, and_true, true_and, and_false, false_and, or_true, true_or, or_false, false_or, and_self, or_self, ite_true, ite_false, Int.cast_ofNat_Int, Nat.reduceEqDiff, Nat.reduceLT, Int.reduceAdd, Int.reduceSub, Int.reduceMul, Int.reduceNeg, Int.reduceLT, Int.reduceLE, Int.reduceEq, ilt_t, ilt_f, ile_t, ile_f, ieq_t, ieq_f, z_0, z_1, z_2, z_3, z_4, z_5, z_6, z_7, z_8, z_9, z_10, z_12, z_20, z_40, z_80, z_81, z_99, z_100, z_200, z_400, z_3240, z_20000, z_100000, iz_add, iz_sub, iz_mul, iz_neg, iz_nat, iz_lt, iz_le, iz_eq, iz_div, iz_ite, iz_c, md10, md100, izcb_0, izcb_1, isOut_0, isNoCell_0, isGr_0, within_e, isCell_e, np_p, VV_r, VV_n, V_20, W_20, V_21, W_21, V_22, W_22, V_23, W_23, V_24, W_24, V_25, W_25, V_26, W_26, V_27, W_27, V_28, W_28, V_29, W_29, V_30, W_30, V_31, W_31, V_32, W_32, V_33, W_33, V_34, W_34, V_35, W_35, V_36, W_36, V_37, W_37, V_38, W_38, V_39, W_39, h.r20_2, h.r20_3, h.r20_5, h.r20_6, h.r20_8, h.r20_9, h.r20_10, h.r20_11, h.r20_12, h.r20_13, h.r20_14, h.r20_16, h.r20_18, h.r20_19, h.r20_20, h.r20_21, h.r20_22, h.r20_23, h.r20_25, rf_20 h, ra_21 h, ra_22 h, ra_23 h, ra_24 h, ra_25 h, ra_26 h, ra_27 h, ra_28 h, ra_29 h, ra_30 h, ra_31 h, ra_32 h, ra_33 h, ra_34 h, ra_35 h, ra_36 h, ra_37 h, ra_38 h, ra_39 h, up_e, e7, y4, y2, x26, c1]
    · have eb : tB1 b i = b 11 2 i := if_neg c1
      refine ⟨u, RS_step i1 i2 hu (fun _ _ _ _ _ _ _ => rfl) (fun _ _ => rfl) (fun _ _ => ⟨rfl, rfl, rfl, rfl⟩) ⟨by rw [eb]; exact y2, y3, y4, y5⟩ (fun _ _ => rfl) (fun p p1 p2 _ => z p p1 p2), hk, ?_⟩
      dsimp only [l_Mo_step_12, b_Mo_step_12]
      simp (disch := omega) only [lt__e, bnd_e, bnd2_e, bnd3_e, el0_l, el0_r, el1_l, el1_r, el2_l, el2_r, ↓reduceIte, not_true_eq_false, not_false_eq_true, reduceCtorEq, and_true, true_and, and_false, false_and, or_true, true_or, or_false, false_or, and_self, or_self, ite_true, ite_false, Int.cast_ofNat_Int, Nat.reduceEqDiff, Nat.reduceLT, Int.reduceAdd, Int.reduceSub, Int.reduceMul, Int.reduceNeg, Int.reduceLT, Int.reduceLE, Int.reduceEq, ilt_t, ilt_f, ile_t, ile_f, ieq_t, ieq_f, z_0, z_1, z_2, z_3, z_4, z_5, z_6, z_7, z_8, z_9, z_10, z_12, z_20, z_40, z_80, z_81, z_99, z_100, z_200, z_400, z_3240, z_20000, z_100000, iz_add, iz_sub, iz_mul, iz_neg, iz_nat, iz_lt, iz_le, iz_eq, iz_div, iz_ite, iz_c, md10, md100, izcb_0, izcb_1, isOut_0, isNoCell_0, isGr_0, within_e, isCell_e, np_p, VV_r, VV_n, V_20, W_20, V_21, W_21, V_22, W_22, V_23, W_23, V_24, W_24, V_25, W_25, V_26, W_26, V_27, W_27, V_28, W_28, V_29, W_29, V_30, W_30, V_31, W_31, V_32, W_32, V_33, W_33, V_34, W_34, V_35, W_35, V_36, W_36, V_37, W_37, V_38, W_38, V_39, W_39, h.r20_2, h.r20_3, h.r20_5, h.r20_6, h.r20_8, h.r20_9, h.r20_10, h.r20_11, h.r20_12, h.r20_13, h.r20_14, h.r20_16, h.r20_18, h.r20_19, h.r20_20, h.r20_21, h.r20_22, h.r20_23, h.r20_25, rf_20 h, ra_21 h, ra_22 h, ra_23 h, ra_24 h, ra_25 h, ra_26 h, ra_27 h, ra_28 h, ra_29 h, ra_30 h, ra_31 h, ra_32 h, ra_33 h, ra_34 h, ra_35 h, ra_36 h, ra_37 h, ra_38 h, ra_39 h, up_e, e7, y4, c1]
  · intro n' u hu
    obtain ⟨e1, e7, e17, e10⟩ := hu.f hM
    dsimp only [l_Mo_step_12, b_Mo_step_12]
    simp (disch := omega) only [lt__e, bnd_e, bnd2_e, bnd3_e, el0_l, el0_r, el1_l, el1_r, el2_l, el2_r, ↓reduceIte, not_true_eq_false, not_false_eq_true, reduceCtorEq, and_true, true_and, and_false, false_and, or_true, true_or, or_false, false_or, and_self, or_self, ite_true, ite_false, Int.cast_ofNat_Int, Nat.reduceEqDiff, Nat.reduceLT, Int.reduceAdd, Int.reduceSub, Int.reduceMul, Int.reduceNeg, Int.reduceLT, Int.reduceLE, Int.reduceEq, ilt_t, ilt_f, ile_t, ile_f, ieq_t, ieq_f, z_0, z_1, z_2, z_3, z_4, z_5, z_6, z_7, z_8, z_9, z_10, z_12, z_20, z_40, z_80, z_81, z_99, z_100, z_200, z_400, z_3240, z_20000, z_100000, iz_add, iz_sub, iz_mul, iz_neg, iz_nat, iz_lt, iz_le, iz_eq, iz_div, iz_ite, iz_c, md10, md100, izcb_0, izcb_1, isOut_0, isNoCell_0, isGr_0, within_e, isCell_e, np_p, VV_r, VV_n, V_20, W_20, V_21, W_21, V_22, W_22, V_23, W_23, V_24, W_24, V_25, W_25, V_26, W_26, V_27, W_27, V_28, W_28, V_29, W_29, V_30, W_30, V_31, W_31, V_32, W_32, V_33, W_33, V_34, W_34, V_35, W_35, V_36, W_36, V_37, W_37, V_38, W_38, V_39, W_39, h.r20_2, h.r20_3, h.r20_5, h.r20_6, h.r20_8, h.r20_9, h.r20_10, h.r20_11, h.r20_12, h.r20_13, h.r20_14, h.r20_16, h.r20_18, h.r20_19, h.r20_20, h.r20_21, h.r20_22, h.r20_23, h.r20_25, rf_20 h, ra_21 h, ra_22 h, ra_23 h, ra_24 h, ra_25 h, ra_26 h, ra_27 h, ra_28 h, ra_29 h, ra_30 h, ra_31 h, ra_32 h, ra_33 h, ra_34 h, ra_35 h, ra_36 h, ra_37 h, ra_38 h, ra_39 h, up_e, e7]
theorem m_begin (h : Sh r n nr nm np) (hI : CI b nr nm np) (hM : MR x b nr nm np) (hu : RS u x b nm np (tB1 b) (b 11 3) (b 11 4) (b 11 5) (b 12 6)) :
    ∃ v, l_Mo_step_77 20 4096 (iz 0) (VV u r n) = some (VV v r n) ∧ RS v x b nm np (tB1 b) (b 11 3) (tS2 b) (b 11 5) (tZ2 b) ∧ v 20 28 0 = u 20 28 0 := by
  have hb := h.b
  have hP := hI.2.2.2.2.2.1
  have hMa := hI.2.2.2.2.1
  have hMM := hM.2.2.1
  have hnow := hI.1.2.1
  have key := lpQ (L := fun n' i v => l_Mo_step_77 20 n' (iz i) (VV v r n)) (hi := np)
    (Q := fun i v => 0 ≤ i ∧ RS v x b nm np (tB1 b) (b 11 3) (fun m => if b 11 5 m < i then tS2 b m else b 11 4 m) (b 11 5) (fun p => if p < i then tZ2 b p else b 12 6 p) ∧ v 20 28 0 = u 20 28 0)
    (R := fun w => ∃ v, w = VV v r n ∧ RS v x b nm np (tB1 b) (b 11 3) (tS2 b) (b 11 5) (tZ2 b) ∧ v 20 28 0 = u 20 28 0) ?_ ?_ 4096 0 u hb.2.2.1 (by omega) ⟨by omega, RS_c hu (fun m m1 m2 => ⟨rfl, rfl, ?_, rfl⟩) (fun p p1 p2 => (if_neg (by omega)).symm), rfl⟩
  · obtain ⟨w, hw, v, rfl, k⟩ := key
    exact ⟨v, hw, k⟩
  · rintro n' i v h3 ⟨h4, h5, h6⟩
    left
    obtain ⟨e1, e7, e17, e10⟩ := h5.f hM
    dsimp only [l_Mo_step_77, b_Mo_step_77]
    obtain ⟨w1, w2, w3, w4, w5, w6, w7⟩ := hP i h4 h3
    obtain ⟨⟨p1, p2, p2'⟩, p3, p4, p5⟩ := hMM.2.1 i h4 h3
    obtain ⟨q1, q2, q3, q4, q5, q6, q7⟩ := h5
    have z6 : v 37 i 0 = if i < i then tZ2 b i else b 12 6 i := q6 i h4 h3
    rw [if_neg (by omega)] at z6
    have z34 : v 34 i 0 = b 12 3 i := by rw [q1 34 (by omega) (by omega) (by omega) (by omega) (by omega) (by omega)]; exact p1
    have z33 : v 33 i 0 = b 12 2 i := by rw [q1 33 (by omega) (by omega) (by omega) (by omega) (by omega) (by omega)]; exact p3
    by_cases c2 : b 12 6 i = 0 ∧ b 12 3 i = b 0 10 0 + 1
    · have l2 := (hI.2.2.2.2.2.2.2 i h4 h3).2 c2.1
      refine ⟨up (up v 37 i 0 1) 29 (b 12 2 i) 0 1, ⟨by omega, ⟨fun t t1 t2 t3 t4 t5 t6 => by rw [up_t t4, up_t t6]; exact q1 t t1 t2 t3 t4 t5 t6, fun j j1 j2 => by rw [up_t (by omega), up_t (by omega)]; exact q2 j j1 j2, by rw [up_t (by omega), up_t (by omega)]; exact q3, fun m m1 m2 => ?_, fun m m1 m2 => by rw [up_s, if_neg (by omega), up_t (by omega)]; exact q5 m m1 m2, fun p p1 p2 => ?_, fun p p1 p2 => by rw [up_t (by omega), up_s, if_neg (by omega)]; exact q7 p p1 p2⟩, by rw [up_t (by omega), up_t (by omega)]; exact h6⟩, ?_⟩
      · have y := q4 m m1 m2
        have y4 : v 29 m 0 = if b 11 5 m < i then tS2 b m else b 11 4 m := y.2.2.1
        refine ⟨by rw [up_t (by omega), up_t (by omega)]; exact y.1, by rw [up_t (by omega), up_t (by omega)]; exact y.2.1, ?_, by rw [up_t (by omega), up_t (by omega)]; exact y.2.2.2⟩
        show _ = if b 11 5 m < i + 1 then tS2 b m else b 11 4 m
        by_cases e : m = b 12 2 i
        · rw [e, up_s, if_pos ⟨rfl, rfl⟩, l2.2.2.1, if_pos (by omega)]
          unfold tS2
          rw [l2.2.2.1, if_pos ⟨l2.2.1, h4, c2.2⟩]
        · have e2 := own_ne hI h4 m1 m2 c2.1 e
          rw [up_s, if_neg (by omega), up_t (by omega), y4]
          by_cases e3 : b 11 5 m < i
          · rw [if_pos e3, if_pos (by omega)]
          · rw [if_neg e3, if_neg (by omega)]
      · have y : v 37 p 0 = if p < i then tZ2 b p else b 12 6 p := q6 p p1 p2
        show _ = if p < i + 1 then tZ2 b p else b 12 6 p
        rw [up_t (by omega)]
        by_cases e : p = i
        · rw [e, up_s, if_pos ⟨rfl, rfl⟩, if_pos (by omega)]
          exact (if_pos c2).symm
        · rw [up_s, if_neg (by omega), y]
          by_cases e3 : p < i
          · rw [if_pos e3, if_pos (by omega)]
          · rw [if_neg e3, if_neg (by omega)]
      · simp (disch := omega) only [lt__e, bnd_e, bnd2_e, bnd3_e, el0_l, el0_r, el1_l, el1_r, el2_l, el2_r, ↓reduceIte, not_true_eq_false, not_false_eq_true, reduceCtorEq, and_true, true_and, and_false, false_and, or_true, true_or, or_false, false_or, and_self, or_self, ite_true, ite_false, Int.cast_ofNat_Int, Nat.reduceEqDiff, Nat.reduceLT, Int.reduceAdd, Int.reduceSub, Int.reduceMul, Int.reduceNeg, Int.reduceLT, Int.reduceLE, Int.reduceEq, ilt_t, ilt_f, ile_t, ile_f, ieq_t, ieq_f, z_0, z_1, z_2, z_3, z_4, z_5, z_6, z_7, z_8, z_9, z_10, z_12, z_20, z_40, z_80, z_81, z_99, z_100, z_200, z_400, z_3240, z_20000, z_100000, iz_add, iz_sub, iz_mul, iz_neg, iz_nat, iz_lt, iz_le, iz_eq, iz_div, iz_ite, iz_c, md10, md100, izcb_0, izcb_1, isOut_0, isNoCell_0, isGr_0, within_e, isCell_e, np_p, VV_r, VV_n, V_20, W_20, V_21, W_21, V_22, W_22, V_23, W_23, V_24, W_24, V_25, W_25, V_26, W_26, V_27, W_27, V_28, W_28, V_29, W_29, V_30, W_30, V_31, W_31, V_32, W_32, V_33, W_33, V_34, W_34, V_35, W_35, V_36, W_36, V_37, W_37, V_38, W_38, V_39, W_39, h.r20_2, h.r20_3, h.r20_5, h.r20_6, h.r20_8, h.r20_9, h.r20_10, h.r20_11, h.r20_12, h.r20_13, h.r20_14, h.r20_16, h.r20_18, h.r20_19, h.r20_20, h.r20_21, h.r20_22, h.r20_23, h.r20_25, rf_20 h, ra_21 h, ra_22 h, ra_23 h, ra_24 h, ra_25 h, ra_26 h, ra_27 h, ra_28 h, ra_29 h, ra_30 h, ra_31 h, ra_32 h, ra_33 h, ra_34 h, ra_35 h, ra_36 h, ra_37 h, ra_38 h, ra_39 h, up_e, e17, e10, z6, z34, z33, c2]
    · refine ⟨v, ⟨by omega, RS_c ⟨q1, q2, q3, q4, q5, q6, q7⟩ (fun m m1 m2 => ⟨rfl, rfl, ?_, rfl⟩) (fun p p1 p2 => ?_), h6⟩, ?_⟩
      · show (if b 11 5 m < i then tS2 b m else b 11 4 m) = if b 11 5 m < i + 1 then tS2 b m else b 11 4 m
        by_cases e : b 11 5 m = i
        · rw [if_neg (by omega), if_pos (by omega), tS2_p hI h4 m1 m2 e c2]
        · by_cases e3 : b 11 5 m < i
          · rw [if_pos e3, if_pos (by omega)]
          · rw [if_neg e3, if_neg (by omega)]
      · show (if p < i then tZ2 b p else b 12 6 p) = if p < i + 1 then tZ2 b p else b 12 6 p
        by_cases e : p = i
        · rw [if_neg (by omega), if_pos (by omega), e]
          exact (if_neg c2).symm
        · by_cases e3 : p < i
          · rw [if_pos e3, if_pos (by omega)]
          · rw [if_neg e3, if_neg (by omega)]
      · by_cases c3 : b 12 6 i = 0
        · simp (disch := omega) only [lt__e, bnd_e, bnd2_e, bnd3_e, el0_l, el0_r, el1_l, el1_r, el2_l, el2_r, ↓reduceIte, not_true_eq_false, not_false_eq_true, reduceCtorEq, and_true, true_and, and_false, false_and, or_true, true_or, or_false, false_or, and_self, or_self, ite_true, ite_false, Int.cast_ofNat_Int, Nat.reduceEqDiff, Nat.reduceLT, Int.reduceAdd, Int.reduceSub, Int.reduceMul, Int.reduceNeg, Int.reduceLT, Int.reduceLE, Int.reduceEq, ilt_t, ilt_f, ile_t, ile_f, ieq_t, ieq_f, z_0, z_1, z_2, z_3, z_4, z_5, z_6, z_7, z_8, z_9, z_10, z_12, z_20, z_40, z_80, z_81, z_99, z_100, z_200, z_400, z_3240, z_20000, z_100000, iz_add, iz_sub, iz_mul, iz_neg, iz_nat, iz_lt, iz_le, iz_eq, iz_div, iz_ite, iz_c, md10, md100, izcb_0, izcb_1, isOut_0, isNoCell_0, isGr_0, within_e, isCell_e, np_p, VV_r, VV_n, V_20, W_20, V_21, W_21, V_22, W_22, V_23, W_23, V_24, W_24, V_25, W_25, V_26, W_26, V_27, W_27, V_28, W_28, V_29, W_29, V_30, W_30, V_31, W_31, V_32, W_32, V_33, W_33, V_34, W_34, V_35, W_35, V_36, W_36, V_37, W_37, V_38, W_38, V_39, W_39, h.r20_2, h.r20_3, h.r20_5, h.r20_6, h.r20_8, h.r20_9, h.r20_10, h.r20_11, h.r20_12, h.r20_13, h.r20_14, h.r20_16, h.r20_18, h.r20_19, h.r20_20, h.r20_21, h.r20_22, h.r20_23, h.r20_25, rf_20 h, ra_21 h, ra_22 h, ra_23 h, ra_24 h, ra_25 h, ra_26 h, ra_27 h, ra_28 h, ra_29 h, ra_30 h, ra_31 h, ra_32 h, ra_33 h, ra_34 h, ra_35 h, ra_36 h, ra_37 h, ra_38 h, ra_39 h, up_e, e17, e10, z6, z34, c3]
        · simp (disch := omega) only [lt__e, bnd_e, bnd2_e, bnd3_e, el0_l, el0_r, el1_l, el1_r, el2_l, el2_r, ↓reduceIte, not_true_eq_false, not_false_eq_true, reduceCtorEq, and_true, true_and, and_false, false_and, or_true, true_or, or_false, false_or, and_self, or_self, ite_true, ite_false, Int.cast_ofNat_Int, Nat.reduceEqDiff, Nat.reduceLT, Int.reduceAdd, Int.reduceSub, Int.reduceMul, Int.reduceNeg, Int.reduceLT, Int.reduceLE, Int.reduceEq, ilt_t, ilt_f, ile_t, ile_f, ieq_t, ieq_f, z_0, z_1, z_2, z_3, z_4, z_5, z_6, z_7, z_8, z_9, z_10, z_12, z_20, z_40, z_80, z_81, z_99, z_100, z_200, z_400, z_3240, z_20000, z_100000, iz_add, iz_sub, iz_mul, iz_neg, iz_nat, iz_lt, iz_le, iz_eq, iz_div, iz_ite, iz_c, md10, md100, izcb_0, izcb_1, isOut_0, isNoCell_0, isGr_0, within_e, isCell_e, np_p, VV_r, VV_n, V_20, W_20, V_21, W_21, V_22, W_22, V_23, W_23, V_24, W_24, V_25, W_25, V_26, W_26, V_27, W_27, V_28, W_28, V_29, W_29, V_30, W_30, V_31, W_31, V_32, W_32, V_33, W_33, V_34, W_34, V_35, W_35, V_36, W_36, V_37, W_37, V_38, W_38, V_39, W_39, h.r20_2, h.r20_3, h.r20_5, h.r20_6, h.r20_8, h.r20_9, h.r20_10, h.r20_11, h.r20_12, h.r20_13, h.r20_14, h.r20_16, h.r20_18, h.r20_19, h.r20_20, h.r20_21, h.r20_22, h.r20_23, h.r20_25, rf_20 h, ra_21 h, ra_22 h, ra_23 h, ra_24 h, ra_25 h, ra_26 h, ra_27 h, ra_28 h, ra_29 h, ra_30 h, ra_31 h, ra_32 h, ra_33 h, ra_34 h, ra_35 h, ra_36 h, ra_37 h, ra_38 h, ra_39 h, up_e, e17, z6, c3]
  · rintro n' v ⟨h4, h5, h6⟩
    obtain ⟨e1, e7, e17, e10⟩ := h5.f hM
    refine ⟨_, ?_, v, rfl, RS_c h5 (fun m m1 m2 => ⟨rfl, rfl, ?_, rfl⟩) (fun p p1 p2 => if_pos (by omega)), h6⟩
    · dsimp only [l_Mo_step_77, b_Mo_step_77]
      simp (disch := omega) only [lt__e, bnd_e, bnd2_e, bnd3_e, el0_l, el0_r, el1_l, el1_r, el2_l, el2_r, ↓reduceIte, not_true_eq_false, not_false_eq_true, reduceCtorEq, and_true, true_and, and_false, false_and, or_true, true_or, or_false, false_or, and_self, or_self, ite_true, ite_false, Int.cast_ofNat_Int, Nat.reduceEqDiff, Nat.reduceLT, Int.reduceAdd, Int.reduceSub, Int.reduceMul, Int.reduceNeg, Int.reduceLT, Int.reduceLE, Int.reduceEq, ilt_t, ilt_f, ile_t, ile_f, ieq_t, ieq_f, z_0, z_1, z_2, z_3, z_4, z_5, z_6, z_7, z_8, z_9, z_10, z_12, z_20, z_40, z_80, z_81, z_99, z_100, z_200, z_400, z_3240, z_20000, z_100000, iz_add, iz_sub, iz_mul, iz_neg, iz_nat, iz_lt, iz_le, iz_eq, iz_div, iz_ite, iz_c, md10, md100, izcb_0, izcb_1, isOut_0, isNoCell_0, isGr_0, within_e, isCell_e, np_p, VV_r, VV_n, V_20, W_20, V_21, W_21, V_22, W_22, V_23, W_23, V_24, W_24, V_25, W_25, V_26, W_26, V_27, W_27, V_28, W_28, V_29, W_29, V_30, W_30, V_31, W_31, V_32, W_32, V_33, W_33, V_34, W_34, V_35, W_35, V_36, W_36, V_37, W_37, V_38, W_38, V_39, W_39, h.r20_2, h.r20_3, h.r20_5, h.r20_6, h.r20_8, h.r20_9, h.r20_10, h.r20_11, h.r20_12, h.r20_13, h.r20_14, h.r20_16, h.r20_18, h.r20_19, h.r20_20, h.r20_21, h.r20_22, h.r20_23, h.r20_25, rf_20 h, ra_21 h, ra_22 h, ra_23 h, ra_24 h, ra_25 h, ra_26 h, ra_27 h, ra_28 h, ra_29 h, ra_30 h, ra_31 h, ra_32 h, ra_33 h, ra_34 h, ra_35 h, ra_36 h, ra_37 h, ra_38 h, ra_39 h, up_e, e17]
    · have := (hMa m m1 m2).2.2.2.2.2.1
      exact if_pos (by omega)
  · show b 11 4 m = if b 11 5 m < 0 then tS2 b m else b 11 4 m
    by_cases e : b 11 5 m < 0
    · rw [if_pos e]
      unfold tS2
      rw [if_neg (by omega)]
    · rw [if_neg e]
theorem m_goTo (h : Sh r n nr nm np) (hMC : MC u b) {i q B P : Int} (i1 : 0 ≤ i) (i2 : i < 10) (hB : u 27 i 0 = B) (hP : u 28 i 0 = P) (hP1 : 0 ≤ P ∧ P < 500) (hq : 0 ≤ q ∧ q < 500) :
    f_Mo_goTo 20 (iz i) (iz q) (VV u r n) = some (VV (up (up u 27 i 0 (B - cost b 5 P q)) 28 i 0 q) r n) := by
  have hc := m_cost (a := u) h hMC (t := 5) (Or.inr rfl) (p := P) (q := q) hP1.1 hP1.2 hq.1 hq.2
  unfold f_Mo_goTo
  simp (disch := omega) only [lt__e, bnd_e, bnd2_e, bnd3_e, el0_l, el0_r, el1_l, el1_r, el2_l, el2_r, ↓reduceIte, not_true_eq_false, not_false_eq_true, reduceCtorEq, and_true, true_and, and_false, false_and, or_true, true_or, or_false, false_or, and_self, or_self, ite_true, ite_false, Int.cast_ofNat_Int, Nat.reduceEqDiff, Nat.reduceLT, Int.reduceAdd, Int.reduceSub, Int.reduceMul, Int.reduceNeg, Int.reduceLT, Int.reduceLE, Int.reduceEq, ilt_t, ilt_f, ile_t, ile_f, ieq_t, ieq_f, z_0, z_1, z_2, z_3, z_4, z_5, z_6, z_7, z_8, z_9, z_10, z_12, z_20, z_40, z_80, z_81, z_99, z_100, z_200, z_400, z_3240, z_20000, z_100000, iz_add, iz_sub, iz_mul, iz_neg, iz_nat, iz_lt, iz_le, iz_eq, iz_div, iz_ite, iz_c, md10, md100, izcb_0, izcb_1, isOut_0, isNoCell_0, isGr_0, within_e, isCell_e, np_p, VV_r, VV_n, V_20, W_20, V_21, W_21, V_22, W_22, V_23, W_23, V_24, W_24, V_25, W_25, V_26, W_26, V_27, W_27, V_28, W_28, V_29, W_29, V_30, W_30, V_31, W_31, V_32, W_32, V_33, W_33, V_34, W_34, V_35, W_35, V_36, W_36, V_37, W_37, V_38, W_38, V_39, W_39, h.r20_2, h.r20_3, h.r20_5, h.r20_6, h.r20_8, h.r20_9, h.r20_10, h.r20_11, h.r20_12, h.r20_13, h.r20_14, h.r20_16, h.r20_18, h.r20_19, h.r20_20, h.r20_21, h.r20_22, h.r20_23, h.r20_25, rf_20 h, ra_21 h, ra_22 h, ra_23 h, ra_24 h, ra_25 h, ra_26 h, ra_27 h, ra_28 h, ra_29 h, ra_30 h, ra_31 h, ra_32 h, ra_33 h, ra_34 h, ra_35 h, ra_36 h, ra_37 h, ra_38 h, ra_39 h, up_e, hB, hP, hc]
theorem tR3_b (hI : CI b nr nm np) {i : Int} (i1 : 0 ≤ i) (i2 : i < nm) : (0 ≤ tR3 b i ∧ tR3 b i ≤ 3) ∧ (tR3 b i = 1 ↔ tS2 b i = 1) ∧ (tR3 b i = 3 ↔ tS2 b i = 3) ∧ (tR3 b i = 2 ↔ tS2 b i = 2 ∧ 100 ≤ tP3 b i) := by
  have g := (tF hI i1 i2).2.2.1
  unfold tR3
  omega
theorem m_fly (h : Sh r n nr nm np) (hI : CI b nr nm np) (hM : MR x b nr nm np) (hv : RS v x b nm np (tB1 b) (b 11 3) (tS2 b) (b 11 5) (tZ2 b)) :
    ∃ u, l_Mo_step_134 20 4096 (iz 0) (VV v r n) = some (VV u r n) ∧ RS u x b nm np (tB4 b) (tP4 b) (tS2 b) (b 11 5) (tZ2 b) ∧ u 20 28 0 = v 20 28 0 := by
  have hb := h.b
  have hMM := hM.2.2.1
  have hnow := hI.1.2.1
  refine loopM (r := r) (n := n) (L := fun n' i u => l_Mo_step_134 20 n' (iz i) (VV u r n)) (kx := fun _ => v 20 28 0) (c := v) (x := x) (b := b) (B' := tB4 b) (P' := tP4 b) (S' := tS2 b) (Q' := b 11 5) (Z' := tZ2 b) hb.2.1 hI.own hv rfl ?_ ?_
  · intro n' i u i1 i2 hu hk
    obtain ⟨e1, e7, e17, e10⟩ := hu.f hM
    have y := hu.2.2.2.1 i i1 i2
    simp only [mx_i] at y
    obtain ⟨y2, y3, y4, y5⟩ := y
    have z := hu.2.2.2.2.2.1
    rw [mo_self] at z
    obtain ⟨g0, g1, g2, f0, f1, f2, f3, gP, gB, gN⟩ := tF hI i1 i2
    have w := hI.2.2.2.2.1 i i1 i2
    by_cases c1 : tS2 b i = 1
    · obtain ⟨h1, h2, h3, h4, h5, h6, h7, h8⟩ := f1 c1
      obtain ⟨⟨p1, p2, p2'⟩, p3, p4, p5⟩ := hMM.2.1 (b 11 5 i) h2 h3
      have h5b := h5.1
      have h5c := h5.2.1
      have z34 : u 34 (b 11 5 i) 0 = b 12 3 (b 11 5 i) := by rw [hu.1 34 (by omega) (by omega) (by omega) (by omega) (by omega) (by omega)]; exact p1
      by_cases c2 : b 12 3 (b 11 5 i) < b 0 10 0 + 1
      · have z38 : u 38 (81 * b 11 5 i + (b 0 10 0 + 1 - b 12 3 (b 11 5 i))) 0 = tP3 b i := by
          rw [hu.1 38 (by omega) (by omega) (by omega) (by omega) (by omega) (by omega), p2' _ (by omega) (by omega)]; exact h8.symm
        have hg := m_goTo (u := u) (b := b) h e1 (i := i) (q := tP3 b i) (B := tB1 b i) (P := b 11 3 i) i1 (by omega) y2 y3 (by omega) gP
        have eB : tB1 b i - cost b 5 (b 11 3 i) (tP3 b i) = tB3 b i := by unfold tB3; rw [if_pos (Or.inl ⟨c1, c2⟩)]
        rw [eB] at hg
        have eB4 : tB4 b i = tB3 b i := if_pos c1
        have eP4 : tP4 b i = tP3 b i := if_pos c1
        refine ⟨up (up u 27 i 0 (tB3 b i)) 28 i 0 (tP3 b i), RS_step i1 i2 hu (fun t t1 t2 t3 t4 t5 t6 => by rw [up_t t3, up_t t2]) (fun j _ => by rw [up_t (by omega), up_t (by omega)]) (fun m hm => ⟨by rw [up_t (by omega), up_s, if_neg (by omega)], by rw [up_s, if_neg (by omega), up_t (by omega)], by rw [up_t (by omega), up_t (by omega)], by rw [up_t (by omega), up_t (by omega)]⟩) ⟨by rw [up_t (by omega), up_s, if_pos ⟨rfl, rfl⟩, eB4], by rw [up_s, if_pos ⟨rfl, rfl⟩, eP4], by rw [up_t (by omega), up_t (by omega)]; exact y4, by rw [up_t (by omega), up_t (by omega)]; exact y5⟩ (fun p _ => by rw [up_t (by omega), up_t (by omega)]) (fun p p1 p2 _ => by rw [up_t (by omega), up_t (by omega)]; exact z p p1 p2), by rw [up_t (by omega), up_t (by omega)]; exact hk, ?_⟩
        dsimp only [l_Mo_step_134, b_Mo_step_134, j_Mo_step_172]
        simp (disch := omega) only [lt__e, bnd_e, bnd2_e, bnd3_e, el0_l, el0_r, el1_l, el1_r, el2_l, el2_r, ↓reduceIte, not_true_eq_false, not_false_eq_true, reduceCtorEq, and_true, true_and, and_false, false_and, or_true, true_or, or_false, false_or, and_self, or_self, ite_true, ite_false, Int.cast_ofNat_Int, Nat.reduceEqDiff, Nat.reduceLT, Int.reduceAdd, Int.reduceSub, Int.reduceMul, Int.reduceNeg, Int.reduceLT, Int.reduceLE, Int.reduceEq, ilt_t, ilt_f, ile_t, ile_f, ieq_t, ieq_f, z_0, z_1, z_2, z_3, z_4, z_5, z_6, z_7, z_8, z_9, z_10, z_12, z_20, z_40, z_80, z_81, z_99, z_100, z_200, z_400, z_3240, z_20000, z_100000, iz_add, iz_sub, iz_mul, iz_neg, iz_nat, iz_lt, iz_le, iz_eq, iz_div, iz_ite, iz_c, md10, md100, izcb_0, izcb_1, isOut_0, isNoCell_0, isGr_0, within_e, isCell_e, np_p, VV_r, VV_n, V_20, W_20, V_21, W_21, V_22, W_22, V_23, W_23, V_24, W_24, V_25, W_25, V_26, W_26, V_27, W_27, V_28, W_28, V_29, W_29, V_30, W_30, V_31, W_31, V_32, W_32, V_33, W_33, V_34, W_34, V_35, W_35, V_36, W_36, V_37, W_37, V_38, W_38, V_39, W_39, h.r20_2, h.r20_3, h.r20_5, h.r20_6, h.r20_8, h.r20_9, h.r20_10, h.r20_11, h.r20_12, h.r20_13, h.r20_14, h.r20_16, h.r20_18, h.r20_19, h.r20_20, h.r20_21, h.r20_22, h.r20_23, h.r20_25, rf_20 h, ra_21 h, ra_22 h, ra_23 h, ra_24 h, ra_25 h, ra_26 h, ra_27 h, ra_28 h, ra_29 h, ra_30 h, ra_31 h, ra_32 h, ra_33 h, ra_34 h, ra_35 h, ra_36 h, ra_37 h, ra_38 h, ra_39 h, up_e, e7, y4, c1, y5, z34, e10, z38, hg]
      · have eB4 : tB4 b i = tB1 b i := by unfold tB4; rw [if_pos c1]; unfold tB3; rw [if_neg (by omega)]
        have eP4 : tP4 b i = b 11 3 i := by unfold tP4; rw [if_pos c1]; unfold tP3; rw [if_pos c1, if_neg c2]
        refine ⟨u, RS_step i1 i2 hu (fun _ _ _ _ _ _ _ => rfl) (fun _ _ => rfl) (fun _ _ => ⟨rfl, rfl, rfl, rfl⟩) ⟨by rw [eB4]; exact y2, by rw [eP4]; exact y3, y4, y5⟩ (fun _ _ => rfl) (fun p p1 p2 _ => z p p1 p2), hk, ?_⟩
        dsimp only [l_Mo_step_134, b_Mo_step_134, j_Mo_step_172]
        simp (disch := omega) only [lt__e, bnd_e, bnd2_e, bnd3_e, el0_l, el0_r, el1_l, el1_r, el2_l, el2_r, ↓reduceIte, not_true_eq_false, not_false_eq_true, reduceCtorEq, and_true, true_and, and_false, false_and, or_true, true_or, or_false, false_or, and_self, or_self, ite_true, ite_false, Int.cast_ofNat_Int, Nat.reduceEqDiff, Nat.reduceLT, Int.reduceAdd, Int.reduceSub, Int.reduceMul, Int.reduceNeg, Int.reduceLT, Int.reduceLE, Int.reduceEq, ilt_t, ilt_f, ile_t, ile_f, ieq_t, ieq_f, z_0, z_1, z_2, z_3, z_4, z_5, z_6, z_7, z_8, z_9, z_10, z_12, z_20, z_40, z_80, z_81, z_99, z_100, z_200, z_400, z_3240, z_20000, z_100000, iz_add, iz_sub, iz_mul, iz_neg, iz_nat, iz_lt, iz_le, iz_eq, iz_div, iz_ite, iz_c, md10, md100, izcb_0, izcb_1, isOut_0, isNoCell_0, isGr_0, within_e, isCell_e, np_p, VV_r, VV_n, V_20, W_20, V_21, W_21, V_22, W_22, V_23, W_23, V_24, W_24, V_25, W_25, V_26, W_26, V_27, W_27, V_28, W_28, V_29, W_29, V_30, W_30, V_31, W_31, V_32, W_32, V_33, W_33, V_34, W_34, V_35, W_35, V_36, W_36, V_37, W_37, V_38, W_38, V_39, W_39, h.r20_2, h.r20_3, h.r20_5, h.r20_6, h.r20_8, h.r20_9, h.r20_10, h.r20_11, h.r20_12, h.r20_13, h.r20_14, h.r20_16, h.r20_18, h.r20_19, h.r20_20, h.r20_21, h.r20_22, h.r20_23, h.r20_25, rf_20 h, ra_21 h, ra_22 h, ra_23 h, ra_24 h, ra_25 h, ra_26 h, ra_27 h, ra_28 h, ra_29 h, ra_30 h, ra_31 h, ra_32 h, ra_33 h, ra_34 h, ra_35 h, ra_36 h, ra_37 h, ra_38 h, ra_39 h, up_e, e7, y4, c1, y5, z34, e10]
    · have eB4 : tB4 b i = tB1 b i := if_neg c1
      have eP4 : tP4 b i = b 11 3 i := if_neg c1
      refine ⟨u, RS_step i1 i2 hu (fun _ _ _ _ _ _ _ => rfl) (fun _ _ => rfl) (fun _ _ => ⟨rfl, rfl, rfl, rfl⟩) ⟨by rw [eB4]; exact y2, by rw [eP4]; exact y3, y4, y5⟩ (fun _ _ => rfl) (fun p p1 p2 _ => z p p1 p2), hk, ?_⟩
      dsimp only [l_Mo_step_134, b_Mo_step_134, j_Mo_step_172]
      simp (disch := omega) only [lt__e, bnd_e, bnd2_e, bnd3_e, el0_l, el0_r, el1_l, el1_r, el2_l, el2_r, ↓reduceIte, not_true_eq_false, not_false_eq_true, reduceCtorEq, and_true, true_and, and_false, false_and, or_true, true_or, or_false, false_or, and_self, or_self, ite_true, ite_false, Int.cast_ofNat_Int, Nat.reduceEqDiff, Nat.reduceLT, Int.reduceAdd, Int.reduceSub, Int.reduceMul, Int.reduceNeg, Int.reduceLT, Int.reduceLE, Int.reduceEq, ilt_t, ilt_f, ile_t, ile_f, ieq_t, ieq_f, z_0, z_1, z_2, z_3, z_4, z_5, z_6, z_7, z_8, z_9, z_10, z_12, z_20, z_40, z_80, z_81, z_99, z_100, z_200, z_400, z_3240, z_20000, z_100000, iz_add, iz_sub, iz_mul, iz_neg, iz_nat, iz_lt, iz_le, iz_eq, iz_div, iz_ite, iz_c, md10, md100, izcb_0, izcb_1, isOut_0, isNoCell_0, isGr_0, within_e, isCell_e, np_p, VV_r, VV_n, V_20, W_20, V_21, W_21, V_22, W_22, V_23, W_23, V_24, W_24, V_25, W_25, V_26, W_26, V_27, W_27, V_28, W_28, V_29, W_29, V_30, W_30, V_31, W_31, V_32, W_32, V_33, W_33, V_34, W_34, V_35, W_35, V_36, W_36, V_37, W_37, V_38, W_38, V_39, W_39, h.r20_2, h.r20_3, h.r20_5, h.r20_6, h.r20_8, h.r20_9, h.r20_10, h.r20_11, h.r20_12, h.r20_13, h.r20_14, h.r20_16, h.r20_18, h.r20_19, h.r20_20, h.r20_21, h.r20_22, h.r20_23, h.r20_25, rf_20 h, ra_21 h, ra_22 h, ra_23 h, ra_24 h, ra_25 h, ra_26 h, ra_27 h, ra_28 h, ra_29 h, ra_30 h, ra_31 h, ra_32 h, ra_33 h, ra_34 h, ra_35 h, ra_36 h, ra_37 h, ra_38 h, ra_39 h, up_e, e7, y4, c1]
  · intro n' u hu
    obtain ⟨e1, e7, e17, e10⟩ := hu.f hM
    dsimp only [l_Mo_step_134, b_Mo_step_134]
    simp (disch := omega) only [lt__e, bnd_e, bnd2_e, bnd3_e, el0_l, el0_r, el1_l, el1_r, el2_l, el2_r, ↓reduceIte, not_true_eq_false, not_false_eq_true, reduceCtorEq, and_true, true_and, and_false, false_and, or_true, true_or, or_false, false_or, and_self, or_self, ite_true, ite_false, Int.cast_ofNat_Int, Nat.reduceEqDiff, Nat.reduceLT, Int.reduceAdd, Int.reduceSub, Int.reduceMul, Int.reduceNeg, Int.reduceLT, Int.reduceLE, Int.reduceEq, ilt_t, ilt_f, ile_t, ile_f, ieq_t, ieq_f, z_0, z_1, z_2, z_3, z_4, z_5, z_6, z_7, z_8, z_9, z_10, z_12, z_20, z_40, z_80, z_81, z_99, z_100, z_200, z_400, z_3240, z_20000, z_100000, iz_add, iz_sub, iz_mul, iz_neg, iz_nat, iz_lt, iz_le, iz_eq, iz_div, iz_ite, iz_c, md10, md100, izcb_0, izcb_1, isOut_0, isNoCell_0, isGr_0, within_e, isCell_e, np_p, VV_r, VV_n, V_20, W_20, V_21, W_21, V_22, W_22, V_23, W_23, V_24, W_24, V_25, W_25, V_26, W_26, V_27, W_27, V_28, W_28, V_29, W_29, V_30, W_30, V_31, W_31, V_32, W_32, V_33, W_33, V_34, W_34, V_35, W_35, V_36, W_36, V_37, W_37, V_38, W_38, V_39, W_39, h.r20_2, h.r20_3, h.r20_5, h.r20_6, h.r20_8, h.r20_9, h.r20_10, h.r20_11, h.r20_12, h.r20_13, h.r20_14, h.r20_16, h.r20_18, h.r20_19, h.r20_20, h.r20_21, h.r20_22, h.r20_23, h.r20_25, rf_20 h, ra_21 h, ra_22 h, ra_23 h, ra_24 h, ra_25 h, ra_26 h, ra_27 h, ra_28 h, ra_29 h, ra_30 h, ra_31 h, ra_32 h, ra_33 h, ra_34 h, ra_35 h, ra_36 h, ra_37 h, ra_38 h, ra_39 h, up_e, e7]
theorem m_lost (h : Sh r n nr nm np) (hI : CI b nr nm np) (hM : MR x b nr nm np) (hv : RS v x b nm np (tB4 b) (tP4 b) (tS2 b) (b 11 5) (tZ2 b)) :
    ∃ u, l_Mo_step_206 20 4096 (iz 0) (VV v r n) = some (VV u r n) ∧ RS u x b nm np (tB3 b) (tP3 b) (tR3 b) (b 11 5) (tZ2 b) ∧ u 20 28 0 = v 20 28 0 := by
  have hb := h.b
  have hMM := hM.2.2.1
  have hnow := hI.1.2.1
  refine loopM (r := r) (n := n) (L := fun n' i u => l_Mo_step_206 20 n' (iz i) (VV u r n)) (kx := fun _ => v 20 28 0) (c := v) (x := x) (b := b) (B' := tB3 b) (P' := tP3 b) (S' := tR3 b) (Q' := b 11 5) (Z' := tZ2 b) hb.2.1 hI.own hv rfl ?_ ?_
  · intro n' i u i1 i2 hu hk
    obtain ⟨e1, e7, e17, e10⟩ := hu.f hM
    have y := hu.2.2.2.1 i i1 i2
    simp only [mx_i] at y
    obtain ⟨y2, y3, y4, y5⟩ := y
    have z := hu.2.2.2.2.2.1
    rw [mo_self] at z
    obtain ⟨g0, g1, g2, f0, f1, f2, f3, gP, gB, gN⟩ := tF hI i1 i2
    by_cases c1 : tS2 b i = 2
    · obtain ⟨h1, h2, h3, h4, h5⟩ := f2 c1
      have w := hI.2.2.2.2.1 i i1 i2
      have eB4 : tB4 b i = tB1 b i := by unfold tB4; rw [if_neg (by omega)]
      have eP4 : tP4 b i = b 11 3 i := by unfold tP4; rw [if_neg (by omega)]
      rw [eB4] at y2
      rw [eP4] at y3
      have eh : tP3 b i = hwd (b 11 3 i) (b 11 6 i) := by unfold tP3; rw [if_neg (by omega), if_pos c1]
      have hh := m_homeward (x := b 11 3 i) (g := b 11 6 i) h4 (by omega) h5.1 h5.2
      rw [← eh] at hh
      have x31 : u 31 i 0 = b 11 6 i := by rw [hu.1 31 (by omega) (by omega) (by omega) (by omega) (by omega) (by omega)]; exact (hMM.1.1 i i1 i2).2.2.2.2.2.2 h1
      have hg := m_goTo (u := u) (b := b) h e1 (i := i) (q := tP3 b i) (B := tB1 b i) (P := b 11 3 i) i1 (by omega) y2 y3 (by omega) gP
      have eB : tB1 b i - cost b 5 (b 11 3 i) (tP3 b i) = tB3 b i := by unfold tB3; rw [if_pos (Or.inr c1)]
      rw [eB] at hg
      have core : ∀ q : Int, tR3 b i = q → RS (up (up (up u 27 i 0 (tB3 b i)) 28 i 0 (tP3 b i)) 29 i 0 q) x b nm np (mx (i + 1) (tB3 b) (tB4 b)) (mx (i + 1) (tP3 b) (tP4 b)) (mx (i + 1) (tR3 b) (tS2 b)) (mx (i + 1) (b 11 5) (b 11 5)) (mo b (i + 1) (tZ2 b) (tZ2 b)) := fun q hq =>
        RS_step i1 i2 hu (fun t t1 t2 t3 t4 t5 t6 => by rw [up_t t4, up_t t3, up_t t2]) (fun j _ => by rw [up_t (by omega), up_t (by omega), up_t (by omega)]) (fun m hm => ⟨by rw [up_t (by omega), up_t (by omega), up_s, if_neg (by omega)], by rw [up_t (by omega), up_s, if_neg (by omega), up_t (by omega)], by rw [up_s, if_neg (by omega), up_t (by omega), up_t (by omega)], by rw [up_t (by omega), up_t (by omega), up_t (by omega)]⟩) ⟨by rw [up_t (by omega), up_t (by omega), up_s, if_pos ⟨rfl, rfl⟩], by rw [up_t (by omega), up_s, if_pos ⟨rfl, rfl⟩], by rw [up_s, if_pos ⟨rfl, rfl⟩, hq], by rw [up_t (by omega), up_t (by omega), up_t (by omega)]; exact y5⟩ (fun p _ => by rw [up_t (by omega), up_t (by omega), up_t (by omega)]) (fun p p1 p2 _ => by rw [up_t (by omega), up_t (by omega), up_t (by omega)]; exact z p p1 p2)
      by_cases c2 : tP3 b i < 100
      · refine ⟨_, core 0 (by unfold tR3; rw [if_pos c1, if_pos c2]), by rw [up_t (by omega), up_t (by omega), up_t (by omega)]; exact hk, ?_⟩
        dsimp only [l_Mo_step_206, b_Mo_step_206]
        simp (disch := omega) only [lt__e, bnd_e, bnd2_e, bnd3_e, el0_l, el0_r, el1_l, el1_r, el2_l, el2_r, ↓reduceIte, not_true_eq_false, not_false_eq_true, reduceCtorEq, and_true, true_and, and_false, false_and, or_true, true_or, or_false, false_or, and_self, or_self, ite_true, ite_false, Int.cast_ofNat_Int, Nat.reduceEqDiff, Nat.reduceLT, Int.reduceAdd, Int.reduceSub, Int.reduceMul, Int.reduceNeg, Int.reduceLT, Int.reduceLE, Int.reduceEq, ilt_t, ilt_f, ile_t, ile_f, ieq_t, ieq_f, z_0, z_1, z_2, z_3, z_4, z_5, z_6, z_7, z_8, z_9, z_10, z_12, z_20, z_40, z_80, z_81, z_99, z_100, z_200, z_400, z_3240, z_20000, z_100000, iz_add, iz_sub, iz_mul, iz_neg, iz_nat, iz_lt, iz_le, iz_eq, iz_div, iz_ite, iz_c, md10, md100, izcb_0, izcb_1, isOut_0, isNoCell_0, isGr_0, within_e, isCell_e, np_p, VV_r, VV_n, V_20, W_20, V_21, W_21, V_22, W_22, V_23, W_23, V_24, W_24, V_25, W_25, V_26, W_26, V_27, W_27, V_28, W_28, V_29, W_29, V_30, W_30, V_31, W_31, V_32, W_32, V_33, W_33, V_34, W_34, V_35, W_35, V_36, W_36, V_37, W_37, V_38, W_38, V_39, W_39, h.r20_2, h.r20_3, h.r20_5, h.r20_6, h.r20_8, h.r20_9, h.r20_10, h.r20_11, h.r20_12, h.r20_13, h.r20_14, h.r20_16, h.r20_18, h.r20_19, h.r20_20, h.r20_21, h.r20_22, h.r20_23, h.r20_25, rf_20 h, ra_21 h, ra_22 h, ra_23 h, ra_24 h, ra_25 h, ra_26 h, ra_27 h, ra_28 h, ra_29 h, ra_30 h, ra_31 h, ra_32 h, ra_33 h, ra_34 h, ra_35 h, ra_36 h, ra_37 h, ra_38 h, ra_39 h, up_e, e7, y4, c1, y3, x31, hh, hg]
      · refine ⟨_, core 2 (by unfold tR3; rw [if_pos c1, if_neg c2]), by rw [up_t (by omega), up_t (by omega), up_t (by omega)]; exact hk, ?_⟩
        dsimp only [l_Mo_step_206, b_Mo_step_206]
        simp (disch := omega) only [lt__e, bnd_e, bnd2_e, bnd3_e, el0_l, el0_r, el1_l, el1_r, el2_l, el2_r, ↓reduceIte, not_true_eq_false, not_false_eq_true, reduceCtorEq, and_true, true_and, and_false, false_and, or_true, true_or, or_false, false_or, and_self, or_self, ite_true, ite_false, Int.cast_ofNat_Int, Nat.reduceEqDiff, Nat.reduceLT, Int.reduceAdd, Int.reduceSub, Int.reduceMul, Int.reduceNeg, Int.reduceLT, Int.reduceLE, Int.reduceEq, ilt_t, ilt_f, ile_t, ile_f, ieq_t, ieq_f, z_0, z_1, z_2, z_3, z_4, z_5, z_6, z_7, z_8, z_9, z_10, z_12, z_20, z_40, z_80, z_81, z_99, z_100, z_200, z_400, z_3240, z_20000, z_100000, iz_add, iz_sub, iz_mul, iz_neg, iz_nat, iz_lt, iz_le, iz_eq, iz_div, iz_ite, iz_c, md10, md100, izcb_0, izcb_1, isOut_0, isNoCell_0, isGr_0, within_e, isCell_e, np_p, VV_r, VV_n, V_20, W_20, V_21, W_21, V_22, W_22, V_23, W_23, V_24, W_24, V_25, W_25, V_26, W_26, V_27, W_27, V_28, W_28, V_29, W_29, V_30, W_30, V_31, W_31, V_32, W_32, V_33, W_33, V_34, W_34, V_35, W_35, V_36, W_36, V_37, W_37, V_38, W_38, V_39, W_39, h.r20_2, h.r20_3, h.r20_5, h.r20_6, h.r20_8, h.r20_9, h.r20_10, h.r20_11, h.r20_12, h.r20_13, h.r20_14, h.r20_16, h.r20_18, h.r20_19, h.r20_20, h.r20_21, h.r20_22, h.r20_23, h.r20_25, rf_20 h, ra_21 h, ra_22 h, ra_23 h, ra_24 h, ra_25 h, ra_26 h, ra_27 h, ra_28 h, ra_29 h, ra_30 h, ra_31 h, ra_32 h, ra_33 h, ra_34 h, ra_35 h, ra_36 h, ra_37 h, ra_38 h, ra_39 h, up_e, e7, y4, c1, y3, x31, hh, hg]
    · have eB4 : tB4 b i = tB3 b i := by
        unfold tB4
        by_cases c2 : tS2 b i = 1
        · rw [if_pos c2]
        · rw [if_neg c2]; unfold tB3; rw [if_neg (by omega)]
      have eP4 : tP4 b i = tP3 b i := by
        unfold tP4
        by_cases c2 : tS2 b i = 1
        · rw [if_pos c2]
        · rw [if_neg c2]; unfold tP3; rw [if_neg c2, if_neg c1]
      have eR : tR3 b i = tS2 b i := if_neg c1
      refine ⟨u, RS_step i1 i2 hu (fun _ _ _ _ _ _ _ => rfl) (fun _ _ => rfl) (fun _ _ => ⟨rfl, rfl, rfl, rfl⟩) ⟨by rw [← eB4]; exact y2, by rw [← eP4]; exact y3, by rw [eR]; exact y4, y5⟩ (fun _ _ => rfl) (fun p p1 p2 _ => z p p1 p2), hk, ?_⟩
      dsimp only [l_Mo_step_206, b_Mo_step_206]
      simp (disch := omega) only [lt__e, bnd_e, bnd2_e, bnd3_e, el0_l, el0_r, el1_l, el1_r, el2_l, el2_r, ↓reduceIte, not_true_eq_false, not_false_eq_true, reduceCtorEq, and_true, true_and, and_false, false_and, or_true, true_or, or_false, false_or, and_self, or_self, ite_true, ite_false, Int.cast_ofNat_Int, Nat.reduceEqDiff, Nat.reduceLT, Int.reduceAdd, Int.reduceSub, Int.reduceMul, Int.reduceNeg, Int.reduceLT, Int.reduceLE, Int.reduceEq, ilt_t, ilt_f, ile_t, ile_f, ieq_t, ieq_f, z_0, z_1, z_2, z_3, z_4, z_5, z_6, z_7, z_8, z_9, z_10, z_12, z_20, z_40, z_80, z_81, z_99, z_100, z_200, z_400, z_3240, z_20000, z_100000, iz_add, iz_sub, iz_mul, iz_neg, iz_nat, iz_lt, iz_le, iz_eq, iz_div, iz_ite, iz_c, md10, md100, izcb_0, izcb_1, isOut_0, isNoCell_0, isGr_0, within_e, isCell_e, np_p, VV_r, VV_n, V_20, W_20, V_21, W_21, V_22, W_22, V_23, W_23, V_24, W_24, V_25, W_25, V_26, W_26, V_27, W_27, V_28, W_28, V_29, W_29, V_30, W_30, V_31, W_31, V_32, W_32, V_33, W_33, V_34, W_34, V_35, W_35, V_36, W_36, V_37, W_37, V_38, W_38, V_39, W_39, h.r20_2, h.r20_3, h.r20_5, h.r20_6, h.r20_8, h.r20_9, h.r20_10, h.r20_11, h.r20_12, h.r20_13, h.r20_14, h.r20_16, h.r20_18, h.r20_19, h.r20_20, h.r20_21, h.r20_22, h.r20_23, h.r20_25, rf_20 h, ra_21 h, ra_22 h, ra_23 h, ra_24 h, ra_25 h, ra_26 h, ra_27 h, ra_28 h, ra_29 h, ra_30 h, ra_31 h, ra_32 h, ra_33 h, ra_34 h, ra_35 h, ra_36 h, ra_37 h, ra_38 h, ra_39 h, up_e, e7, y4, c1]
  · intro n' u hu
    obtain ⟨e1, e7, e17, e10⟩ := hu.f hM
    dsimp only [l_Mo_step_206, b_Mo_step_206]
    simp (disch := omega) only [lt__e, bnd_e, bnd2_e, bnd3_e, el0_l, el0_r, el1_l, el1_r, el2_l, el2_r, ↓reduceIte, not_true_eq_false, not_false_eq_true, reduceCtorEq, and_true, true_and, and_false, false_and, or_true, true_or, or_false, false_or, and_self, or_self, ite_true, ite_false, Int.cast_ofNat_Int, Nat.reduceEqDiff, Nat.reduceLT, Int.reduceAdd, Int.reduceSub, Int.reduceMul, Int.reduceNeg, Int.reduceLT, Int.reduceLE, Int.reduceEq, ilt_t, ilt_f, ile_t, ile_f, ieq_t, ieq_f, z_0, z_1, z_2, z_3, z_4, z_5, z_6, z_7, z_8, z_9, z_10, z_12, z_20, z_40, z_80, z_81, z_99, z_100, z_200, z_400, z_3240, z_20000, z_100000, iz_add, iz_sub, iz_mul, iz_neg, iz_nat, iz_lt, iz_le, iz_eq, iz_div, iz_ite, iz_c, md10, md100, izcb_0, izcb_1, isOut_0, isNoCell_0, isGr_0, within_e, isCell_e, np_p, VV_r, VV_n, V_20, W_20, V_21, W_21, V_22, W_22, V_23, W_23, V_24, W_24, V_25, W_25, V_26, W_26, V_27, W_27, V_28, W_28, V_29, W_29, V_30, W_30, V_31, W_31, V_32, W_32, V_33, W_33, V_34, W_34, V_35, W_35, V_36, W_36, V_37, W_37, V_38, W_38, V_39, W_39, h.r20_2, h.r20_3, h.r20_5, h.r20_6, h.r20_8, h.r20_9, h.r20_10, h.r20_11, h.r20_12, h.r20_13, h.r20_14, h.r20_16, h.r20_18, h.r20_19, h.r20_20, h.r20_21, h.r20_22, h.r20_23, h.r20_25, rf_20 h, ra_21 h, ra_22 h, ra_23 h, ra_24 h, ra_25 h, ra_26 h, ra_27 h, ra_28 h, ra_29 h, ra_30 h, ra_31 h, ra_32 h, ra_33 h, ra_34 h, ra_35 h, ra_36 h, ra_37 h, ra_38 h, ra_39 h, up_e, e7]
/-- falling: a machine with a path, and one without -/
theorem m_fall1 (h : Sh r n nr nm np) {i q : Int} (i1 : 0 ≤ i) (i2 : i < 10) (h5 : u 30 i 0 = q) (q1 : 0 ≤ q) (q2 : q < 40) (ho : u 33 q 0 = i) :
    f_Mo_fall 20 (iz i) (VV u r n) = some (VV (up (up (up u 29 i 0 3) 37 q 0 4) 30 i 0 (-1)) r n) := by
  have x33 : up u 29 i 0 3 33 q 0 = i := by rw [up_t (by omega)]; exact ho
  have kt := m_takeBack (a := up u 29 i 0 3) h (p := q) (v := 4) q1 q2 (by omega) (by omega)
  rw [x33] at kt
  unfold f_Mo_fall
  simp (disch := omega) only [lt__e, bnd_e, bnd2_e, bnd3_e, el0_l, el0_r, el1_l, el1_r, el2_l, el2_r, ↓reduceIte, not_true_eq_false, not_false_eq_true, reduceCtorEq, and_true, true_and, and_false, false_and, or_true, true_or, or_false, false_or, and_self, or_self, ite_true, ite_false, Int.cast_ofNat_Int, Nat.reduceEqDiff, Nat.reduceLT, Int.reduceAdd, Int.reduceSub, Int.reduceMul, Int.reduceNeg, Int.reduceLT, Int.reduceLE, Int.reduceEq, ilt_t, ilt_f, ile_t, ile_f, ieq_t, ieq_f, z_0, z_1, z_2, z_3, z_4, z_5, z_6, z_7, z_8, z_9, z_10, z_12, z_20, z_40, z_80, z_81, z_99, z_100, z_200, z_400, z_3240, z_20000, z_100000, iz_add, iz_sub, iz_mul, iz_neg, iz_nat, iz_lt, iz_le, iz_eq, iz_div, iz_ite, iz_c, md10, md100, izcb_0, izcb_1, isOut_0, isNoCell_0, isGr_0, within_e, isCell_e, np_p, VV_r, VV_n, V_20, W_20, V_21, W_21, V_22, W_22, V_23, W_23, V_24, W_24, V_25, W_25, V_26, W_26, V_27, W_27, V_28, W_28, V_29, W_29, V_30, W_30, V_31, W_31, V_32, W_32, V_33, W_33, V_34, W_34, V_35, W_35, V_36, W_36, V_37, W_37, V_38, W_38, V_39, W_39, h.r20_2, h.r20_3, h.r20_5, h.r20_6, h.r20_8, h.r20_9, h.r20_10, h.r20_11, h.r20_12, h.r20_13, h.r20_14, h.r20_16, h.r20_18, h.r20_19, h.r20_20, h.r20_21, h.r20_22, h.r20_23, h.r20_25, rf_20 h, ra_21 h, ra_22 h, ra_23 h, ra_24 h, ra_25 h, ra_26 h, ra_27 h, ra_28 h, ra_29 h, ra_30 h, ra_31 h, ra_32 h, ra_33 h, ra_34 h, ra_35 h, ra_36 h, ra_37 h, ra_38 h, ra_39 h, up_e, h5, kt]
theorem m_fall2 (h : Sh r n nr nm np) {i : Int} (i1 : 0 ≤ i) (i2 : i < 10) (h5 : u 30 i 0 = -1) :
    f_Mo_fall 20 (iz i) (VV u r n) = some (VV (up u 29 i 0 3) r n) := by
  unfold f_Mo_fall
  simp (disch := omega) only [lt__e, bnd_e, bnd2_e, bnd3_e, el0_l, el0_r, el1_l, el1_r, el2_l, el2_r, ↓reduceIte, not_true_eq_false, not_false_eq_true, reduceCtorEq, and_true, true_and, and_false, false_and, or_true, true_or, or_false, false_or, and_self, or_self, ite_true, ite_false, Int.cast_ofNat_Int, Nat.reduceEqDiff, Nat.reduceLT, Int.reduceAdd, Int.reduceSub, Int.reduceMul, Int.reduceNeg, Int.reduceLT, Int.reduceLE, Int.reduceEq, ilt_t, ilt_f, ile_t, ile_f, ieq_t, ieq_f, z_0, z_1, z_2, z_3, z_4, z_5, z_6, z_7, z_8, z_9, z_10, z_12, z_20, z_40, z_80, z_81, z_99, z_100, z_200, z_400, z_3240, z_20000, z_100000, iz_add, iz_sub, iz_mul, iz_neg, iz_nat, iz_lt, iz_le, iz_eq, iz_div, iz_ite, iz_c, md10, md100, izcb_0, izcb_1, isOut_0, isNoCell_0, isGr_0, within_e, isCell_e, np_p, VV_r, VV_n, V_20, W_20, V_21, W_21, V_22, W_22, V_23, W_23, V_24, W_24, V_25, W_25, V_26, W_26, V_27, W_27, V_28, W_28, V_29, W_29, V_30, W_30, V_31, W_31, V_32, W_32, V_33, W_33, V_34, W_34, V_35, W_35, V_36, W_36, V_37, W_37, V_38, W_38, V_39, W_39, h.r20_2, h.r20_3, h.r20_5, h.r20_6, h.r20_8, h.r20_9, h.r20_10, h.r20_11, h.r20_12, h.r20_13, h.r20_14, h.r20_16, h.r20_18, h.r20_19, h.r20_20, h.r20_21, h.r20_22, h.r20_23, h.r20_25, rf_20 h, ra_21 h, ra_22 h, ra_23 h, ra_24 h, ra_25 h, ra_26 h, ra_27 h, ra_28 h, ra_29 h, ra_30 h, ra_31 h, ra_32 h, ra_33 h, ra_34 h, ra_35 h, ra_36 h, ra_37 h, ra_38 h, ra_39 h, up_e, h5]
theorem m_falls (h : Sh r n nr nm np) (hI : CI b nr nm np) (hM : MR x b nr nm np) (hv : RS v x b nm np (tB3 b) (tP3 b) (tR3 b) (b 11 5) (tZ2 b)) :
    ∃ u, l_Mo_step_274 20 4096 (iz 0) (VV v r n) = some (VV u r n) ∧ RS u x b nm np (tB3 b) (tP3 b) (tR4 b) (tQ3 b) (tZ3 b) ∧ u 20 28 0 = v 20 28 0 := by
  have hb := h.b
  have hMM := hM.2.2.1
  refine loopM (r := r) (n := n) (L := fun n' i u => l_Mo_step_274 20 n' (iz i) (VV u r n)) (kx := fun _ => v 20 28 0) (c := v) (x := x) (b := b) (B' := tB3 b) (P' := tP3 b) (S' := tR4 b) (Q' := tQ3 b) (Z' := tZ3 b) hb.2.1 hI.own hv rfl ?_ ?_
  · intro n' i u i1 i2 hu hk
    obtain ⟨e1, e7, e17, e10⟩ := hu.f hM
    have y := hu.2.2.2.1 i i1 i2
    simp only [mx_i] at y
    obtain ⟨y2, y3, y4, y5⟩ := y
    obtain ⟨g0, g1, g2, f0, f1, f2, f3, gP, gB, gN⟩ := tF hI i1 i2
    obtain ⟨r0, r1, r2, r3⟩ := tR3_b hI i1 i2
    have zz : ∀ p, 0 ≤ p → p < np → b 12 2 p = i → u 37 p 0 = tZ2 b p := fun p p1 p2 pe => by
      have := hu.2.2.2.2.2.1 p p1 p2
      unfold mo at this
      rw [if_neg (by omega)] at this; exact this
    by_cases c1 : (tS2 b i = 1 ∨ tS2 b i = 2) ∧ tB3 b i < 0
    · have e3 : tS3 b i = 3 := if_pos c1
      have eR : tR4 b i = 3 := if_pos e3
      have eQ : tQ3 b i = -1 := if_pos e3
      rcases c1 with ⟨c1 | c1, c2⟩
      · obtain ⟨h1, h2, h3, h4, h5, h6, h7, h8⟩ := f1 c1
        have z33 : u 33 (b 11 5 i) 0 = i := by rw [hu.1 33 (by omega) (by omega) (by omega) (by omega) (by omega) (by omega), (hMM.2.1 (b 11 5 i) h2 h3).2.1]; exact h4
        have kf := m_fall1 (u := u) h i1 (by omega) y5 h2 (by omega) z33
        refine ⟨up (up (up u 29 i 0 3) 37 (b 11 5 i) 0 4) 30 i 0 (-1), RS_step i1 i2 hu (fun t t1 t2 t3 t4 t5 t6 => by rw [up_t t5, up_t t6, up_t t4]) (fun j _ => by rw [up_t (by omega), up_t (by omega), up_t (by omega)]) (fun m hm => ⟨by rw [up_t (by omega), up_t (by omega), up_t (by omega)], by rw [up_t (by omega), up_t (by omega), up_t (by omega)], by rw [up_t (by omega), up_t (by omega), up_s, if_neg (by omega)], by rw [up_s, if_neg (by omega), up_t (by omega), up_t (by omega)]⟩) ⟨by rw [up_t (by omega), up_t (by omega), up_t (by omega)]; exact y2, by rw [up_t (by omega), up_t (by omega), up_t (by omega)]; exact y3, by rw [up_t (by omega), up_t (by omega), up_s, if_pos ⟨rfl, rfl⟩, eR], by rw [up_s, if_pos ⟨rfl, rfl⟩, eQ]⟩ (fun p pe => ?_) (fun p p1 p2 pe => ?_), by rw [up_t (by omega), up_t (by omega), up_t (by omega)]; exact hk, ?_⟩
        · rw [up_t (by omega), up_s, if_neg (fun z => pe (by rw [z.1]; exact h2) (by rw [z.1]; exact h3) (by rw [z.1]; exact h4)), up_t (by omega)]
        · rw [up_t (by omega), up_s]
          unfold tZ3
          by_cases e5 : p = b 11 5 i
          · rw [if_pos ⟨e5, rfl⟩, pe, if_pos ⟨c1, e5.symm, e3⟩]
          · rw [if_neg (fun z => e5 z.1), pe, if_neg (fun z => e5 z.2.1.symm), up_t (by omega)]; exact zz p p1 p2 pe
        · dsimp only [l_Mo_step_274, b_Mo_step_274]
          simp (disch := omega) only [lt__e, bnd_e, bnd2_e, bnd3_e, el0_l, el0_r, el1_l, el1_r, el2_l, el2_r, ↓reduceIte, not_true_eq_false, not_false_eq_true, reduceCtorEq, and_true, true_and, and_false, false_and, or_true, true_or, or_false, false_or, and_self, or_self, ite_true, ite_false, Int.cast_ofNat_Int, Nat.reduceEqDiff, Nat.reduceLT, Int.reduceAdd, Int.reduceSub, Int.reduceMul, Int.reduceNeg, Int.reduceLT, Int.reduceLE, Int.reduceEq, ilt_t, ilt_f, ile_t, ile_f, ieq_t, ieq_f, z_0, z_1, z_2, z_3, z_4, z_5, z_6, z_7, z_8, z_9, z_10, z_12, z_20, z_40, z_80, z_81, z_99, z_100, z_200, z_400, z_3240, z_20000, z_100000, iz_add, iz_sub, iz_mul, iz_neg, iz_nat, iz_lt, iz_le, iz_eq, iz_div, iz_ite, iz_c, md10, md100, izcb_0, izcb_1, isOut_0, isNoCell_0, isGr_0, within_e, isCell_e, np_p, VV_r, VV_n, V_20, W_20, V_21, W_21, V_22, W_22, V_23, W_23, V_24, W_24, V_25, W_25, V_26, W_26, V_27, W_27, V_28, W_28, V_29, W_29, V_30, W_30, V_31, W_31, V_32, W_32, V_33, W_33, V_34, W_34, V_35, W_35, V_36, W_36, V_37, W_37, V_38, W_38, V_39, W_39, h.r20_2, h.r20_3, h.r20_5, h.r20_6, h.r20_8, h.r20_9, h.r20_10, h.r20_11, h.r20_12, h.r20_13, h.r20_14, h.r20_16, h.r20_18, h.r20_19, h.r20_20, h.r20_21, h.r20_22, h.r20_23, h.r20_25, rf_20 h, ra_21 h, ra_22 h, ra_23 h, ra_24 h, ra_25 h, ra_26 h, ra_27 h, ra_28 h, ra_29 h, ra_30 h, ra_31 h, ra_32 h, ra_33 h, ra_34 h, ra_35 h, ra_36 h, ra_37 h, ra_38 h, ra_39 h, up_e, e7, y4, y2, kf]
      · obtain ⟨h1, h2, h3, h4, h5⟩ := f2 c1
        have kf := m_fall2 (u := u) h i1 (by omega) (by omega)
        refine ⟨up u 29 i 0 3, RS_step i1 i2 hu (fun t t1 t2 t3 t4 t5 t6 => by rw [up_t t4]) (fun j _ => by rw [up_t (by omega)]) (fun m hm => ⟨by rw [up_t (by omega)], by rw [up_t (by omega)], by rw [up_s, if_neg (by omega)], by rw [up_t (by omega)]⟩) ⟨by rw [up_t (by omega)]; exact y2, by rw [up_t (by omega)]; exact y3, by rw [up_s, if_pos ⟨rfl, rfl⟩, eR], by rw [up_t (by omega), eQ, y5]; exact h3⟩ (fun p pe => by rw [up_t (by omega)]) (fun p p1 p2 pe => ?_), by rw [up_t (by omega)]; exact hk, ?_⟩
        · rw [up_t (by omega)]
          unfold tZ3
          rw [pe, if_neg (by omega)]; exact zz p p1 p2 pe
        · dsimp only [l_Mo_step_274, b_Mo_step_274]
          simp (disch := omega) only [lt__e, bnd_e, bnd2_e, bnd3_e, el0_l, el0_r, el1_l, el1_r, el2_l, el2_r, ↓reduceIte, not_true_eq_false, not_false_eq_true, reduceCtorEq, and_true, true_and, and_false, false_and, or_true, true_or, or_false, false_or, and_self, or_self, ite_true, ite_false, Int.cast_ofNat_Int, Nat.reduceEqDiff, Nat.reduceLT, Int.reduceAdd, Int.reduceSub, Int.reduceMul, Int.reduceNeg, Int.reduceLT, Int.reduceLE, Int.reduceEq, ilt_t, ilt_f, ile_t, ile_f, ieq_t, ieq_f, z_0, z_1, z_2, z_3, z_4, z_5, z_6, z_7, z_8, z_9, z_10, z_12, z_20, z_40, z_80, z_81, z_99, z_100, z_200, z_400, z_3240, z_20000, z_100000, iz_add, iz_sub, iz_mul, iz_neg, iz_nat, iz_lt, iz_le, iz_eq, iz_div, iz_ite, iz_c, md10, md100, izcb_0, izcb_1, isOut_0, isNoCell_0, isGr_0, within_e, isCell_e, np_p, VV_r, VV_n, V_20, W_20, V_21, W_21, V_22, W_22, V_23, W_23, V_24, W_24, V_25, W_25, V_26, W_26, V_27, W_27, V_28, W_28, V_29, W_29, V_30, W_30, V_31, W_31, V_32, W_32, V_33, W_33, V_34, W_34, V_35, W_35, V_36, W_36, V_37, W_37, V_38, W_38, V_39, W_39, h.r20_2, h.r20_3, h.r20_5, h.r20_6, h.r20_8, h.r20_9, h.r20_10, h.r20_11, h.r20_12, h.r20_13, h.r20_14, h.r20_16, h.r20_18, h.r20_19, h.r20_20, h.r20_21, h.r20_22, h.r20_23, h.r20_25, rf_20 h, ra_21 h, ra_22 h, ra_23 h, ra_24 h, ra_25 h, ra_26 h, ra_27 h, ra_28 h, ra_29 h, ra_30 h, ra_31 h, ra_32 h, ra_33 h, ra_34 h, ra_35 h, ra_36 h, ra_37 h, ra_38 h, ra_39 h, up_e, e7, y4, y2, kf]
    · have e3 : tS3 b i = tS2 b i := if_neg c1
      have eR : tR4 b i = tR3 b i := by
        unfold tR4
        by_cases c2 : tS3 b i = 3
        · rw [if_pos c2]; omega
        · rw [if_neg c2]
      have eQ : tQ3 b i = b 11 5 i := by
        unfold tQ3
        by_cases c2 : tS3 b i = 3
        · rw [if_pos c2]; have := f3 (by omega); omega
        · rw [if_neg c2]
      refine ⟨u, RS_step i1 i2 hu (fun _ _ _ _ _ _ _ => rfl) (fun _ _ => rfl) (fun _ _ => ⟨rfl, rfl, rfl, rfl⟩) ⟨y2, y3, by rw [eR]; exact y4, by rw [eQ]; exact y5⟩ (fun _ _ => rfl) (fun p p1 p2 pe => by
        unfold tZ3
        rw [pe, if_neg (by omega)]; exact zz p p1 p2 pe), hk, ?_⟩
      dsimp only [l_Mo_step_274, b_Mo_step_274]
      by_cases c2 : tR3 b i = 3
      · simp (disch := omega) only [lt__e, bnd_e, bnd2_e, bnd3_e, el0_l, el0_r, el1_l, el1_r, el2_l, el2_r, ↓reduceIte, not_true_eq_false, not_false_eq_true, reduceCtorEq, and_true, true_and, and_false, false_and, or_true, true_or, or_false, false_or, and_self, or_self, ite_true, ite_false, Int.cast_ofNat_Int, Nat.reduceEqDiff, Nat.reduceLT, Int.reduceAdd, Int.reduceSub, Int.reduceMul, Int.reduceNeg, Int.reduceLT, Int.reduceLE, Int.reduceEq, ilt_t, ilt_f, ile_t, ile_f, ieq_t, ieq_f, z_0, z_1, z_2, z_3, z_4, z_5, z_6, z_7, z_8, z_9, z_10, z_12, z_20, z_40, z_80, z_81, z_99, z_100, z_200, z_400, z_3240, z_20000, z_100000, iz_add, iz_sub, iz_mul, iz_neg, iz_nat, iz_lt, iz_le, iz_eq, iz_div, iz_ite, iz_c, md10, md100, izcb_0, izcb_1, isOut_0, isNoCell_0, isGr_0, within_e, isCell_e, np_p, VV_r, VV_n, V_20, W_20, V_21, W_21, V_22, W_22, V_23, W_23, V_24, W_24, V_25, W_25, V_26, W_26, V_27, W_27, V_28, W_28, V_29, W_29, V_30, W_30, V_31, W_31, V_32, W_32, V_33, W_33, V_34, W_34, V_35, W_35, V_36, W_36, V_37, W_37, V_38, W_38, V_39, W_39, h.r20_2, h.r20_3, h.r20_5, h.r20_6, h.r20_8, h.r20_9, h.r20_10, h.r20_11, h.r20_12, h.r20_13, h.r20_14, h.r20_16, h.r20_18, h.r20_19, h.r20_20, h.r20_21, h.r20_22, h.r20_23, h.r20_25, rf_20 h, ra_21 h, ra_22 h, ra_23 h, ra_24 h, ra_25 h, ra_26 h, ra_27 h, ra_28 h, ra_29 h, ra_30 h, ra_31 h, ra_32 h, ra_33 h, ra_34 h, ra_35 h, ra_36 h, ra_37 h, ra_38 h, ra_39 h, up_e, e7, y4, c2]
      · simp (disch := omega) only [lt__e, bnd_e, bnd2_e, bnd3_e, el0_l, el0_r, el1_l, el1_r, el2_l, el2_r, ↓reduceIte, not_true_eq_false, not_false_eq_true, reduceCtorEq, and_true, true_and, and_false, false_and, or_true, true_or, or_false, false_or, and_self, or_self, ite_true, ite_false, Int.cast_ofNat_Int, Nat.reduceEqDiff, Nat.reduceLT, Int.reduceAdd, Int.reduceSub, Int.reduceMul, Int.reduceNeg, Int.reduceLT, Int.reduceLE, Int.reduceEq, ilt_t, ilt_f, ile_t, ile_f, ieq_t, ieq_f, z_0, z_1, z_2, z_3, z_4, z_5, z_6, z_7, z_8, z_9, z_10, z_12, z_20, z_40, z_80, z_81, z_99, z_100, z_200, z_400, z_3240, z_20000, z_100000, iz_add, iz_sub, iz_mul, iz_neg, iz_nat, iz_lt, iz_le, iz_eq, iz_div, iz_ite, iz_c, md10, md100, izcb_0, izcb_1, isOut_0, isNoCell_0, isGr_0, within_e, isCell_e, np_p, VV_r, VV_n, V_20, W_20, V_21, W_21, V_22, W_22, V_23, W_23, V_24, W_24, V_25, W_25, V_26, W_26, V_27, W_27, V_28, W_28, V_29, W_29, V_30, W_30, V_31, W_31, V_32, W_32, V_33, W_33, V_34, W_34, V_35, W_35, V_36, W_36, V_37, W_37, V_38, W_38, V_39, W_39, h.r20_2, h.r20_3, h.r20_5, h.r20_6, h.r20_8, h.r20_9, h.r20_10, h.r20_11, h.r20_12, h.r20_13, h.r20_14, h.r20_16, h.r20_18, h.r20_19, h.r20_20, h.r20_21, h.r20_22, h.r20_23, h.r20_25, rf_20 h, ra_21 h, ra_22 h, ra_23 h, ra_24 h, ra_25 h, ra_26 h, ra_27 h, ra_28 h, ra_29 h, ra_30 h, ra_31 h, ra_32 h, ra_33 h, ra_34 h, ra_35 h, ra_36 h, ra_37 h, ra_38 h, ra_39 h, up_e, e7, y4, y2, c2]
  · intro n' u hu
    obtain ⟨e1, e7, e17, e10⟩ := hu.f hM
    dsimp only [l_Mo_step_274, b_Mo_step_274]
    simp (disch := omega) only [lt__e, bnd_e, bnd2_e, bnd3_e, el0_l, el0_r, el1_l, el1_r, el2_l, el2_r, ↓reduceIte, not_true_eq_false, not_false_eq_true, reduceCtorEq, and_true, true_and, and_false, false_and, or_true, true_or, or_false, false_or, and_self, or_self, ite_true, ite_false, Int.cast_ofNat_Int, Nat.reduceEqDiff, Nat.reduceLT, Int.reduceAdd, Int.reduceSub, Int.reduceMul, Int.reduceNeg, Int.reduceLT, Int.reduceLE, Int.reduceEq, ilt_t, ilt_f, ile_t, ile_f, ieq_t, ieq_f, z_0, z_1, z_2, z_3, z_4, z_5, z_6, z_7, z_8, z_9, z_10, z_12, z_20, z_40, z_80, z_81, z_99, z_100, z_200, z_400, z_3240, z_20000, z_100000, iz_add, iz_sub, iz_mul, iz_neg, iz_nat, iz_lt, iz_le, iz_eq, iz_div, iz_ite, iz_c, md10, md100, izcb_0, izcb_1, isOut_0, isNoCell_0, isGr_0, within_e, isCell_e, np_p, VV_r, VV_n, V_20, W_20, V_21, W_21, V_22, W_22, V_23, W_23, V_24, W_24, V_25, W_25, V_26, W_26, V_27, W_27, V_28, W_28, V_29, W_29, V_30, W_30, V_31, W_31, V_32, W_32, V_33, W_33, V_34, W_34, V_35, W_35, V_36, W_36, V_37, W_37, V_38, W_38, V_39, W_39, h.r20_2, h.r20_3, h.r20_5, h.r20_6, h.r20_8, h.r20_9, h.r20_10, h.r20_11, h.r20_12, h.r20_13, h.r20_14, h.r20_16, h.r20_18, h.r20_19, h.r20_20, h.r20_21, h.r20_22, h.r20_23, h.r20_25, rf_20 h, ra_21 h, ra_22 h, ra_23 h, ra_24 h, ra_25 h, ra_26 h, ra_27 h, ra_28 h, ra_29 h, ra_30 h, ra_31 h, ra_32 h, ra_33 h, ra_34 h, ra_35 h, ra_36 h, ra_37 h, ra_38 h, ra_39 h, up_e, e7]
end C18
