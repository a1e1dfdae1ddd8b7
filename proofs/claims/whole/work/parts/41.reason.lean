/-! file: the reference's judging -/
section C9
variable {a A B T c c' b b' : AT} {r : Nat → Nat → Option Nat} {n : Nat → Nat} {nr nm np nq : Int}
theorem MPs_q {q : Int} (hq : q ≤ 40) (h33 : c' 33 = c 33) (h36 : c' 36 = c 36) (h37 : c' 37 = c 37) (h34 : ∀ p, p ≠ q → c' 34 p 0 = c 34 p 0 ∧ c' 35 p 0 = c 35 p 0) (h38 : ∀ j, j < 81 * q → c' 38 j 0 = c 38 j 0) (h2 : EqQ b' b q) (hP : CP b nm q) (h : MPs c b q) : MPs c' b' q := by
  obtain ⟨k1, k2⟩ := h
  refine ⟨fun p p1 p2 => ?_, fun p p1 p2 => by rw [h37]; exact k2 p p1 p2⟩
  obtain ⟨⟨k3, k3', k3''⟩, k4, k5, k6⟩ := k1 p p1 p2
  have e := (h2 p p2).1
  have e13 := (h2 p p2).2
  have hw := (hP p p1 p2).1.2.1
  have e34 := h34 p (by omega)
  refine ⟨⟨?_, ?_, fun k j1 j2 => ?_⟩, ?_, ?_, ?_⟩
  · rw [e, e34.1]; exact k3
  · rw [e, e34.2]; exact k3'
  · rw [e] at j2
    rw [h38 _ (by omega), e13]; exact k3'' k j1 j2
  · rw [e, h33]; exact k4
  · rw [e, h36]; exact k5
  · rw [e, h37]; exact k6
theorem m_reason (h : Sh r n nr nm nq) {q m rz cz : Int} (hq : 0 ≤ q ∧ q < 40) (hTr : TrO A T q) (hV : Vd T A nr q m rz cz) (hC : CC T) (hD : CD T) (hR : CRm T nr) (hMa : CMa T nm q) (hP : CP T nm q) (h0 : 0 < T 1 4 0) (m1 : 0 ≤ m) (m2 : m < nm) (ht : 1 ≤ T 12 3 q ∧ T 12 3 q ≤ 20200) (hu : 0 ≤ T 12 5 q ∧ T 12 5 q ≤ 3)
    (hn : 0 ≤ T 0 10 0 ∧ T 0 10 0 ≤ 20000) (hd : 0 ≤ T 12 3 q - T 0 10 0 ∧ T 12 3 q - T 0 10 0 ≤ 200) (hst : T 11 4 m = 0 → T 11 3 m < 100 ∧ 0 ≤ T 11 2 m)
    (hMC : MC c T) (hMRm : MRm c T nr) (hMP : MP c T nm q) (s1 : c 20 1 0 = T 0 10 0) (s15 : c 20 15 0 = T 0 9 0) (s17 : c 20 17 0 = q) (s24 : c 20 24 0 = nr) (s32 : ∀ k, 0 ≤ k → k < T 0 9 0 → c 32 k 0 = T 9 k 0) :
    ∃ c', f_Mo_reason 20 (iz m) (iz (T 12 3 q)) (iz (T 12 5 q)) (VV c r n) = some (iz rz, VV c' r n) ∧ (rz ≠ 0 → c' 20 26 0 = cz) ∧ (rz = 0 → c' 20 26 0 = c 20 26 0) ∧ (∀ j, j ≠ 26 → c' 20 j 0 = c 20 j 0) ∧ (∀ t, t ≠ 20 → t ≠ 34 → t ≠ 35 → t ≠ 38 → c' t = c t) ∧ (∀ p, p ≠ q → c' 34 p 0 = c 34 p 0 ∧ c' 35 p 0 = c 35 p 0) ∧ (∀ j, j < 81 * q → c' 38 j 0 = c 38 j 0) ∧
      (rz = 0 → c' 34 q 0 = T 12 3 q ∧ c' 35 q 0 = A 12 4 q ∧ ∀ k, 0 ≤ k → k ≤ A 12 4 q → c' 38 (81 * q + k) 0 = A 13 k q ∧ c' 38 (3240 + k) 0 = A 13 k q) := by
  have hb := h.b
  obtain ⟨w0, w1, w2, w3, w4, w5, w6⟩ := hMa m m1 m2
  obtain ⟨k0, k1, k2, k3, k4, k5, k6⟩ := hMP.1.1 m m1 m2
  -- only the cause is written
  have easy : ∀ z : Int, (∀ j, j ≠ 26 → up c 20 26 0 z 20 j 0 = c 20 j 0) ∧ (∀ t, t ≠ 20 → t ≠ 34 → t ≠ 35 → t ≠ 38 → up c 20 26 0 z t = c t) ∧ (∀ p, p ≠ q → up c 20 26 0 z 34 p 0 = c 34 p 0 ∧ up c 20 26 0 z 35 p 0 = c 35 p 0) ∧ (∀ j, j < 81 * q → up c 20 26 0 z 38 j 0 = c 38 j 0) := fun z =>
    ⟨fun j j1 => by rw [up_s, if_neg (by omega)], fun t t1 _ _ _ => up_t t1, fun p _ => ⟨by rw [up_t (by omega)], by rw [up_t (by omega)]⟩, fun j _ => by rw [up_t (by omega)]⟩
  rcases hV with ⟨c1, rfl, rfl⟩ | ⟨c1, hV⟩
  · obtain ⟨y1, y2, y3, y4⟩ := easy (-1)
    refine ⟨up c 20 26 0 (-1), ?_, fun _ => by rw [up_s, if_pos ⟨rfl, rfl⟩], fun z => by omega, y1, y2, y3, y4, fun z => by omega⟩
    unfold f_Mo_reason j_Mo_reason_19
    simp (disch := omega) only [lt__e, bnd_e, bnd2_e, bnd3_e, el0_l, el0_r, el1_l, el1_r, el2_l, el2_r, ↓reduceIte, not_true_eq_false, not_false_eq_true, reduceCtorEq, and_true, true_and, and_false, false_and, or_true, true_or, or_false, false_or, and_self, or_self, ite_true, ite_false, Int.cast_ofNat_Int, Nat.reduceEqDiff, Nat.reduceLT, Int.reduceAdd, Int.reduceSub, Int.reduceMul, Int.reduceNeg, Int.reduceLT, Int.reduceLE, Int.reduceEq, ilt_t, ilt_f, ile_t, ile_f, ieq_t, ieq_f, z_0, z_1, z_2, z_3, z_4, z_5, z_6, z_7, z_8, z_9, z_10, z_12, z_20, z_40, z_80, z_81, z_99, z_100, z_200, z_400, z_3240, z_20000, z_100000, iz_add, iz_sub, iz_mul, iz_neg, iz_nat, iz_lt, iz_le, iz_eq, iz_div, iz_ite, iz_c, md10, md100, izcb_0, izcb_1, isOut_0, isNoCell_0, isGr_0, within_e, isCell_e, np_p, VV_r, VV_n, V_20, W_20, V_21, W_21, V_22, W_22, V_23, W_23, V_24, W_24, V_25, W_25, V_26, W_26, V_27, W_27, V_28, W_28, V_29, W_29, V_30, W_30, V_31, W_31, V_32, W_32, V_33, W_33, V_34, W_34, V_35, W_35, V_36, W_36, V_37, W_37, V_38, W_38, V_39, W_39, h.r20_2, h.r20_3, h.r20_5, h.r20_6, h.r20_8, h.r20_9, h.r20_10, h.r20_11, h.r20_12, h.r20_13, h.r20_14, h.r20_16, h.r20_18, h.r20_19, h.r20_20, h.r20_21, h.r20_22, h.r20_23, h.r20_25, rf_20 h, ra_21 h, ra_22 h, ra_23 h, ra_24 h, ra_25 h, ra_26 h, ra_27 h, ra_28 h, ra_29 h, ra_30 h, ra_31 h, ra_32 h, ra_33 h, ra_34 h, ra_35 h, ra_36 h, ra_37 h, ra_38 h, ra_39 h, up_e, k4, c1]
  obtain ⟨hs1, hs2⟩ := hst c1
  rcases hV with ⟨c2, rfl, rfl⟩ | ⟨c2, hV⟩
  · obtain ⟨y1, y2, y3, y4⟩ := easy (T 11 5 m)
    refine ⟨up c 20 26 0 (T 11 5 m), ?_, fun _ => by rw [up_s, if_pos ⟨rfl, rfl⟩], fun z => by omega, y1, y2, y3, y4, fun z => by omega⟩
    unfold f_Mo_reason j_Mo_reason_19
    simp (disch := omega) only [lt__e, bnd_e, bnd2_e, bnd3_e, el0_l, el0_r, el1_l, el1_r, el2_l, el2_r, ↓reduceIte, not_true_eq_false, not_false_eq_true, reduceCtorEq, and_true, true_and, and_false, false_and, or_true, true_or, or_false, false_or, and_self, or_self, ite_true, ite_false, Int.cast_ofNat_Int, Nat.reduceEqDiff, Nat.reduceLT, Int.reduceAdd, Int.reduceSub, Int.reduceMul, Int.reduceNeg, Int.reduceLT, Int.reduceLE, Int.reduceEq, ilt_t, ilt_f, ile_t, ile_f, ieq_t, ieq_f, z_0, z_1, z_2, z_3, z_4, z_5, z_6, z_7, z_8, z_9, z_10, z_12, z_20, z_40, z_80, z_81, z_99, z_100, z_200, z_400, z_3240, z_20000, z_100000, iz_add, iz_sub, iz_mul, iz_neg, iz_nat, iz_lt, iz_le, iz_eq, iz_div, iz_ite, iz_c, md10, md100, izcb_0, izcb_1, isOut_0, isNoCell_0, isGr_0, within_e, isCell_e, np_p, VV_r, VV_n, V_20, W_20, V_21, W_21, V_22, W_22, V_23, W_23, V_24, W_24, V_25, W_25, V_26, W_26, V_27, W_27, V_28, W_28, V_29, W_29, V_30, W_30, V_31, W_31, V_32, W_32, V_33, W_33, V_34, W_34, V_35, W_35, V_36, W_36, V_37, W_37, V_38, W_38, V_39, W_39, h.r20_2, h.r20_3, h.r20_5, h.r20_6, h.r20_8, h.r20_9, h.r20_10, h.r20_11, h.r20_12, h.r20_13, h.r20_14, h.r20_16, h.r20_18, h.r20_19, h.r20_20, h.r20_21, h.r20_22, h.r20_23, h.r20_25, rf_20 h, ra_21 h, ra_22 h, ra_23 h, ra_24 h, ra_25 h, ra_26 h, ra_27 h, ra_28 h, ra_29 h, ra_30 h, ra_31 h, ra_32 h, ra_33 h, ra_34 h, ra_35 h, ra_36 h, ra_37 h, ra_38 h, ra_39 h, up_e, k4, k5, c1, c2]
  have ew : f_Mo_waiting 20 (iz (T 11 0 m)) (VV c r n) = some (iz (wt T q m)) := m_waiting (a := c) h (b := T) (mm := nm) (pp := q) hb.2.1.2 (by omega) hMP hP hMa s17 w0
  have hwb : 0 ≤ wt T q m ∧ wt T q m ≤ q.toNat := cnt_b _ _
  rcases hV with ⟨c3, rfl, rfl⟩ | ⟨c3, hV⟩
  · obtain ⟨y1, y2, y3, y4⟩ := easy (-1)
    refine ⟨up c 20 26 0 (-1), ?_, fun _ => by rw [up_s, if_pos ⟨rfl, rfl⟩], fun z => by omega, y1, y2, y3, y4, fun z => by omega⟩
    unfold f_Mo_reason
    simp (disch := omega) only [lt__e, bnd_e, bnd2_e, bnd3_e, el0_l, el0_r, el1_l, el1_r, el2_l, el2_r, ↓reduceIte, not_true_eq_false, not_false_eq_true, reduceCtorEq, and_true, true_and, and_false, false_and, or_true, true_or, or_false, false_or, and_self, or_self, ite_true, ite_false, Int.cast_ofNat_Int, Nat.reduceEqDiff, Nat.reduceLT, Int.reduceAdd, Int.reduceSub, Int.reduceMul, Int.reduceNeg, Int.reduceLT, Int.reduceLE, Int.reduceEq, ilt_t, ilt_f, ile_t, ile_f, ieq_t, ieq_f, z_0, z_1, z_2, z_3, z_4, z_5, z_6, z_7, z_8, z_9, z_10, z_12, z_20, z_40, z_80, z_81, z_99, z_100, z_200, z_400, z_3240, z_20000, z_100000, iz_add, iz_sub, iz_mul, iz_neg, iz_nat, iz_lt, iz_le, iz_eq, iz_div, iz_ite, iz_c, md10, md100, izcb_0, izcb_1, isOut_0, isNoCell_0, isGr_0, within_e, isCell_e, np_p, VV_r, VV_n, V_20, W_20, V_21, W_21, V_22, W_22, V_23, W_23, V_24, W_24, V_25, W_25, V_26, W_26, V_27, W_27, V_28, W_28, V_29, W_29, V_30, W_30, V_31, W_31, V_32, W_32, V_33, W_33, V_34, W_34, V_35, W_35, V_36, W_36, V_37, W_37, V_38, W_38, V_39, W_39, h.r20_2, h.r20_3, h.r20_5, h.r20_6, h.r20_8, h.r20_9, h.r20_10, h.r20_11, h.r20_12, h.r20_13, h.r20_14, h.r20_16, h.r20_18, h.r20_19, h.r20_20, h.r20_21, h.r20_22, h.r20_23, h.r20_25, rf_20 h, ra_21 h, ra_22 h, ra_23 h, ra_24 h, ra_25 h, ra_26 h, ra_27 h, ra_28 h, ra_29 h, ra_30 h, ra_31 h, ra_32 h, ra_33 h, ra_34 h, ra_35 h, ra_36 h, ra_37 h, ra_38 h, ra_39 h, up_e, k4, k5, k0, ew, c1, c2]
  obtain ⟨C1, f1, f2, f3⟩ := m_lay (a := c) h hMC hC hD s15 s32 (m := m) (st := T 11 3 m) m1 (by omega) k3 w3.1 (by omega)
  have hlb := lay_b hD (T 11 3 m)
  have g1 := fun t (t1 : t ≠ 38) => f2.1 t t1
  have g20 := g1 20 (by omega)
  rcases hV with ⟨c4, rfl, rfl⟩ | ⟨c4, hL, hV⟩
  · refine ⟨up C1 20 26 0 (lay_ T (T 11 3 m)), ?_, fun _ => by rw [up_s, if_pos ⟨rfl, rfl⟩], fun z => by omega, fun j j1 => ?_, fun t t1 t2 t3 t4 => ?_, fun p p1 => ⟨?_, ?_⟩, fun j j1 => ?_, fun z => by omega⟩
    · unfold f_Mo_reason
      simp (disch := omega) only [lt__e, bnd_e, bnd2_e, bnd3_e, el0_l, el0_r, el1_l, el1_r, el2_l, el2_r, ↓reduceIte, not_true_eq_false, not_false_eq_true, reduceCtorEq, and_true, true_and, and_false, false_and, or_true, true_or, or_false, false_or, and_self, or_self, ite_true, ite_false, Int.cast_ofNat_Int, Nat.reduceEqDiff, Nat.reduceLT, Int.reduceAdd, Int.reduceSub, Int.reduceMul, Int.reduceNeg, Int.reduceLT, Int.reduceLE, Int.reduceEq, ilt_t, ilt_f, ile_t, ile_f, ieq_t, ieq_f, z_0, z_1, z_2, z_3, z_4, z_5, z_6, z_7, z_8, z_9, z_10, z_12, z_20, z_40, z_80, z_81, z_99, z_100, z_200, z_400, z_3240, z_20000, z_100000, iz_add, iz_sub, iz_mul, iz_neg, iz_nat, iz_lt, iz_le, iz_eq, iz_div, iz_ite, iz_c, md10, md100, izcb_0, izcb_1, isOut_0, isNoCell_0, isGr_0, within_e, isCell_e, np_p, VV_r, VV_n, V_20, W_20, V_21, W_21, V_22, W_22, V_23, W_23, V_24, W_24, V_25, W_25, V_26, W_26, V_27, W_27, V_28, W_28, V_29, W_29, V_30, W_30, V_31, W_31, V_32, W_32, V_33, W_33, V_34, W_34, V_35, W_35, V_36, W_36, V_37, W_37, V_38, W_38, V_39, W_39, h.r20_2, h.r20_3, h.r20_5, h.r20_6, h.r20_8, h.r20_9, h.r20_10, h.r20_11, h.r20_12, h.r20_13, h.r20_14, h.r20_16, h.r20_18, h.r20_19, h.r20_20, h.r20_21, h.r20_22, h.r20_23, h.r20_25, rf_20 h, ra_21 h, ra_22 h, ra_23 h, ra_24 h, ra_25 h, ra_26 h, ra_27 h, ra_28 h, ra_29 h, ra_30 h, ra_31 h, ra_32 h, ra_33 h, ra_34 h, ra_35 h, ra_36 h, ra_37 h, ra_38 h, ra_39 h, up_e, k4, k5, k0, ew, c1, c2, f1, c4]
    · rw [up_s, if_neg (by omega), g20]
    · rw [up_t t1, g1 t t4]
    · rw [up_t (by omega), g1 34 (by omega)]
    · rw [up_t (by omega), g1 35 (by omega)]
    · rw [up_t (by omega), f2.2 j 0 (by omega)]
  have hw := hL.pw hTr hD w3.1 (by omega) c4 ht
  have hd4 := hL.1
  have hdb := hw.2.1
  have e11 : A 11 = T 11 := hTr.1 11 (by omega) (by omega)
  have e0 : A 0 = T 0 := hTr.1 0 (by omega) (by omega)
  have e3 : A 12 3 q = T 12 3 q := hTr.2.1 3 q (by omega)
  have e5 : A 12 5 q = T 12 5 q := hTr.2.1 5 q (by omega)
  have hCA := CC_c hTr.eqC hC
  have hRA : CRm A nr := CRm_c2 (hTr.1 10 (by omega) (by omega)) hR
  have hPA : CP A nm q := CP_c hTr.q hP
  have hbt : 0 ≤ bt A q m ∧ bt A q m ≤ 1000 := by unfold bt; rw [e11, e0, e3]; omega
  have hro : ∀ k, 0 ≤ k → k ≤ A 12 4 q → C1 38 (3240 + k) 0 = A 13 k q := fun k j1 j2 => by rw [f3 c4 k j1 (by omega), hL.2 k j1 (by omega)]
  have gMC : MC C1 A := MC_c2 (fun t t1 t2 => g1 t (by omega)) (by rw [g20]) hTr.eqC hMC
  have hA0 : 0 < A 1 4 0 := by rw [hTr.1 1 (by omega) (by omega)]; exact h0
  have ep := m_poor (a := C1) h gMC hCA hA0 (p := q) (k := 0) (l := bt A q m) (ro := 3240) hw (by omega) (by omega) hro (Int.le_refl _) hdb.1 (by omega) (by omega)
  have en : ¬ low A q 0 (bt A q m) 0 := by
    have z13 := hL.2 0 (by omega) (by omega)
    have z14 : A 13 0 q = T 11 3 m := z13
    have z15 : need A (A 13 0 q) = 0 := by unfold need; rw [if_pos (by omega)]
    unfold low
    rw [z15]
    omega
  rw [fst_up en] at ep
  have ep' : f_Mo_poor 20 (iz 3240) (iz 0) (iz (A 12 4 q)) (iz (bt A q m)) (VV C1 r n) = some (iz (lw A q m)) := ep
  have b1 := fst_b (lo := 1) (hi := A 12 4 q + 1) (low A q 0 (bt A q m)) (by omega) (by omega)
  have b1' : -1 ≤ lw A q m ∧ lw A q m ≤ 100 := by unfold lw; omega
  have hj : f_Mo_reason 20 (iz m) (iz (T 12 3 q)) (iz (T 12 5 q)) (VV c r n) = j_Mo_reason_134 20 (iz (T 12 3 q)) (iz (T 12 5 q)) (iz (bt A q m)) (iz (A 12 4 q)) (iz 0) (iz 3240) (some 20) (VV C1 r n) := by
    have x27 := g1 27 (by omega)
    have x26 := g1 26 (by omega)
    unfold f_Mo_reason bt
    rw [e11, e0, e3, hd4]
    by_cases cb' : T 11 2 m + 5 * (T 12 3 q - T 0 10 0) < T 11 1 m
    · rw [if_pos cb']
      simp (disch := omega) only [lt__e, bnd_e, bnd2_e, bnd3_e, el0_l, el0_r, el1_l, el1_r, el2_l, el2_r, ↓reduceIte, not_true_eq_false, not_false_eq_true, reduceCtorEq, and_true, true_and, and_false, false_and, or_true, true_or, or_false, false_or, and_self, or_self, ite_true, ite_false, Int.cast_ofNat_Int, Nat.reduceEqDiff, Nat.reduceLT, Int.reduceAdd, Int.reduceSub, Int.reduceMul, Int.reduceNeg, Int.reduceLT, Int.reduceLE, Int.reduceEq, ilt_t, ilt_f, ile_t, ile_f, ieq_t, ieq_f, z_0, z_1, z_2, z_3, z_4, z_5, z_6, z_7, z_8, z_9, z_10, z_12, z_20, z_40, z_80, z_81, z_99, z_100, z_200, z_400, z_3240, z_20000, z_100000, iz_add, iz_sub, iz_mul, iz_neg, iz_nat, iz_lt, iz_le, iz_eq, iz_div, iz_ite, iz_c, md10, md100, izcb_0, izcb_1, isOut_0, isNoCell_0, isGr_0, within_e, isCell_e, np_p, VV_r, VV_n, V_20, W_20, V_21, W_21, V_22, W_22, V_23, W_23, V_24, W_24, V_25, W_25, V_26, W_26, V_27, W_27, V_28, W_28, V_29, W_29, V_30, W_30, V_31, W_31, V_32, W_32, V_33, W_33, V_34, W_34, V_35, W_35, V_36, W_36, V_37, W_37, V_38, W_38, V_39, W_39, h.r20_2, h.r20_3, h.r20_5, h.r20_6, h.r20_8, h.r20_9, h.r20_10, h.r20_11, h.r20_12, h.r20_13, h.r20_14, h.r20_16, h.r20_18, h.r20_19, h.r20_20, h.r20_21, h.r20_22, h.r20_23, h.r20_25, rf_20 h, ra_21 h, ra_22 h, ra_23 h, ra_24 h, ra_25 h, ra_26 h, ra_27 h, ra_28 h, ra_29 h, ra_30 h, ra_31 h, ra_32 h, ra_33 h, ra_34 h, ra_35 h, ra_36 h, ra_37 h, ra_38 h, ra_39 h, up_e, k4, k5, k0, k1, k2, ew, c1, c2, f1, c4, x27, x26, g20, s1, s15]
    · rw [if_neg cb']
      simp (disch := omega) only [lt__e, bnd_e, bnd2_e, bnd3_e, el0_l, el0_r, el1_l, el1_r, el2_l, el2_r, ↓reduceIte, not_true_eq_false, not_false_eq_true, reduceCtorEq, and_true, true_and, and_false, false_and, or_true, true_or, or_false, false_or, and_self, or_self, ite_true, ite_false, Int.cast_ofNat_Int, Nat.reduceEqDiff, Nat.reduceLT, Int.reduceAdd, Int.reduceSub, Int.reduceMul, Int.reduceNeg, Int.reduceLT, Int.reduceLE, Int.reduceEq, ilt_t, ilt_f, ile_t, ile_f, ieq_t, ieq_f, z_0, z_1, z_2, z_3, z_4, z_5, z_6, z_7, z_8, z_9, z_10, z_12, z_20, z_40, z_80, z_81, z_99, z_100, z_200, z_400, z_3240, z_20000, z_100000, iz_add, iz_sub, iz_mul, iz_neg, iz_nat, iz_lt, iz_le, iz_eq, iz_div, iz_ite, iz_c, md10, md100, izcb_0, izcb_1, isOut_0, isNoCell_0, isGr_0, within_e, isCell_e, np_p, VV_r, VV_n, V_20, W_20, V_21, W_21, V_22, W_22, V_23, W_23, V_24, W_24, V_25, W_25, V_26, W_26, V_27, W_27, V_28, W_28, V_29, W_29, V_30, W_30, V_31, W_31, V_32, W_32, V_33, W_33, V_34, W_34, V_35, W_35, V_36, W_36, V_37, W_37, V_38, W_38, V_39, W_39, h.r20_2, h.r20_3, h.r20_5, h.r20_6, h.r20_8, h.r20_9, h.r20_10, h.r20_11, h.r20_12, h.r20_13, h.r20_14, h.r20_16, h.r20_18, h.r20_19, h.r20_20, h.r20_21, h.r20_22, h.r20_23, h.r20_25, rf_20 h, ra_21 h, ra_22 h, ra_23 h, ra_24 h, ra_25 h, ra_26 h, ra_27 h, ra_28 h, ra_29 h, ra_30 h, ra_31 h, ra_32 h, ra_33 h, ra_34 h, ra_35 h, ra_36 h, ra_37 h, ra_38 h, ra_39 h, up_e, k4, k5, k0, k1, k2, ew, c1, c2, f1, c4, x27, x26, g20, s1, s15]
  have z17 : C1 20 17 0 = q := by rw [g20]; exact s17
  have z15 : C1 20 15 0 = A 12 4 q := by rw [g20, hd4]; exact s15
  rcases hV with ⟨c5, rfl, rfl⟩ | ⟨c5, hV⟩
  · refine ⟨up C1 20 26 0 (lw A q m), ?_, fun _ => by rw [up_s, if_pos ⟨rfl, rfl⟩], fun z => by omega, fun j j1 => ?_, fun t t1 t2 t3 t4 => ?_, fun p p1 => ⟨?_, ?_⟩, fun j j1 => ?_, fun z => by omega⟩
    · rw [hj]
      unfold j_Mo_reason_134
      simp (disch := omega) only [lt__e, bnd_e, bnd2_e, bnd3_e, el0_l, el0_r, el1_l, el1_r, el2_l, el2_r, ↓reduceIte, not_true_eq_false, not_false_eq_true, reduceCtorEq, and_true, true_and, and_false, false_and, or_true, true_or, or_false, false_or, and_self, or_self, ite_true, ite_false, Int.cast_ofNat_Int, Nat.reduceEqDiff, Nat.reduceLT, Int.reduceAdd, Int.reduceSub, Int.reduceMul, Int.reduceNeg, Int.reduceLT, Int.reduceLE, Int.reduceEq, ilt_t, ilt_f, ile_t, ile_f, ieq_t, ieq_f, z_0, z_1, z_2, z_3, z_4, z_5, z_6, z_7, z_8, z_9, z_10, z_12, z_20, z_40, z_80, z_81, z_99, z_100, z_200, z_400, z_3240, z_20000, z_100000, iz_add, iz_sub, iz_mul, iz_neg, iz_nat, iz_lt, iz_le, iz_eq, iz_div, iz_ite, iz_c, md10, md100, izcb_0, izcb_1, isOut_0, isNoCell_0, isGr_0, within_e, isCell_e, np_p, VV_r, VV_n, V_20, W_20, V_21, W_21, V_22, W_22, V_23, W_23, V_24, W_24, V_25, W_25, V_26, W_26, V_27, W_27, V_28, W_28, V_29, W_29, V_30, W_30, V_31, W_31, V_32, W_32, V_33, W_33, V_34, W_34, V_35, W_35, V_36, W_36, V_37, W_37, V_38, W_38, V_39, W_39, h.r20_2, h.r20_3, h.r20_5, h.r20_6, h.r20_8, h.r20_9, h.r20_10, h.r20_11, h.r20_12, h.r20_13, h.r20_14, h.r20_16, h.r20_18, h.r20_19, h.r20_20, h.r20_21, h.r20_22, h.r20_23, h.r20_25, rf_20 h, ra_21 h, ra_22 h, ra_23 h, ra_24 h, ra_25 h, ra_26 h, ra_27 h, ra_28 h, ra_29 h, ra_30 h, ra_31 h, ra_32 h, ra_33 h, ra_34 h, ra_35 h, ra_36 h, ra_37 h, ra_38 h, ra_39 h, up_e, ep', c5]
    · rw [up_s, if_neg (by omega), g20]
    · rw [up_t t1, g1 t t4]
    · rw [up_t (by omega), g1 34 (by omega)]
    · rw [up_t (by omega), g1 35 (by omega)]
    · rw [up_t (by omega), f2.2 j 0 (by omega)]
  obtain ⟨C3, h1, h2, h3, h4⟩ := m_copy (a := up (up C1 34 q 0 (T 12 3 q)) 35 q 0 (A 12 4 q)) h hq hdb (by rw [up_t (by omega), up_t (by omega)]; exact z15) (by rw [up_t (by omega), up_t (by omega)]; exact z17) (iz (T 12 3 q)) (iz (T 12 5 q))
  have p1 : ∀ t, t ≠ 34 → t ≠ 35 → t ≠ 38 → C3 t = c t := fun t t1 t2 t3 => by rw [h2 t t3, up_t t2, up_t t1, g1 t t3]
  have p20 := p1 20 (by omega) (by omega) (by omega)
  have p34 : ∀ p, p ≠ q → C3 34 p 0 = c 34 p 0 ∧ C3 35 p 0 = c 35 p 0 := fun p hp => ⟨by rw [h2 34 (by omega), up_t (by omega), up_s, if_neg (by omega), g1 34 (by omega)], by rw [h2 35 (by omega), up_s, if_neg (by omega), up_t (by omega), g1 35 (by omega)]⟩
  have p34q : C3 34 q 0 = T 12 3 q := by rw [h2 34 (by omega), up_t (by omega), up_s, if_pos ⟨rfl, rfl⟩]
  have p35q : C3 35 q 0 = A 12 4 q := by rw [h2 35 (by omega), up_s, if_pos ⟨rfl, rfl⟩]
  have p38 : ∀ j, j < 81 * q → C3 38 j 0 = c 38 j 0 := fun j j1 => by rw [h4 j (by omega), up_t (by omega), up_t (by omega), f2.2 j 0 (by omega)]
  have p38q : ∀ k, 0 ≤ k → k ≤ A 12 4 q → C3 38 (81 * q + k) 0 = A 13 k q := fun k j1 j2 => by rw [h3 k j1 j2, up_t (by omega), up_t (by omega), hro k j1 j2]
  have p38s : ∀ k, 0 ≤ k → k ≤ A 12 4 q → C3 38 (3240 + k) 0 = A 13 k q := fun k j1 j2 => by rw [h4 _ (by omega), up_t (by omega), up_t (by omega), hro k j1 j2]
  have hPa : MPa C3 A q := ⟨by rw [p34q, e3], p35q, p38q⟩
  have er := m_roomOf (a := C3) h hRA (MRm_c (p1 39 (by omega) (by omega) (by omega)) (hTr.1 10 (by omega) (by omega)) hMRm) (by rw [p20]; exact s24) (p := q) (fr := 0) hq.1 hq.2 hw hPa (Int.le_refl _) (by omega)
  have b2 := fst_b (lo := 0) (hi := nr) (inRm A q 0) (by omega) (by omega)
  have n17 : C3 20 17 0 = q := by rw [p20]; exact s17
  rcases hV with ⟨c6, rfl, rfl⟩ | ⟨c6, hV⟩
  · refine ⟨up C3 20 26 0 (fst_ 0 nr (inRm A q 0)), ?_, fun _ => by rw [up_s, if_pos ⟨rfl, rfl⟩], fun z => by omega, fun j j1 => ?_, fun t t1 t2 t3 t4 => ?_, fun p hp => ⟨?_, ?_⟩, fun j j1 => ?_, fun z => by omega⟩
    · rw [hj]
      unfold j_Mo_reason_134
      simp (disch := omega) only [lt__e, bnd_e, bnd2_e, bnd3_e, el0_l, el0_r, el1_l, el1_r, el2_l, el2_r, ↓reduceIte, not_true_eq_false, not_false_eq_true, reduceCtorEq, and_true, true_and, and_false, false_and, or_true, true_or, or_false, false_or, and_self, or_self, ite_true, ite_false, Int.cast_ofNat_Int, Nat.reduceEqDiff, Nat.reduceLT, Int.reduceAdd, Int.reduceSub, Int.reduceMul, Int.reduceNeg, Int.reduceLT, Int.reduceLE, Int.reduceEq, ilt_t, ilt_f, ile_t, ile_f, ieq_t, ieq_f, z_0, z_1, z_2, z_3, z_4, z_5, z_6, z_7, z_8, z_9, z_10, z_12, z_20, z_40, z_80, z_81, z_99, z_100, z_200, z_400, z_3240, z_20000, z_100000, iz_add, iz_sub, iz_mul, iz_neg, iz_nat, iz_lt, iz_le, iz_eq, iz_div, iz_ite, iz_c, md10, md100, izcb_0, izcb_1, isOut_0, isNoCell_0, isGr_0, within_e, isCell_e, np_p, VV_r, VV_n, V_20, W_20, V_21, W_21, V_22, W_22, V_23, W_23, V_24, W_24, V_25, W_25, V_26, W_26, V_27, W_27, V_28, W_28, V_29, W_29, V_30, W_30, V_31, W_31, V_32, W_32, V_33, W_33, V_34, W_34, V_35, W_35, V_36, W_36, V_37, W_37, V_38, W_38, V_39, W_39, h.r20_2, h.r20_3, h.r20_5, h.r20_6, h.r20_8, h.r20_9, h.r20_10, h.r20_11, h.r20_12, h.r20_13, h.r20_14, h.r20_16, h.r20_18, h.r20_19, h.r20_20, h.r20_21, h.r20_22, h.r20_23, h.r20_25, rf_20 h, ra_21 h, ra_22 h, ra_23 h, ra_24 h, ra_25 h, ra_26 h, ra_27 h, ra_28 h, ra_29 h, ra_30 h, ra_31 h, ra_32 h, ra_33 h, ra_34 h, ra_35 h, ra_36 h, ra_37 h, ra_38 h, ra_39 h, up_e, ep', c5, z17, z15, h1, n17, er, c6]
    · rw [up_s, if_neg (by omega), p20]
    · rw [up_t t1, p1 t t2 t3 t4]
    · rw [up_t (by omega)]; exact (p34 p hp).1
    · rw [up_t (by omega)]; exact (p34 p hp).2
    · rw [up_t (by omega), p38 j j1]
  have hMPs : MPs C3 A q := MPs_q (by omega) (p1 33 (by omega) (by omega) (by omega)) (p1 36 (by omega) (by omega) (by omega)) (p1 37 (by omega) (by omega) (by omega)) p34 p38 hTr.q hP hMP.2
  have ey := m_way_l (a := C3) (A := A) h hq (by rw [p20, hd4]; exact s15) n17 hw hPA hMPs (by rw [e5]; exact hu) p38s
  rw [e3, e5] at ey
  rcases hV with ⟨c7, rfl, rfl⟩ | ⟨c7, rfl, rfl⟩
  · rcases ey with ⟨y1, y2⟩ | ⟨y1, y2⟩
    · exact absurd y1 c7
    · refine ⟨up C3 20 26 0 (wy A q), ?_, fun _ => by rw [up_s, if_pos ⟨rfl, rfl⟩], fun z => by omega, fun j j1 => ?_, fun t t1 t2 t3 t4 => ?_, fun p hp => ⟨?_, ?_⟩, fun j j1 => ?_, fun z => by omega⟩
      · rw [hj]
        unfold j_Mo_reason_134
        simp (disch := omega) only [lt__e, bnd_e, bnd2_e, bnd3_e, el0_l, el0_r, el1_l, el1_r, el2_l, el2_r, ↓reduceIte, not_true_eq_false, not_false_eq_true, reduceCtorEq, and_true, true_and, and_false, false_and, or_true, true_or, or_false, false_or, and_self, or_self, ite_true, ite_false, Int.cast_ofNat_Int, Nat.reduceEqDiff, Nat.reduceLT, Int.reduceAdd, Int.reduceSub, Int.reduceMul, Int.reduceNeg, Int.reduceLT, Int.reduceLE, Int.reduceEq, ilt_t, ilt_f, ile_t, ile_f, ieq_t, ieq_f, z_0, z_1, z_2, z_3, z_4, z_5, z_6, z_7, z_8, z_9, z_10, z_12, z_20, z_40, z_80, z_81, z_99, z_100, z_200, z_400, z_3240, z_20000, z_100000, iz_add, iz_sub, iz_mul, iz_neg, iz_nat, iz_lt, iz_le, iz_eq, iz_div, iz_ite, iz_c, md10, md100, izcb_0, izcb_1, isOut_0, isNoCell_0, isGr_0, within_e, isCell_e, np_p, VV_r, VV_n, V_20, W_20, V_21, W_21, V_22, W_22, V_23, W_23, V_24, W_24, V_25, W_25, V_26, W_26, V_27, W_27, V_28, W_28, V_29, W_29, V_30, W_30, V_31, W_31, V_32, W_32, V_33, W_33, V_34, W_34, V_35, W_35, V_36, W_36, V_37, W_37, V_38, W_38, V_39, W_39, h.r20_2, h.r20_3, h.r20_5, h.r20_6, h.r20_8, h.r20_9, h.r20_10, h.r20_11, h.r20_12, h.r20_13, h.r20_14, h.r20_16, h.r20_18, h.r20_19, h.r20_20, h.r20_21, h.r20_22, h.r20_23, h.r20_25, rf_20 h, ra_21 h, ra_22 h, ra_23 h, ra_24 h, ra_25 h, ra_26 h, ra_27 h, ra_28 h, ra_29 h, ra_30 h, ra_31 h, ra_32 h, ra_33 h, ra_34 h, ra_35 h, ra_36 h, ra_37 h, ra_38 h, ra_39 h, up_e, ep', c5, z17, z15, h1, n17, er, c6, y2]
      · rw [up_s, if_neg (by omega), p20]
      · rw [up_t t1, p1 t t2 t3 t4]
      · rw [up_t (by omega)]; exact (p34 p hp).1
      · rw [up_t (by omega)]; exact (p34 p hp).2
      · rw [up_t (by omega), p38 j j1]
  · rcases ey with ⟨y1, y2⟩ | ⟨y1, y2⟩
    · refine ⟨C3, ?_, fun z => absurd rfl z, fun _ => by rw [p20], fun j j1 => by rw [p20], fun t t1 t2 t3 t4 => p1 t t2 t3 t4, p34, p38, fun _ => ⟨p34q, p35q, fun k j1 j2 => ⟨p38q k j1 j2, p38s k j1 j2⟩⟩⟩
      rw [hj]
      unfold j_Mo_reason_134
      simp (disch := omega) only [lt__e, bnd_e, bnd2_e, bnd3_e, el0_l, el0_r, el1_l, el1_r, el2_l, el2_r, ↓reduceIte, not_true_eq_false, not_false_eq_true, reduceCtorEq, and_true, true_and, and_false, false_and, or_true, true_or, or_false, false_or, and_self, or_self, ite_true, ite_false, Int.cast_ofNat_Int, Nat.reduceEqDiff, Nat.reduceLT, Int.reduceAdd, Int.reduceSub, Int.reduceMul, Int.reduceNeg, Int.reduceLT, Int.reduceLE, Int.reduceEq, ilt_t, ilt_f, ile_t, ile_f, ieq_t, ieq_f, z_0, z_1, z_2, z_3, z_4, z_5, z_6, z_7, z_8, z_9, z_10, z_12, z_20, z_40, z_80, z_81, z_99, z_100, z_200, z_400, z_3240, z_20000, z_100000, iz_add, iz_sub, iz_mul, iz_neg, iz_nat, iz_lt, iz_le, iz_eq, iz_div, iz_ite, iz_c, md10, md100, izcb_0, izcb_1, isOut_0, isNoCell_0, isGr_0, within_e, isCell_e, np_p, VV_r, VV_n, V_20, W_20, V_21, W_21, V_22, W_22, V_23, W_23, V_24, W_24, V_25, W_25, V_26, W_26, V_27, W_27, V_28, W_28, V_29, W_29, V_30, W_30, V_31, W_31, V_32, W_32, V_33, W_33, V_34, W_34, V_35, W_35, V_36, W_36, V_37, W_37, V_38, W_38, V_39, W_39, h.r20_2, h.r20_3, h.r20_5, h.r20_6, h.r20_8, h.r20_9, h.r20_10, h.r20_11, h.r20_12, h.r20_13, h.r20_14, h.r20_16, h.r20_18, h.r20_19, h.r20_20, h.r20_21, h.r20_22, h.r20_23, h.r20_25, rf_20 h, ra_21 h, ra_22 h, ra_23 h, ra_24 h, ra_25 h, ra_26 h, ra_27 h, ra_28 h, ra_29 h, ra_30 h, ra_31 h, ra_32 h, ra_33 h, ra_34 h, ra_35 h, ra_36 h, ra_37 h, ra_38 h, ra_39 h, up_e, ep', c5, z17, z15, h1, n17, er, c6, y2]
    · exact absurd c7 y1
end C9
