/-! a step of time in the reference: those together, landing; what holds behind a step -/
section C19
variable {a b u v s x c : AT} {r : Nat → Nat → Option Nat} {n : Nat → Nat} {nr nm np : Int} {B P S Q Z : Int → Int}
set_option maxHeartbeats 1000000 in
theorem m_isUp (h : Sh r n nr nm np) {i : Int} (i1 : 0 ≤ i) (i2 : i < 10) (h1 : 0 ≤ u 29 i 0 ∧ u 29 i 0 ≤ 3) (h2 : 0 ≤ u 28 i 0 ∧ u 28 i 0 < 500) :
    f_Mo_isUp 20 (iz i) (VV u r n) = some (iz (cb ((u 29 i 0 = 1 ∨ u 29 i 0 = 2) ∧ 100 ≤ u 28 i 0))) := by
  unfold f_Mo_isUp j_Mo_isUp_20
  by_cases c1 : u 29 i 0 = 1
  · by_cases c3 : 100 ≤ u 28 i 0
    · rw [cb_t ⟨Or.inl c1, c3⟩]
      simp (disch := omega) only [lt__e, bnd_e, bnd2_e, bnd3_e, el0_l, el0_r, el1_l, el1_r, el2_l, el2_r, ↓reduceIte, not_true_eq_false, not_false_eq_true, reduceCtorEq, and_true, true_and, and_false, false_and, or_true, true_or, or_false, false_or, and_self, or_self, ite_true, ite_false, Int.cast_ofNat_Int, Nat.reduceEqDiff, Nat.reduceLT, Int.reduceAdd, Int.reduceSub, Int.reduceMul, Int.reduceNeg, Int.reduceLT, Int.reduceLE, Int.reduceEq, ilt_t, ilt_f, ile_t, ile_f, ieq_t, ieq_f, z_0, z_1, z_2, z_3, z_4, z_5, z_6, z_7, z_8, z_9, z_10, z_12, z_20, z_40, z_80, z_81, z_99, z_100, z_200, z_400, z_3240, z_20000, z_100000, iz_add, iz_sub, iz_mul, iz_neg, iz_nat, iz_lt, iz_le, iz_eq, iz_div, iz_ite, iz_c, md10, md100, izcb_0, izcb_1, isOut_0, isNoCell_0, isGr_0, within_e, isCell_e, np_p, VV_r, VV_n, V_20, W_20, V_21, W_21, V_22, W_22, V_23, W_23, V_24, W_24, V_25, W_25, V_26, W_26, V_27, W_27, V_28, W_28, V_29, W_29, V_30, W_30, V_31, W_31, V_32, W_32, V_33, W_33, V_34, W_34, V_35, W_35, V_36, W_36, V_37, W_37, V_38, W_38, V_39, W_39, h.r20_2, h.r20_3, h.r20_5, h.r20_6, h.r20_8, h.r20_9, h.r20_10, h.r20_11, h.r20_12, h.r20_13, h.r20_14, h.r20_16, h.r20_18, h.r20_19, h.r20_20, h.r20_21, h.r20_22, h.r20_23, h.r20_25, rf_20 h, ra_21 h, ra_22 h, ra_23 h, ra_24 h, ra_25 h, ra_26 h, ra_27 h, ra_28 h, ra_29 h, ra_30 h, ra_31 h, ra_32 h, ra_33 h, ra_34 h, ra_35 h, ra_36 h, ra_37 h, ra_38 h, ra_39 h, up_e, c1]
    · rw [cb_f (fun q => c3 q.2)]
      simp (disch := omega) only [lt__e, bnd_e, bnd2_e, bnd3_e, el0_l, el0_r, el1_l, el1_r, el2_l, el2_r, ↓reduceIte, not_true_eq_false, not_false_eq_true, reduceCtorEq, and_true, true_and, and_false, false_and, or_true, true_or, or_false, false_or, and_self, or_self, ite_true, ite_false, Int.cast_ofNat_Int, Nat.reduceEqDiff, Nat.reduceLT, Int.reduceAdd, Int.reduceSub, Int.reduceMul, Int.reduceNeg, Int.reduceLT, Int.reduceLE, Int.reduceEq, ilt_t, ilt_f, ile_t, ile_f, ieq_t, ieq_f, z_0, z_1, z_2, z_3, z_4, z_5, z_6, z_7, z_8, z_9, z_10, z_12, z_20, z_40, z_80, z_81, z_99, z_100, z_200, z_400, z_3240, z_20000, z_100000, iz_add, iz_sub, iz_mul, iz_neg, iz_nat, iz_lt, iz_le, iz_eq, iz_div, iz_ite, iz_c, md10, md100, izcb_0, izcb_1, isOut_0, isNoCell_0, isGr_0, within_e, isCell_e, np_p, VV_r, VV_n, V_20, W_20, V_21, W_21, V_22, W_22, V_23, W_23, V_24, W_24, V_25, W_25, V_26, W_26, V_27, W_27, V_28, W_28, V_29, W_29, V_30, W_30, V_31, W_31, V_32, W_32, V_33, W_33, V_34, W_34, V_35, W_35, V_36, W_36, V_37, W_37, V_38, W_38, V_39, W_39, h.r20_2, h.r20_3, h.r20_5, h.r20_6, h.r20_8, h.r20_9, h.r20_10, h.r20_11, h.r20_12, h.r20_13, h.r20_14, h.r20_16, h.r20_18, h.r20_19, h.r20_20, h.r20_21, h.r20_22, h.r20_23, h.r20_25, rf_20 h, ra_21 h, ra_22 h, ra_23 h, ra_24 h, ra_25 h, ra_26 h, ra_27 h, ra_28 h, ra_29 h, ra_30 h, ra_31 h, ra_32 h, ra_33 h, ra_34 h, ra_35 h, ra_36 h, ra_37 h, ra_38 h, ra_39 h, up_e, c1]
  · by_cases c2 : u 29 i 0 = 2
    · by_cases c3 : 100 ≤ u 28 i 0
      · rw [cb_t ⟨Or.inr c2, c3⟩]
        simp (disch := omega) only [lt__e, bnd_e, bnd2_e, bnd3_e, el0_l, el0_r, el1_l, el1_r, el2_l, el2_r, ↓reduceIte, not_true_eq_false, not_false_eq_true, reduceCtorEq, and_true, true_and, and_false, false_and, or_true, true_or, or_false, false_or, and_self, or_self, ite_true, ite_false, Int.cast_ofNat_Int, Nat.reduceEqDiff, Nat.reduceLT, Int.reduceAdd, Int.reduceSub, Int.reduceMul, Int.reduceNeg, Int.reduceLT, Int.reduceLE, Int.reduceEq, ilt_t, ilt_f, ile_t, ile_f, ieq_t, ieq_f, z_0, z_1, z_2, z_3, z_4, z_5, z_6, z_7, z_8, z_9, z_10, z_12, z_20, z_40, z_80, z_81, z_99, z_100, z_200, z_400, z_3240, z_20000, z_100000, iz_add, iz_sub, iz_mul, iz_neg, iz_nat, iz_lt, iz_le, iz_eq, iz_div, iz_ite, iz_c, md10, md100, izcb_0, izcb_1, isOut_0, isNoCell_0, isGr_0, within_e, isCell_e, np_p, VV_r, VV_n, V_20, W_20, V_21, W_21, V_22, W_22, V_23, W_23, V_24, W_24, V_25, W_25, V_26, W_26, V_27, W_27, V_28, W_28, V_29, W_29, V_30, W_30, V_31, W_31, V_32, W_32, V_33, W_33, V_34, W_34, V_35, W_35, V_36, W_36, V_37, W_37, V_38, W_38, V_39, W_39, h.r20_2, h.r20_3, h.r20_5, h.r20_6, h.r20_8, h.r20_9, h.r20_10, h.r20_11, h.r20_12, h.r20_13, h.r20_14, h.r20_16, h.r20_18, h.r20_19, h.r20_20, h.r20_21, h.r20_22, h.r20_23, h.r20_25, rf_20 h, ra_21 h, ra_22 h, ra_23 h, ra_24 h, ra_25 h, ra_26 h, ra_27 h, ra_28 h, ra_29 h, ra_30 h, ra_31 h, ra_32 h, ra_33 h, ra_34 h, ra_35 h, ra_36 h, ra_37 h, ra_38 h, ra_39 h, up_e, c2]
      · rw [cb_f (fun q => c3 q.2)]
        simp (disch := omega) only [lt__e, bnd_e, bnd2_e, bnd3_e, el0_l, el0_r, el1_l, el1_r, el2_l, el2_r, ↓reduceIte, not_true_eq_false, not_false_eq_true, reduceCtorEq, and_true, true_and, and_false, false_and, or_true, true_or, or_false, false_or, and_self, or_self, ite_true, ite_false, Int.cast_ofNat_Int, Nat.reduceEqDiff, Nat.reduceLT, Int.reduceAdd, Int.reduceSub, Int.reduceMul, Int.reduceNeg, Int.reduceLT, Int.reduceLE, Int.reduceEq, ilt_t, ilt_f, ile_t, ile_f, ieq_t, ieq_f, z_0, z_1, z_2, z_3, z_4, z_5, z_6, z_7, z_8, z_9, z_10, z_12, z_20, z_40, z_80, z_81, z_99, z_100, z_200, z_400, z_3240, z_20000, z_100000, iz_add, iz_sub, iz_mul, iz_neg, iz_nat, iz_lt, iz_le, iz_eq, iz_div, iz_ite, iz_c, md10, md100, izcb_0, izcb_1, isOut_0, isNoCell_0, isGr_0, within_e, isCell_e, np_p, VV_r, VV_n, V_20, W_20, V_21, W_21, V_22, W_22, V_23, W_23, V_24, W_24, V_25, W_25, V_26, W_26, V_27, W_27, V_28, W_28, V_29, W_29, V_30, W_30, V_31, W_31, V_32, W_32, V_33, W_33, V_34, W_34, V_35, W_35, V_36, W_36, V_37, W_37, V_38, W_38, V_39, W_39, h.r20_2, h.r20_3, h.r20_5, h.r20_6, h.r20_8, h.r20_9, h.r20_10, h.r20_11, h.r20_12, h.r20_13, h.r20_14, h.r20_16, h.r20_18, h.r20_19, h.r20_20, h.r20_21, h.r20_22, h.r20_23, h.r20_25, rf_20 h, ra_21 h, ra_22 h, ra_23 h, ra_24 h, ra_25 h, ra_26 h, ra_27 h, ra_28 h, ra_29 h, ra_30 h, ra_31 h, ra_32 h, ra_33 h, ra_34 h, ra_35 h, ra_36 h, ra_37 h, ra_38 h, ra_39 h, up_e, c2]
    · rw [cb_f (fun q => by omega)]
      simp (disch := omega) only [lt__e, bnd_e, bnd2_e, bnd3_e, el0_l, el0_r, el1_l, el1_r, el2_l, el2_r, ↓reduceIte, not_true_eq_false, not_false_eq_true, reduceCtorEq, and_true, true_and, and_false, false_and, or_true, true_or, or_false, false_or, and_self, or_self, ite_true, ite_false, Int.cast_ofNat_Int, Nat.reduceEqDiff, Nat.reduceLT, Int.reduceAdd, Int.reduceSub, Int.reduceMul, Int.reduceNeg, Int.reduceLT, Int.reduceLE, Int.reduceEq, ilt_t, ilt_f, ile_t, ile_f, ieq_t, ieq_f, z_0, z_1, z_2, z_3, z_4, z_5, z_6, z_7, z_8, z_9, z_10, z_12, z_20, z_40, z_80, z_81, z_99, z_100, z_200, z_400, z_3240, z_20000, z_100000, iz_add, iz_sub, iz_mul, iz_neg, iz_nat, iz_lt, iz_le, iz_eq, iz_div, iz_ite, iz_c, md10, md100, izcb_0, izcb_1, isOut_0, isNoCell_0, isGr_0, within_e, isCell_e, np_p, VV_r, VV_n, V_20, W_20, V_21, W_21, V_22, W_22, V_23, W_23, V_24, W_24, V_25, W_25, V_26, W_26, V_27, W_27, V_28, W_28, V_29, W_29, V_30, W_30, V_31, W_31, V_32, W_32, V_33, W_33, V_34, W_34, V_35, W_35, V_36, W_36, V_37, W_37, V_38, W_38, V_39, W_39, h.r20_2, h.r20_3, h.r20_5, h.r20_6, h.r20_8, h.r20_9, h.r20_10, h.r20_11, h.r20_12, h.r20_13, h.r20_14, h.r20_16, h.r20_18, h.r20_19, h.r20_20, h.r20_21, h.r20_22, h.r20_23, h.r20_25, rf_20 h, ra_21 h, ra_22 h, ra_23 h, ra_24 h, ra_25 h, ra_26 h, ra_27 h, ra_28 h, ra_29 h, ra_30 h, ra_31 h, ra_32 h, ra_33 h, ra_34 h, ra_35 h, ra_36 h, ra_37 h, ra_38 h, ra_39 h, up_e]
set_option maxHeartbeats 1000000 in
theorem tUp_r (hI : CI b nr nm np) {i : Int} (i1 : 0 ≤ i) (i2 : i < nm) : ((tR4 b i = 1 ∨ tR4 b i = 2) ∧ 100 ≤ tP3 b i) ↔ tUp b i := by
  obtain ⟨r0, r1, r2, r3⟩ := tR3_b hI i1 i2
  have e : tS3 b i ≠ 3 → tS3 b i = tS2 b i := fun z => by
    unfold tS3 at z ⊢
    by_cases c : (tS2 b i = 1 ∨ tS2 b i = 2) ∧ tB3 b i < 0
    · rw [if_pos c] at z; exact absurd rfl z
    · rw [if_neg c]
  unfold tUp tR4
  by_cases c : tS3 b i = 3
  · rw [if_pos c]; omega
  · have := e c
    rw [if_neg c]; omega
set_option maxHeartbeats 1000000 in
theorem tR4_b (hI : CI b nr nm np) {i : Int} (i1 : 0 ≤ i) (i2 : i < nm) : 0 ≤ tR4 b i ∧ tR4 b i ≤ 3 := by
  obtain ⟨r0, r1, r2, r3⟩ := tR3_b hI i1 i2
  unfold tR4; omega
set_option maxHeartbeats 1000000 in
theorem m_crash (h : Sh r n nr nm np) (hI : CI b nr nm np) (hM : MR x b nr nm np) (hv : RS v x b nm np (tB3 b) (tP3 b) (tR4 b) (tQ3 b) (tZ3 b)) :
    ∃ u, f_Mo_crash 20 (VV v r n) = some (VV u r n) ∧ RS u x b nm np (tB3 b) (tP3 b) (tR5 b nm) (tQ4 b nm) (tZ4 b nm) ∧ u 20 28 0 = kt b nm (v 20 28 0) nm := by
  have hb := h.b
  have hMM := hM.2.2.1
  obtain ⟨e1, e7, e17, e10⟩ := hv.f hM
  have hup : ∀ j, 0 ≤ j → j < nm → f_Mo_isUp 20 (iz j) (VV v r n) = some (iz (cb (tUp b j))) := fun j j1 j2 => by
    obtain ⟨y2, y3, y4, y5⟩ := hv.2.2.2.1 j j1 j2
    have gP := (tF hI j1 j2).2.2.2.2.2.2.2.1
    have gR := tR4_b hI j1 j2
    have k := m_isUp (u := v) h j1 (by omega) (by omega) (by omega)
    rw [y3, y4, cb_c (tUp_r hI j1 j2)] at k
    exact k
  have i14 : ∀ (i : Int), 0 ≤ i → i < nm → ∀ w0 : Int32, ∃ w, l_Mo_crash_14 20 (iz i) (VV v r n) 4096 w0 (iz 0) = some w ∧ ((tTg b nm i ∧ w = w0 ||| (iz 1 <<< (iz i &&& (31 : Int32)))) ∨ (¬ tTg b nm i ∧ w = w0)) := by
    intro i i1 i2 w0
    have upi := hup i i1 i2
    have gPi := (tF hI i1 i2).2.2.2.2.2.2.2.1
    have y3i := (hv.2.2.2.1 i i1 i2).2.1
    have key := lpQ (L := fun n' j (w : Int32) => l_Mo_crash_14 20 (iz i) (VV v r n) n' w (iz j)) (hi := nm)
      (Q := fun j w => 0 ≤ j ∧ (((tUp b i ∧ ∃ k, 0 ≤ k ∧ k < j ∧ (k ≠ i ∧ tUp b k ∧ tP3 b k = tP3 b i)) ∧ w = w0 ||| (iz 1 <<< (iz i &&& (31 : Int32)))) ∨ (¬ (tUp b i ∧ ∃ k, 0 ≤ k ∧ k < j ∧ (k ≠ i ∧ tUp b k ∧ tP3 b k = tP3 b i)) ∧ w = w0)))
      (R := fun w => (tTg b nm i ∧ w = w0 ||| (iz 1 <<< (iz i &&& (31 : Int32)))) ∨ (¬ tTg b nm i ∧ w = w0)) ?_ ?_ 4096 0 w0 hb.2.1.1 (by omega) ⟨by omega, Or.inr ⟨fun q => by obtain ⟨-, k, k1, k2, -⟩ := q; omega, rfl⟩⟩
    · exact key
    · rintro n' j w j2 ⟨j1, hq⟩
      left
      have upj := hup j j1 j2
      have gPj := (tF hI j1 j2).2.2.2.2.2.2.2.1
      have y3j := (hv.2.2.2.1 j j1 j2).2.1
      have no : ¬ (tUp b i ∧ (j ≠ i ∧ tUp b j ∧ tP3 b j = tP3 b i)) → ((tUp b i ∧ ∃ k, 0 ≤ k ∧ k < j + 1 ∧ (k ≠ i ∧ tUp b k ∧ tP3 b k = tP3 b i)) ∧ w = w0 ||| (iz 1 <<< (iz i &&& (31 : Int32)))) ∨ (¬ (tUp b i ∧ ∃ k, 0 ≤ k ∧ k < j + 1 ∧ (k ≠ i ∧ tUp b k ∧ tP3 b k = tP3 b i)) ∧ w = w0) := fun z => by
        rcases hq with ⟨⟨q1, k, q2, q3, q4⟩, q5⟩ | ⟨q1, q5⟩
        · exact Or.inl ⟨⟨q1, k, q2, by omega, q4⟩, q5⟩
        · refine Or.inr ⟨fun ⟨p1, k, p2, p3, p4⟩ => ?_, q5⟩
          by_cases e : k = j
          · subst e; exact z ⟨p1, p4⟩
          · exact q1 ⟨p1, k, p2, by omega, p4⟩
      dsimp only [l_Mo_crash_14, b_Mo_crash_14]
      by_cases c1 : j = i
      · refine ⟨w, ⟨by omega, no (fun z => z.2.1 c1)⟩, ?_⟩
        simp (disch := omega) only [lt__e, bnd_e, bnd2_e, bnd3_e, el0_l, el0_r, el1_l, el1_r, el2_l, el2_r, ↓reduceIte, not_true_eq_false, not_false_eq_true, reduceCtorEq, and_true, true_and, and_false, false_and, or_true, true_or, or_false, false_or, and_self, or_self, ite_true, ite_false, Int.cast_ofNat_Int, Nat.reduceEqDiff, Nat.reduceLT, Int.reduceAdd, Int.reduceSub, Int.reduceMul, Int.reduceNeg, Int.reduceLT, Int.reduceLE, Int.reduceEq, ilt_t, ilt_f, ile_t, ile_f, ieq_t, ieq_f, z_0, z_1, z_2, z_3, z_4, z_5, z_6, z_7, z_8, z_9, z_10, z_12, z_20, z_40, z_80, z_81, z_99, z_100, z_200, z_400, z_3240, z_20000, z_100000, iz_add, iz_sub, iz_mul, iz_neg, iz_nat, iz_lt, iz_le, iz_eq, iz_div, iz_ite, iz_c, md10, md100, izcb_0, izcb_1, isOut_0, isNoCell_0, isGr_0, within_e, isCell_e, np_p, VV_r, VV_n, V_20, W_20, V_21, W_21, V_22, W_22, V_23, W_23, V_24, W_24, V_25, W_25, V_26, W_26, V_27, W_27, V_28, W_28, V_29, W_29, V_30, W_30, V_31, W_31, V_32, W_32, V_33, W_33, V_34, W_34, V_35, W_35, V_36, W_36, V_37, W_37, V_38, W_38, V_39, W_39, h.r20_2, h.r20_3, h.r20_5, h.r20_6, h.r20_8, h.r20_9, h.r20_10, h.r20_11, h.r20_12, h.r20_13, h.r20_14, h.r20_16, h.r20_18, h.r20_19, h.r20_20, h.r20_21, h.r20_22, h.r20_23, h.r20_25, rf_20 h, ra_21 h, ra_22 h, ra_23 h, ra_24 h, ra_25 h, ra_26 h, ra_27 h, ra_28 h, ra_29 h, ra_30 h, ra_31 h, ra_32 h, ra_33 h, ra_34 h, ra_35 h, ra_36 h, ra_37 h, ra_38 h, ra_39 h, up_e, e7, or_z]
      · by_cases c2 : tUp b i
        · rw [cb_t c2] at upi
          by_cases c3 : tUp b j
          · rw [cb_t c3] at upj
            by_cases c4 : tP3 b j = tP3 b i
            · refine ⟨w0 ||| (iz 1 <<< (iz i &&& (31 : Int32))), ⟨by omega, Or.inl ⟨⟨c2, j, j1, by omega, c1, c3, c4⟩, rfl⟩⟩, ?_⟩
              have ew : w ||| (iz 1 <<< (iz i &&& (31 : Int32))) = w0 ||| (iz 1 <<< (iz i &&& (31 : Int32))) := by
                rcases hq with ⟨-, q5⟩ | ⟨-, q5⟩
                · rw [q5, Int32.or_assoc, Int32.or_self]
                · rw [q5]
              simp (disch := omega) only [lt__e, bnd_e, bnd2_e, bnd3_e, el0_l, el0_r, el1_l, el1_r, el2_l, el2_r, ↓reduceIte, not_true_eq_false, not_false_eq_true, reduceCtorEq, and_true, true_and, and_false, false_and, or_true, true_or, or_false, false_or, and_self, or_self, ite_true, ite_false, Int.cast_ofNat_Int, Nat.reduceEqDiff, Nat.reduceLT, Int.reduceAdd, Int.reduceSub, Int.reduceMul, Int.reduceNeg, Int.reduceLT, Int.reduceLE, Int.reduceEq, ilt_t, ilt_f, ile_t, ile_f, ieq_t, ieq_f, z_0, z_1, z_2, z_3, z_4, z_5, z_6, z_7, z_8, z_9, z_10, z_12, z_20, z_40, z_80, z_81, z_99, z_100, z_200, z_400, z_3240, z_20000, z_100000, iz_add, iz_sub, iz_mul, iz_neg, iz_nat, iz_lt, iz_le, iz_eq, iz_div, iz_ite, iz_c, md10, md100, izcb_0, izcb_1, isOut_0, isNoCell_0, isGr_0, within_e, isCell_e, np_p, VV_r, VV_n, V_20, W_20, V_21, W_21, V_22, W_22, V_23, W_23, V_24, W_24, V_25, W_25, V_26, W_26, V_27, W_27, V_28, W_28, V_29, W_29, V_30, W_30, V_31, W_31, V_32, W_32, V_33, W_33, V_34, W_34, V_35, W_35, V_36, W_36, V_37, W_37, V_38, W_38, V_39, W_39, h.r20_2, h.r20_3, h.r20_5, h.r20_6, h.r20_8, h.r20_9, h.r20_10, h.r20_11, h.r20_12, h.r20_13, h.r20_14, h.r20_16, h.r20_18, h.r20_19, h.r20_20, h.r20_21, h.r20_22, h.r20_23, h.r20_25, rf_20 h, ra_21 h, ra_22 h, ra_23 h, ra_24 h, ra_25 h, ra_26 h, ra_27 h, ra_28 h, ra_29 h, ra_30 h, ra_31 h, ra_32 h, ra_33 h, ra_34 h, ra_35 h, ra_36 h, ra_37 h, ra_38 h, ra_39 h, up_e, e7, upi, upj, y3i, y3j, c4, ew]
            · refine ⟨w, ⟨by omega, no (fun z => c4 z.2.2.2)⟩, ?_⟩
              simp (disch := omega) only [lt__e, bnd_e, bnd2_e, bnd3_e, el0_l, el0_r, el1_l, el1_r, el2_l, el2_r, ↓reduceIte, not_true_eq_false, not_false_eq_true, reduceCtorEq, and_true, true_and, and_false, false_and, or_true, true_or, or_false, false_or, and_self, or_self, ite_true, ite_false, Int.cast_ofNat_Int, Nat.reduceEqDiff, Nat.reduceLT, Int.reduceAdd, Int.reduceSub, Int.reduceMul, Int.reduceNeg, Int.reduceLT, Int.reduceLE, Int.reduceEq, ilt_t, ilt_f, ile_t, ile_f, ieq_t, ieq_f, z_0, z_1, z_2, z_3, z_4, z_5, z_6, z_7, z_8, z_9, z_10, z_12, z_20, z_40, z_80, z_81, z_99, z_100, z_200, z_400, z_3240, z_20000, z_100000, iz_add, iz_sub, iz_mul, iz_neg, iz_nat, iz_lt, iz_le, iz_eq, iz_div, iz_ite, iz_c, md10, md100, izcb_0, izcb_1, isOut_0, isNoCell_0, isGr_0, within_e, isCell_e, np_p, VV_r, VV_n, V_20, W_20, V_21, W_21, V_22, W_22, V_23, W_23, V_24, W_24, V_25, W_25, V_26, W_26, V_27, W_27, V_28, W_28, V_29, W_29, V_30, W_30, V_31, W_31, V_32, W_32, V_33, W_33, V_34, W_34, V_35, W_35, V_36, W_36, V_37, W_37, V_38, W_38, V_39, W_39, h.r20_2, h.r20_3, h.r20_5, h.r20_6, h.r20_8, h.r20_9, h.r20_10, h.r20_11, h.r20_12, h.r20_13, h.r20_14, h.r20_16, h.r20_18, h.r20_19, h.r20_20, h.r20_21, h.r20_22, h.r20_23, h.r20_25, rf_20 h, ra_21 h, ra_22 h, ra_23 h, ra_24 h, ra_25 h, ra_26 h, ra_27 h, ra_28 h, ra_29 h, ra_30 h, ra_31 h, ra_32 h, ra_33 h, ra_34 h, ra_35 h, ra_36 h, ra_37 h, ra_38 h, ra_39 h, up_e, e7, upi, upj, y3i, y3j, or_z]
          · rw [cb_f c3] at upj
            refine ⟨w, ⟨by omega, no (fun z => c3 z.2.2.1)⟩, ?_⟩
            simp (disch := omega) only [lt__e, bnd_e, bnd2_e, bnd3_e, el0_l, el0_r, el1_l, el1_r, el2_l, el2_r, ↓reduceIte, not_true_eq_false, not_false_eq_true, reduceCtorEq, and_true, true_and, and_false, false_and, or_true, true_or, or_false, false_or, and_self, or_self, ite_true, ite_false, Int.cast_ofNat_Int, Nat.reduceEqDiff, Nat.reduceLT, Int.reduceAdd, Int.reduceSub, Int.reduceMul, Int.reduceNeg, Int.reduceLT, Int.reduceLE, Int.reduceEq, ilt_t, ilt_f, ile_t, ile_f, ieq_t, ieq_f, z_0, z_1, z_2, z_3, z_4, z_5, z_6, z_7, z_8, z_9, z_10, z_12, z_20, z_40, z_80, z_81, z_99, z_100, z_200, z_400, z_3240, z_20000, z_100000, iz_add, iz_sub, iz_mul, iz_neg, iz_nat, iz_lt, iz_le, iz_eq, iz_div, iz_ite, iz_c, md10, md100, izcb_0, izcb_1, isOut_0, isNoCell_0, isGr_0, within_e, isCell_e, np_p, VV_r, VV_n, V_20, W_20, V_21, W_21, V_22, W_22, V_23, W_23, V_24, W_24, V_25, W_25, V_26, W_26, V_27, W_27, V_28, W_28, V_29, W_29, V_30, W_30, V_31, W_31, V_32, W_32, V_33, W_33, V_34, W_34, V_35, W_35, V_36, W_36, V_37, W_37, V_38, W_38, V_39, W_39, h.r20_2, h.r20_3, h.r20_5, h.r20_6, h.r20_8, h.r20_9, h.r20_10, h.r20_11, h.r20_12, h.r20_13, h.r20_14, h.r20_16, h.r20_18, h.r20_19, h.r20_20, h.r20_21, h.r20_22, h.r20_23, h.r20_25, rf_20 h, ra_21 h, ra_22 h, ra_23 h, ra_24 h, ra_25 h, ra_26 h, ra_27 h, ra_28 h, ra_29 h, ra_30 h, ra_31 h, ra_32 h, ra_33 h, ra_34 h, ra_35 h, ra_36 h, ra_37 h, ra_38 h, ra_39 h, up_e, e7, upi, upj, or_z]
        · rw [cb_f c2] at upi
          refine ⟨w, ⟨by omega, no (fun z => c2 z.1)⟩, ?_⟩
          simp (disch := omega) only [lt__e, bnd_e, bnd2_e, bnd3_e, el0_l, el0_r, el1_l, el1_r, el2_l, el2_r, ↓reduceIte, not_true_eq_false, not_false_eq_true, reduceCtorEq, and_true, true_and, and_false, false_and, or_true, true_or, or_false, false_or, and_self, or_self, ite_true, ite_false, Int.cast_ofNat_Int, Nat.reduceEqDiff, Nat.reduceLT, Int.reduceAdd, Int.reduceSub, Int.reduceMul, Int.reduceNeg, Int.reduceLT, Int.reduceLE, Int.reduceEq, ilt_t, ilt_f, ile_t, ile_f, ieq_t, ieq_f, z_0, z_1, z_2, z_3, z_4, z_5, z_6, z_7, z_8, z_9, z_10, z_12, z_20, z_40, z_80, z_81, z_99, z_100, z_200, z_400, z_3240, z_20000, z_100000, iz_add, iz_sub, iz_mul, iz_neg, iz_nat, iz_lt, iz_le, iz_eq, iz_div, iz_ite, iz_c, md10, md100, izcb_0, izcb_1, isOut_0, isNoCell_0, isGr_0, within_e, isCell_e, np_p, VV_r, VV_n, V_20, W_20, V_21, W_21, V_22, W_22, V_23, W_23, V_24, W_24, V_25, W_25, V_26, W_26, V_27, W_27, V_28, W_28, V_29, W_29, V_30, W_30, V_31, W_31, V_32, W_32, V_33, W_33, V_34, W_34, V_35, W_35, V_36, W_36, V_37, W_37, V_38, W_38, V_39, W_39, h.r20_2, h.r20_3, h.r20_5, h.r20_6, h.r20_8, h.r20_9, h.r20_10, h.r20_11, h.r20_12, h.r20_13, h.r20_14, h.r20_16, h.r20_18, h.r20_19, h.r20_20, h.r20_21, h.r20_22, h.r20_23, h.r20_25, rf_20 h, ra_21 h, ra_22 h, ra_23 h, ra_24 h, ra_25 h, ra_26 h, ra_27 h, ra_28 h, ra_29 h, ra_30 h, ra_31 h, ra_32 h, ra_33 h, ra_34 h, ra_35 h, ra_36 h, ra_37 h, ra_38 h, ra_39 h, up_e, e7, upi, or_z]
    · rintro n' w ⟨j1, hq⟩
      refine ⟨w, ?_, hq⟩
      dsimp only [l_Mo_crash_14, b_Mo_crash_14]
      simp (disch := omega) only [lt__e, bnd_e, bnd2_e, bnd3_e, el0_l, el0_r, el1_l, el1_r, el2_l, el2_r, ↓reduceIte, not_true_eq_false, not_false_eq_true, reduceCtorEq, and_true, true_and, and_false, false_and, or_true, true_or, or_false, false_or, and_self, or_self, ite_true, ite_false, Int.cast_ofNat_Int, Nat.reduceEqDiff, Nat.reduceLT, Int.reduceAdd, Int.reduceSub, Int.reduceMul, Int.reduceNeg, Int.reduceLT, Int.reduceLE, Int.reduceEq, ilt_t, ilt_f, ile_t, ile_f, ieq_t, ieq_f, z_0, z_1, z_2, z_3, z_4, z_5, z_6, z_7, z_8, z_9, z_10, z_12, z_20, z_40, z_80, z_81, z_99, z_100, z_200, z_400, z_3240, z_20000, z_100000, iz_add, iz_sub, iz_mul, iz_neg, iz_nat, iz_lt, iz_le, iz_eq, iz_div, iz_ite, iz_c, md10, md100, izcb_0, izcb_1, isOut_0, isNoCell_0, isGr_0, within_e, isCell_e, np_p, VV_r, VV_n, V_20, W_20, V_21, W_21, V_22, W_22, V_23, W_23, V_24, W_24, V_25, W_25, V_26, W_26, V_27, W_27, V_28, W_28, V_29, W_29, V_30, W_30, V_31, W_31, V_32, W_32, V_33, W_33, V_34, W_34, V_35, W_35, V_36, W_36, V_37, W_37, V_38, W_38, V_39, W_39, h.r20_2, h.r20_3, h.r20_5, h.r20_6, h.r20_8, h.r20_9, h.r20_10, h.r20_11, h.r20_12, h.r20_13, h.r20_14, h.r20_16, h.r20_18, h.r20_19, h.r20_20, h.r20_21, h.r20_22, h.r20_23, h.r20_25, rf_20 h, ra_21 h, ra_22 h, ra_23 h, ra_24 h, ra_25 h, ra_26 h, ra_27 h, ra_28 h, ra_29 h, ra_30 h, ra_31 h, ra_32 h, ra_33 h, ra_34 h, ra_35 h, ra_36 h, ra_37 h, ra_38 h, ra_39 h, up_e, e7]
  have kb := lpQ (L := fun n' i (w : Int32) => l_Mo_crash_4 20 (VV v r n) n' w (iz i)) (hi := nm) (Q := fun i w => 0 ≤ i ∧ w = bts (tTg b nm) i.toNat) (R := fun w => w = bts (tTg b nm) nm.toNat) ?_ ?_ 4096 0 (iz 0) hb.2.1.1 (by omega) ⟨by omega, z_0.symm⟩
  rotate_left 1
  · rintro n' i w i2 ⟨i1, rfl⟩
    left
    obtain ⟨w, k1, k2⟩ := i14 i i1 i2 (bts (tTg b nm) i.toNat)
    refine ⟨w, ⟨by omega, ?_⟩, ?_⟩
    · rcases k2 with ⟨q1, q2⟩ | ⟨q1, q2⟩
      · rw [bts_t i1 q1, q2]
      · rw [bts_f i1 q1, q2]
    · dsimp only [l_Mo_crash_4, b_Mo_crash_4]
      simp (disch := omega) only [lt__e, bnd_e, bnd2_e, bnd3_e, el0_l, el0_r, el1_l, el1_r, el2_l, el2_r, ↓reduceIte, not_true_eq_false, not_false_eq_true, reduceCtorEq, and_true, true_and, and_false, false_and, or_true, true_or, or_false, false_or, and_self, or_self, ite_true, ite_false, Int.cast_ofNat_Int, Nat.reduceEqDiff, Nat.reduceLT, Int.reduceAdd, Int.reduceSub, Int.reduceMul, Int.reduceNeg, Int.reduceLT, Int.reduceLE, Int.reduceEq, ilt_t, ilt_f, ile_t, ile_f, ieq_t, ieq_f, z_0, z_1, z_2, z_3, z_4, z_5, z_6, z_7, z_8, z_9, z_10, z_12, z_20, z_40, z_80, z_81, z_99, z_100, z_200, z_400, z_3240, z_20000, z_100000, iz_add, iz_sub, iz_mul, iz_neg, iz_nat, iz_lt, iz_le, iz_eq, iz_div, iz_ite, iz_c, md10, md100, izcb_0, izcb_1, isOut_0, isNoCell_0, isGr_0, within_e, isCell_e, np_p, VV_r, VV_n, V_20, W_20, V_21, W_21, V_22, W_22, V_23, W_23, V_24, W_24, V_25, W_25, V_26, W_26, V_27, W_27, V_28, W_28, V_29, W_29, V_30, W_30, V_31, W_31, V_32, W_32, V_33, W_33, V_34, W_34, V_35, W_35, V_36, W_36, V_37, W_37, V_38, W_38, V_39, W_39, h.r20_2, h.r20_3, h.r20_5, h.r20_6, h.r20_8, h.r20_9, h.r20_10, h.r20_11, h.r20_12, h.r20_13, h.r20_14, h.r20_16, h.r20_18, h.r20_19, h.r20_20, h.r20_21, h.r20_22, h.r20_23, h.r20_25, rf_20 h, ra_21 h, ra_22 h, ra_23 h, ra_24 h, ra_25 h, ra_26 h, ra_27 h, ra_28 h, ra_29 h, ra_30 h, ra_31 h, ra_32 h, ra_33 h, ra_34 h, ra_35 h, ra_36 h, ra_37 h, ra_38 h, ra_39 h, up_e, e7, k1]
  · rintro n' w ⟨i1, rfl⟩
    refine ⟨_, ?_, rfl⟩
    dsimp only [l_Mo_crash_4, b_Mo_crash_4]
    simp (disch := omega) only [lt__e, bnd_e, bnd2_e, bnd3_e, el0_l, el0_r, el1_l, el1_r, el2_l, el2_r, ↓reduceIte, not_true_eq_false, not_false_eq_true, reduceCtorEq, and_true, true_and, and_false, false_and, or_true, true_or, or_false, false_or, and_self, or_self, ite_true, ite_false, Int.cast_ofNat_Int, Nat.reduceEqDiff, Nat.reduceLT, Int.reduceAdd, Int.reduceSub, Int.reduceMul, Int.reduceNeg, Int.reduceLT, Int.reduceLE, Int.reduceEq, ilt_t, ilt_f, ile_t, ile_f, ieq_t, ieq_f, z_0, z_1, z_2, z_3, z_4, z_5, z_6, z_7, z_8, z_9, z_10, z_12, z_20, z_40, z_80, z_81, z_99, z_100, z_200, z_400, z_3240, z_20000, z_100000, iz_add, iz_sub, iz_mul, iz_neg, iz_nat, iz_lt, iz_le, iz_eq, iz_div, iz_ite, iz_c, md10, md100, izcb_0, izcb_1, isOut_0, isNoCell_0, isGr_0, within_e, isCell_e, np_p, VV_r, VV_n, V_20, W_20, V_21, W_21, V_22, W_22, V_23, W_23, V_24, W_24, V_25, W_25, V_26, W_26, V_27, W_27, V_28, W_28, V_29, W_29, V_30, W_30, V_31, W_31, V_32, W_32, V_33, W_33, V_34, W_34, V_35, W_35, V_36, W_36, V_37, W_37, V_38, W_38, V_39, W_39, h.r20_2, h.r20_3, h.r20_5, h.r20_6, h.r20_8, h.r20_9, h.r20_10, h.r20_11, h.r20_12, h.r20_13, h.r20_14, h.r20_16, h.r20_18, h.r20_19, h.r20_20, h.r20_21, h.r20_22, h.r20_23, h.r20_25, rf_20 h, ra_21 h, ra_22 h, ra_23 h, ra_24 h, ra_25 h, ra_26 h, ra_27 h, ra_28 h, ra_29 h, ra_30 h, ra_31 h, ra_32 h, ra_33 h, ra_34 h, ra_35 h, ra_36 h, ra_37 h, ra_38 h, ra_39 h, up_e, e7]
  obtain ⟨w, hw, rfl⟩ := kb
  have key := loopM (r := r) (n := n) (L := fun n' i u => l_Mo_crash_82 20 (bts (tTg b nm) nm.toNat) n' (iz i) (VV u r n)) (kx := kt b nm (v 20 28 0)) (c := v) (x := x) (b := b) (B' := tB3 b) (P' := tP3 b) (S' := tR5 b nm) (Q' := tQ4 b nm) (Z' := tZ4 b nm) hb.2.1 hI.own hv (kt_0 b _ hb.2.1.1).symm ?_ ?_
  · obtain ⟨u, k1, k2, k3⟩ := key
    refine ⟨u, ?_, k2, k3⟩
    unfold f_Mo_crash
    simp (disch := omega) only [lt__e, bnd_e, bnd2_e, bnd3_e, el0_l, el0_r, el1_l, el1_r, el2_l, el2_r, ↓reduceIte, not_true_eq_false, not_false_eq_true, reduceCtorEq, and_true, true_and, and_false, false_and, or_true, true_or, or_false, false_or, and_self, or_self, ite_true, ite_false, Int.cast_ofNat_Int, Nat.reduceEqDiff, Nat.reduceLT, Int.reduceAdd, Int.reduceSub, Int.reduceMul, Int.reduceNeg, Int.reduceLT, Int.reduceLE, Int.reduceEq, ilt_t, ilt_f, ile_t, ile_f, ieq_t, ieq_f, z_0, z_1, z_2, z_3, z_4, z_5, z_6, z_7, z_8, z_9, z_10, z_12, z_20, z_40, z_80, z_81, z_99, z_100, z_200, z_400, z_3240, z_20000, z_100000, iz_add, iz_sub, iz_mul, iz_neg, iz_nat, iz_lt, iz_le, iz_eq, iz_div, iz_ite, iz_c, md10, md100, izcb_0, izcb_1, isOut_0, isNoCell_0, isGr_0, within_e, isCell_e, np_p, hw, k1]
  · intro n' i u i1 i2 hu hk
    obtain ⟨e1, e7, e17, e10⟩ := hu.f hM
    have y := hu.2.2.2.1 i i1 i2
    simp only [mx_i] at y
    obtain ⟨y2, y3, y4, y5⟩ := y
    obtain ⟨g0, g1, g2, f0, f1, f2, f3, gP, gB, gN⟩ := tF hI i1 i2
    have zz : ∀ p, 0 ≤ p → p < np → b 12 2 p = i → u 37 p 0 = tZ3 b p := fun p p1 p2 pe => by
      have := hu.2.2.2.2.2.1 p p1 p2
      unfold mo at this
      rw [if_neg (by omega)] at this; exact this
    have tst := bts_tst (P := tTg b nm) (k := nm.toNat) (m := i) (by omega) i1 (by omega)
    have ks := kt_s b (v 20 28 0) i1 i2
    by_cases c : tTg b nm i
    · obtain ⟨e4, e2, e3⟩ := tS4_f hI i1 i2 c
      have tst' : (((bts (tTg b nm) nm.toNat >>> (iz i &&& (31 : Int32))) &&& iz 1) = iz 1) = True := by rw [tst]; exact eq_true ⟨by omega, c⟩
      rw [cb_t c] at ks
      have eQ : tQ4 b nm i = -1 := if_pos e4
      have eR : tR5 b nm i = 3 := if_pos e4
      have eQ3 : tQ3 b i = b 11 5 i := by unfold tQ3; rw [if_neg (by omega)]
      rw [eQ3] at y5
      rcases e2 with e2 | e2
      · obtain ⟨h1, h2, h3, h4, h5, h6, h7, h8⟩ := f1 e2
        have z33 : u 33 (b 11 5 i) 0 = i := by rw [hu.1 33 (by omega) (by omega) (by omega) (by omega) (by omega) (by omega), (hMM.2.1 (b 11 5 i) h2 h3).2.1]; exact h4
        have kf := m_fall1 (u := u) h i1 (by omega) y5 h2 (by omega) z33
        have k28 : kt b nm (v 20 28 0) i = u 20 28 0 := hk.symm
        refine ⟨up (up (up (up u 29 i 0 3) 37 (b 11 5 i) 0 4) 30 i 0 (-1)) 20 28 0 (kt b nm (v 20 28 0) i + 1), RS_step i1 i2 hu (fun t t1 t2 t3 t4 t5 t6 => by rw [up_t t1, up_t t5, up_t t6, up_t t4]) (fun j j1 => by rw [up_s, if_neg (by omega), up_t (by omega), up_t (by omega), up_t (by omega)]) (fun m hm => ⟨by rw [up_t (by omega), up_t (by omega), up_t (by omega), up_t (by omega)], by rw [up_t (by omega), up_t (by omega), up_t (by omega), up_t (by omega)], by rw [up_t (by omega), up_t (by omega), up_t (by omega), up_s, if_neg (by omega)], by rw [up_t (by omega), up_s, if_neg (by omega), up_t (by omega), up_t (by omega)]⟩) ⟨by rw [up_t (by omega), up_t (by omega), up_t (by omega), up_t (by omega)]; exact y2, by rw [up_t (by omega), up_t (by omega), up_t (by omega), up_t (by omega)]; exact y3, by rw [up_t (by omega), up_t (by omega), up_t (by omega), up_s, if_pos ⟨rfl, rfl⟩, eR], by rw [up_t (by omega), up_s, if_pos ⟨rfl, rfl⟩, eQ]⟩ (fun p pe => ?_) (fun p p1 p2 pe => ?_), by rw [up_s, if_pos ⟨rfl, rfl⟩, ks], ?_⟩
        · rw [up_t (by omega), up_t (by omega), up_s, if_neg (fun z => pe (by rw [z.1]; exact h2) (by rw [z.1]; exact h3) (by rw [z.1]; exact h4)), up_t (by omega)]
        · rw [up_t (by omega), up_t (by omega), up_s]
          unfold tZ4
          by_cases e5 : p = b 11 5 i
          · rw [if_pos ⟨e5, rfl⟩, pe, if_pos ⟨e2, e5.symm, e4⟩]
          · rw [if_neg (fun z => e5 z.1), pe, if_neg (fun z => e5 z.2.1.symm), up_t (by omega), zz p p1 p2 pe]
            unfold tZ3
            rw [pe, if_neg (fun z => e5 z.2.1.symm)]
        · rw [k28]
          dsimp only [l_Mo_crash_82, b_Mo_crash_82]
          simp (disch := omega) only [lt__e, bnd_e, bnd2_e, bnd3_e, el0_l, el0_r, el1_l, el1_r, el2_l, el2_r, ↓reduceIte, not_true_eq_false, not_false_eq_true, reduceCtorEq, and_true, true_and, and_false, false_and, or_true, true_or, or_false, false_or, and_self, or_self, ite_true, ite_false, Int.cast_ofNat_Int, Nat.reduceEqDiff, Nat.reduceLT, Int.reduceAdd, Int.reduceSub, Int.reduceMul, Int.reduceNeg, Int.reduceLT, Int.reduceLE, Int.reduceEq, ilt_t, ilt_f, ile_t, ile_f, ieq_t, ieq_f, z_0, z_1, z_2, z_3, z_4, z_5, z_6, z_7, z_8, z_9, z_10, z_12, z_20, z_40, z_80, z_81, z_99, z_100, z_200, z_400, z_3240, z_20000, z_100000, iz_add, iz_sub, iz_mul, iz_neg, iz_nat, iz_lt, iz_le, iz_eq, iz_div, iz_ite, iz_c, md10, md100, izcb_0, izcb_1, isOut_0, isNoCell_0, isGr_0, within_e, isCell_e, np_p, VV_r, VV_n, V_20, W_20, V_21, W_21, V_22, W_22, V_23, W_23, V_24, W_24, V_25, W_25, V_26, W_26, V_27, W_27, V_28, W_28, V_29, W_29, V_30, W_30, V_31, W_31, V_32, W_32, V_33, W_33, V_34, W_34, V_35, W_35, V_36, W_36, V_37, W_37, V_38, W_38, V_39, W_39, h.r20_2, h.r20_3, h.r20_5, h.r20_6, h.r20_8, h.r20_9, h.r20_10, h.r20_11, h.r20_12, h.r20_13, h.r20_14, h.r20_16, h.r20_18, h.r20_19, h.r20_20, h.r20_21, h.r20_22, h.r20_23, h.r20_25, rf_20 h, ra_21 h, ra_22 h, ra_23 h, ra_24 h, ra_25 h, ra_26 h, ra_27 h, ra_28 h, ra_29 h, ra_30 h, ra_31 h, ra_32 h, ra_33 h, ra_34 h, ra_35 h, ra_36 h, ra_37 h, ra_38 h, ra_39 h, up_e, e7, tst', kf]
      · obtain ⟨h1, h2, h3, h4, h5⟩ := f2 e2
        have kf := m_fall2 (u := u) h i1 (by omega) (by omega)
        have k28 : kt b nm (v 20 28 0) i = u 20 28 0 := hk.symm
        refine ⟨up (up u 29 i 0 3) 20 28 0 (kt b nm (v 20 28 0) i + 1), RS_step i1 i2 hu (fun t t1 t2 t3 t4 t5 t6 => by rw [up_t t1, up_t t4]) (fun j j1 => by rw [up_s, if_neg (by omega), up_t (by omega)]) (fun m hm => ⟨by rw [up_t (by omega), up_t (by omega)], by rw [up_t (by omega), up_t (by omega)], by rw [up_t (by omega), up_s, if_neg (by omega)], by rw [up_t (by omega), up_t (by omega)]⟩) ⟨by rw [up_t (by omega), up_t (by omega)]; exact y2, by rw [up_t (by omega), up_t (by omega)]; exact y3, by rw [up_t (by omega), up_s, if_pos ⟨rfl, rfl⟩, eR], by rw [up_t (by omega), up_t (by omega), eQ, y5]; exact h3⟩ (fun p pe => by rw [up_t (by omega), up_t (by omega)]) (fun p p1 p2 pe => ?_), by rw [up_s, if_pos ⟨rfl, rfl⟩, ks], ?_⟩
        · rw [up_t (by omega), up_t (by omega), zz p p1 p2 pe]
          unfold tZ4 tZ3
          rw [pe, if_neg (by omega), if_neg (by omega)]
        · rw [k28]
          dsimp only [l_Mo_crash_82, b_Mo_crash_82]
          simp (disch := omega) only [lt__e, bnd_e, bnd2_e, bnd3_e, el0_l, el0_r, el1_l, el1_r, el2_l, el2_r, ↓reduceIte, not_true_eq_false, not_false_eq_true, reduceCtorEq, and_true, true_and, and_false, false_and, or_true, true_or, or_false, false_or, and_self, or_self, ite_true, ite_false, Int.cast_ofNat_Int, Nat.reduceEqDiff, Nat.reduceLT, Int.reduceAdd, Int.reduceSub, Int.reduceMul, Int.reduceNeg, Int.reduceLT, Int.reduceLE, Int.reduceEq, ilt_t, ilt_f, ile_t, ile_f, ieq_t, ieq_f, z_0, z_1, z_2, z_3, z_4, z_5, z_6, z_7, z_8, z_9, z_10, z_12, z_20, z_40, z_80, z_81, z_99, z_100, z_200, z_400, z_3240, z_20000, z_100000, iz_add, iz_sub, iz_mul, iz_neg, iz_nat, iz_lt, iz_le, iz_eq, iz_div, iz_ite, iz_c, md10, md100, izcb_0, izcb_1, isOut_0, isNoCell_0, isGr_0, within_e, isCell_e, np_p, VV_r, VV_n, V_20, W_20, V_21, W_21, V_22, W_22, V_23, W_23, V_24, W_24, V_25, W_25, V_26, W_26, V_27, W_27, V_28, W_28, V_29, W_29, V_30, W_30, V_31, W_31, V_32, W_32, V_33, W_33, V_34, W_34, V_35, W_35, V_36, W_36, V_37, W_37, V_38, W_38, V_39, W_39, h.r20_2, h.r20_3, h.r20_5, h.r20_6, h.r20_8, h.r20_9, h.r20_10, h.r20_11, h.r20_12, h.r20_13, h.r20_14, h.r20_16, h.r20_18, h.r20_19, h.r20_20, h.r20_21, h.r20_22, h.r20_23, h.r20_25, rf_20 h, ra_21 h, ra_22 h, ra_23 h, ra_24 h, ra_25 h, ra_26 h, ra_27 h, ra_28 h, ra_29 h, ra_30 h, ra_31 h, ra_32 h, ra_33 h, ra_34 h, ra_35 h, ra_36 h, ra_37 h, ra_38 h, ra_39 h, up_e, e7, tst', kf]
    · have e4 : tS4 b nm i = tS3 b i := by unfold tS4; exact if_neg c
      have tst' : (((bts (tTg b nm) nm.toNat >>> (iz i &&& (31 : Int32))) &&& iz 1) = iz 1) = False := by rw [tst]; exact eq_false (fun q => c q.2)
      rw [cb_f c, Int.add_zero] at ks
      refine ⟨u, RS_step i1 i2 hu (fun _ _ _ _ _ _ _ => rfl) (fun _ _ => rfl) (fun _ _ => ⟨rfl, rfl, rfl, rfl⟩) ⟨y2, y3, by unfold tR5; rw [e4]; exact y4, by unfold tQ4; rw [e4]; exact y5⟩ (fun _ _ => rfl) (fun p p1 p2 pe => by
        rw [zz p p1 p2 pe]
        unfold tZ4 tZ3
        rw [pe, e4]), by rw [ks]; exact hk, ?_⟩
      dsimp only [l_Mo_crash_82, b_Mo_crash_82]
      simp (disch := omega) only [lt__e, bnd_e, bnd2_e, bnd3_e, el0_l, el0_r, el1_l, el1_r, el2_l, el2_r, ↓reduceIte, not_true_eq_false, not_false_eq_true, reduceCtorEq, and_true, true_and, and_false, false_and, or_true, true_or, or_false, false_or, and_self, or_self, ite_true, ite_false, Int.cast_ofNat_Int, Nat.reduceEqDiff, Nat.reduceLT, Int.reduceAdd, Int.reduceSub, Int.reduceMul, Int.reduceNeg, Int.reduceLT, Int.reduceLE, Int.reduceEq, ilt_t, ilt_f, ile_t, ile_f, ieq_t, ieq_f, z_0, z_1, z_2, z_3, z_4, z_5, z_6, z_7, z_8, z_9, z_10, z_12, z_20, z_40, z_80, z_81, z_99, z_100, z_200, z_400, z_3240, z_20000, z_100000, iz_add, iz_sub, iz_mul, iz_neg, iz_nat, iz_lt, iz_le, iz_eq, iz_div, iz_ite, iz_c, md10, md100, izcb_0, izcb_1, isOut_0, isNoCell_0, isGr_0, within_e, isCell_e, np_p, VV_r, VV_n, V_20, W_20, V_21, W_21, V_22, W_22, V_23, W_23, V_24, W_24, V_25, W_25, V_26, W_26, V_27, W_27, V_28, W_28, V_29, W_29, V_30, W_30, V_31, W_31, V_32, W_32, V_33, W_33, V_34, W_34, V_35, W_35, V_36, W_36, V_37, W_37, V_38, W_38, V_39, W_39, h.r20_2, h.r20_3, h.r20_5, h.r20_6, h.r20_8, h.r20_9, h.r20_10, h.r20_11, h.r20_12, h.r20_13, h.r20_14, h.r20_16, h.r20_18, h.r20_19, h.r20_20, h.r20_21, h.r20_22, h.r20_23, h.r20_25, rf_20 h, ra_21 h, ra_22 h, ra_23 h, ra_24 h, ra_25 h, ra_26 h, ra_27 h, ra_28 h, ra_29 h, ra_30 h, ra_31 h, ra_32 h, ra_33 h, ra_34 h, ra_35 h, ra_36 h, ra_37 h, ra_38 h, ra_39 h, up_e, e7, tst']
  · intro n' u hu
    obtain ⟨e1, e7, e17, e10⟩ := hu.f hM
    dsimp only [l_Mo_crash_82, b_Mo_crash_82]
    simp (disch := omega) only [lt__e, bnd_e, bnd2_e, bnd3_e, el0_l, el0_r, el1_l, el1_r, el2_l, el2_r, ↓reduceIte, not_true_eq_false, not_false_eq_true, reduceCtorEq, and_true, true_and, and_false, false_and, or_true, true_or, or_false, false_or, and_self, or_self, ite_true, ite_false, Int.cast_ofNat_Int, Nat.reduceEqDiff, Nat.reduceLT, Int.reduceAdd, Int.reduceSub, Int.reduceMul, Int.reduceNeg, Int.reduceLT, Int.reduceLE, Int.reduceEq, ilt_t, ilt_f, ile_t, ile_f, ieq_t, ieq_f, z_0, z_1, z_2, z_3, z_4, z_5, z_6, z_7, z_8, z_9, z_10, z_12, z_20, z_40, z_80, z_81, z_99, z_100, z_200, z_400, z_3240, z_20000, z_100000, iz_add, iz_sub, iz_mul, iz_neg, iz_nat, iz_lt, iz_le, iz_eq, iz_div, iz_ite, iz_c, md10, md100, izcb_0, izcb_1, isOut_0, isNoCell_0, isGr_0, within_e, isCell_e, np_p, VV_r, VV_n, V_20, W_20, V_21, W_21, V_22, W_22, V_23, W_23, V_24, W_24, V_25, W_25, V_26, W_26, V_27, W_27, V_28, W_28, V_29, W_29, V_30, W_30, V_31, W_31, V_32, W_32, V_33, W_33, V_34, W_34, V_35, W_35, V_36, W_36, V_37, W_37, V_38, W_38, V_39, W_39, h.r20_2, h.r20_3, h.r20_5, h.r20_6, h.r20_8, h.r20_9, h.r20_10, h.r20_11, h.r20_12, h.r20_13, h.r20_14, h.r20_16, h.r20_18, h.r20_19, h.r20_20, h.r20_21, h.r20_22, h.r20_23, h.r20_25, rf_20 h, ra_21 h, ra_22 h, ra_23 h, ra_24 h, ra_25 h, ra_26 h, ra_27 h, ra_28 h, ra_29 h, ra_30 h, ra_31 h, ra_32 h, ra_33 h, ra_34 h, ra_35 h, ra_36 h, ra_37 h, ra_38 h, ra_39 h, up_e, e7]
set_option maxHeartbeats 1000000 in
theorem tR5_b (hI : CI b nr nm np) {i : Int} (i1 : 0 ≤ i) (i2 : i < nm) : (0 ≤ tR5 b nm i ∧ tR5 b nm i ≤ 3) ∧ (tR5 b nm i = 1 ↔ tS4 b nm i = 1) ∧ (tS4 b nm i ≠ 1 → tS5 b nm i = tR5 b nm i) := by
  obtain ⟨r0, r1, r2, r3⟩ := tR3_b hI i1 i2
  obtain ⟨b0, b1, b2, b3⟩ := tS4_b hI i1 i2
  have e : tS4 b nm i ≠ 3 → tS4 b nm i = tS2 b i := fun z => by
    rcases (by omega : tS4 b nm i = 0 ∨ tS4 b nm i = 1 ∨ tS4 b nm i = 2) with q | q | q
    · rw [q]; exact (b3 q).symm
    · rw [q]; exact (b1 q).symm
    · rw [q]; exact (b2 q).symm
  refine ⟨by unfold tR5; omega, ?_, fun c1 => ?_⟩
  · unfold tR5
    by_cases c : tS4 b nm i = 3
    · rw [if_pos c]; omega
    · have := e c
      rw [if_neg c]; omega
  · unfold tR5 tS5
    rw [if_neg (by omega)]
    by_cases c : tS4 b nm i = 3
    · rw [if_pos c, if_neg (by omega)]; exact c
    · have e2 := e c
      rw [if_neg c]
      unfold tR3
      by_cases c2 : tS2 b i = 2
      · rw [if_pos c2]
        by_cases c3 : tP3 b i < 100
        · rw [if_pos ⟨by omega, c3⟩, if_pos c3]
        · rw [if_neg (by omega), if_neg c3]; omega
      · rw [if_neg c2, if_neg (by omega)]; exact e2
set_option maxHeartbeats 1000000 in
theorem m_land (h : Sh r n nr nm np) (hI : CI b nr nm np) (hM : MR x b nr nm np) (hv : RS v x b nm np (tB3 b) (tP3 b) (tR5 b nm) (tQ4 b nm) (tZ4 b nm)) :
    ∃ u, l_Mo_step_318 20 4096 (iz 0) (VV v r n) = some (VV u r n) ∧ RS u x b nm np (tB3 b) (tP3 b) (tS5 b nm) (tQ5 b nm) (tZ5 b nm) ∧ u 20 28 0 = v 20 28 0 := by
  have hb := h.b
  have hMM := hM.2.2.1
  have hnow := hI.1.2.1
  refine loopM (r := r) (n := n) (L := fun n' i u => l_Mo_step_318 20 n' (iz i) (VV u r n)) (kx := fun _ => v 20 28 0) (c := v) (x := x) (b := b) (B' := tB3 b) (P' := tP3 b) (S' := tS5 b nm) (Q' := tQ5 b nm) (Z' := tZ5 b nm) hb.2.1 hI.own hv rfl ?_ ?_
  · intro n' i u i1 i2 hu hk
    obtain ⟨e1, e7, e17, e10⟩ := hu.f hM
    have y := hu.2.2.2.1 i i1 i2
    simp only [mx_i] at y
    obtain ⟨y2, y3, y4, y5⟩ := y
    obtain ⟨g0, g1, g2, f0, f1, f2, f3, gP, gB, gN⟩ := tF hI i1 i2
    obtain ⟨b0, b1, b2, b3⟩ := tS4_b hI i1 i2
    obtain ⟨r0, r1, r2⟩ := tR5_b hI i1 i2
    have zz : ∀ p, 0 ≤ p → p < np → b 12 2 p = i → u 37 p 0 = tZ4 b nm p := fun p p1 p2 pe => by
      have := hu.2.2.2.2.2.1 p p1 p2
      unfold mo at this
      rw [if_neg (by omega)] at this; exact this
    by_cases c1 : tS4 b nm i = 1
    · have c1r := r1.2 c1
      have e2 := b1 c1
      obtain ⟨h1, h2, h3, h4, h5, h6, h7, h8⟩ := f1 e2
      have h5b := h5.1
      have h5c := h5.2.1
      have y5' : u 30 i 0 = b 11 5 i := by rw [y5]; unfold tQ4; rw [if_neg (by omega)]
      obtain ⟨⟨p1, p2, p2'⟩, p3, p4, p5⟩ := hMM.2.1 (b 11 5 i) h2 h3
      have z34 : u 34 (b 11 5 i) 0 = b 12 3 (b 11 5 i) := by rw [hu.1 34 (by omega) (by omega) (by omega) (by omega) (by omega) (by omega)]; exact p1
      have z35 : u 35 (b 11 5 i) 0 = b 12 4 (b 11 5 i) := by rw [hu.1 35 (by omega) (by omega) (by omega) (by omega) (by omega) (by omega)]; exact p2
      have z33 : u 33 (b 11 5 i) 0 = i := by rw [hu.1 33 (by omega) (by omega) (by omega) (by omega) (by omega) (by omega), p3]; exact h4
      by_cases c2 : b 12 3 (b 11 5 i) + b 12 4 (b 11 5 i) ≤ b 0 10 0 + 1
      · have e5 : tS5 b nm i = 0 := if_pos ⟨c1, c2⟩
        have eQ : tQ5 b nm i = -1 := if_pos (Or.inr ⟨c1, c2⟩)
        have x33 : up u 29 i 0 0 33 (b 11 5 i) 0 = i := by rw [up_t (by omega)]; exact z33
        have kf := m_takeBack (a := up u 29 i 0 0) h (p := b 11 5 i) (v := 2) h2 (by omega) (by omega) (by omega)
        rw [x33] at kf
        refine ⟨up (up (up u 29 i 0 0) 37 (b 11 5 i) 0 2) 30 i 0 (-1), RS_step i1 i2 hu (fun t t1 t2 t3 t4 t5 t6 => by rw [up_t t5, up_t t6, up_t t4]) (fun j _ => by rw [up_t (by omega), up_t (by omega), up_t (by omega)]) (fun m hm => ⟨by rw [up_t (by omega), up_t (by omega), up_t (by omega)], by rw [up_t (by omega), up_t (by omega), up_t (by omega)], by rw [up_t (by omega), up_t (by omega), up_s, if_neg (by omega)], by rw [up_s, if_neg (by omega), up_t (by omega), up_t (by omega)]⟩) ⟨by rw [up_t (by omega), up_t (by omega), up_t (by omega)]; exact y2, by rw [up_t (by omega), up_t (by omega), up_t (by omega)]; exact y3, by rw [up_t (by omega), up_t (by omega), up_s, if_pos ⟨rfl, rfl⟩, e5], by rw [up_s, if_pos ⟨rfl, rfl⟩, eQ]⟩ (fun p pe => ?_) (fun p p1 p2 pe => ?_), by rw [up_t (by omega), up_t (by omega), up_t (by omega)]; exact hk, ?_⟩
        · rw [up_t (by omega), up_s, if_neg (fun z => pe (by rw [z.1]; exact h2) (by rw [z.1]; exact h3) (by rw [z.1]; exact h4)), up_t (by omega)]
        · rw [up_t (by omega), up_s]
          unfold tZ5
          by_cases e6 : p = b 11 5 i
          · rw [if_pos ⟨e6, rfl⟩, pe, if_pos ⟨e2, e6.symm⟩, if_neg (by omega), if_pos (by rw [e6]; exact c2)]
          · rw [if_neg (fun z => e6 z.1), pe, if_neg (fun z => e6 z.2.symm), up_t (by omega), zz p p1 p2 pe]
            unfold tZ4
            rw [pe, if_neg (fun z => e6 z.2.1.symm)]
        · dsimp only [l_Mo_step_318, b_Mo_step_318]
          simp (disch := omega) only [lt__e, bnd_e, bnd2_e, bnd3_e, el0_l, el0_r, el1_l, el1_r, el2_l, el2_r, ↓reduceIte, not_true_eq_false, not_false_eq_true, reduceCtorEq, and_true, true_and, and_false, false_and, or_true, true_or, or_false, false_or, and_self, or_self, ite_true, ite_false, Int.cast_ofNat_Int, Nat.reduceEqDiff, Nat.reduceLT, Int.reduceAdd, Int.reduceSub, Int.reduceMul, Int.reduceNeg, Int.reduceLT, Int.reduceLE, Int.reduceEq, ilt_t, ilt_f, ile_t, ile_f, ieq_t, ieq_f, z_0, z_1, z_2, z_3, z_4, z_5, z_6, z_7, z_8, z_9, z_10, z_12, z_20, z_40, z_80, z_81, z_99, z_100, z_200, z_400, z_3240, z_20000, z_100000, iz_add, iz_sub, iz_mul, iz_neg, iz_nat, iz_lt, iz_le, iz_eq, iz_div, iz_ite, iz_c, md10, md100, izcb_0, izcb_1, isOut_0, isNoCell_0, isGr_0, within_e, isCell_e, np_p, VV_r, VV_n, V_20, W_20, V_21, W_21, V_22, W_22, V_23, W_23, V_24, W_24, V_25, W_25, V_26, W_26, V_27, W_27, V_28, W_28, V_29, W_29, V_30, W_30, V_31, W_31, V_32, W_32, V_33, W_33, V_34, W_34, V_35, W_35, V_36, W_36, V_37, W_37, V_38, W_38, V_39, W_39, h.r20_2, h.r20_3, h.r20_5, h.r20_6, h.r20_8, h.r20_9, h.r20_10, h.r20_11, h.r20_12, h.r20_13, h.r20_14, h.r20_16, h.r20_18, h.r20_19, h.r20_20, h.r20_21, h.r20_22, h.r20_23, h.r20_25, rf_20 h, ra_21 h, ra_22 h, ra_23 h, ra_24 h, ra_25 h, ra_26 h, ra_27 h, ra_28 h, ra_29 h, ra_30 h, ra_31 h, ra_32 h, ra_33 h, ra_34 h, ra_35 h, ra_36 h, ra_37 h, ra_38 h, ra_39 h, up_e, e7, y5', y4, c1r, z34, z35, e10, kf]
      · have e5 : tS5 b nm i = 1 := by unfold tS5; rw [if_neg (fun z => c2 z.2), if_neg (by omega)]; exact c1
        have eQ : tQ5 b nm i = b 11 5 i := by unfold tQ5; rw [if_neg (by omega)]
        refine ⟨u, RS_step i1 i2 hu (fun _ _ _ _ _ _ _ => rfl) (fun _ _ => rfl) (fun _ _ => ⟨rfl, rfl, rfl, rfl⟩) ⟨y2, y3, by rw [e5, y4]; exact c1r, by rw [eQ]; exact y5'⟩ (fun _ _ => rfl) (fun p p1 p2 pe => by
          rw [zz p p1 p2 pe]
          unfold tZ5 tZ4
          rw [pe, if_neg (by omega)]
          by_cases e6 : b 11 5 i = p
          · rw [if_pos ⟨e2, e6⟩, if_neg (by omega), if_neg (by rw [← e6]; exact c2)]
          · rw [if_neg (fun z => e6 z.2)]), hk, ?_⟩
        dsimp only [l_Mo_step_318, b_Mo_step_318]
        simp (disch := omega) only [lt__e, bnd_e, bnd2_e, bnd3_e, el0_l, el0_r, el1_l, el1_r, el2_l, el2_r, ↓reduceIte, not_true_eq_false, not_false_eq_true, reduceCtorEq, and_true, true_and, and_false, false_and, or_true, true_or, or_false, false_or, and_self, or_self, ite_true, ite_false, Int.cast_ofNat_Int, Nat.reduceEqDiff, Nat.reduceLT, Int.reduceAdd, Int.reduceSub, Int.reduceMul, Int.reduceNeg, Int.reduceLT, Int.reduceLE, Int.reduceEq, ilt_t, ilt_f, ile_t, ile_f, ieq_t, ieq_f, z_0, z_1, z_2, z_3, z_4, z_5, z_6, z_7, z_8, z_9, z_10, z_12, z_20, z_40, z_80, z_81, z_99, z_100, z_200, z_400, z_3240, z_20000, z_100000, iz_add, iz_sub, iz_mul, iz_neg, iz_nat, iz_lt, iz_le, iz_eq, iz_div, iz_ite, iz_c, md10, md100, izcb_0, izcb_1, isOut_0, isNoCell_0, isGr_0, within_e, isCell_e, np_p, VV_r, VV_n, V_20, W_20, V_21, W_21, V_22, W_22, V_23, W_23, V_24, W_24, V_25, W_25, V_26, W_26, V_27, W_27, V_28, W_28, V_29, W_29, V_30, W_30, V_31, W_31, V_32, W_32, V_33, W_33, V_34, W_34, V_35, W_35, V_36, W_36, V_37, W_37, V_38, W_38, V_39, W_39, h.r20_2, h.r20_3, h.r20_5, h.r20_6, h.r20_8, h.r20_9, h.r20_10, h.r20_11, h.r20_12, h.r20_13, h.r20_14, h.r20_16, h.r20_18, h.r20_19, h.r20_20, h.r20_21, h.r20_22, h.r20_23, h.r20_25, rf_20 h, ra_21 h, ra_22 h, ra_23 h, ra_24 h, ra_25 h, ra_26 h, ra_27 h, ra_28 h, ra_29 h, ra_30 h, ra_31 h, ra_32 h, ra_33 h, ra_34 h, ra_35 h, ra_36 h, ra_37 h, ra_38 h, ra_39 h, up_e, e7, y5', y4, c1r, z34, z35, e10]
    · have c1r : tR5 b nm i ≠ 1 := fun z => c1 (r1.1 z)
      have ez : ∀ p, b 12 2 p = i → tZ5 b nm p = tZ4 b nm p := fun p pe => by
        unfold tZ5 tZ4
        rw [pe]
        by_cases e6 : tS2 b i = 1 ∧ b 11 5 i = p
        · have e4 : tS4 b nm i = 3 := by
            rcases tS4_c b nm i with ⟨_, q⟩ | ⟨_, q⟩
            · exact q
            · have q2 := q
              unfold tS3 at q
              by_cases q3 : (tS2 b i = 1 ∨ tS2 b i = 2) ∧ tB3 b i < 0
              · rw [if_pos q3] at q; exact q
              · rw [if_neg q3] at q; omega
          rw [if_pos e6, if_pos e4, if_pos ⟨e6.1, e6.2, e4⟩]
        · rw [if_neg e6, if_neg (fun z => e6 ⟨z.1, z.2.1⟩)]
      have eQ : tQ5 b nm i = tQ4 b nm i := by
        unfold tQ5 tQ4
        by_cases e6 : tS4 b nm i = 3
        · rw [if_pos (Or.inl e6), if_pos e6]
        · rw [if_neg (by omega), if_neg e6]
      refine ⟨u, RS_step i1 i2 hu (fun _ _ _ _ _ _ _ => rfl) (fun _ _ => rfl) (fun _ _ => ⟨rfl, rfl, rfl, rfl⟩) ⟨y2, y3, by rw [r2 c1]; exact y4, by rw [eQ]; exact y5⟩ (fun _ _ => rfl) (fun p p1 p2 pe => by rw [ez p pe]; exact zz p p1 p2 pe), hk, ?_⟩
      dsimp only [l_Mo_step_318, b_Mo_step_318]
      simp (disch := omega) only [lt__e, bnd_e, bnd2_e, bnd3_e, el0_l, el0_r, el1_l, el1_r, el2_l, el2_r, ↓reduceIte, not_true_eq_false, not_false_eq_true, reduceCtorEq, and_true, true_and, and_false, false_and, or_true, true_or, or_false, false_or, and_self, or_self, ite_true, ite_false, Int.cast_ofNat_Int, Nat.reduceEqDiff, Nat.reduceLT, Int.reduceAdd, Int.reduceSub, Int.reduceMul, Int.reduceNeg, Int.reduceLT, Int.reduceLE, Int.reduceEq, ilt_t, ilt_f, ile_t, ile_f, ieq_t, ieq_f, z_0, z_1, z_2, z_3, z_4, z_5, z_6, z_7, z_8, z_9, z_10, z_12, z_20, z_40, z_80, z_81, z_99, z_100, z_200, z_400, z_3240, z_20000, z_100000, iz_add, iz_sub, iz_mul, iz_neg, iz_nat, iz_lt, iz_le, iz_eq, iz_div, iz_ite, iz_c, md10, md100, izcb_0, izcb_1, isOut_0, isNoCell_0, isGr_0, within_e, isCell_e, np_p, VV_r, VV_n, V_20, W_20, V_21, W_21, V_22, W_22, V_23, W_23, V_24, W_24, V_25, W_25, V_26, W_26, V_27, W_27, V_28, W_28, V_29, W_29, V_30, W_30, V_31, W_31, V_32, W_32, V_33, W_33, V_34, W_34, V_35, W_35, V_36, W_36, V_37, W_37, V_38, W_38, V_39, W_39, h.r20_2, h.r20_3, h.r20_5, h.r20_6, h.r20_8, h.r20_9, h.r20_10, h.r20_11, h.r20_12, h.r20_13, h.r20_14, h.r20_16, h.r20_18, h.r20_19, h.r20_20, h.r20_21, h.r20_22, h.r20_23, h.r20_25, rf_20 h, ra_21 h, ra_22 h, ra_23 h, ra_24 h, ra_25 h, ra_26 h, ra_27 h, ra_28 h, ra_29 h, ra_30 h, ra_31 h, ra_32 h, ra_33 h, ra_34 h, ra_35 h, ra_36 h, ra_37 h, ra_38 h, ra_39 h, up_e, e7, y4, c1r]
  · intro n' u hu
    obtain ⟨e1, e7, e17, e10⟩ := hu.f hM
    dsimp only [l_Mo_step_318, b_Mo_step_318]
    simp (disch := omega) only [lt__e, bnd_e, bnd2_e, bnd3_e, el0_l, el0_r, el1_l, el1_r, el2_l, el2_r, ↓reduceIte, not_true_eq_false, not_false_eq_true, reduceCtorEq, and_true, true_and, and_false, false_and, or_true, true_or, or_false, false_or, and_self, or_self, ite_true, ite_false, Int.cast_ofNat_Int, Nat.reduceEqDiff, Nat.reduceLT, Int.reduceAdd, Int.reduceSub, Int.reduceMul, Int.reduceNeg, Int.reduceLT, Int.reduceLE, Int.reduceEq, ilt_t, ilt_f, ile_t, ile_f, ieq_t, ieq_f, z_0, z_1, z_2, z_3, z_4, z_5, z_6, z_7, z_8, z_9, z_10, z_12, z_20, z_40, z_80, z_81, z_99, z_100, z_200, z_400, z_3240, z_20000, z_100000, iz_add, iz_sub, iz_mul, iz_neg, iz_nat, iz_lt, iz_le, iz_eq, iz_div, iz_ite, iz_c, md10, md100, izcb_0, izcb_1, isOut_0, isNoCell_0, isGr_0, within_e, isCell_e, np_p, VV_r, VV_n, V_20, W_20, V_21, W_21, V_22, W_22, V_23, W_23, V_24, W_24, V_25, W_25, V_26, W_26, V_27, W_27, V_28, W_28, V_29, W_29, V_30, W_30, V_31, W_31, V_32, W_32, V_33, W_33, V_34, W_34, V_35, W_35, V_36, W_36, V_37, W_37, V_38, W_38, V_39, W_39, h.r20_2, h.r20_3, h.r20_5, h.r20_6, h.r20_8, h.r20_9, h.r20_10, h.r20_11, h.r20_12, h.r20_13, h.r20_14, h.r20_16, h.r20_18, h.r20_19, h.r20_20, h.r20_21, h.r20_22, h.r20_23, h.r20_25, rf_20 h, ra_21 h, ra_22 h, ra_23 h, ra_24 h, ra_25 h, ra_26 h, ra_27 h, ra_28 h, ra_29 h, ra_30 h, ra_31 h, ra_32 h, ra_33 h, ra_34 h, ra_35 h, ra_36 h, ra_37 h, ra_38 h, ra_39 h, up_e, e7]
set_option maxHeartbeats 1000000 in
theorem m_step (h : Sh r n nr nm np) (hI : CI b nr nm np) (hM : MR x b nr nm np) :
    ∃ u, f_Mo_step 20 (VV x r n) = some (VV u r n) ∧ RS u x b nm np (tB3 b) (tP3 b) (tS5 b nm) (tQ5 b nm) (tZ5 b nm) ∧ u 20 28 0 = kt b nm (x 20 28 0) nm := by
  have s1 := hM.2.2.2.1
  obtain ⟨u1, k1, k2, k3⟩ := m_charge h hI hM
  obtain ⟨u2, l1, l2, l3⟩ := m_begin h hI hM k2
  obtain ⟨u3, m1, m2, m3⟩ := m_fly h hI hM l2
  obtain ⟨u4, n1, n2, n3⟩ := m_lost h hI hM m2
  obtain ⟨u5, o1, o2, o3⟩ := m_falls h hI hM n2
  obtain ⟨u6, p1, p2, p3⟩ := m_crash h hI hM o2
  obtain ⟨u7, q1, q2, q3⟩ := m_land h hI hM p2
  refine ⟨u7, ?_, q2, by rw [q3, p3, o3, n3, m3, l3, k3]⟩
  unfold f_Mo_step
  simp (disch := omega) only [lt__e, bnd_e, bnd2_e, bnd3_e, el0_l, el0_r, el1_l, el1_r, el2_l, el2_r, ↓reduceIte, not_true_eq_false, not_false_eq_true, reduceCtorEq, and_true, true_and, and_false, false_and, or_true, true_or, or_false, false_or, and_self, or_self, ite_true, ite_false, Int.cast_ofNat_Int, Nat.reduceEqDiff, Nat.reduceLT, Int.reduceAdd, Int.reduceSub, Int.reduceMul, Int.reduceNeg, Int.reduceLT, Int.reduceLE, Int.reduceEq, ilt_t, ilt_f, ile_t, ile_f, ieq_t, ieq_f, z_0, z_1, z_2, z_3, z_4, z_5, z_6, z_7, z_8, z_9, z_10, z_12, z_20, z_40, z_80, z_81, z_99, z_100, z_200, z_400, z_3240, z_20000, z_100000, iz_add, iz_sub, iz_mul, iz_neg, iz_nat, iz_lt, iz_le, iz_eq, iz_div, iz_ite, iz_c, md10, md100, izcb_0, izcb_1, isOut_0, isNoCell_0, isGr_0, within_e, isCell_e, np_p, VV_r, VV_n, V_20, W_20, V_21, W_21, V_22, W_22, V_23, W_23, V_24, W_24, V_25, W_25, V_26, W_26, V_27, W_27, V_28, W_28, V_29, W_29, V_30, W_30, V_31, W_31, V_32, W_32, V_33, W_33, V_34, W_34, V_35, W_35, V_36, W_36, V_37, W_37, V_38, W_38, V_39, W_39, h.r20_2, h.r20_3, h.r20_5, h.r20_6, h.r20_8, h.r20_9, h.r20_10, h.r20_11, h.r20_12, h.r20_13, h.r20_14, h.r20_16, h.r20_18, h.r20_19, h.r20_20, h.r20_21, h.r20_22, h.r20_23, h.r20_25, rf_20 h, ra_21 h, ra_22 h, ra_23 h, ra_24 h, ra_25 h, ra_26 h, ra_27 h, ra_28 h, ra_29 h, ra_30 h, ra_31 h, ra_32 h, ra_33 h, ra_34 h, ra_35 h, ra_36 h, ra_37 h, ra_38 h, ra_39 h, up_e, s1, k1, l1, m1, n1, o1, p1, q1]
end C19
