/-! close -/
section C7
variable {a A B c' b b' : AT} {r : Nat → Nat → Option Nat} {n : Nat → Nat} {nr nm np : Int}
theorem c_close_2 {c d l f u : Int} (c1 : 0 ≤ c ∧ c ≤ 99) (c2 : 0 ≤ d ∧ d ≤ 99) (q21 : -2147483648 ≤ l) (q22 : l ≤ 2147483647) (q31 : -2147483648 ≤ f) (q32 : f ≤ 2147483647) (q41 : -2147483648 ≤ u) (q42 : u ≤ 2147483647) (h : ¬ ((1 ≤ l ∧ l ≤ 3) ∧ (0 ≤ f ∧ f ≤ 100000) ∧ (f ≤ u ∧ u ≤ 100000))) (s : MS) : f_Sk_close 0 (iz c) (iz d) (iz l) (iz f) (iz u) s = some (2, iz 0, s) := by
  unfold f_Sk_close
  by_cases d1 : 1 ≤ l ∧ l ≤ 3
  · by_cases d2 : 0 ≤ f ∧ f ≤ 100000
    · have d3 : ¬ (f ≤ u ∧ u ≤ 100000) := fun q => h ⟨d1, d2, q⟩
      simp (disch := omega) only [lt__e, bnd_e, bnd2_e, bnd3_e, el0_l, el0_r, el1_l, el1_r, el2_l, el2_r, ↓reduceIte, not_true_eq_false, not_false_eq_true, reduceCtorEq, and_true, true_and, and_false, false_and, or_true, true_or, or_false, false_or, and_self, or_self, ite_true, ite_false, Int.cast_ofNat_Int, Nat.reduceEqDiff, Nat.reduceLT, Int.reduceAdd, Int.reduceSub, Int.reduceMul, Int.reduceNeg, Int.reduceLT, Int.reduceLE, Int.reduceEq, ilt_t, ilt_f, ile_t, ile_f, ieq_t, ieq_f, z_0, z_1, z_2, z_3, z_4, z_5, z_6, z_7, z_8, z_9, z_10, z_12, z_20, z_40, z_80, z_81, z_99, z_100, z_200, z_400, z_3240, z_20000, z_100000, iz_add, iz_sub, iz_mul, iz_neg, iz_nat, iz_lt, iz_le, iz_eq, iz_div, iz_ite, iz_c, md10, md100, izcb_0, izcb_1, isOut_0, isNoCell_0, isGr_0, np_p, c1, c2, d1, d2, d3]
    · simp (disch := omega) only [lt__e, bnd_e, bnd2_e, bnd3_e, el0_l, el0_r, el1_l, el1_r, el2_l, el2_r, ↓reduceIte, not_true_eq_false, not_false_eq_true, reduceCtorEq, and_true, true_and, and_false, false_and, or_true, true_or, or_false, false_or, and_self, or_self, ite_true, ite_false, Int.cast_ofNat_Int, Nat.reduceEqDiff, Nat.reduceLT, Int.reduceAdd, Int.reduceSub, Int.reduceMul, Int.reduceNeg, Int.reduceLT, Int.reduceLE, Int.reduceEq, ilt_t, ilt_f, ile_t, ile_f, ieq_t, ieq_f, z_0, z_1, z_2, z_3, z_4, z_5, z_6, z_7, z_8, z_9, z_10, z_12, z_20, z_40, z_80, z_81, z_99, z_100, z_200, z_400, z_3240, z_20000, z_100000, iz_add, iz_sub, iz_mul, iz_neg, iz_nat, iz_lt, iz_le, iz_eq, iz_div, iz_ite, iz_c, md10, md100, izcb_0, izcb_1, isOut_0, isNoCell_0, isGr_0, np_p, c1, c2, d1, d2]
  · simp (disch := omega) only [lt__e, bnd_e, bnd2_e, bnd3_e, el0_l, el0_r, el1_l, el1_r, el2_l, el2_r, ↓reduceIte, not_true_eq_false, not_false_eq_true, reduceCtorEq, and_true, true_and, and_false, false_and, or_true, true_or, or_false, false_or, and_self, or_self, ite_true, ite_false, Int.cast_ofNat_Int, Nat.reduceEqDiff, Nat.reduceLT, Int.reduceAdd, Int.reduceSub, Int.reduceMul, Int.reduceNeg, Int.reduceLT, Int.reduceLE, Int.reduceEq, ilt_t, ilt_f, ile_t, ile_f, ieq_t, ieq_f, z_0, z_1, z_2, z_3, z_4, z_5, z_6, z_7, z_8, z_9, z_10, z_12, z_20, z_40, z_80, z_81, z_99, z_100, z_200, z_400, z_3240, z_20000, z_100000, iz_add, iz_sub, iz_mul, iz_neg, iz_nat, iz_lt, iz_le, iz_eq, iz_div, iz_ite, iz_c, md10, md100, izcb_0, izcb_1, isOut_0, isNoCell_0, isGr_0, np_p, c1, c2, d1]
def rW (c d : Int) : Int := if d % 10 < c % 10 then d % 10 else c % 10
def rE (c d : Int) : Int := if c % 10 < d % 10 then d % 10 else c % 10
def rN (c d : Int) : Int := if d / 10 < c / 10 then d / 10 else c / 10
def rS (c d : Int) : Int := if c / 10 < d / 10 then d / 10 else c / 10
theorem rB {c d : Int} (c1 : 0 ≤ c ∧ c ≤ 99) (c2 : 0 ≤ d ∧ d ≤ 99) : (0 ≤ rW c d ∧ rW c d ≤ 9) ∧ (0 ≤ rE c d ∧ rE c d ≤ 9) ∧ (0 ≤ rN c d ∧ rN c d ≤ 9) ∧ (0 ≤ rS c d ∧ rS c d ≤ 9) := by
  unfold rW rE rN rS; omega
end C7
