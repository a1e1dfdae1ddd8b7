/-! lose, hold -/
section J8
variable {a A B D : AT} {r : Nat → Nat → Option Nat} {n : Nat → Nat} {nr nm np k : Int}
theorem CI_tr (h1 : ∀ t, t < 12 → A t = a t) (q : EqQ A a np) (hI : CI a nr nm np) : CI A nr nm np := by
  obtain ⟨k1, k2, k3, k4, k5, k6, k7⟩ := hI
  have e0 := h1 0 (by omega)
  exact ⟨CN_c (fun j _ => by rw [e0]) (h1 1 (by omega)) k1, CC_c (fun t t1 t2 => h1 t (by omega)) k2, CD_c (by rw [e0]) (h1 9 (by omega)) k3, CRm_c2 (h1 10 (by omega)) k4, CMa_c (h1 11 (by omega)) k5, CP_c q k6, CL_c (by rw [e0]) (h1 11 (by omega)) q k5 k7 k6⟩
theorem Lw_tr (h1 : ∀ t, t ≠ 12 → t ≠ 13 → A t = a t) (q : EqQ A a np) (hL : Lw a nr nm np k) : Lw A nr nm np k :=
  Lw_c (fun j _ => by rw [h1 0 (by omega) (by omega)]) (h1 1 (by omega) (by omega)) (h1 3 (by omega) (by omega)) (h1 11 (by omega) (by omega)) (h1 50 (by omega) (by omega)) (h1 51 (by omega) (by omega)) q (CI_tr (fun t t1 => h1 t (by omega) (by omega)) q hL.1) hL
theorem CI_lose (hI : CI a nr nm np) {m Z : Int} (m1 : 0 ≤ m) (m2 : m < nm) (c2 : a 11 4 m = 1) (c3 : 100 ≤ a 11 3 m) (hn : 0 ≤ Z ∧ Z < 100) : CI (up (up (up (up a 12 6 (a 11 5 m) 4) 11 5 m (-1)) 11 4 m 2) 11 6 m Z) nr nm np := by
  have hI' := hI
  obtain ⟨hN, hC, hD, hR, hMa, hP, hL⟩ := hI
  obtain ⟨w0, w1, w2, w3, w4, w5, w6⟩ := hMa m m1 m2
  obtain ⟨l1, l2, l3, l4, l5, l6⟩ := (hL.1 m m1 m2).2.1 c2
  have F11 : ∀ j i, i ≠ m → up (up (up (up a 12 6 (a 11 5 m) 4) 11 5 m (-1)) 11 4 m 2) 11 6 m Z 11 j i = a 11 j i := fun j i h1 => by simp (disch := omega) only [up_e, lt__e, bnd_e, bnd2_e, bnd3_e, el0_l, el0_r, el1_l, el1_r, el2_l, el2_r, ↓reduceIte, not_true_eq_false, not_false_eq_true, reduceCtorEq, and_true, true_and, and_false, false_and, or_true, true_or, or_false, false_or, and_self, or_self, ite_true, ite_false, Int.cast_ofNat_Int, Nat.reduceEqDiff, Nat.reduceLT, Int.reduceAdd, Int.reduceSub, Int.reduceMul, Int.reduceNeg, Int.reduceLT, Int.reduceLE, Int.reduceEq, ilt_t, ilt_f, ile_t, ile_f, ieq_t, ieq_f]
  have F12 : ∀ j p, ¬ (j = 6 ∧ p = a 11 5 m) → up (up (up (up a 12 6 (a 11 5 m) 4) 11 5 m (-1)) 11 4 m 2) 11 6 m Z 12 j p = a 12 j p := fun j p h1 => by simp (disch := omega) only [up_e, lt__e, bnd_e, bnd2_e, bnd3_e, el0_l, el0_r, el1_l, el1_r, el2_l, el2_r, ↓reduceIte, not_true_eq_false, not_false_eq_true, reduceCtorEq, and_true, true_and, and_false, false_and, or_true, true_or, or_false, false_or, and_self, or_self, ite_true, ite_false, Int.cast_ofNat_Int, Nat.reduceEqDiff, Nat.reduceLT, Int.reduceAdd, Int.reduceSub, Int.reduceMul, Int.reduceNeg, Int.reduceLT, Int.reduceLE, Int.reduceEq, ilt_t, ilt_f, ile_t, ile_f, ieq_t, ieq_f] <;> rw [if_neg h1]
  have F13 : up (up (up (up a 12 6 (a 11 5 m) 4) 11 5 m (-1)) 11 4 m 2) 11 6 m Z 13 = a 13 := by simp (disch := omega) only [up_t]
  have F0 : up (up (up (up a 12 6 (a 11 5 m) 4) 11 5 m (-1)) 11 4 m 2) 11 6 m Z 0 = a 0 := by simp (disch := omega) only [up_t]
  have V126 : up (up (up (up a 12 6 (a 11 5 m) 4) 11 5 m (-1)) 11 4 m 2) 11 6 m Z 12 6 (a 11 5 m) = 4 := by simp (disch := omega) only [up_e, lt__e, bnd_e, bnd2_e, bnd3_e, el0_l, el0_r, el1_l, el1_r, el2_l, el2_r, ↓reduceIte, not_true_eq_false, not_false_eq_true, reduceCtorEq, and_true, true_and, and_false, false_and, or_true, true_or, or_false, false_or, and_self, or_self, ite_true, ite_false, Int.cast_ofNat_Int, Nat.reduceEqDiff, Nat.reduceLT, Int.reduceAdd, Int.reduceSub, Int.reduceMul, Int.reduceNeg, Int.reduceLT, Int.reduceLE, Int.reduceEq, ilt_t, ilt_f, ile_t, ile_f, ieq_t, ieq_f]
  have V110 : up (up (up (up a 12 6 (a 11 5 m) 4) 11 5 m (-1)) 11 4 m 2) 11 6 m Z 11 0 m = a 11 0 m := by simp (disch := omega) only [up_e, lt__e, bnd_e, bnd2_e, bnd3_e, el0_l, el0_r, el1_l, el1_r, el2_l, el2_r, ↓reduceIte, not_true_eq_false, not_false_eq_true, reduceCtorEq, and_true, true_and, and_false, false_and, or_true, true_or, or_false, false_or, and_self, or_self, ite_true, ite_false, Int.cast_ofNat_Int, Nat.reduceEqDiff, Nat.reduceLT, Int.reduceAdd, Int.reduceSub, Int.reduceMul, Int.reduceNeg, Int.reduceLT, Int.reduceLE, Int.reduceEq, ilt_t, ilt_f, ile_t, ile_f, ieq_t, ieq_f]
  have V111 : up (up (up (up a 12 6 (a 11 5 m) 4) 11 5 m (-1)) 11 4 m 2) 11 6 m Z 11 1 m = a 11 1 m := by simp (disch := omega) only [up_e, lt__e, bnd_e, bnd2_e, bnd3_e, el0_l, el0_r, el1_l, el1_r, el2_l, el2_r, ↓reduceIte, not_true_eq_false, not_false_eq_true, reduceCtorEq, and_true, true_and, and_false, false_and, or_true, true_or, or_false, false_or, and_self, or_self, ite_true, ite_false, Int.cast_ofNat_Int, Nat.reduceEqDiff, Nat.reduceLT, Int.reduceAdd, Int.reduceSub, Int.reduceMul, Int.reduceNeg, Int.reduceLT, Int.reduceLE, Int.reduceEq, ilt_t, ilt_f, ile_t, ile_f, ieq_t, ieq_f]
  have V112 : up (up (up (up a 12 6 (a 11 5 m) 4) 11 5 m (-1)) 11 4 m 2) 11 6 m Z 11 2 m = a 11 2 m := by simp (disch := omega) only [up_e, lt__e, bnd_e, bnd2_e, bnd3_e, el0_l, el0_r, el1_l, el1_r, el2_l, el2_r, ↓reduceIte, not_true_eq_false, not_false_eq_true, reduceCtorEq, and_true, true_and, and_false, false_and, or_true, true_or, or_false, false_or, and_self, or_self, ite_true, ite_false, Int.cast_ofNat_Int, Nat.reduceEqDiff, Nat.reduceLT, Int.reduceAdd, Int.reduceSub, Int.reduceMul, Int.reduceNeg, Int.reduceLT, Int.reduceLE, Int.reduceEq, ilt_t, ilt_f, ile_t, ile_f, ieq_t, ieq_f]
  have V113 : up (up (up (up a 12 6 (a 11 5 m) 4) 11 5 m (-1)) 11 4 m 2) 11 6 m Z 11 3 m = a 11 3 m := by simp (disch := omega) only [up_e, lt__e, bnd_e, bnd2_e, bnd3_e, el0_l, el0_r, el1_l, el1_r, el2_l, el2_r, ↓reduceIte, not_true_eq_false, not_false_eq_true, reduceCtorEq, and_true, true_and, and_false, false_and, or_true, true_or, or_false, false_or, and_self, or_self, ite_true, ite_false, Int.cast_ofNat_Int, Nat.reduceEqDiff, Nat.reduceLT, Int.reduceAdd, Int.reduceSub, Int.reduceMul, Int.reduceNeg, Int.reduceLT, Int.reduceLE, Int.reduceEq, ilt_t, ilt_f, ile_t, ile_f, ieq_t, ieq_f]
  have V114 : up (up (up (up a 12 6 (a 11 5 m) 4) 11 5 m (-1)) 11 4 m 2) 11 6 m Z 11 4 m = 2 := by simp (disch := omega) only [up_e, lt__e, bnd_e, bnd2_e, bnd3_e, el0_l, el0_r, el1_l, el1_r, el2_l, el2_r, ↓reduceIte, not_true_eq_false, not_false_eq_true, reduceCtorEq, and_true, true_and, and_false, false_and, or_true, true_or, or_false, false_or, and_self, or_self, ite_true, ite_false, Int.cast_ofNat_Int, Nat.reduceEqDiff, Nat.reduceLT, Int.reduceAdd, Int.reduceSub, Int.reduceMul, Int.reduceNeg, Int.reduceLT, Int.reduceLE, Int.reduceEq, ilt_t, ilt_f, ile_t, ile_f, ieq_t, ieq_f]
  have V115 : up (up (up (up a 12 6 (a 11 5 m) 4) 11 5 m (-1)) 11 4 m 2) 11 6 m Z 11 5 m = -1 := by simp (disch := omega) only [up_e, lt__e, bnd_e, bnd2_e, bnd3_e, el0_l, el0_r, el1_l, el1_r, el2_l, el2_r, ↓reduceIte, not_true_eq_false, not_false_eq_true, reduceCtorEq, and_true, true_and, and_false, false_and, or_true, true_or, or_false, false_or, and_self, or_self, ite_true, ite_false, Int.cast_ofNat_Int, Nat.reduceEqDiff, Nat.reduceLT, Int.reduceAdd, Int.reduceSub, Int.reduceMul, Int.reduceNeg, Int.reduceLT, Int.reduceLE, Int.reduceEq, ilt_t, ilt_f, ile_t, ile_f, ieq_t, ieq_f]
  have V116 : up (up (up (up a 12 6 (a 11 5 m) 4) 11 5 m (-1)) 11 4 m 2) 11 6 m Z 11 6 m = Z := by simp (disch := omega) only [up_e, lt__e, bnd_e, bnd2_e, bnd3_e, el0_l, el0_r, el1_l, el1_r, el2_l, el2_r, ↓reduceIte, not_true_eq_false, not_false_eq_true, reduceCtorEq, and_true, true_and, and_false, false_and, or_true, true_or, or_false, false_or, and_self, or_self, ite_true, ite_false, Int.cast_ofNat_Int, Nat.reduceEqDiff, Nat.reduceLT, Int.reduceAdd, Int.reduceSub, Int.reduceMul, Int.reduceNeg, Int.reduceLT, Int.reduceLE, Int.reduceEq, ilt_t, ilt_f, ile_t, ile_f, ieq_t, ieq_f]
  have yb : ∀ t, t ≠ 11 → t ≠ 12 → up (up (up (up a 12 6 (a 11 5 m) 4) 11 5 m (-1)) 11 4 m 2) 11 6 m Z t = a t := fun t t1 t2 => by rw [up_t t1, up_t t1, up_t t1, up_t t2]
  generalize hB : up (up (up (up a 12 6 (a 11 5 m) 4) 11 5 m (-1)) 11 4 m 2) 11 6 m Z = B at *
  refine ⟨CN_c (fun j _ => by rw [F0]) (yb 1 (by omega) (by omega)) hI'.1, CC_c (fun t t1 t2 => yb t (by omega) (by omega)) hC, CD_c (by rw [F0]) (yb 9 (by omega) (by omega)) hD, CRm_c2 (yb 10 (by omega) (by omega)) hR, fun i i1 i2 => ?_, fun p z1 z2 => ?_, fun i i1 i2 => ?_, fun p z1 z2 => ?_⟩
  · by_cases e : i = m
    · subst e; omega
    · simp (disch := omega) only [F11]; exact hMa i i1 i2
  · have u := hP p z1 z2
    have uw := PW_c (a := B) (b := a) (p := p) ⟨F12 3 p (by omega), F12 4 p (by omega), fun k => by rw [F13]⟩ u.1
    refine ⟨uw, ?_, ?_, ?_, ?_, ?_, ?_⟩
    · rw [F12 3 p (by omega)]; exact u.2.1
    · rw [F12 4 p (by omega)]; exact u.2.2.1
    · rw [F12 1 p (by omega)]; exact u.2.2.2.1
    · rw [F12 2 p (by omega)]; exact u.2.2.2.2.1
    · rw [F12 5 p (by omega)]; exact u.2.2.2.2.2.1
    · by_cases e : p = a 11 5 m
      · subst e; omega
      · rw [F12 6 p (by omega)]; exact u.2.2.2.2.2.2
  · by_cases e : i = m
    · subst e
      exact ⟨fun z => by omega, fun z => by omega, fun z => ⟨by omega, by omega, by omega, by omega⟩, fun z => by omega⟩
    · obtain ⟨x0, x1, x2, x3⟩ := hL.1 i i1 i2
      unfold CL1
      simp (disch := omega) only [F11, F13, F0, F12 2, F12 3, F12 4]
      refine ⟨fun z => ⟨(x0 z).1, (x0 z).2.1, fun z2 => ?_⟩, fun z => ?_, x2, x3⟩
      · have x := (x0 z).2.2 z2
        rw [F12 6 _ (fun z3 => by rw [z3.2] at x; omega)]; exact x
      · have x := x1 z
        rw [F12 6 _ (fun z3 => by rw [z3.2] at x; omega)]; exact x
  · obtain ⟨x1, x2⟩ := hL.2 p z1 z2
    unfold CL2
    simp (disch := omega) only [F13, F0, F12 2, F12 3, F12 4]
    refine ⟨x1, fun z => ?_⟩
    have e : p ≠ a 11 5 m := fun e => by rw [e, V126] at z; omega
    rw [F12 6 p (by omega)] at z
    have x := x2 z
    have e2 : a 12 2 p ≠ m := fun e2 => by rw [e2] at x; omega
    simp (disch := omega) only [F11]
    exact x
theorem CJ_lose (hI : CI a nr nm np) (hJ : CJ a nm np) {m Z : Int} (m1 : 0 ≤ m) (m2 : m < nm) (c2 : a 11 4 m = 1) (hZ : isSp a Z) : CJ (up (up (up (up a 12 6 (a 11 5 m) 4) 11 5 m (-1)) 11 4 m 2) 11 6 m Z) nm np := by
  obtain ⟨hN, hC, hD, hR, hMa, hP, hL⟩ := hI
  obtain ⟨J1, J2, J3, J4⟩ := hJ
  have F11 : ∀ j i, i ≠ m → up (up (up (up a 12 6 (a 11 5 m) 4) 11 5 m (-1)) 11 4 m 2) 11 6 m Z 11 j i = a 11 j i := fun j i h1 => by simp (disch := omega) only [up_e, lt__e, bnd_e, bnd2_e, bnd3_e, el0_l, el0_r, el1_l, el1_r, el2_l, el2_r, ↓reduceIte, not_true_eq_false, not_false_eq_true, reduceCtorEq, and_true, true_and, and_false, false_and, or_true, true_or, or_false, false_or, and_self, or_self, ite_true, ite_false, Int.cast_ofNat_Int, Nat.reduceEqDiff, Nat.reduceLT, Int.reduceAdd, Int.reduceSub, Int.reduceMul, Int.reduceNeg, Int.reduceLT, Int.reduceLE, Int.reduceEq, ilt_t, ilt_f, ile_t, ile_f, ieq_t, ieq_f]
  have F12 : ∀ j p, ¬ (j = 6 ∧ p = a 11 5 m) → up (up (up (up a 12 6 (a 11 5 m) 4) 11 5 m (-1)) 11 4 m 2) 11 6 m Z 12 j p = a 12 j p := fun j p h1 => by simp (disch := omega) only [up_e, lt__e, bnd_e, bnd2_e, bnd3_e, el0_l, el0_r, el1_l, el1_r, el2_l, el2_r, ↓reduceIte, not_true_eq_false, not_false_eq_true, reduceCtorEq, and_true, true_and, and_false, false_and, or_true, true_or, or_false, false_or, and_self, or_self, ite_true, ite_false, Int.cast_ofNat_Int, Nat.reduceEqDiff, Nat.reduceLT, Int.reduceAdd, Int.reduceSub, Int.reduceMul, Int.reduceNeg, Int.reduceLT, Int.reduceLE, Int.reduceEq, ilt_t, ilt_f, ile_t, ile_f, ieq_t, ieq_f] <;> rw [if_neg h1]
  have F13 : up (up (up (up a 12 6 (a 11 5 m) 4) 11 5 m (-1)) 11 4 m 2) 11 6 m Z 13 = a 13 := by simp (disch := omega) only [up_t]
  have F0 : up (up (up (up a 12 6 (a 11 5 m) 4) 11 5 m (-1)) 11 4 m 2) 11 6 m Z 0 = a 0 := by simp (disch := omega) only [up_t]
  have V126 : up (up (up (up a 12 6 (a 11 5 m) 4) 11 5 m (-1)) 11 4 m 2) 11 6 m Z 12 6 (a 11 5 m) = 4 := by simp (disch := omega) only [up_e, lt__e, bnd_e, bnd2_e, bnd3_e, el0_l, el0_r, el1_l, el1_r, el2_l, el2_r, ↓reduceIte, not_true_eq_false, not_false_eq_true, reduceCtorEq, and_true, true_and, and_false, false_and, or_true, true_or, or_false, false_or, and_self, or_self, ite_true, ite_false, Int.cast_ofNat_Int, Nat.reduceEqDiff, Nat.reduceLT, Int.reduceAdd, Int.reduceSub, Int.reduceMul, Int.reduceNeg, Int.reduceLT, Int.reduceLE, Int.reduceEq, ilt_t, ilt_f, ile_t, ile_f, ieq_t, ieq_f]
  have V111 : up (up (up (up a 12 6 (a 11 5 m) 4) 11 5 m (-1)) 11 4 m 2) 11 6 m Z 11 1 m = a 11 1 m := by simp (disch := omega) only [up_e, lt__e, bnd_e, bnd2_e, bnd3_e, el0_l, el0_r, el1_l, el1_r, el2_l, el2_r, ↓reduceIte, not_true_eq_false, not_false_eq_true, reduceCtorEq, and_true, true_and, and_false, false_and, or_true, true_or, or_false, false_or, and_self, or_self, ite_true, ite_false, Int.cast_ofNat_Int, Nat.reduceEqDiff, Nat.reduceLT, Int.reduceAdd, Int.reduceSub, Int.reduceMul, Int.reduceNeg, Int.reduceLT, Int.reduceLE, Int.reduceEq, ilt_t, ilt_f, ile_t, ile_f, ieq_t, ieq_f]
  have V112 : up (up (up (up a 12 6 (a 11 5 m) 4) 11 5 m (-1)) 11 4 m 2) 11 6 m Z 11 2 m = a 11 2 m := by simp (disch := omega) only [up_e, lt__e, bnd_e, bnd2_e, bnd3_e, el0_l, el0_r, el1_l, el1_r, el2_l, el2_r, ↓reduceIte, not_true_eq_false, not_false_eq_true, reduceCtorEq, and_true, true_and, and_false, false_and, or_true, true_or, or_false, false_or, and_self, or_self, ite_true, ite_false, Int.cast_ofNat_Int, Nat.reduceEqDiff, Nat.reduceLT, Int.reduceAdd, Int.reduceSub, Int.reduceMul, Int.reduceNeg, Int.reduceLT, Int.reduceLE, Int.reduceEq, ilt_t, ilt_f, ile_t, ile_f, ieq_t, ieq_f]
  have V114 : up (up (up (up a 12 6 (a 11 5 m) 4) 11 5 m (-1)) 11 4 m 2) 11 6 m Z 11 4 m = 2 := by simp (disch := omega) only [up_e, lt__e, bnd_e, bnd2_e, bnd3_e, el0_l, el0_r, el1_l, el1_r, el2_l, el2_r, ↓reduceIte, not_true_eq_false, not_false_eq_true, reduceCtorEq, and_true, true_and, and_false, false_and, or_true, true_or, or_false, false_or, and_self, or_self, ite_true, ite_false, Int.cast_ofNat_Int, Nat.reduceEqDiff, Nat.reduceLT, Int.reduceAdd, Int.reduceSub, Int.reduceMul, Int.reduceNeg, Int.reduceLT, Int.reduceLE, Int.reduceEq, ilt_t, ilt_f, ile_t, ile_f, ieq_t, ieq_f]
  have V116 : up (up (up (up a 12 6 (a 11 5 m) 4) 11 5 m (-1)) 11 4 m 2) 11 6 m Z 11 6 m = Z := by simp (disch := omega) only [up_e, lt__e, bnd_e, bnd2_e, bnd3_e, el0_l, el0_r, el1_l, el1_r, el2_l, el2_r, ↓reduceIte, not_true_eq_false, not_false_eq_true, reduceCtorEq, and_true, true_and, and_false, false_and, or_true, true_or, or_false, false_or, and_self, or_self, ite_true, ite_false, Int.cast_ofNat_Int, Nat.reduceEqDiff, Nat.reduceLT, Int.reduceAdd, Int.reduceSub, Int.reduceMul, Int.reduceNeg, Int.reduceLT, Int.reduceLE, Int.reduceEq, ilt_t, ilt_f, ile_t, ile_f, ieq_t, ieq_f]
  have yb : ∀ t, t ≠ 11 → t ≠ 12 → up (up (up (up a 12 6 (a 11 5 m) 4) 11 5 m (-1)) 11 4 m 2) 11 6 m Z t = a t := fun t t1 t2 => by rw [up_t t1, up_t t1, up_t t1, up_t t2]
  generalize hB : up (up (up (up a 12 6 (a 11 5 m) 4) 11 5 m (-1)) 11 4 m 2) 11 6 m Z = B at *
  have hs : ∀ c, isSp B c ↔ isSp a c := fun c => by unfold isSp; rw [yb 1 (by omega) (by omega), yb 3 (by omega) (by omega)]
  have eq : ∀ p, EqP B a p := fun p => ⟨F12 3 p (by omega), F12 4 p (by omega), fun k => by rw [F13]⟩
  refine ⟨fun i i1 i2 => ?_, fun p p1 p2 => ?_, fun p q p1 p2 q1 q2 hne s1 s2 hmt => ?_, ?_⟩
  · have x := J1 i i1 i2
    unfold JM at x ⊢
    by_cases e : i = m
    · subst e
      rw [V111, V112, V114, V116, hs, hs]
      exact ⟨x.1, fun z => by omega, fun _ => hZ⟩
    · rw [F11 1 i e, F11 2 i e, F11 3 i e, F11 4 i e, F11 6 i e, hs, hs]; exact x
  · obtain ⟨x1, x2, x3, x4⟩ := J2 p p1 p2
    unfold JP
    rw [F12 4 p (by omega), F12 3 p (by omega), F12 2 p (by omega), F13, F0, hs, hs]
    refine ⟨x1, x2, fun z => ?_, fun z => ?_⟩
    · have e : p ≠ a 11 5 m := fun e => by rw [e, V126] at z; omega
      rw [F12 6 p (by omega)] at z
      have y := x3 z
      have e2 : a 12 2 p ≠ m := fun e2 => by rw [e2] at y; exact e y.2.symm
      rw [F11 4 _ e2, F11 5 _ e2]; exact y
    · have e : p ≠ a 11 5 m := fun e => by rw [e, V126] at z; omega
      rw [F12 6 p (by omega)] at z
      exact x4 z
  · have t : ∀ p, B 12 6 p = 0 → a 12 6 p = 0 := fun p z => by
      have e : p ≠ a 11 5 m := fun e => by rw [e, V126] at z; omega
      rw [F12 6 p (by omega)] at z; exact z
    exact J3 p q p1 p2 q1 q2 hne (t p s1) (t q s2) ((mt_c (eq p) (eq q)).1 hmt)
  · unfold JC at J4 ⊢
    rw [F0, cnt_c (P := fun i => B 11 4 i = 3) (Q := fun i => a 11 4 i = 3) nm.toNat (fun i _ _ => by
      by_cases e : i = m
      · subst e; rw [V114, c2]; omega
      · rw [F11 4 i e])]
    exact J4
theorem k_lose (h : Sh r n nr nm np) (hL : Lw a nr nm np k) {m : Int} (m1 : 0 ≤ m) (m2 : m < nm) :
    f_La_lose (some 0) (iz m) (VV a r n) = some (jz (-9000000000000000003), VV a r n) ∨ ∃ Z B, f_La_lose (some 0) (iz m) (VV a r n) = some (jz Z, VV B r n) ∧ (a 11 4 m = 1 ∧ 100 ≤ a 11 3 m) ∧ (isSp a Z ∧ 0 ≤ Z ∧ Z < 100) ∧ B 11 4 m = 2 ∧ Lw B nr nm np k := by
  have hb := h.b
  obtain ⟨hI, hJ, hS, hA, h11, h10, h12⟩ := hL
  obtain ⟨hN, hC, hD, hR, hMa, hP, hL⟩ := id hI
  obtain ⟨w0, w1, w2, w3, w4, w5, w6⟩ := hMa m m1 m2
  by_cases c2 : a 11 4 m = 1
  · obtain ⟨l1, l2, l3, l4, l5, l6⟩ := (hL.1 m m1 m2).2.1 c2
    by_cases c3 : 100 ≤ a 11 3 m
    · right
      have hs0 := hN.2.2 (by omega)
      have hNr := near_n hC hs0 (a 11 3 m % 100)
      have hn := near_b hC hs0 hNr
      have hsp : isSp a (near a (a 11 3 m % 100)) := by
        rcases hNr with x | x
        · omega
        · exact x.1
      have qc : EqC (up (up (up a 12 6 (a 11 5 m) 4) 11 5 m (-1)) 11 4 m 2) a := fun t t1 t2 => by rw [up_t (by omega), up_t (by omega), up_t (by omega)]
      have e1 := (c_nearestSpot (a := up (up (up a 12 6 (a 11 5 m) 4) 11 5 m (-1)) 11 4 m 2) h (CC_c qc hC) (c := a 11 3 m % 100) (by omega) (by omega)).1
      rw [near_c qc] at e1
      generalize hZ : near a (a 11 3 m % 100) = Z at *
      refine ⟨Z, up (up (up (up a 12 6 (a 11 5 m) 4) 11 5 m (-1)) 11 4 m 2) 11 6 m Z, ?_, ⟨c2, c3⟩, ⟨hsp, hn⟩, ?_, CI_lose hI m1 m2 c2 c3 hn, CJ_lose hI hJ m1 m2 c2 hsp, SPS_c ?_ ?_ hS, LA_c ?_ ?_ (fun i i1 i2 => ?_) hA, ?_, ?_, ?_⟩
      · unfold f_La_lose f_Sk_lose
        simp (disch := omega) only [lt__e, bnd_e, bnd2_e, bnd3_e, el0_l, el0_r, el1_l, el1_r, el2_l, el2_r, ↓reduceIte, not_true_eq_false, not_false_eq_true, reduceCtorEq, and_true, true_and, and_false, false_and, or_true, true_or, or_false, false_or, and_self, or_self, ite_true, ite_false, Int.cast_ofNat_Int, Nat.reduceEqDiff, Nat.reduceLT, Int.reduceAdd, Int.reduceSub, Int.reduceMul, Int.reduceNeg, Int.reduceLT, Int.reduceLE, Int.reduceEq, ilt_t, ilt_f, ile_t, ile_f, ieq_t, ieq_f, z_0, z_1, z_2, z_3, z_4, z_5, z_6, z_7, z_8, z_9, z_10, z_12, z_20, z_40, z_80, z_81, z_99, z_100, z_200, z_400, z_3240, z_20000, z_100000, iz_add, iz_sub, iz_mul, iz_neg, iz_nat, iz_lt, iz_le, iz_eq, iz_div, iz_ite, iz_c, md10, md100, izcb_0, izcb_1, isOut_0, isNoCell_0, isGr_0, np_p, VV_r, VV_n, V_k, W_k, V_0, W_0, V_1, W_1, V_2, W_2, V_3, W_3, V_4, W_4, V_5, W_5, V_6, W_6, V_7, W_7, V_8, W_8, V_9, W_9, h.r0_0, h.r0_1, h.r0_2, h.r0_3, h.r0_4, h.r0_5, h.r1_0, h.r1_1, h.r1_2, h.r1_3, h.r12, rf_0 h, rf_1 h, rf_10 h, rf_11 h, rf_12 h, r6_i h, r6_o h, r7_i h, r7_o h, r8_i h, r8_o h, rl_13 h, ra_13 h, rl_2 h, ra_2 h, rl_3 h, ra_3 h, rl_4 h, ra_4 h, rl_5 h, ra_5 h, rl_6 h, ra_6 h, rl_7 h, ra_7 h, rl_8 h, ra_8 h, rl_9 h, ra_9 h, rl_50 h, ra_50 h, rl_51 h, ra_51 h, V_50, W_50, V_51, W_51, up_e, y_0, y_1, y_2, y_3, y_40, y_100, y_m1, y_m6, y_x1, y_x2, y_x3, z_m1, jz_neg, jz_add, jz_mul, jz_eq, jz_lt, jz_i, jz_l, jz_cmp, cmp_0, cmp_l, cmp_g, c_machineOf_i h, c_flownBy_y h, c2, c3, c_finish h, l4, e1]
      · simp (disch := omega) only [up_e, lt__e, bnd_e, bnd2_e, bnd3_e, el0_l, el0_r, el1_l, el1_r, el2_l, el2_r, ↓reduceIte, not_true_eq_false, not_false_eq_true, reduceCtorEq, and_true, true_and, and_false, false_and, or_true, true_or, or_false, false_or, and_self, or_self, ite_true, ite_false, Int.cast_ofNat_Int, Nat.reduceEqDiff, Nat.reduceLT, Int.reduceAdd, Int.reduceSub, Int.reduceMul, Int.reduceNeg, Int.reduceLT, Int.reduceLE, Int.reduceEq, ilt_t, ilt_f, ile_t, ile_f, ieq_t, ieq_f]
      · simp (disch := omega) only [up_t]
      · simp (disch := omega) only [up_t]
      · simp (disch := omega) only [up_t]
      · simp (disch := omega) only [up_t]
      · simp (disch := omega) only [up_e, lt__e, bnd_e, bnd2_e, bnd3_e, el0_l, el0_r, el1_l, el1_r, el2_l, el2_r, ↓reduceIte, not_true_eq_false, not_false_eq_true, reduceCtorEq, and_true, true_and, and_false, false_and, or_true, true_or, or_false, false_or, and_self, or_self, ite_true, ite_false, Int.cast_ofNat_Int, Nat.reduceEqDiff, Nat.reduceLT, Int.reduceAdd, Int.reduceSub, Int.reduceMul, Int.reduceNeg, Int.reduceLT, Int.reduceLE, Int.reduceEq, ilt_t, ilt_f, ile_t, ile_f, ieq_t, ieq_f]
      · simp (disch := omega) only [up_t]; exact h11
      · simp (disch := omega) only [up_t]; exact h10
      · simp (disch := omega) only [up_t]; exact h12
    · left
      unfold f_La_lose f_Sk_lose
      simp (disch := omega) only [lt__e, bnd_e, bnd2_e, bnd3_e, el0_l, el0_r, el1_l, el1_r, el2_l, el2_r, ↓reduceIte, not_true_eq_false, not_false_eq_true, reduceCtorEq, and_true, true_and, and_false, false_and, or_true, true_or, or_false, false_or, and_self, or_self, ite_true, ite_false, Int.cast_ofNat_Int, Nat.reduceEqDiff, Nat.reduceLT, Int.reduceAdd, Int.reduceSub, Int.reduceMul, Int.reduceNeg, Int.reduceLT, Int.reduceLE, Int.reduceEq, ilt_t, ilt_f, ile_t, ile_f, ieq_t, ieq_f, z_0, z_1, z_2, z_3, z_4, z_5, z_6, z_7, z_8, z_9, z_10, z_12, z_20, z_40, z_80, z_81, z_99, z_100, z_200, z_400, z_3240, z_20000, z_100000, iz_add, iz_sub, iz_mul, iz_neg, iz_nat, iz_lt, iz_le, iz_eq, iz_div, iz_ite, iz_c, md10, md100, izcb_0, izcb_1, isOut_0, isNoCell_0, isGr_0, np_p, VV_r, VV_n, V_k, W_k, V_0, W_0, V_1, W_1, V_2, W_2, V_3, W_3, V_4, W_4, V_5, W_5, V_6, W_6, V_7, W_7, V_8, W_8, V_9, W_9, h.r0_0, h.r0_1, h.r0_2, h.r0_3, h.r0_4, h.r0_5, h.r1_0, h.r1_1, h.r1_2, h.r1_3, h.r12, rf_0 h, rf_1 h, rf_10 h, rf_11 h, rf_12 h, r6_i h, r6_o h, r7_i h, r7_o h, r8_i h, r8_o h, rl_13 h, ra_13 h, rl_2 h, ra_2 h, rl_3 h, ra_3 h, rl_4 h, ra_4 h, rl_5 h, ra_5 h, rl_6 h, ra_6 h, rl_7 h, ra_7 h, rl_8 h, ra_8 h, rl_9 h, ra_9 h, rl_50 h, ra_50 h, rl_51 h, ra_51 h, V_50, W_50, V_51, W_51, up_e, y_0, y_1, y_2, y_3, y_40, y_100, y_m1, y_m6, y_x1, y_x2, y_x3, z_m1, jz_neg, jz_add, jz_mul, jz_eq, jz_lt, jz_i, jz_l, jz_cmp, cmp_0, cmp_l, cmp_g, c_machineOf_i h, c_flownBy_y h, c2, c3]
  · left
    unfold f_La_lose f_Sk_lose
    simp (disch := omega) only [lt__e, bnd_e, bnd2_e, bnd3_e, el0_l, el0_r, el1_l, el1_r, el2_l, el2_r, ↓reduceIte, not_true_eq_false, not_false_eq_true, reduceCtorEq, and_true, true_and, and_false, false_and, or_true, true_or, or_false, false_or, and_self, or_self, ite_true, ite_false, Int.cast_ofNat_Int, Nat.reduceEqDiff, Nat.reduceLT, Int.reduceAdd, Int.reduceSub, Int.reduceMul, Int.reduceNeg, Int.reduceLT, Int.reduceLE, Int.reduceEq, ilt_t, ilt_f, ile_t, ile_f, ieq_t, ieq_f, z_0, z_1, z_2, z_3, z_4, z_5, z_6, z_7, z_8, z_9, z_10, z_12, z_20, z_40, z_80, z_81, z_99, z_100, z_200, z_400, z_3240, z_20000, z_100000, iz_add, iz_sub, iz_mul, iz_neg, iz_nat, iz_lt, iz_le, iz_eq, iz_div, iz_ite, iz_c, md10, md100, izcb_0, izcb_1, isOut_0, isNoCell_0, isGr_0, np_p, VV_r, VV_n, V_k, W_k, V_0, W_0, V_1, W_1, V_2, W_2, V_3, W_3, V_4, W_4, V_5, W_5, V_6, W_6, V_7, W_7, V_8, W_8, V_9, W_9, h.r0_0, h.r0_1, h.r0_2, h.r0_3, h.r0_4, h.r0_5, h.r1_0, h.r1_1, h.r1_2, h.r1_3, h.r12, rf_0 h, rf_1 h, rf_10 h, rf_11 h, rf_12 h, r6_i h, r6_o h, r7_i h, r7_o h, r8_i h, r8_o h, rl_13 h, ra_13 h, rl_2 h, ra_2 h, rl_3 h, ra_3 h, rl_4 h, ra_4 h, rl_5 h, ra_5 h, rl_6 h, ra_6 h, rl_7 h, ra_7 h, rl_8 h, ra_8 h, rl_9 h, ra_9 h, rl_50 h, ra_50 h, rl_51 h, ra_51 h, V_50, W_50, V_51, W_51, up_e, y_0, y_1, y_2, y_3, y_40, y_100, y_m1, y_m6, y_x1, y_x2, y_x3, z_m1, jz_neg, jz_add, jz_mul, jz_eq, jz_lt, jz_i, jz_l, jz_cmp, cmp_0, cmp_l, cmp_g, c_machineOf_i h, c_flownBy_n h]
/-! hold -/
theorem CI_hold (hI : CI a nr nm np) {m s : Int} (m1 : 0 ≤ m) (m2 : m < nm) (hs : 1 ≤ s ∧ s ≤ 10) (c3 : a 11 4 m = 1) (c5 : a 12 4 (a 11 5 m) + s ≤ 80) (E : ∀ t, t ≠ 12 → t ≠ 13 → D t = a t) (E12 : ∀ j q, q < np → ¬ (j = 4 ∧ q = a 11 5 m) → D 12 j q = a 12 j q) (E13 : ∀ j q, q < np → q ≠ a 11 5 m → D 13 j q = a 13 j q) (f4 : D 12 4 (a 11 5 m) = a 12 4 (a 11 5 m) + s)
    (E13p : ∀ i, 0 ≤ i → i ≤ a 12 4 (a 11 5 m) + s → D 13 i (a 11 5 m) = a 13 (old (a 0 10 0 - a 12 3 (a 11 5 m)) s i) (a 11 5 m)) : CI D nr nm np := by
  have hI' := hI
  obtain ⟨hN, hC, hD, hR, hMa, hP, hL⟩ := hI
  obtain ⟨w0, w1, w2, w3, w4, w5, w6⟩ := hMa m m1 m2
  obtain ⟨l1, l2, l3, l4, l5, l6⟩ := (hL.1 m m1 m2).2.1 c3
  obtain ⟨v1, v2, v3, v4, v5, v6, v7⟩ := hP (a 11 5 m) l2 w5.2
  have vl := v1.2.1
  have E0 := E 0 (by omega) (by omega)
  have E11 := E 11 (by omega) (by omega)
  have D3 : D 12 3 (a 11 5 m) = a 12 3 (a 11 5 m) := E12 3 _ w5.2 (by omega)
  refine ⟨CN_c (fun j _ => by rw [E0]) (E 1 (by omega) (by omega)) hI'.1, CC_c (fun t t1 t2 => E t (by omega) (by omega)) hC, CD_c (by rw [E0]) (E 9 (by omega) (by omega)) hD, CRm_c2 (E 10 (by omega) (by omega)) hR, CMa_c E11 hMa, fun q q1 q2 => ?_, fun i i1 i2 => ?_, fun q q1 q2 => ?_⟩
  · by_cases e : q = a 11 5 m
    · subst e
      refine ⟨⟨by rw [D3]; exact v1.1, by rw [f4]; omega, fun i z1 z2 => ?_⟩, by rw [D3]; exact v2, by rw [f4]; omega, ?_, ?_, ?_, ?_⟩
      · rw [f4] at z2
        rw [E13p i z1 z2]
        exact v1.2.2 _ (by unfold old; omega) (by unfold old; omega)
      · rw [E12 1 _ q2 (by omega)]; exact v4
      · rw [E12 2 _ q2 (by omega)]; exact v5
      · rw [E12 5 _ q2 (by omega)]; exact v6
      · rw [E12 6 _ q2 (by omega)]; exact v7
    · obtain ⟨u1, u2, u3, u4, u5, u6, u7⟩ := hP q q1 q2
      have ee : ∀ j, D 12 j q = a 12 j q := fun j => E12 j q q2 (by omega)
      refine ⟨PW_c (a := D) (b := a) ⟨ee 3, ee 4, fun k => E13 k q q2 e⟩ u1, ?_⟩
      simp only [ee]
      exact ⟨u2, u3, u4, u5, u6, u7⟩
  · have x := hL.1 i i1 i2
    have xb := (hMa i i1 i2).2.2.2.2.2.1
    unfold CL1 at x ⊢
    rw [E11, E0]
    rw [E12 6 _ xb.2 (by omega), E12 2 _ xb.2 (by omega), E12 3 _ xb.2 (by omega)]
    refine ⟨x.1, fun z => ?_, x.2.2.1, x.2.2.2⟩
    obtain ⟨x1, x2, x3, x4, x5, x6⟩ := x.2.1 z
    by_cases e : a 11 5 i = a 11 5 m
    · rw [e] at x2 x3 x4 x5 x6 ⊢
      rw [f4, E13p _ (by omega) (by omega)]
      have o1 : old (a 0 10 0 - a 12 3 (a 11 5 m)) s (a 0 10 0 - a 12 3 (a 11 5 m)) = (a 0 10 0 - a 12 3 (a 11 5 m)) := if_pos (Int.le_refl _)
      rw [o1]
      exact ⟨x1, x2, x3, x4, by omega, x6⟩
    · rw [E12 4 _ xb.2 (by omega), E13 _ _ xb.2 e]
      exact ⟨x1, x2, x3, x4, x5, x6⟩
  · have x := hL.2 q q1 q2
    unfold CL2 at x ⊢
    rw [E12 6 _ q2 (by omega), E12 2 _ q2 (by omega), E12 3 _ q2 (by omega), E11, E0]
    by_cases e : q = a 11 5 m
    · rw [e] at x ⊢
      have o1 : old (a 0 10 0 - a 12 3 (a 11 5 m)) s (a 12 4 (a 11 5 m) + s) = a 12 4 (a 11 5 m) := by unfold old; rw [if_neg (by omega), if_pos (by omega)]; omega
      rw [f4, E13p _ (by omega) (by omega), o1]
      exact ⟨x.1, fun z => by omega⟩
    · rw [E12 4 _ q2 (by omega), E13 _ _ q2 e, E13 _ _ q2 e]
      exact x
theorem CJ_hold (hI : CI a nr nm np) (hJ : CJ a nm np) {m s : Int} (m1 : 0 ≤ m) (m2 : m < nm) (hs : 1 ≤ s ∧ s ≤ 10) (c3 : a 11 4 m = 1) (E : ∀ t, t ≠ 12 → t ≠ 13 → D t = a t) (E12 : ∀ j q, q < np → ¬ (j = 4 ∧ q = a 11 5 m) → D 12 j q = a 12 j q) (E13 : ∀ j q, q < np → q ≠ a 11 5 m → D 13 j q = a 13 j q) (f4 : D 12 4 (a 11 5 m) = a 12 4 (a 11 5 m) + s)
    (E13p : ∀ i, 0 ≤ i → i ≤ a 12 4 (a 11 5 m) + s → D 13 i (a 11 5 m) = a 13 (old (a 0 10 0 - a 12 3 (a 11 5 m)) s i) (a 11 5 m)) : CJ D nm np := by
  obtain ⟨hN, hC, hD, hR, hMa, hP, hL⟩ := hI
  obtain ⟨J1, J2, J3, J4⟩ := hJ
  obtain ⟨w0, w1, w2, w3, w4, w5, w6⟩ := hMa m m1 m2
  obtain ⟨l1, l2, l3, l4, l5, l6⟩ := (hL.1 m m1 m2).2.1 c3
  have vl := (hP (a 11 5 m) l2 w5.2).1.2.1
  have E0 := E 0 (by omega) (by omega)
  have E11 := E 11 (by omega) (by omega)
  have hsp : ∀ c, isSp D c ↔ isSp a c := fun c => by unfold isSp; rw [E 1 (by omega) (by omega), E 3 (by omega) (by omega)]
  have eq : ∀ p, p < np → p ≠ a 11 5 m → EqP D a p := fun p p1 p2 => ⟨E12 3 p p1 (by omega), E12 4 p p1 (by omega), fun k => E13 k p p1 p2⟩
  refine ⟨fun i i1 i2 => ?_, fun p p1 p2 => ?_, fun p q p1 p2 q1 q2 hne s1 s2 hmt => ?_, ?_⟩
  · have x := J1 i i1 i2
    unfold JM at x ⊢
    rw [E11, hsp, hsp]; exact x
  · have x := J2 p p1 p2
    unfold JP at x ⊢
    by_cases e : p = a 11 5 m
    · have y3 : a 12 6 p = 1 := by rw [e]; exact l3
      rw [E12 6 p p2 (by omega), E12 2 p p2 (by omega), E12 3 p p2 (by omega), E11, E0, hsp, hsp]
      have o0 : old (a 0 10 0 - a 12 3 (a 11 5 m)) s 0 = 0 := by unfold old; rw [if_pos (by omega)]
      have o1 : old (a 0 10 0 - a 12 3 (a 11 5 m)) s (a 12 4 (a 11 5 m) + s) = a 12 4 (a 11 5 m) := by unfold old; rw [if_neg (by omega), if_pos (by omega)]; omega
      rw [e, f4, E13p _ (by omega) (by omega), E13p _ (by omega) (by omega), o0, o1, ← e]
      exact ⟨x.1, x.2.1, x.2.2.1, fun z => by omega⟩
    · rw [E12 6 p p2 (by omega), E12 2 p p2 (by omega), E12 3 p p2 (by omega), E12 4 p p2 (by omega), E11, E0, hsp, hsp, E13 _ p p2 e, E13 _ p p2 e]
      exact x
  · have t : ∀ p, p < np → D 12 6 p = 0 → a 12 6 p = 0 ∧ p ≠ a 11 5 m := fun p p1 z => by
      rw [E12 6 p p1 (by omega)] at z
      exact ⟨z, fun e => by rw [e] at z; omega⟩
    exact J3 p q p1 p2 q1 q2 hne (t p p2 s1).1 (t q q2 s2).1 ((mt_c (eq p p2 (t p p2 s1).2) (eq q q2 (t q q2 s2).2)).1 hmt)
  · unfold JC at J4 ⊢
    rw [E0, E11]; exact J4
theorem k_hold (h : Sh r n nr nm np) (hL : Lw a nr nm np k) {m s : Int} (m1 : 0 ≤ m) (m2 : m < nm) (c2 : 1 ≤ s ∧ s ≤ 10) :
    (∃ A, f_La_hold (some 0) (iz m) (iz s) (VV a r n) = some (jz (-9000000000000000003), VV A r n) ∧ Lw A nr nm np k) ∨ ∃ e D, f_La_hold (some 0) (iz m) (iz s) (VV a r n) = some (jz e, VV D r n) ∧ (0 ≤ e ∧ e ≤ 100000) ∧ (a 11 4 m = 1 ∧ 100 ≤ a 11 3 m) ∧ (0 ≤ D 11 5 m ∧ D 11 5 m < np ∧ D 12 3 (D 11 5 m) + D 12 4 (D 11 5 m) = e) ∧ Lw D nr nm np k := by
  have hb := h.b
  have hL0 := hL
  obtain ⟨hI, hJ, hS, hA, h11, h10, h12⟩ := hL
  obtain ⟨hN, hC, hD, hR, hMa, hP, hL⟩ := id hI
  obtain ⟨w0, w1, w2, w3, w4, w5, w6⟩ := hMa m m1 m2
  by_cases c3 : a 11 4 m = 1
  · obtain ⟨l1, l2, l3, l4, l5, l6⟩ := (hL.1 m m1 m2).2.1 c3
    have hfl := c_flownBy_y (a := a) h m1 m2 c3 l2 w5.2
    by_cases c4 : 100 ≤ a 11 3 m
    · obtain ⟨v1, v2, v3, v4, v5, v6, v7⟩ := hP (a 11 5 m) l2 w5.2
      have vl := v1.2.1
      by_cases c5 : a 12 4 (a 11 5 m) + s ≤ 80
      · obtain ⟨A, d1, d2⟩ := c_canBeHeld h hC hR hP (hN.2.2 (by omega)) hN.2.1 (p := a 11 5 m) (s := s) (l := a 11 2 m) ⟨l2, w5.2⟩ c2 (by omega) l5 c5
        obtain ⟨g1, g2, g3, g4, g5, g6⟩ := d2
        by_cases hok : OK_ A nr np (a 11 5 m) (a 0 10 0 - a 12 3 (a 11 5 m)) (a 11 2 m)
        · right
          rw [cb_t hok] at d1
          obtain ⟨D, f1, f2, f3, f4, f5, f6⟩ := c_takePlaces (a := A) h (p := a 11 5 m) (L := a 12 4 (a 11 5 m) + s) ⟨l2, w5.2⟩ (by omega) g5
          have E : ∀ t, t ≠ 12 → t ≠ 13 → D t = a t := fun t t1 t2 => by rw [f2 t t1 t2, g1 t t1 t2]
          have E11 := E 11 (by omega) (by omega)
          have E12 : ∀ j q, q < np → ¬ (j = 4 ∧ q = a 11 5 m) → D 12 j q = a 12 j q := fun j q q1 q2 => by rw [f3 j q q2, (g2 q q1).1 j]
          have E13 : ∀ j q, q < np → q ≠ a 11 5 m → D 13 j q = a 13 j q := fun j q q1 q2 => by rw [f5 j q q2, (g2 q q1).2 j]
          have E13p : ∀ i, 0 ≤ i → i ≤ a 12 4 (a 11 5 m) + s → D 13 i (a 11 5 m) = a 13 (old (a 0 10 0 - a 12 3 (a 11 5 m)) s i) (a 11 5 m) := fun i q1 q2 => by rw [f6 i q1 q2, g6 i q1 q2]
          have D3 : D 12 3 (a 11 5 m) = a 12 3 (a 11 5 m) := E12 3 _ w5.2 (by omega)
          refine ⟨a 12 3 (a 11 5 m) + (a 12 4 (a 11 5 m) + s), D, ?_, by omega, ⟨c3, c4⟩, ?_, CI_hold hI m1 m2 c2 c3 c5 E E12 E13 f4 E13p, CJ_hold hI hJ m1 m2 c2 c3 E E12 E13 f4 E13p, SPS_c (E 1 (by omega) (by omega)) (E 3 (by omega) (by omega)) hS, LA_c (E 50 (by omega) (by omega)) (E 51 (by omega) (by omega)) (fun i _ _ => by rw [E11]) hA, ?_, ?_, ?_⟩
          · unfold f_La_hold f_Sk_hold
            simp (disch := omega) only [lt__e, bnd_e, bnd2_e, bnd3_e, el0_l, el0_r, el1_l, el1_r, el2_l, el2_r, ↓reduceIte, not_true_eq_false, not_false_eq_true, reduceCtorEq, and_true, true_and, and_false, false_and, or_true, true_or, or_false, false_or, and_self, or_self, ite_true, ite_false, Int.cast_ofNat_Int, Nat.reduceEqDiff, Nat.reduceLT, Int.reduceAdd, Int.reduceSub, Int.reduceMul, Int.reduceNeg, Int.reduceLT, Int.reduceLE, Int.reduceEq, ilt_t, ilt_f, ile_t, ile_f, ieq_t, ieq_f, z_0, z_1, z_2, z_3, z_4, z_5, z_6, z_7, z_8, z_9, z_10, z_12, z_20, z_40, z_80, z_81, z_99, z_100, z_200, z_400, z_3240, z_20000, z_100000, iz_add, iz_sub, iz_mul, iz_neg, iz_nat, iz_lt, iz_le, iz_eq, iz_div, iz_ite, iz_c, md10, md100, izcb_0, izcb_1, isOut_0, isNoCell_0, isGr_0, np_p, VV_r, VV_n, V_k, W_k, V_0, W_0, V_1, W_1, V_2, W_2, V_3, W_3, V_4, W_4, V_5, W_5, V_6, W_6, V_7, W_7, V_8, W_8, V_9, W_9, h.r0_0, h.r0_1, h.r0_2, h.r0_3, h.r0_4, h.r0_5, h.r1_0, h.r1_1, h.r1_2, h.r1_3, h.r12, rf_0 h, rf_1 h, rf_10 h, rf_11 h, rf_12 h, r6_i h, r6_o h, r7_i h, r7_o h, r8_i h, r8_o h, rl_13 h, ra_13 h, rl_2 h, ra_2 h, rl_3 h, ra_3 h, rl_4 h, ra_4 h, rl_5 h, ra_5 h, rl_6 h, ra_6 h, rl_7 h, ra_7 h, rl_8 h, ra_8 h, rl_9 h, ra_9 h, rl_50 h, ra_50 h, rl_51 h, ra_51 h, V_50, W_50, V_51, W_51, up_e, y_0, y_1, y_2, y_3, y_40, y_100, y_m1, y_m6, y_x1, y_x2, y_x3, z_m1, jz_neg, jz_add, jz_mul, jz_eq, jz_lt, jz_i, jz_l, jz_cmp, cmp_0, cmp_l, cmp_g, c_machineOf_i h, hfl, c2, c3, c4, d1, f1, c_end h, D3, f4]
          · rw [E11, D3, f4]; exact ⟨l2, w5.2, rfl⟩
          · rw [E 0 (by omega) (by omega)]; exact h11
          · rw [E 0 (by omega) (by omega)]; exact h10
          · rw [E 0 (by omega) (by omega)]; exact h12
        · left
          rw [cb_f hok] at d1
          refine ⟨A, ?_, Lw_tr g1 g2 hL0⟩
          unfold f_La_hold f_Sk_hold
          simp (disch := omega) only [lt__e, bnd_e, bnd2_e, bnd3_e, el0_l, el0_r, el1_l, el1_r, el2_l, el2_r, ↓reduceIte, not_true_eq_false, not_false_eq_true, reduceCtorEq, and_true, true_and, and_false, false_and, or_true, true_or, or_false, false_or, and_self, or_self, ite_true, ite_false, Int.cast_ofNat_Int, Nat.reduceEqDiff, Nat.reduceLT, Int.reduceAdd, Int.reduceSub, Int.reduceMul, Int.reduceNeg, Int.reduceLT, Int.reduceLE, Int.reduceEq, ilt_t, ilt_f, ile_t, ile_f, ieq_t, ieq_f, z_0, z_1, z_2, z_3, z_4, z_5, z_6, z_7, z_8, z_9, z_10, z_12, z_20, z_40, z_80, z_81, z_99, z_100, z_200, z_400, z_3240, z_20000, z_100000, iz_add, iz_sub, iz_mul, iz_neg, iz_nat, iz_lt, iz_le, iz_eq, iz_div, iz_ite, iz_c, md10, md100, izcb_0, izcb_1, isOut_0, isNoCell_0, isGr_0, np_p, VV_r, VV_n, V_k, W_k, V_0, W_0, V_1, W_1, V_2, W_2, V_3, W_3, V_4, W_4, V_5, W_5, V_6, W_6, V_7, W_7, V_8, W_8, V_9, W_9, h.r0_0, h.r0_1, h.r0_2, h.r0_3, h.r0_4, h.r0_5, h.r1_0, h.r1_1, h.r1_2, h.r1_3, h.r12, rf_0 h, rf_1 h, rf_10 h, rf_11 h, rf_12 h, r6_i h, r6_o h, r7_i h, r7_o h, r8_i h, r8_o h, rl_13 h, ra_13 h, rl_2 h, ra_2 h, rl_3 h, ra_3 h, rl_4 h, ra_4 h, rl_5 h, ra_5 h, rl_6 h, ra_6 h, rl_7 h, ra_7 h, rl_8 h, ra_8 h, rl_9 h, ra_9 h, rl_50 h, ra_50 h, rl_51 h, ra_51 h, V_50, W_50, V_51, W_51, up_e, y_0, y_1, y_2, y_3, y_40, y_100, y_m1, y_m6, y_x1, y_x2, y_x3, z_m1, jz_neg, jz_add, jz_mul, jz_eq, jz_lt, jz_i, jz_l, jz_cmp, cmp_0, cmp_l, cmp_g, c_machineOf_i h, hfl, c2, c3, c4, d1]
      · left
        have e0 : f_Sk_canBeHeld 0 (some (kk 12 (a 11 5 m))) (iz s) (iz (a 11 2 m)) (VV a r n) = some (iz 0, VV a r n) := by
          unfold f_Sk_canBeHeld
          rw [VV_n, rf_12 h l2 (Int.le_of_lt w5.2), bnd_e]
          have e9 : (80 : Int32) < (VV a r n).1 (kk 12 (a 11 5 m)) 4 + iz s := by
            rw [V_k 4 (by omega) l2, z_80, iz_add]
            simp only [Int.cast_ofNat_Int]
            rw [iz_lt (by omega) (by omega) (by omega) (by omega)]; omega
          exact if_pos e9
        refine ⟨a, ?_, hL0⟩
        unfold f_La_hold f_Sk_hold
        simp (disch := omega) only [lt__e, bnd_e, bnd2_e, bnd3_e, el0_l, el0_r, el1_l, el1_r, el2_l, el2_r, ↓reduceIte, not_true_eq_false, not_false_eq_true, reduceCtorEq, and_true, true_and, and_false, false_and, or_true, true_or, or_false, false_or, and_self, or_self, ite_true, ite_false, Int.cast_ofNat_Int, Nat.reduceEqDiff, Nat.reduceLT, Int.reduceAdd, Int.reduceSub, Int.reduceMul, Int.reduceNeg, Int.reduceLT, Int.reduceLE, Int.reduceEq, ilt_t, ilt_f, ile_t, ile_f, ieq_t, ieq_f, z_0, z_1, z_2, z_3, z_4, z_5, z_6, z_7, z_8, z_9, z_10, z_12, z_20, z_40, z_80, z_81, z_99, z_100, z_200, z_400, z_3240, z_20000, z_100000, iz_add, iz_sub, iz_mul, iz_neg, iz_nat, iz_lt, iz_le, iz_eq, iz_div, iz_ite, iz_c, md10, md100, izcb_0, izcb_1, isOut_0, isNoCell_0, isGr_0, np_p, VV_r, VV_n, V_k, W_k, V_0, W_0, V_1, W_1, V_2, W_2, V_3, W_3, V_4, W_4, V_5, W_5, V_6, W_6, V_7, W_7, V_8, W_8, V_9, W_9, h.r0_0, h.r0_1, h.r0_2, h.r0_3, h.r0_4, h.r0_5, h.r1_0, h.r1_1, h.r1_2, h.r1_3, h.r12, rf_0 h, rf_1 h, rf_10 h, rf_11 h, rf_12 h, r6_i h, r6_o h, r7_i h, r7_o h, r8_i h, r8_o h, rl_13 h, ra_13 h, rl_2 h, ra_2 h, rl_3 h, ra_3 h, rl_4 h, ra_4 h, rl_5 h, ra_5 h, rl_6 h, ra_6 h, rl_7 h, ra_7 h, rl_8 h, ra_8 h, rl_9 h, ra_9 h, rl_50 h, ra_50 h, rl_51 h, ra_51 h, V_50, W_50, V_51, W_51, up_e, y_0, y_1, y_2, y_3, y_40, y_100, y_m1, y_m6, y_x1, y_x2, y_x3, z_m1, jz_neg, jz_add, jz_mul, jz_eq, jz_lt, jz_i, jz_l, jz_cmp, cmp_0, cmp_l, cmp_g, c_machineOf_i h, hfl, c2, c3, c4, e0]
    · left
      refine ⟨a, ?_, hL0⟩
      unfold f_La_hold f_Sk_hold
      simp (disch := omega) only [lt__e, bnd_e, bnd2_e, bnd3_e, el0_l, el0_r, el1_l, el1_r, el2_l, el2_r, ↓reduceIte, not_true_eq_false, not_false_eq_true, reduceCtorEq, and_true, true_and, and_false, false_and, or_true, true_or, or_false, false_or, and_self, or_self, ite_true, ite_false, Int.cast_ofNat_Int, Nat.reduceEqDiff, Nat.reduceLT, Int.reduceAdd, Int.reduceSub, Int.reduceMul, Int.reduceNeg, Int.reduceLT, Int.reduceLE, Int.reduceEq, ilt_t, ilt_f, ile_t, ile_f, ieq_t, ieq_f, z_0, z_1, z_2, z_3, z_4, z_5, z_6, z_7, z_8, z_9, z_10, z_12, z_20, z_40, z_80, z_81, z_99, z_100, z_200, z_400, z_3240, z_20000, z_100000, iz_add, iz_sub, iz_mul, iz_neg, iz_nat, iz_lt, iz_le, iz_eq, iz_div, iz_ite, iz_c, md10, md100, izcb_0, izcb_1, isOut_0, isNoCell_0, isGr_0, np_p, VV_r, VV_n, V_k, W_k, V_0, W_0, V_1, W_1, V_2, W_2, V_3, W_3, V_4, W_4, V_5, W_5, V_6, W_6, V_7, W_7, V_8, W_8, V_9, W_9, h.r0_0, h.r0_1, h.r0_2, h.r0_3, h.r0_4, h.r0_5, h.r1_0, h.r1_1, h.r1_2, h.r1_3, h.r12, rf_0 h, rf_1 h, rf_10 h, rf_11 h, rf_12 h, r6_i h, r6_o h, r7_i h, r7_o h, r8_i h, r8_o h, rl_13 h, ra_13 h, rl_2 h, ra_2 h, rl_3 h, ra_3 h, rl_4 h, ra_4 h, rl_5 h, ra_5 h, rl_6 h, ra_6 h, rl_7 h, ra_7 h, rl_8 h, ra_8 h, rl_9 h, ra_9 h, rl_50 h, ra_50 h, rl_51 h, ra_51 h, V_50, W_50, V_51, W_51, up_e, y_0, y_1, y_2, y_3, y_40, y_100, y_m1, y_m6, y_x1, y_x2, y_x3, z_m1, jz_neg, jz_add, jz_mul, jz_eq, jz_lt, jz_i, jz_l, jz_cmp, cmp_0, cmp_l, cmp_g, c_machineOf_i h, hfl, c2, c3, c4]
  · left
    refine ⟨a, ?_, hL0⟩
    unfold f_La_hold f_Sk_hold
    simp (disch := omega) only [lt__e, bnd_e, bnd2_e, bnd3_e, el0_l, el0_r, el1_l, el1_r, el2_l, el2_r, ↓reduceIte, not_true_eq_false, not_false_eq_true, reduceCtorEq, and_true, true_and, and_false, false_and, or_true, true_or, or_false, false_or, and_self, or_self, ite_true, ite_false, Int.cast_ofNat_Int, Nat.reduceEqDiff, Nat.reduceLT, Int.reduceAdd, Int.reduceSub, Int.reduceMul, Int.reduceNeg, Int.reduceLT, Int.reduceLE, Int.reduceEq, ilt_t, ilt_f, ile_t, ile_f, ieq_t, ieq_f, z_0, z_1, z_2, z_3, z_4, z_5, z_6, z_7, z_8, z_9, z_10, z_12, z_20, z_40, z_80, z_81, z_99, z_100, z_200, z_400, z_3240, z_20000, z_100000, iz_add, iz_sub, iz_mul, iz_neg, iz_nat, iz_lt, iz_le, iz_eq, iz_div, iz_ite, iz_c, md10, md100, izcb_0, izcb_1, isOut_0, isNoCell_0, isGr_0, np_p, VV_r, VV_n, V_k, W_k, V_0, W_0, V_1, W_1, V_2, W_2, V_3, W_3, V_4, W_4, V_5, W_5, V_6, W_6, V_7, W_7, V_8, W_8, V_9, W_9, h.r0_0, h.r0_1, h.r0_2, h.r0_3, h.r0_4, h.r0_5, h.r1_0, h.r1_1, h.r1_2, h.r1_3, h.r12, rf_0 h, rf_1 h, rf_10 h, rf_11 h, rf_12 h, r6_i h, r6_o h, r7_i h, r7_o h, r8_i h, r8_o h, rl_13 h, ra_13 h, rl_2 h, ra_2 h, rl_3 h, ra_3 h, rl_4 h, ra_4 h, rl_5 h, ra_5 h, rl_6 h, ra_6 h, rl_7 h, ra_7 h, rl_8 h, ra_8 h, rl_9 h, ra_9 h, rl_50 h, ra_50 h, rl_51 h, ra_51 h, V_50, W_50, V_51, W_51, up_e, y_0, y_1, y_2, y_3, y_40, y_100, y_m1, y_m6, y_x1, y_x2, y_x3, z_m1, jz_neg, jz_add, jz_mul, jz_eq, jz_lt, jz_i, jz_l, jz_cmp, cmp_0, cmp_l, cmp_g, c_machineOf_i h, c_flownBy_n h, c2]
end J8
