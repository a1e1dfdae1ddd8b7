/-! sums of costs; meeting time by time; counts -/
theorem same_0 {x y : Int} (h1 : -1 ≤ x) (h2 : x < 500) (h3 : -1 ≤ y) (h4 : y < 500) : (f_Sk_isSameInAir (iz x) (iz y) = iz 0) = ¬ (x = y ∧ 100 ≤ x) := by
  unfold f_Sk_isSameInAir
  by_cases c1 : x = y
  · by_cases c2 : 100 ≤ x
    · simp (disch := omega) only [lt__e, bnd_e, bnd2_e, bnd3_e, el0_l, el0_r, el1_l, el1_r, el2_l, el2_r, ↓reduceIte, not_true_eq_false, not_false_eq_true, reduceCtorEq, and_true, true_and, and_false, false_and, or_true, true_or, or_false, false_or, and_self, or_self, ite_true, ite_false, Int.cast_ofNat_Int, Nat.reduceEqDiff, Nat.reduceLT, Int.reduceAdd, Int.reduceSub, Int.reduceMul, Int.reduceNeg, Int.reduceLT, Int.reduceLE, Int.reduceEq, ilt_t, ilt_f, ile_t, ile_f, ieq_t, ieq_f, z_0, z_1, z_2, z_3, z_4, z_5, z_6, z_7, z_8, z_9, z_10, z_12, z_20, z_40, z_80, z_81, z_99, z_100, z_200, z_400, z_3240, z_20000, z_100000, iz_add, iz_sub, iz_mul, iz_neg, iz_nat, iz_lt, iz_le, iz_eq, iz_div, iz_ite, iz_c, md10, md100, izcb_0, izcb_1, isOut_0, isNoCell_0, isGr_0, np_p]
    · simp (disch := omega) only [lt__e, bnd_e, bnd2_e, bnd3_e, el0_l, el0_r, el1_l, el1_r, el2_l, el2_r, ↓reduceIte, not_true_eq_false, not_false_eq_true, reduceCtorEq, and_true, true_and, and_false, false_and, or_true, true_or, or_false, false_or, and_self, or_self, ite_true, ite_false, Int.cast_ofNat_Int, Nat.reduceEqDiff, Nat.reduceLT, Int.reduceAdd, Int.reduceSub, Int.reduceMul, Int.reduceNeg, Int.reduceLT, Int.reduceLE, Int.reduceEq, ilt_t, ilt_f, ile_t, ile_f, ieq_t, ieq_f, z_0, z_1, z_2, z_3, z_4, z_5, z_6, z_7, z_8, z_9, z_10, z_12, z_20, z_40, z_80, z_81, z_99, z_100, z_200, z_400, z_3240, z_20000, z_100000, iz_add, iz_sub, iz_mul, iz_neg, iz_nat, iz_lt, iz_le, iz_eq, iz_div, iz_ite, iz_c, md10, md100, izcb_0, izcb_1, isOut_0, isNoCell_0, isGr_0, np_p]
  · simp (disch := omega) only [lt__e, bnd_e, bnd2_e, bnd3_e, el0_l, el0_r, el1_l, el1_r, el2_l, el2_r, ↓reduceIte, not_true_eq_false, not_false_eq_true, reduceCtorEq, and_true, true_and, and_false, false_and, or_true, true_or, or_false, false_or, and_self, or_self, ite_true, ite_false, Int.cast_ofNat_Int, Nat.reduceEqDiff, Nat.reduceLT, Int.reduceAdd, Int.reduceSub, Int.reduceMul, Int.reduceNeg, Int.reduceLT, Int.reduceLE, Int.reduceEq, ilt_t, ilt_f, ile_t, ile_f, ieq_t, ieq_f, z_0, z_1, z_2, z_3, z_4, z_5, z_6, z_7, z_8, z_9, z_10, z_12, z_20, z_40, z_80, z_81, z_99, z_100, z_200, z_400, z_3240, z_20000, z_100000, iz_add, iz_sub, iz_mul, iz_neg, iz_nat, iz_lt, iz_le, iz_eq, iz_div, iz_ite, iz_c, md10, md100, izcb_0, izcb_1, isOut_0, isNoCell_0, isGr_0, np_p]
section T8
variable {a : AT} {r : Nat → Nat → Option Nat} {n : Nat → Nat} {nr nm np : Int}
theorem c_takes_l (h : Sh r n nr nm np) (hC : CC a) (hw : PW a np) : l_Sk_takes_46 0 (VV a r n) 4096 (iz 0) (iz 1) = some (iz (sm (pc a np) (a 12 4 np).toNat)) := by
  have hb := h.b
  obtain ⟨hb1, hl, hpl⟩ := hw
  have key := lpQ (L := fun n' i (s : Int) => l_Sk_takes_46 0 (VV a r n) n' (iz s) (iz i)) (hi := a 12 4 np + 1)
    (Q := fun i s => 1 ≤ i ∧ s = sm (pc a np) (i - 1).toNat) (R := fun v => v = iz (sm (pc a np) (a 12 4 np).toNat)) ?_ ?_ 4096 1 0 (by omega) (by omega) ⟨by omega, rfl⟩
  · obtain ⟨v, hv, rfl⟩ := key; exact hv
  · rintro n' i s h3 ⟨h4, rfl⟩
    left
    have b1 := hpl (i - 1) (by omega) (by omega)
    have b2 := hpl i (by omega) (by omega)
    have e1 : PO a np (i - 1) = a 13 (i - 1) np := PO_in (by omega) (by omega)
    have e2 : PO a np i = a 13 i np := PO_in (by omega) (by omega)
    have ht := c_taken (a := a) h hC (t := 4) (Or.inl rfl) (p := a 13 (i - 1) np) (q := a 13 i np) (by omega) (by omega) (by omega) (by omega)
    have es := sm_s (pc a np) (i := i - 1) (by omega)
    have ei : i - 1 + 1 = i := by omega
    have ei2 : i + 1 - 1 = i := by omega
    have ep : pc a np (i - 1) = cost a 4 (a 13 (i - 1) np) (a 13 i np) := by unfold pc; rw [ei]
    rw [ei, ep] at es
    refine ⟨_, ⟨by omega, rfl⟩, ?_⟩
    rw [ei2, es]
    dsimp only [l_Sk_takes_46, b_Sk_takes_46]
    simp (disch := omega) only [lt__e, bnd_e, bnd2_e, bnd3_e, el0_l, el0_r, el1_l, el1_r, el2_l, el2_r, ↓reduceIte, not_true_eq_false, not_false_eq_true, reduceCtorEq, and_true, true_and, and_false, false_and, or_true, true_or, or_false, false_or, and_self, or_self, ite_true, ite_false, Int.cast_ofNat_Int, Nat.reduceEqDiff, Nat.reduceLT, Int.reduceAdd, Int.reduceSub, Int.reduceMul, Int.reduceNeg, Int.reduceLT, Int.reduceLE, Int.reduceEq, ilt_t, ilt_f, ile_t, ile_f, ieq_t, ieq_f, z_0, z_1, z_2, z_3, z_4, z_5, z_6, z_7, z_8, z_9, z_10, z_12, z_20, z_40, z_80, z_81, z_99, z_100, z_200, z_400, z_3240, z_20000, z_100000, iz_add, iz_sub, iz_mul, iz_neg, iz_nat, iz_lt, iz_le, iz_eq, iz_div, iz_ite, iz_c, md10, md100, izcb_0, izcb_1, isOut_0, isNoCell_0, isGr_0, np_p, VV_r, VV_n, V_k, W_k, V_0, W_0, V_1, W_1, V_2, W_2, V_3, W_3, V_4, W_4, V_5, W_5, V_6, W_6, V_7, W_7, V_8, W_8, V_9, W_9, h.r0_0, h.r0_1, h.r0_2, h.r0_3, h.r0_4, h.r0_5, h.r1_0, h.r1_1, h.r1_2, h.r1_3, h.r12, rf_0 h, rf_1 h, rf_10 h, rf_11 h, rf_12 h, r6_i h, r6_o h, r7_i h, r7_o h, r8_i h, r8_o h, rl_13 h, ra_13 h, rl_2 h, ra_2 h, rl_3 h, ra_3 h, rl_4 h, ra_4 h, rl_5 h, ra_5 h, rl_6 h, ra_6 h, rl_7 h, ra_7 h, rl_8 h, ra_8 h, rl_9 h, ra_9 h, up_e, c_placeOf h, e1, e2, ht]
  · rintro n' s ⟨h4, rfl⟩
    refine ⟨_, ?_, rfl⟩
    have ei : a 12 4 np + 1 - 1 = a 12 4 np := by omega
    rw [ei]
    dsimp only [l_Sk_takes_46, b_Sk_takes_46]
    simp (disch := omega) only [lt__e, bnd_e, bnd2_e, bnd3_e, el0_l, el0_r, el1_l, el1_r, el2_l, el2_r, ↓reduceIte, not_true_eq_false, not_false_eq_true, reduceCtorEq, and_true, true_and, and_false, false_and, or_true, true_or, or_false, false_or, and_self, or_self, ite_true, ite_false, Int.cast_ofNat_Int, Nat.reduceEqDiff, Nat.reduceLT, Int.reduceAdd, Int.reduceSub, Int.reduceMul, Int.reduceNeg, Int.reduceLT, Int.reduceLE, Int.reduceEq, ilt_t, ilt_f, ile_t, ile_f, ieq_t, ieq_f, z_0, z_1, z_2, z_3, z_4, z_5, z_6, z_7, z_8, z_9, z_10, z_12, z_20, z_40, z_80, z_81, z_99, z_100, z_200, z_400, z_3240, z_20000, z_100000, iz_add, iz_sub, iz_mul, iz_neg, iz_nat, iz_lt, iz_le, iz_eq, iz_div, iz_ite, iz_c, md10, md100, izcb_0, izcb_1, isOut_0, isNoCell_0, isGr_0, np_p, VV_r, VV_n, V_k, W_k, V_0, W_0, V_1, W_1, V_2, W_2, V_3, W_3, V_4, W_4, V_5, W_5, V_6, W_6, V_7, W_7, V_8, W_8, V_9, W_9, h.r0_0, h.r0_1, h.r0_2, h.r0_3, h.r0_4, h.r0_5, h.r1_0, h.r1_1, h.r1_2, h.r1_3, h.r12, rf_0 h, rf_1 h, rf_10 h, rf_11 h, rf_12 h, r6_i h, r6_o h, r7_i h, r7_o h, r8_i h, r8_o h, rl_13 h, ra_13 h, rl_2 h, ra_2 h, rl_3 h, ra_3 h, rl_4 h, ra_4 h, rl_5 h, ra_5 h, rl_6 h, ra_6 h, rl_7 h, ra_7 h, rl_8 h, ra_8 h, rl_9 h, ra_9 h, up_e]
theorem c_meetTimeByTime (h : Sh r n nr nm np) {p q : Int} (h1 : 0 ≤ p) (h2 : p ≤ np) (hp : PW a p) (h3 : 0 ≤ q) (h4 : q ≤ np) (hq : PW a q) (h5 : 1 ≤ a 12 3 p) (h6 : 1 ≤ a 12 3 q) :
    f_Sk_meetTimeByTime (some (kk 12 p)) (some (kk 12 q)) (VV a r n) = some (iz (cb (mt a p q 0))) := by
  have hp' := hp
  have hq' := hq
  obtain ⟨hb1, hl1, hpl1⟩ := hp
  obtain ⟨hb2, hl2, hpl2⟩ := hq
  -- the first and the last time
  have main : ∀ lo hi : Int, lo = (if a 12 3 p < a 12 3 q then a 12 3 q else a 12 3 p) - 1 → hi = (if a 12 3 q + a 12 4 q < a 12 3 p + a 12 4 p then a 12 3 q + a 12 4 q else a 12 3 p + a 12 4 p) →
      el0 (l_Sk_meetTimeByTime_29 (some (kk 12 p)) (some (kk 12 q)) (iz hi) (VV a r n) 4096 (iz lo)) some (some (iz 0)) = some (iz (cb (mt a p q 0))) := by
    intro lo hi elo ehi
    have hlo : (a 12 3 p ≤ lo + 1 ∧ a 12 3 q ≤ lo + 1) ∧ (lo + 1 = a 12 3 p ∨ lo + 1 = a 12 3 q) := by
      by_cases c : a 12 3 p < a 12 3 q
      · rw [if_pos c] at elo; omega
      · rw [if_neg c] at elo; omega
    have hhi : (hi ≤ a 12 3 p + a 12 4 p ∧ hi ≤ a 12 3 q + a 12 4 q) ∧ (hi = a 12 3 p + a 12 4 p ∨ hi = a 12 3 q + a 12 4 q) := by
      by_cases c : a 12 3 q + a 12 4 q < a 12 3 p + a 12 4 p
      · rw [if_pos c] at ehi; omega
      · rw [if_neg c] at ehi; omega
    clear elo ehi
    -- meeting at a time of both
    have iff1 : (∃ t, lo ≤ t ∧ t < hi + 1 ∧ ((PL a p t = PL a q t ∧ 100 ≤ PL a p t) ∨ (PL a p t = PL a q (t + 1) ∧ 100 ≤ PL a p t) ∨ (PL a p (t + 1) = PL a q t ∧ 100 ≤ PL a p (t + 1)))) ↔ mt a p q 0 := by
      constructor
      · rintro ⟨t, t1, t2, t3⟩
        rcases t3 with ⟨t3, t4⟩ | ⟨t3, t4⟩ | ⟨t3, t4⟩
        · obtain ⟨k1, k2⟩ := PL_in (a := a) (p := p) (t := t) (by omega)
          refine ⟨t - a 12 3 p, k1.1, by omega, by omega, by omega, ?_⟩
          have e : a 12 3 p + (t - a 12 3 p) = t := by omega
          unfold abt
          rw [e, ← k2]
          exact Or.inr (Or.inl t3.symm)
        · obtain ⟨k1, k2⟩ := PL_in (a := a) (p := p) (t := t) (by omega)
          refine ⟨t - a 12 3 p, k1.1, by omega, by omega, by omega, ?_⟩
          have e : a 12 3 p + (t - a 12 3 p) = t := by omega
          unfold abt
          rw [e, ← k2]
          exact Or.inr (Or.inr t3.symm)
        · obtain ⟨k1, k2⟩ := PL_in (a := a) (p := p) (t := t + 1) (by omega)
          refine ⟨t + 1 - a 12 3 p, k1.1, by omega, by omega, by omega, ?_⟩
          have e : a 12 3 p + (t + 1 - a 12 3 p) = t + 1 := by omega
          have e2 : t + 1 - 1 = t := by omega
          unfold abt
          rw [e, ← k2, e2]
          exact Or.inl ⟨by omega, t3.symm⟩
      · rintro ⟨k, k1, k2, k3, k4, k5⟩
        have ep := PL_at (a := a) (p := p) k1 (by omega : k ≤ a 12 4 p)
        rcases k5 with ⟨k5, k6⟩ | k6 | k6
        · obtain ⟨q1, q2⟩ := PL_in (a := a) (p := q) (t := a 12 3 p + k - 1) (by omega)
          refine ⟨a 12 3 p + k - 1, by omega, by omega, Or.inr (Or.inr ?_)⟩
          have e : a 12 3 p + k - 1 + 1 = a 12 3 p + k := by omega
          rw [e, ep]
          exact ⟨k6.symm, k4⟩
        · obtain ⟨q1, q2⟩ := PL_in (a := a) (p := q) (t := a 12 3 p + k) (by omega)
          refine ⟨a 12 3 p + k, by omega, by omega, Or.inl ?_⟩
          rw [ep]
          exact ⟨k6.symm, k4⟩
        · obtain ⟨q1, q2⟩ := PL_in (a := a) (p := q) (t := a 12 3 p + k + 1) (by omega)
          refine ⟨a 12 3 p + k, by omega, by omega, Or.inr (Or.inl ?_)⟩
          rw [ep]
          exact ⟨k6.symm, k4⟩
    rw [← cb_c iff1]
    by_cases hlh : lo ≤ hi + 1
    · refine lpB (L := fun n' t => l_Sk_meetTimeByTime_29 (some (kk 12 p)) (some (kk 12 q)) (iz hi) (VV a r n) n' (iz t)) (lo := lo) (hi := hi + 1) (p := fun t => ((PL a p t = PL a q t ∧ 100 ≤ PL a p t) ∨ (PL a p t = PL a q (t + 1) ∧ 100 ≤ PL a p t) ∨ (PL a p (t + 1) = PL a q t ∧ 100 ≤ PL a p (t + 1)))) ?_ ?_ 4096 hlh (by omega)
      · intro n' t t1 t2
        have b1 := PL_b hp' t
        have b2 := PL_b hp' (t + 1)
        have b3 := PL_b hq' t
        have b4 := PL_b hq' (t + 1)
        dsimp only [l_Sk_meetTimeByTime_29, b_Sk_meetTimeByTime_29]
        by_cases c1 : PL a p t = PL a q t ∧ 100 ≤ PL a p t
        · refine ⟨fun _ => ?_, fun hx => absurd (Or.inl c1) hx⟩
          simp (disch := omega) only [lt__e, bnd_e, bnd2_e, bnd3_e, el0_l, el0_r, el1_l, el1_r, el2_l, el2_r, ↓reduceIte, not_true_eq_false, not_false_eq_true, reduceCtorEq, and_true, true_and, and_false, false_and, or_true, true_or, or_false, false_or, and_self, or_self, ite_true, ite_false, Int.cast_ofNat_Int, Nat.reduceEqDiff, Nat.reduceLT, Int.reduceAdd, Int.reduceSub, Int.reduceMul, Int.reduceNeg, Int.reduceLT, Int.reduceLE, Int.reduceEq, ilt_t, ilt_f, ile_t, ile_f, ieq_t, ieq_f, z_0, z_1, z_2, z_3, z_4, z_5, z_6, z_7, z_8, z_9, z_10, z_12, z_20, z_40, z_80, z_81, z_99, z_100, z_200, z_400, z_3240, z_20000, z_100000, iz_add, iz_sub, iz_mul, iz_neg, iz_nat, iz_lt, iz_le, iz_eq, iz_div, iz_ite, iz_c, md10, md100, izcb_0, izcb_1, isOut_0, isNoCell_0, isGr_0, np_p, VV_r, VV_n, V_k, W_k, V_0, W_0, V_1, W_1, V_2, W_2, V_3, W_3, V_4, W_4, V_5, W_5, V_6, W_6, V_7, W_7, V_8, W_8, V_9, W_9, h.r0_0, h.r0_1, h.r0_2, h.r0_3, h.r0_4, h.r0_5, h.r1_0, h.r1_1, h.r1_2, h.r1_3, h.r12, rf_0 h, rf_1 h, rf_10 h, rf_11 h, rf_12 h, r6_i h, r6_o h, r7_i h, r7_o h, r8_i h, r8_o h, rl_13 h, ra_13 h, rl_2 h, ra_2 h, rl_3 h, ra_3 h, rl_4 h, ra_4 h, rl_5 h, ra_5 h, rl_6 h, ra_6 h, rl_7 h, ra_7 h, rl_8 h, ra_8 h, rl_9 h, ra_9 h, up_e, c_placeWhen h h1 h2 hp', c_placeWhen h h3 h4 hq', same_0, c1]
        · by_cases c2 : PL a p t = PL a q (t + 1) ∧ 100 ≤ PL a p t
          · refine ⟨fun _ => ?_, fun hx => absurd (Or.inr (Or.inl c2)) hx⟩
            simp (disch := omega) only [lt__e, bnd_e, bnd2_e, bnd3_e, el0_l, el0_r, el1_l, el1_r, el2_l, el2_r, ↓reduceIte, not_true_eq_false, not_false_eq_true, reduceCtorEq, and_true, true_and, and_false, false_and, or_true, true_or, or_false, false_or, and_self, or_self, ite_true, ite_false, Int.cast_ofNat_Int, Nat.reduceEqDiff, Nat.reduceLT, Int.reduceAdd, Int.reduceSub, Int.reduceMul, Int.reduceNeg, Int.reduceLT, Int.reduceLE, Int.reduceEq, ilt_t, ilt_f, ile_t, ile_f, ieq_t, ieq_f, z_0, z_1, z_2, z_3, z_4, z_5, z_6, z_7, z_8, z_9, z_10, z_12, z_20, z_40, z_80, z_81, z_99, z_100, z_200, z_400, z_3240, z_20000, z_100000, iz_add, iz_sub, iz_mul, iz_neg, iz_nat, iz_lt, iz_le, iz_eq, iz_div, iz_ite, iz_c, md10, md100, izcb_0, izcb_1, isOut_0, isNoCell_0, isGr_0, np_p, VV_r, VV_n, V_k, W_k, V_0, W_0, V_1, W_1, V_2, W_2, V_3, W_3, V_4, W_4, V_5, W_5, V_6, W_6, V_7, W_7, V_8, W_8, V_9, W_9, h.r0_0, h.r0_1, h.r0_2, h.r0_3, h.r0_4, h.r0_5, h.r1_0, h.r1_1, h.r1_2, h.r1_3, h.r12, rf_0 h, rf_1 h, rf_10 h, rf_11 h, rf_12 h, r6_i h, r6_o h, r7_i h, r7_o h, r8_i h, r8_o h, rl_13 h, ra_13 h, rl_2 h, ra_2 h, rl_3 h, ra_3 h, rl_4 h, ra_4 h, rl_5 h, ra_5 h, rl_6 h, ra_6 h, rl_7 h, ra_7 h, rl_8 h, ra_8 h, rl_9 h, ra_9 h, up_e, c_placeWhen h h1 h2 hp', c_placeWhen h h3 h4 hq', same_0, c1, c2]
          · by_cases c3 : PL a p (t + 1) = PL a q t ∧ 100 ≤ PL a p (t + 1)
            · refine ⟨fun _ => ?_, fun hx => absurd (Or.inr (Or.inr c3)) hx⟩
              simp (disch := omega) only [lt__e, bnd_e, bnd2_e, bnd3_e, el0_l, el0_r, el1_l, el1_r, el2_l, el2_r, ↓reduceIte, not_true_eq_false, not_false_eq_true, reduceCtorEq, and_true, true_and, and_false, false_and, or_true, true_or, or_false, false_or, and_self, or_self, ite_true, ite_false, Int.cast_ofNat_Int, Nat.reduceEqDiff, Nat.reduceLT, Int.reduceAdd, Int.reduceSub, Int.reduceMul, Int.reduceNeg, Int.reduceLT, Int.reduceLE, Int.reduceEq, ilt_t, ilt_f, ile_t, ile_f, ieq_t, ieq_f, z_0, z_1, z_2, z_3, z_4, z_5, z_6, z_7, z_8, z_9, z_10, z_12, z_20, z_40, z_80, z_81, z_99, z_100, z_200, z_400, z_3240, z_20000, z_100000, iz_add, iz_sub, iz_mul, iz_neg, iz_nat, iz_lt, iz_le, iz_eq, iz_div, iz_ite, iz_c, md10, md100, izcb_0, izcb_1, isOut_0, isNoCell_0, isGr_0, np_p, VV_r, VV_n, V_k, W_k, V_0, W_0, V_1, W_1, V_2, W_2, V_3, W_3, V_4, W_4, V_5, W_5, V_6, W_6, V_7, W_7, V_8, W_8, V_9, W_9, h.r0_0, h.r0_1, h.r0_2, h.r0_3, h.r0_4, h.r0_5, h.r1_0, h.r1_1, h.r1_2, h.r1_3, h.r12, rf_0 h, rf_1 h, rf_10 h, rf_11 h, rf_12 h, r6_i h, r6_o h, r7_i h, r7_o h, r8_i h, r8_o h, rl_13 h, ra_13 h, rl_2 h, ra_2 h, rl_3 h, ra_3 h, rl_4 h, ra_4 h, rl_5 h, ra_5 h, rl_6 h, ra_6 h, rl_7 h, ra_7 h, rl_8 h, ra_8 h, rl_9 h, ra_9 h, up_e, c_placeWhen h h1 h2 hp', c_placeWhen h h3 h4 hq', same_0, c1, c2, c3]
            · refine ⟨fun hx => absurd hx (by omega), fun _ => ?_⟩
              simp (disch := omega) only [lt__e, bnd_e, bnd2_e, bnd3_e, el0_l, el0_r, el1_l, el1_r, el2_l, el2_r, ↓reduceIte, not_true_eq_false, not_false_eq_true, reduceCtorEq, and_true, true_and, and_false, false_and, or_true, true_or, or_false, false_or, and_self, or_self, ite_true, ite_false, Int.cast_ofNat_Int, Nat.reduceEqDiff, Nat.reduceLT, Int.reduceAdd, Int.reduceSub, Int.reduceMul, Int.reduceNeg, Int.reduceLT, Int.reduceLE, Int.reduceEq, ilt_t, ilt_f, ile_t, ile_f, ieq_t, ieq_f, z_0, z_1, z_2, z_3, z_4, z_5, z_6, z_7, z_8, z_9, z_10, z_12, z_20, z_40, z_80, z_81, z_99, z_100, z_200, z_400, z_3240, z_20000, z_100000, iz_add, iz_sub, iz_mul, iz_neg, iz_nat, iz_lt, iz_le, iz_eq, iz_div, iz_ite, iz_c, md10, md100, izcb_0, izcb_1, isOut_0, isNoCell_0, isGr_0, np_p, VV_r, VV_n, V_k, W_k, V_0, W_0, V_1, W_1, V_2, W_2, V_3, W_3, V_4, W_4, V_5, W_5, V_6, W_6, V_7, W_7, V_8, W_8, V_9, W_9, h.r0_0, h.r0_1, h.r0_2, h.r0_3, h.r0_4, h.r0_5, h.r1_0, h.r1_1, h.r1_2, h.r1_3, h.r12, rf_0 h, rf_1 h, rf_10 h, rf_11 h, rf_12 h, r6_i h, r6_o h, r7_i h, r7_o h, r8_i h, r8_o h, rl_13 h, ra_13 h, rl_2 h, ra_2 h, rl_3 h, ra_3 h, rl_4 h, ra_4 h, rl_5 h, ra_5 h, rl_6 h, ra_6 h, rl_7 h, ra_7 h, rl_8 h, ra_8 h, rl_9 h, ra_9 h, up_e, c_placeWhen h h1 h2 hp', c_placeWhen h h3 h4 hq', same_0, c1, c2, c3]
      · intro n'
        dsimp only [l_Sk_meetTimeByTime_29, b_Sk_meetTimeByTime_29]
        simp (disch := omega) only [lt__e, bnd_e, bnd2_e, bnd3_e, el0_l, el0_r, el1_l, el1_r, el2_l, el2_r, ↓reduceIte, not_true_eq_false, not_false_eq_true, reduceCtorEq, and_true, true_and, and_false, false_and, or_true, true_or, or_false, false_or, and_self, or_self, ite_true, ite_false, Int.cast_ofNat_Int, Nat.reduceEqDiff, Nat.reduceLT, Int.reduceAdd, Int.reduceSub, Int.reduceMul, Int.reduceNeg, Int.reduceLT, Int.reduceLE, Int.reduceEq, ilt_t, ilt_f, ile_t, ile_f, ieq_t, ieq_f, z_0, z_1, z_2, z_3, z_4, z_5, z_6, z_7, z_8, z_9, z_10, z_12, z_20, z_40, z_80, z_81, z_99, z_100, z_200, z_400, z_3240, z_20000, z_100000, iz_add, iz_sub, iz_mul, iz_neg, iz_nat, iz_lt, iz_le, iz_eq, iz_div, iz_ite, iz_c, md10, md100, izcb_0, izcb_1, isOut_0, isNoCell_0, isGr_0, np_p, VV_r, VV_n, V_k, W_k, V_0, W_0, V_1, W_1, V_2, W_2, V_3, W_3, V_4, W_4, V_5, W_5, V_6, W_6, V_7, W_7, V_8, W_8, V_9, W_9, h.r0_0, h.r0_1, h.r0_2, h.r0_3, h.r0_4, h.r0_5, h.r1_0, h.r1_1, h.r1_2, h.r1_3, h.r12, rf_0 h, rf_1 h, rf_10 h, rf_11 h, rf_12 h, r6_i h, r6_o h, r7_i h, r7_o h, r8_i h, r8_o h, rl_13 h, ra_13 h, rl_2 h, ra_2 h, rl_3 h, ra_3 h, rl_4 h, ra_4 h, rl_5 h, ra_5 h, rl_6 h, ra_6 h, rl_7 h, ra_7 h, rl_8 h, ra_8 h, rl_9 h, ra_9 h, up_e]
    · rw [cb_f (by rintro ⟨t, t1, t2, -⟩; omega)]
      have : l_Sk_meetTimeByTime_29 (some (kk 12 p)) (some (kk 12 q)) (iz hi) (VV a r n) 4096 (iz lo) = some (.inr ()) := by
        show b_Sk_meetTimeByTime_29 _ _ _ _ _ _ = _
        unfold b_Sk_meetTimeByTime_29
        rw [if_pos (by rw [iz_lt (by omega) (by omega) (by omega) (by omega)]; omega)]
      rw [this]; rfl
  unfold f_Sk_meetTimeByTime
  have e := main _ _ rfl rfl
  by_cases c1 : a 12 3 p < a 12 3 q
  · by_cases c2 : a 12 3 q + a 12 4 q < a 12 3 p + a 12 4 p
    · rw [if_pos c1, if_pos c2] at e
      simp (disch := omega) only [lt__e, bnd_e, bnd2_e, bnd3_e, el0_l, el0_r, el1_l, el1_r, el2_l, el2_r, ↓reduceIte, not_true_eq_false, not_false_eq_true, reduceCtorEq, and_true, true_and, and_false, false_and, or_true, true_or, or_false, false_or, and_self, or_self, ite_true, ite_false, Int.cast_ofNat_Int, Nat.reduceEqDiff, Nat.reduceLT, Int.reduceAdd, Int.reduceSub, Int.reduceMul, Int.reduceNeg, Int.reduceLT, Int.reduceLE, Int.reduceEq, ilt_t, ilt_f, ile_t, ile_f, ieq_t, ieq_f, z_0, z_1, z_2, z_3, z_4, z_5, z_6, z_7, z_8, z_9, z_10, z_12, z_20, z_40, z_80, z_81, z_99, z_100, z_200, z_400, z_3240, z_20000, z_100000, iz_add, iz_sub, iz_mul, iz_neg, iz_nat, iz_lt, iz_le, iz_eq, iz_div, iz_ite, iz_c, md10, md100, izcb_0, izcb_1, isOut_0, isNoCell_0, isGr_0, np_p, VV_r, VV_n, V_k, W_k, V_0, W_0, V_1, W_1, V_2, W_2, V_3, W_3, V_4, W_4, V_5, W_5, V_6, W_6, V_7, W_7, V_8, W_8, V_9, W_9, h.r0_0, h.r0_1, h.r0_2, h.r0_3, h.r0_4, h.r0_5, h.r1_0, h.r1_1, h.r1_2, h.r1_3, h.r12, rf_0 h, rf_1 h, rf_10 h, rf_11 h, rf_12 h, r6_i h, r6_o h, r7_i h, r7_o h, r8_i h, r8_o h, rl_13 h, ra_13 h, rl_2 h, ra_2 h, rl_3 h, ra_3 h, rl_4 h, ra_4 h, rl_5 h, ra_5 h, rl_6 h, ra_6 h, rl_7 h, ra_7 h, rl_8 h, ra_8 h, rl_9 h, ra_9 h, up_e, c_end h, e]
    · rw [if_pos c1, if_neg c2] at e
      simp (disch := omega) only [lt__e, bnd_e, bnd2_e, bnd3_e, el0_l, el0_r, el1_l, el1_r, el2_l, el2_r, ↓reduceIte, not_true_eq_false, not_false_eq_true, reduceCtorEq, and_true, true_and, and_false, false_and, or_true, true_or, or_false, false_or, and_self, or_self, ite_true, ite_false, Int.cast_ofNat_Int, Nat.reduceEqDiff, Nat.reduceLT, Int.reduceAdd, Int.reduceSub, Int.reduceMul, Int.reduceNeg, Int.reduceLT, Int.reduceLE, Int.reduceEq, ilt_t, ilt_f, ile_t, ile_f, ieq_t, ieq_f, z_0, z_1, z_2, z_3, z_4, z_5, z_6, z_7, z_8, z_9, z_10, z_12, z_20, z_40, z_80, z_81, z_99, z_100, z_200, z_400, z_3240, z_20000, z_100000, iz_add, iz_sub, iz_mul, iz_neg, iz_nat, iz_lt, iz_le, iz_eq, iz_div, iz_ite, iz_c, md10, md100, izcb_0, izcb_1, isOut_0, isNoCell_0, isGr_0, np_p, VV_r, VV_n, V_k, W_k, V_0, W_0, V_1, W_1, V_2, W_2, V_3, W_3, V_4, W_4, V_5, W_5, V_6, W_6, V_7, W_7, V_8, W_8, V_9, W_9, h.r0_0, h.r0_1, h.r0_2, h.r0_3, h.r0_4, h.r0_5, h.r1_0, h.r1_1, h.r1_2, h.r1_3, h.r12, rf_0 h, rf_1 h, rf_10 h, rf_11 h, rf_12 h, r6_i h, r6_o h, r7_i h, r7_o h, r8_i h, r8_o h, rl_13 h, ra_13 h, rl_2 h, ra_2 h, rl_3 h, ra_3 h, rl_4 h, ra_4 h, rl_5 h, ra_5 h, rl_6 h, ra_6 h, rl_7 h, ra_7 h, rl_8 h, ra_8 h, rl_9 h, ra_9 h, up_e, c_end h, e]
  · by_cases c2 : a 12 3 q + a 12 4 q < a 12 3 p + a 12 4 p
    · rw [if_neg c1, if_pos c2] at e
      simp (disch := omega) only [lt__e, bnd_e, bnd2_e, bnd3_e, el0_l, el0_r, el1_l, el1_r, el2_l, el2_r, ↓reduceIte, not_true_eq_false, not_false_eq_true, reduceCtorEq, and_true, true_and, and_false, false_and, or_true, true_or, or_false, false_or, and_self, or_self, ite_true, ite_false, Int.cast_ofNat_Int, Nat.reduceEqDiff, Nat.reduceLT, Int.reduceAdd, Int.reduceSub, Int.reduceMul, Int.reduceNeg, Int.reduceLT, Int.reduceLE, Int.reduceEq, ilt_t, ilt_f, ile_t, ile_f, ieq_t, ieq_f, z_0, z_1, z_2, z_3, z_4, z_5, z_6, z_7, z_8, z_9, z_10, z_12, z_20, z_40, z_80, z_81, z_99, z_100, z_200, z_400, z_3240, z_20000, z_100000, iz_add, iz_sub, iz_mul, iz_neg, iz_nat, iz_lt, iz_le, iz_eq, iz_div, iz_ite, iz_c, md10, md100, izcb_0, izcb_1, isOut_0, isNoCell_0, isGr_0, np_p, VV_r, VV_n, V_k, W_k, V_0, W_0, V_1, W_1, V_2, W_2, V_3, W_3, V_4, W_4, V_5, W_5, V_6, W_6, V_7, W_7, V_8, W_8, V_9, W_9, h.r0_0, h.r0_1, h.r0_2, h.r0_3, h.r0_4, h.r0_5, h.r1_0, h.r1_1, h.r1_2, h.r1_3, h.r12, rf_0 h, rf_1 h, rf_10 h, rf_11 h, rf_12 h, r6_i h, r6_o h, r7_i h, r7_o h, r8_i h, r8_o h, rl_13 h, ra_13 h, rl_2 h, ra_2 h, rl_3 h, ra_3 h, rl_4 h, ra_4 h, rl_5 h, ra_5 h, rl_6 h, ra_6 h, rl_7 h, ra_7 h, rl_8 h, ra_8 h, rl_9 h, ra_9 h, up_e, c_end h, e]
    · rw [if_neg c1, if_neg c2] at e
      simp (disch := omega) only [lt__e, bnd_e, bnd2_e, bnd3_e, el0_l, el0_r, el1_l, el1_r, el2_l, el2_r, ↓reduceIte, not_true_eq_false, not_false_eq_true, reduceCtorEq, and_true, true_and, and_false, false_and, or_true, true_or, or_false, false_or, and_self, or_self, ite_true, ite_false, Int.cast_ofNat_Int, Nat.reduceEqDiff, Nat.reduceLT, Int.reduceAdd, Int.reduceSub, Int.reduceMul, Int.reduceNeg, Int.reduceLT, Int.reduceLE, Int.reduceEq, ilt_t, ilt_f, ile_t, ile_f, ieq_t, ieq_f, z_0, z_1, z_2, z_3, z_4, z_5, z_6, z_7, z_8, z_9, z_10, z_12, z_20, z_40, z_80, z_81, z_99, z_100, z_200, z_400, z_3240, z_20000, z_100000, iz_add, iz_sub, iz_mul, iz_neg, iz_nat, iz_lt, iz_le, iz_eq, iz_div, iz_ite, iz_c, md10, md100, izcb_0, izcb_1, isOut_0, isNoCell_0, isGr_0, np_p, VV_r, VV_n, V_k, W_k, V_0, W_0, V_1, W_1, V_2, W_2, V_3, W_3, V_4, W_4, V_5, W_5, V_6, W_6, V_7, W_7, V_8, W_8, V_9, W_9, h.r0_0, h.r0_1, h.r0_2, h.r0_3, h.r0_4, h.r0_5, h.r1_0, h.r1_1, h.r1_2, h.r1_3, h.r12, rf_0 h, rf_1 h, rf_10 h, rf_11 h, rf_12 h, r6_i h, r6_o h, r7_i h, r7_o h, r8_i h, r8_o h, rl_13 h, ra_13 h, rl_2 h, ra_2 h, rl_3 h, ra_3 h, rl_4 h, ra_4 h, rl_5 h, ra_5 h, rl_6 h, ra_6 h, rl_7 h, ra_7 h, rl_8 h, ra_8 h, rl_9 h, ra_9 h, up_e, c_end h, e]
theorem c_waitingOfFirm (h : Sh r n nr nm np) (hP : CP a nm np) (hM : CMa a nm np) {f : Int} (hf : 0 ≤ f ∧ f ≤ 3) : f_Sk_waitingOfFirm 0 (iz f) (VV a r n) = some (iz (cnt (fun p => a 12 6 p = 0 ∧ a 11 0 (a 12 2 p) = f) np.toNat)) := by
  have hb := h.b
  unfold f_Sk_waitingOfFirm
  simp (disch := omega) only [lt__e, bnd_e, bnd2_e, bnd3_e, el0_l, el0_r, el1_l, el1_r, el2_l, el2_r, ↓reduceIte, not_true_eq_false, not_false_eq_true, reduceCtorEq, and_true, true_and, and_false, false_and, or_true, true_or, or_false, false_or, and_self, or_self, ite_true, ite_false, Int.cast_ofNat_Int, Nat.reduceEqDiff, Nat.reduceLT, Int.reduceAdd, Int.reduceSub, Int.reduceMul, Int.reduceNeg, Int.reduceLT, Int.reduceLE, Int.reduceEq, ilt_t, ilt_f, ile_t, ile_f, ieq_t, ieq_f, z_0, z_1, z_2, z_3, z_4, z_5, z_6, z_7, z_8, z_9, z_10, z_12, z_20, z_40, z_80, z_81, z_99, z_100, z_200, z_400, z_3240, z_20000, z_100000, iz_add, iz_sub, iz_mul, iz_neg, iz_nat, iz_lt, iz_le, iz_eq, iz_div, iz_ite, iz_c, md10, md100, izcb_0, izcb_1, isOut_0, isNoCell_0, isGr_0, np_p, VV_r, VV_n, V_k, W_k, V_0, W_0, V_1, W_1, V_2, W_2, V_3, W_3, V_4, W_4, V_5, W_5, V_6, W_6, V_7, W_7, V_8, W_8, V_9, W_9, h.r0_0, h.r0_1, h.r0_2, h.r0_3, h.r0_4, h.r0_5, h.r1_0, h.r1_1, h.r1_2, h.r1_3, h.r12, rf_0 h, rf_1 h, rf_10 h, rf_11 h, rf_12 h, r6_i h, r6_o h, r7_i h, r7_o h, r8_i h, r8_o h, rl_13 h, ra_13 h, rl_2 h, ra_2 h, rl_3 h, ra_3 h, rl_4 h, ra_4 h, rl_5 h, ra_5 h, rl_6 h, ra_6 h, rl_7 h, ra_7 h, rl_8 h, ra_8 h, rl_9 h, ra_9 h, up_e]
  have key := lpQ (L := fun n' i (s : Int) => l_Sk_waitingOfFirm_14 0 (iz f) (some 8) (iz 40) (VV a r n) n' (iz s) (iz i)) (hi := 40) (Q := fun i s => 0 ≤ i ∧ s = cnt (fun p => a 12 6 p = 0 ∧ a 11 0 (a 12 2 p) = f) (if i < np then i else np).toNat) (R := fun v => v = iz (cnt (fun p => a 12 6 p = 0 ∧ a 11 0 (a 12 2 p) = f) np.toNat)) ?_ ?_ 4096 0 0 (by omega) (by omega) ?_
  · obtain ⟨v, hv, rfl⟩ := key
    rw [hv]; rfl
  · rintro n' i s h3 ⟨h4, rfl⟩
    left
    dsimp only [l_Sk_waitingOfFirm_14, b_Sk_waitingOfFirm_14, j_Sk_waitingOfFirm_40, j_Sk_waitingOfFirm_53]
    by_cases q1 : i < np
    · obtain ⟨w1, w2, w3, w4, w5, w6, w7⟩ := hP i h4 q1
      have hm := hM _ w5.1 w5.2
      have ei : (if i + 1 < np then i + 1 else np) = i + 1 := by omega
      rw [if_pos q1, ei]
      have es := cnt_s (fun p => a 12 6 p = 0 ∧ a 11 0 (a 12 2 p) = f) h4
      refine ⟨_, ⟨by omega, rfl⟩, ?_⟩
      rw [es]
      by_cases q2 : a 12 6 i = 0
      · by_cases q3 : a 11 0 (a 12 2 i) = f
        · rw [cb_t ⟨q2, q3⟩]
          simp (disch := omega) only [lt__e, bnd_e, bnd2_e, bnd3_e, el0_l, el0_r, el1_l, el1_r, el2_l, el2_r, ↓reduceIte, not_true_eq_false, not_false_eq_true, reduceCtorEq, and_true, true_and, and_false, false_and, or_true, true_or, or_false, false_or, and_self, or_self, ite_true, ite_false, Int.cast_ofNat_Int, Nat.reduceEqDiff, Nat.reduceLT, Int.reduceAdd, Int.reduceSub, Int.reduceMul, Int.reduceNeg, Int.reduceLT, Int.reduceLE, Int.reduceEq, ilt_t, ilt_f, ile_t, ile_f, ieq_t, ieq_f, z_0, z_1, z_2, z_3, z_4, z_5, z_6, z_7, z_8, z_9, z_10, z_12, z_20, z_40, z_80, z_81, z_99, z_100, z_200, z_400, z_3240, z_20000, z_100000, iz_add, iz_sub, iz_mul, iz_neg, iz_nat, iz_lt, iz_le, iz_eq, iz_div, iz_ite, iz_c, md10, md100, izcb_0, izcb_1, isOut_0, isNoCell_0, isGr_0, np_p, VV_r, VV_n, V_k, W_k, V_0, W_0, V_1, W_1, V_2, W_2, V_3, W_3, V_4, W_4, V_5, W_5, V_6, W_6, V_7, W_7, V_8, W_8, V_9, W_9, h.r0_0, h.r0_1, h.r0_2, h.r0_3, h.r0_4, h.r0_5, h.r1_0, h.r1_1, h.r1_2, h.r1_3, h.r12, rf_0 h, rf_1 h, rf_10 h, rf_11 h, rf_12 h, r6_i h, r6_o h, r7_i h, r7_o h, r8_i h, r8_o h, rl_13 h, ra_13 h, rl_2 h, ra_2 h, rl_3 h, ra_3 h, rl_4 h, ra_4 h, rl_5 h, ra_5 h, rl_6 h, ra_6 h, rl_7 h, ra_7 h, rl_8 h, ra_8 h, rl_9 h, ra_9 h, up_e, c_machineOf_i h]
        · rw [cb_f (fun z => q3 z.2)]
          simp (disch := omega) only [lt__e, bnd_e, bnd2_e, bnd3_e, el0_l, el0_r, el1_l, el1_r, el2_l, el2_r, ↓reduceIte, not_true_eq_false, not_false_eq_true, reduceCtorEq, and_true, true_and, and_false, false_and, or_true, true_or, or_false, false_or, and_self, or_self, ite_true, ite_false, Int.cast_ofNat_Int, Nat.reduceEqDiff, Nat.reduceLT, Int.reduceAdd, Int.reduceSub, Int.reduceMul, Int.reduceNeg, Int.reduceLT, Int.reduceLE, Int.reduceEq, ilt_t, ilt_f, ile_t, ile_f, ieq_t, ieq_f, z_0, z_1, z_2, z_3, z_4, z_5, z_6, z_7, z_8, z_9, z_10, z_12, z_20, z_40, z_80, z_81, z_99, z_100, z_200, z_400, z_3240, z_20000, z_100000, iz_add, iz_sub, iz_mul, iz_neg, iz_nat, iz_lt, iz_le, iz_eq, iz_div, iz_ite, iz_c, md10, md100, izcb_0, izcb_1, isOut_0, isNoCell_0, isGr_0, np_p, VV_r, VV_n, V_k, W_k, V_0, W_0, V_1, W_1, V_2, W_2, V_3, W_3, V_4, W_4, V_5, W_5, V_6, W_6, V_7, W_7, V_8, W_8, V_9, W_9, h.r0_0, h.r0_1, h.r0_2, h.r0_3, h.r0_4, h.r0_5, h.r1_0, h.r1_1, h.r1_2, h.r1_3, h.r12, rf_0 h, rf_1 h, rf_10 h, rf_11 h, rf_12 h, r6_i h, r6_o h, r7_i h, r7_o h, r8_i h, r8_o h, rl_13 h, ra_13 h, rl_2 h, ra_2 h, rl_3 h, ra_3 h, rl_4 h, ra_4 h, rl_5 h, ra_5 h, rl_6 h, ra_6 h, rl_7 h, ra_7 h, rl_8 h, ra_8 h, rl_9 h, ra_9 h, up_e, c_machineOf_i h, Int.add_zero]
      · rw [cb_f (fun z => q2 z.1)]
        simp (disch := omega) only [lt__e, bnd_e, bnd2_e, bnd3_e, el0_l, el0_r, el1_l, el1_r, el2_l, el2_r, ↓reduceIte, not_true_eq_false, not_false_eq_true, reduceCtorEq, and_true, true_and, and_false, false_and, or_true, true_or, or_false, false_or, and_self, or_self, ite_true, ite_false, Int.cast_ofNat_Int, Nat.reduceEqDiff, Nat.reduceLT, Int.reduceAdd, Int.reduceSub, Int.reduceMul, Int.reduceNeg, Int.reduceLT, Int.reduceLE, Int.reduceEq, ilt_t, ilt_f, ile_t, ile_f, ieq_t, ieq_f, z_0, z_1, z_2, z_3, z_4, z_5, z_6, z_7, z_8, z_9, z_10, z_12, z_20, z_40, z_80, z_81, z_99, z_100, z_200, z_400, z_3240, z_20000, z_100000, iz_add, iz_sub, iz_mul, iz_neg, iz_nat, iz_lt, iz_le, iz_eq, iz_div, iz_ite, iz_c, md10, md100, izcb_0, izcb_1, isOut_0, isNoCell_0, isGr_0, np_p, VV_r, VV_n, V_k, W_k, V_0, W_0, V_1, W_1, V_2, W_2, V_3, W_3, V_4, W_4, V_5, W_5, V_6, W_6, V_7, W_7, V_8, W_8, V_9, W_9, h.r0_0, h.r0_1, h.r0_2, h.r0_3, h.r0_4, h.r0_5, h.r1_0, h.r1_1, h.r1_2, h.r1_3, h.r12, rf_0 h, rf_1 h, rf_10 h, rf_11 h, rf_12 h, r6_i h, r6_o h, r7_i h, r7_o h, r8_i h, r8_o h, rl_13 h, ra_13 h, rl_2 h, ra_2 h, rl_3 h, ra_3 h, rl_4 h, ra_4 h, rl_5 h, ra_5 h, rl_6 h, ra_6 h, rl_7 h, ra_7 h, rl_8 h, ra_8 h, rl_9 h, ra_9 h, up_e, Int.add_zero]
    · have ei : (if i + 1 < np then i + 1 else np) = np := by omega
      rw [if_neg q1, ei]
      refine ⟨_, ⟨by omega, rfl⟩, ?_⟩
      simp (disch := omega) only [lt__e, bnd_e, bnd2_e, bnd3_e, el0_l, el0_r, el1_l, el1_r, el2_l, el2_r, ↓reduceIte, not_true_eq_false, not_false_eq_true, reduceCtorEq, and_true, true_and, and_false, false_and, or_true, true_or, or_false, false_or, and_self, or_self, ite_true, ite_false, Int.cast_ofNat_Int, Nat.reduceEqDiff, Nat.reduceLT, Int.reduceAdd, Int.reduceSub, Int.reduceMul, Int.reduceNeg, Int.reduceLT, Int.reduceLE, Int.reduceEq, ilt_t, ilt_f, ile_t, ile_f, ieq_t, ieq_f, z_0, z_1, z_2, z_3, z_4, z_5, z_6, z_7, z_8, z_9, z_10, z_12, z_20, z_40, z_80, z_81, z_99, z_100, z_200, z_400, z_3240, z_20000, z_100000, iz_add, iz_sub, iz_mul, iz_neg, iz_nat, iz_lt, iz_le, iz_eq, iz_div, iz_ite, iz_c, md10, md100, izcb_0, izcb_1, isOut_0, isNoCell_0, isGr_0, np_p, VV_r, VV_n, V_k, W_k, V_0, W_0, V_1, W_1, V_2, W_2, V_3, W_3, V_4, W_4, V_5, W_5, V_6, W_6, V_7, W_7, V_8, W_8, V_9, W_9, h.r0_0, h.r0_1, h.r0_2, h.r0_3, h.r0_4, h.r0_5, h.r1_0, h.r1_1, h.r1_2, h.r1_3, h.r12, rf_0 h, rf_1 h, rf_10 h, rf_11 h, rf_12 h, r6_i h, r6_o h, r7_i h, r7_o h, r8_i h, r8_o h, rl_13 h, ra_13 h, rl_2 h, ra_2 h, rl_3 h, ra_3 h, rl_4 h, ra_4 h, rl_5 h, ra_5 h, rl_6 h, ra_6 h, rl_7 h, ra_7 h, rl_8 h, ra_8 h, rl_9 h, ra_9 h, up_e]
  · rintro n' s ⟨h4, rfl⟩
    refine ⟨_, ?_, rfl⟩
    dsimp only [l_Sk_waitingOfFirm_14, b_Sk_waitingOfFirm_14]
    have ei : (if 40 < np then 40 else np) = np := by omega
    rw [ei]
    simp (disch := omega) only [lt__e, bnd_e, bnd2_e, bnd3_e, el0_l, el0_r, el1_l, el1_r, el2_l, el2_r, ↓reduceIte, not_true_eq_false, not_false_eq_true, reduceCtorEq, and_true, true_and, and_false, false_and, or_true, true_or, or_false, false_or, and_self, or_self, ite_true, ite_false, Int.cast_ofNat_Int, Nat.reduceEqDiff, Nat.reduceLT, Int.reduceAdd, Int.reduceSub, Int.reduceMul, Int.reduceNeg, Int.reduceLT, Int.reduceLE, Int.reduceEq, ilt_t, ilt_f, ile_t, ile_f, ieq_t, ieq_f, z_0, z_1, z_2, z_3, z_4, z_5, z_6, z_7, z_8, z_9, z_10, z_12, z_20, z_40, z_80, z_81, z_99, z_100, z_200, z_400, z_3240, z_20000, z_100000, iz_add, iz_sub, iz_mul, iz_neg, iz_nat, iz_lt, iz_le, iz_eq, iz_div, iz_ite, iz_c, md10, md100, izcb_0, izcb_1, isOut_0, isNoCell_0, isGr_0, np_p, VV_r, VV_n, V_k, W_k, V_0, W_0, V_1, W_1, V_2, W_2, V_3, W_3, V_4, W_4, V_5, W_5, V_6, W_6, V_7, W_7, V_8, W_8, V_9, W_9, h.r0_0, h.r0_1, h.r0_2, h.r0_3, h.r0_4, h.r0_5, h.r1_0, h.r1_1, h.r1_2, h.r1_3, h.r12, rf_0 h, rf_1 h, rf_10 h, rf_11 h, rf_12 h, r6_i h, r6_o h, r7_i h, r7_o h, r8_i h, r8_o h, rl_13 h, ra_13 h, rl_2 h, ra_2 h, rl_3 h, ra_3 h, rl_4 h, ra_4 h, rl_5 h, ra_5 h, rl_6 h, ra_6 h, rl_7 h, ra_7 h, rl_8 h, ra_8 h, rl_9 h, ra_9 h, up_e]
  · refine ⟨by omega, ?_⟩
    have ei : (if 0 < np then 0 else np) = 0 := by omega
    rw [ei]; rfl
theorem c_withdrawnPaths (h : Sh r n nr nm np) (hP : CP a nm np) : f_Sk_withdrawnPaths 0 (VV a r n) = some (iz (cnt (fun p => a 12 6 p = 3) np.toNat)) := by
  have hb := h.b
  unfold f_Sk_withdrawnPaths
  simp (disch := omega) only [lt__e, bnd_e, bnd2_e, bnd3_e, el0_l, el0_r, el1_l, el1_r, el2_l, el2_r, ↓reduceIte, not_true_eq_false, not_false_eq_true, reduceCtorEq, and_true, true_and, and_false, false_and, or_true, true_or, or_false, false_or, and_self, or_self, ite_true, ite_false, Int.cast_ofNat_Int, Nat.reduceEqDiff, Nat.reduceLT, Int.reduceAdd, Int.reduceSub, Int.reduceMul, Int.reduceNeg, Int.reduceLT, Int.reduceLE, Int.reduceEq, ilt_t, ilt_f, ile_t, ile_f, ieq_t, ieq_f, z_0, z_1, z_2, z_3, z_4, z_5, z_6, z_7, z_8, z_9, z_10, z_12, z_20, z_40, z_80, z_81, z_99, z_100, z_200, z_400, z_3240, z_20000, z_100000, iz_add, iz_sub, iz_mul, iz_neg, iz_nat, iz_lt, iz_le, iz_eq, iz_div, iz_ite, iz_c, md10, md100, izcb_0, izcb_1, isOut_0, isNoCell_0, isGr_0, np_p, VV_r, VV_n, V_k, W_k, V_0, W_0, V_1, W_1, V_2, W_2, V_3, W_3, V_4, W_4, V_5, W_5, V_6, W_6, V_7, W_7, V_8, W_8, V_9, W_9, h.r0_0, h.r0_1, h.r0_2, h.r0_3, h.r0_4, h.r0_5, h.r1_0, h.r1_1, h.r1_2, h.r1_3, h.r12, rf_0 h, rf_1 h, rf_10 h, rf_11 h, rf_12 h, r6_i h, r6_o h, r7_i h, r7_o h, r8_i h, r8_o h, rl_13 h, ra_13 h, rl_2 h, ra_2 h, rl_3 h, ra_3 h, rl_4 h, ra_4 h, rl_5 h, ra_5 h, rl_6 h, ra_6 h, rl_7 h, ra_7 h, rl_8 h, ra_8 h, rl_9 h, ra_9 h, up_e]
  have key := lpQ (L := fun n' i (s : Int) => l_Sk_withdrawnPaths_13 0 (some 8) (iz 40) (VV a r n) n' (iz s) (iz i)) (hi := 40) (Q := fun i s => 0 ≤ i ∧ s = cnt (fun p => a 12 6 p = 3) (if i < np then i else np).toNat) (R := fun v => v = iz (cnt (fun p => a 12 6 p = 3) np.toNat)) ?_ ?_ 4096 0 0 (by omega) (by omega) ?_
  · obtain ⟨v, hv, rfl⟩ := key
    rw [hv]; rfl
  · rintro n' i s h3 ⟨h4, rfl⟩
    left
    dsimp only [l_Sk_withdrawnPaths_13, b_Sk_withdrawnPaths_13]
    by_cases q1 : i < np
    · obtain ⟨w1, w2, w3, w4, w5, w6, w7⟩ := hP i h4 q1
      have ei : (if i + 1 < np then i + 1 else np) = i + 1 := by omega
      rw [if_pos q1, ei]
      have es := cnt_s (fun p => a 12 6 p = 3) h4
      refine ⟨_, ⟨by omega, rfl⟩, ?_⟩
      rw [es]
      by_cases q2 : a 12 6 i = 3
      · rw [cb_t q2]
        simp (disch := omega) only [lt__e, bnd_e, bnd2_e, bnd3_e, el0_l, el0_r, el1_l, el1_r, el2_l, el2_r, ↓reduceIte, not_true_eq_false, not_false_eq_true, reduceCtorEq, and_true, true_and, and_false, false_and, or_true, true_or, or_false, false_or, and_self, or_self, ite_true, ite_false, Int.cast_ofNat_Int, Nat.reduceEqDiff, Nat.reduceLT, Int.reduceAdd, Int.reduceSub, Int.reduceMul, Int.reduceNeg, Int.reduceLT, Int.reduceLE, Int.reduceEq, ilt_t, ilt_f, ile_t, ile_f, ieq_t, ieq_f, z_0, z_1, z_2, z_3, z_4, z_5, z_6, z_7, z_8, z_9, z_10, z_12, z_20, z_40, z_80, z_81, z_99, z_100, z_200, z_400, z_3240, z_20000, z_100000, iz_add, iz_sub, iz_mul, iz_neg, iz_nat, iz_lt, iz_le, iz_eq, iz_div, iz_ite, iz_c, md10, md100, izcb_0, izcb_1, isOut_0, isNoCell_0, isGr_0, np_p, VV_r, VV_n, V_k, W_k, V_0, W_0, V_1, W_1, V_2, W_2, V_3, W_3, V_4, W_4, V_5, W_5, V_6, W_6, V_7, W_7, V_8, W_8, V_9, W_9, h.r0_0, h.r0_1, h.r0_2, h.r0_3, h.r0_4, h.r0_5, h.r1_0, h.r1_1, h.r1_2, h.r1_3, h.r12, rf_0 h, rf_1 h, rf_10 h, rf_11 h, rf_12 h, r6_i h, r6_o h, r7_i h, r7_o h, r8_i h, r8_o h, rl_13 h, ra_13 h, rl_2 h, ra_2 h, rl_3 h, ra_3 h, rl_4 h, ra_4 h, rl_5 h, ra_5 h, rl_6 h, ra_6 h, rl_7 h, ra_7 h, rl_8 h, ra_8 h, rl_9 h, ra_9 h, up_e]
      · rw [cb_f q2]
        simp (disch := omega) only [lt__e, bnd_e, bnd2_e, bnd3_e, el0_l, el0_r, el1_l, el1_r, el2_l, el2_r, ↓reduceIte, not_true_eq_false, not_false_eq_true, reduceCtorEq, and_true, true_and, and_false, false_and, or_true, true_or, or_false, false_or, and_self, or_self, ite_true, ite_false, Int.cast_ofNat_Int, Nat.reduceEqDiff, Nat.reduceLT, Int.reduceAdd, Int.reduceSub, Int.reduceMul, Int.reduceNeg, Int.reduceLT, Int.reduceLE, Int.reduceEq, ilt_t, ilt_f, ile_t, ile_f, ieq_t, ieq_f, z_0, z_1, z_2, z_3, z_4, z_5, z_6, z_7, z_8, z_9, z_10, z_12, z_20, z_40, z_80, z_81, z_99, z_100, z_200, z_400, z_3240, z_20000, z_100000, iz_add, iz_sub, iz_mul, iz_neg, iz_nat, iz_lt, iz_le, iz_eq, iz_div, iz_ite, iz_c, md10, md100, izcb_0, izcb_1, isOut_0, isNoCell_0, isGr_0, np_p, VV_r, VV_n, V_k, W_k, V_0, W_0, V_1, W_1, V_2, W_2, V_3, W_3, V_4, W_4, V_5, W_5, V_6, W_6, V_7, W_7, V_8, W_8, V_9, W_9, h.r0_0, h.r0_1, h.r0_2, h.r0_3, h.r0_4, h.r0_5, h.r1_0, h.r1_1, h.r1_2, h.r1_3, h.r12, rf_0 h, rf_1 h, rf_10 h, rf_11 h, rf_12 h, r6_i h, r6_o h, r7_i h, r7_o h, r8_i h, r8_o h, rl_13 h, ra_13 h, rl_2 h, ra_2 h, rl_3 h, ra_3 h, rl_4 h, ra_4 h, rl_5 h, ra_5 h, rl_6 h, ra_6 h, rl_7 h, ra_7 h, rl_8 h, ra_8 h, rl_9 h, ra_9 h, up_e, Int.add_zero]
    · have ei : (if i + 1 < np then i + 1 else np) = np := by omega
      rw [if_neg q1, ei]
      refine ⟨_, ⟨by omega, rfl⟩, ?_⟩
      simp (disch := omega) only [lt__e, bnd_e, bnd2_e, bnd3_e, el0_l, el0_r, el1_l, el1_r, el2_l, el2_r, ↓reduceIte, not_true_eq_false, not_false_eq_true, reduceCtorEq, and_true, true_and, and_false, false_and, or_true, true_or, or_false, false_or, and_self, or_self, ite_true, ite_false, Int.cast_ofNat_Int, Nat.reduceEqDiff, Nat.reduceLT, Int.reduceAdd, Int.reduceSub, Int.reduceMul, Int.reduceNeg, Int.reduceLT, Int.reduceLE, Int.reduceEq, ilt_t, ilt_f, ile_t, ile_f, ieq_t, ieq_f, z_0, z_1, z_2, z_3, z_4, z_5, z_6, z_7, z_8, z_9, z_10, z_12, z_20, z_40, z_80, z_81, z_99, z_100, z_200, z_400, z_3240, z_20000, z_100000, iz_add, iz_sub, iz_mul, iz_neg, iz_nat, iz_lt, iz_le, iz_eq, iz_div, iz_ite, iz_c, md10, md100, izcb_0, izcb_1, isOut_0, isNoCell_0, isGr_0, np_p, VV_r, VV_n, V_k, W_k, V_0, W_0, V_1, W_1, V_2, W_2, V_3, W_3, V_4, W_4, V_5, W_5, V_6, W_6, V_7, W_7, V_8, W_8, V_9, W_9, h.r0_0, h.r0_1, h.r0_2, h.r0_3, h.r0_4, h.r0_5, h.r1_0, h.r1_1, h.r1_2, h.r1_3, h.r12, rf_0 h, rf_1 h, rf_10 h, rf_11 h, rf_12 h, r6_i h, r6_o h, r7_i h, r7_o h, r8_i h, r8_o h, rl_13 h, ra_13 h, rl_2 h, ra_2 h, rl_3 h, ra_3 h, rl_4 h, ra_4 h, rl_5 h, ra_5 h, rl_6 h, ra_6 h, rl_7 h, ra_7 h, rl_8 h, ra_8 h, rl_9 h, ra_9 h, up_e]
  · rintro n' s ⟨h4, rfl⟩
    refine ⟨_, ?_, rfl⟩
    dsimp only [l_Sk_withdrawnPaths_13, b_Sk_withdrawnPaths_13]
    have ei : (if 40 < np then 40 else np) = np := by omega
    rw [ei]
    simp (disch := omega) only [lt__e, bnd_e, bnd2_e, bnd3_e, el0_l, el0_r, el1_l, el1_r, el2_l, el2_r, ↓reduceIte, not_true_eq_false, not_false_eq_true, reduceCtorEq, and_true, true_and, and_false, false_and, or_true, true_or, or_false, false_or, and_self, or_self, ite_true, ite_false, Int.cast_ofNat_Int, Nat.reduceEqDiff, Nat.reduceLT, Int.reduceAdd, Int.reduceSub, Int.reduceMul, Int.reduceNeg, Int.reduceLT, Int.reduceLE, Int.reduceEq, ilt_t, ilt_f, ile_t, ile_f, ieq_t, ieq_f, z_0, z_1, z_2, z_3, z_4, z_5, z_6, z_7, z_8, z_9, z_10, z_12, z_20, z_40, z_80, z_81, z_99, z_100, z_200, z_400, z_3240, z_20000, z_100000, iz_add, iz_sub, iz_mul, iz_neg, iz_nat, iz_lt, iz_le, iz_eq, iz_div, iz_ite, iz_c, md10, md100, izcb_0, izcb_1, isOut_0, isNoCell_0, isGr_0, np_p, VV_r, VV_n, V_k, W_k, V_0, W_0, V_1, W_1, V_2, W_2, V_3, W_3, V_4, W_4, V_5, W_5, V_6, W_6, V_7, W_7, V_8, W_8, V_9, W_9, h.r0_0, h.r0_1, h.r0_2, h.r0_3, h.r0_4, h.r0_5, h.r1_0, h.r1_1, h.r1_2, h.r1_3, h.r12, rf_0 h, rf_1 h, rf_10 h, rf_11 h, rf_12 h, r6_i h, r6_o h, r7_i h, r7_o h, r8_i h, r8_o h, rl_13 h, ra_13 h, rl_2 h, ra_2 h, rl_3 h, ra_3 h, rl_4 h, ra_4 h, rl_5 h, ra_5 h, rl_6 h, ra_6 h, rl_7 h, ra_7 h, rl_8 h, ra_8 h, rl_9 h, ra_9 h, up_e]
  · refine ⟨by omega, ?_⟩
    have ei : (if 0 < np then 0 else np) = 0 := by omega
    rw [ei]; rfl
theorem c_machinesDown (h : Sh r n nr nm np) (hM : CMa a nm np) : f_Sk_machinesDown 0 (VV a r n) = some (iz (cnt (fun p => a 11 4 p = 3) nm.toNat)) := by
  have hb := h.b
  unfold f_Sk_machinesDown
  simp (disch := omega) only [lt__e, bnd_e, bnd2_e, bnd3_e, el0_l, el0_r, el1_l, el1_r, el2_l, el2_r, ↓reduceIte, not_true_eq_false, not_false_eq_true, reduceCtorEq, and_true, true_and, and_false, false_and, or_true, true_or, or_false, false_or, and_self, or_self, ite_true, ite_false, Int.cast_ofNat_Int, Nat.reduceEqDiff, Nat.reduceLT, Int.reduceAdd, Int.reduceSub, Int.reduceMul, Int.reduceNeg, Int.reduceLT, Int.reduceLE, Int.reduceEq, ilt_t, ilt_f, ile_t, ile_f, ieq_t, ieq_f, z_0, z_1, z_2, z_3, z_4, z_5, z_6, z_7, z_8, z_9, z_10, z_12, z_20, z_40, z_80, z_81, z_99, z_100, z_200, z_400, z_3240, z_20000, z_100000, iz_add, iz_sub, iz_mul, iz_neg, iz_nat, iz_lt, iz_le, iz_eq, iz_div, iz_ite, iz_c, md10, md100, izcb_0, izcb_1, isOut_0, isNoCell_0, isGr_0, np_p, VV_r, VV_n, V_k, W_k, V_0, W_0, V_1, W_1, V_2, W_2, V_3, W_3, V_4, W_4, V_5, W_5, V_6, W_6, V_7, W_7, V_8, W_8, V_9, W_9, h.r0_0, h.r0_1, h.r0_2, h.r0_3, h.r0_4, h.r0_5, h.r1_0, h.r1_1, h.r1_2, h.r1_3, h.r12, rf_0 h, rf_1 h, rf_10 h, rf_11 h, rf_12 h, r6_i h, r6_o h, r7_i h, r7_o h, r8_i h, r8_o h, rl_13 h, ra_13 h, rl_2 h, ra_2 h, rl_3 h, ra_3 h, rl_4 h, ra_4 h, rl_5 h, ra_5 h, rl_6 h, ra_6 h, rl_7 h, ra_7 h, rl_8 h, ra_8 h, rl_9 h, ra_9 h, up_e]
  have key := lpQ (L := fun n' i (s : Int) => l_Sk_machinesDown_13 0 (some 7) (iz 10) (VV a r n) n' (iz s) (iz i)) (hi := 10) (Q := fun i s => 0 ≤ i ∧ s = cnt (fun p => a 11 4 p = 3) (if i < nm then i else nm).toNat) (R := fun v => v = iz (cnt (fun p => a 11 4 p = 3) nm.toNat)) ?_ ?_ 4096 0 0 (by omega) (by omega) ?_
  · obtain ⟨v, hv, rfl⟩ := key
    rw [hv]; rfl
  · rintro n' i s h3 ⟨h4, rfl⟩
    left
    dsimp only [l_Sk_machinesDown_13, b_Sk_machinesDown_13]
    by_cases q1 : i < nm
    · obtain ⟨w1, w2, w3, w4, w5, w6, w7⟩ := hM i h4 q1
      have ei : (if i + 1 < nm then i + 1 else nm) = i + 1 := by omega
      rw [if_pos q1, ei]
      have es := cnt_s (fun p => a 11 4 p = 3) h4
      refine ⟨_, ⟨by omega, rfl⟩, ?_⟩
      rw [es]
      by_cases q2 : a 11 4 i = 3
      · rw [cb_t q2]
        simp (disch := omega) only [lt__e, bnd_e, bnd2_e, bnd3_e, el0_l, el0_r, el1_l, el1_r, el2_l, el2_r, ↓reduceIte, not_true_eq_false, not_false_eq_true, reduceCtorEq, and_true, true_and, and_false, false_and, or_true, true_or, or_false, false_or, and_self, or_self, ite_true, ite_false, Int.cast_ofNat_Int, Nat.reduceEqDiff, Nat.reduceLT, Int.reduceAdd, Int.reduceSub, Int.reduceMul, Int.reduceNeg, Int.reduceLT, Int.reduceLE, Int.reduceEq, ilt_t, ilt_f, ile_t, ile_f, ieq_t, ieq_f, z_0, z_1, z_2, z_3, z_4, z_5, z_6, z_7, z_8, z_9, z_10, z_12, z_20, z_40, z_80, z_81, z_99, z_100, z_200, z_400, z_3240, z_20000, z_100000, iz_add, iz_sub, iz_mul, iz_neg, iz_nat, iz_lt, iz_le, iz_eq, iz_div, iz_ite, iz_c, md10, md100, izcb_0, izcb_1, isOut_0, isNoCell_0, isGr_0, np_p, VV_r, VV_n, V_k, W_k, V_0, W_0, V_1, W_1, V_2, W_2, V_3, W_3, V_4, W_4, V_5, W_5, V_6, W_6, V_7, W_7, V_8, W_8, V_9, W_9, h.r0_0, h.r0_1, h.r0_2, h.r0_3, h.r0_4, h.r0_5, h.r1_0, h.r1_1, h.r1_2, h.r1_3, h.r12, rf_0 h, rf_1 h, rf_10 h, rf_11 h, rf_12 h, r6_i h, r6_o h, r7_i h, r7_o h, r8_i h, r8_o h, rl_13 h, ra_13 h, rl_2 h, ra_2 h, rl_3 h, ra_3 h, rl_4 h, ra_4 h, rl_5 h, ra_5 h, rl_6 h, ra_6 h, rl_7 h, ra_7 h, rl_8 h, ra_8 h, rl_9 h, ra_9 h, up_e]
      · rw [cb_f q2]
        simp (disch := omega) only [lt__e, bnd_e, bnd2_e, bnd3_e, el0_l, el0_r, el1_l, el1_r, el2_l, el2_r, ↓reduceIte, not_true_eq_false, not_false_eq_true, reduceCtorEq, and_true, true_and, and_false, false_and, or_true, true_or, or_false, false_or, and_self, or_self, ite_true, ite_false, Int.cast_ofNat_Int, Nat.reduceEqDiff, Nat.reduceLT, Int.reduceAdd, Int.reduceSub, Int.reduceMul, Int.reduceNeg, Int.reduceLT, Int.reduceLE, Int.reduceEq, ilt_t, ilt_f, ile_t, ile_f, ieq_t, ieq_f, z_0, z_1, z_2, z_3, z_4, z_5, z_6, z_7, z_8, z_9, z_10, z_12, z_20, z_40, z_80, z_81, z_99, z_100, z_200, z_400, z_3240, z_20000, z_100000, iz_add, iz_sub, iz_mul, iz_neg, iz_nat, iz_lt, iz_le, iz_eq, iz_div, iz_ite, iz_c, md10, md100, izcb_0, izcb_1, isOut_0, isNoCell_0, isGr_0, np_p, VV_r, VV_n, V_k, W_k, V_0, W_0, V_1, W_1, V_2, W_2, V_3, W_3, V_4, W_4, V_5, W_5, V_6, W_6, V_7, W_7, V_8, W_8, V_9, W_9, h.r0_0, h.r0_1, h.r0_2, h.r0_3, h.r0_4, h.r0_5, h.r1_0, h.r1_1, h.r1_2, h.r1_3, h.r12, rf_0 h, rf_1 h, rf_10 h, rf_11 h, rf_12 h, r6_i h, r6_o h, r7_i h, r7_o h, r8_i h, r8_o h, rl_13 h, ra_13 h, rl_2 h, ra_2 h, rl_3 h, ra_3 h, rl_4 h, ra_4 h, rl_5 h, ra_5 h, rl_6 h, ra_6 h, rl_7 h, ra_7 h, rl_8 h, ra_8 h, rl_9 h, ra_9 h, up_e, Int.add_zero]
    · have ei : (if i + 1 < nm then i + 1 else nm) = nm := by omega
      rw [if_neg q1, ei]
      refine ⟨_, ⟨by omega, rfl⟩, ?_⟩
      simp (disch := omega) only [lt__e, bnd_e, bnd2_e, bnd3_e, el0_l, el0_r, el1_l, el1_r, el2_l, el2_r, ↓reduceIte, not_true_eq_false, not_false_eq_true, reduceCtorEq, and_true, true_and, and_false, false_and, or_true, true_or, or_false, false_or, and_self, or_self, ite_true, ite_false, Int.cast_ofNat_Int, Nat.reduceEqDiff, Nat.reduceLT, Int.reduceAdd, Int.reduceSub, Int.reduceMul, Int.reduceNeg, Int.reduceLT, Int.reduceLE, Int.reduceEq, ilt_t, ilt_f, ile_t, ile_f, ieq_t, ieq_f, z_0, z_1, z_2, z_3, z_4, z_5, z_6, z_7, z_8, z_9, z_10, z_12, z_20, z_40, z_80, z_81, z_99, z_100, z_200, z_400, z_3240, z_20000, z_100000, iz_add, iz_sub, iz_mul, iz_neg, iz_nat, iz_lt, iz_le, iz_eq, iz_div, iz_ite, iz_c, md10, md100, izcb_0, izcb_1, isOut_0, isNoCell_0, isGr_0, np_p, VV_r, VV_n, V_k, W_k, V_0, W_0, V_1, W_1, V_2, W_2, V_3, W_3, V_4, W_4, V_5, W_5, V_6, W_6, V_7, W_7, V_8, W_8, V_9, W_9, h.r0_0, h.r0_1, h.r0_2, h.r0_3, h.r0_4, h.r0_5, h.r1_0, h.r1_1, h.r1_2, h.r1_3, h.r12, rf_0 h, rf_1 h, rf_10 h, rf_11 h, rf_12 h, r6_i h, r6_o h, r7_i h, r7_o h, r8_i h, r8_o h, rl_13 h, ra_13 h, rl_2 h, ra_2 h, rl_3 h, ra_3 h, rl_4 h, ra_4 h, rl_5 h, ra_5 h, rl_6 h, ra_6 h, rl_7 h, ra_7 h, rl_8 h, ra_8 h, rl_9 h, ra_9 h, up_e]
  · rintro n' s ⟨h4, rfl⟩
    refine ⟨_, ?_, rfl⟩
    dsimp only [l_Sk_machinesDown_13, b_Sk_machinesDown_13]
    have ei : (if 10 < nm then 10 else nm) = nm := by omega
    rw [ei]
    simp (disch := omega) only [lt__e, bnd_e, bnd2_e, bnd3_e, el0_l, el0_r, el1_l, el1_r, el2_l, el2_r, ↓reduceIte, not_true_eq_false, not_false_eq_true, reduceCtorEq, and_true, true_and, and_false, false_and, or_true, true_or, or_false, false_or, and_self, or_self, ite_true, ite_false, Int.cast_ofNat_Int, Nat.reduceEqDiff, Nat.reduceLT, Int.reduceAdd, Int.reduceSub, Int.reduceMul, Int.reduceNeg, Int.reduceLT, Int.reduceLE, Int.reduceEq, ilt_t, ilt_f, ile_t, ile_f, ieq_t, ieq_f, z_0, z_1, z_2, z_3, z_4, z_5, z_6, z_7, z_8, z_9, z_10, z_12, z_20, z_40, z_80, z_81, z_99, z_100, z_200, z_400, z_3240, z_20000, z_100000, iz_add, iz_sub, iz_mul, iz_neg, iz_nat, iz_lt, iz_le, iz_eq, iz_div, iz_ite, iz_c, md10, md100, izcb_0, izcb_1, isOut_0, isNoCell_0, isGr_0, np_p, VV_r, VV_n, V_k, W_k, V_0, W_0, V_1, W_1, V_2, W_2, V_3, W_3, V_4, W_4, V_5, W_5, V_6, W_6, V_7, W_7, V_8, W_8, V_9, W_9, h.r0_0, h.r0_1, h.r0_2, h.r0_3, h.r0_4, h.r0_5, h.r1_0, h.r1_1, h.r1_2, h.r1_3, h.r12, rf_0 h, rf_1 h, rf_10 h, rf_11 h, rf_12 h, r6_i h, r6_o h, r7_i h, r7_o h, r8_i h, r8_o h, rl_13 h, ra_13 h, rl_2 h, ra_2 h, rl_3 h, ra_3 h, rl_4 h, ra_4 h, rl_5 h, ra_5 h, rl_6 h, ra_6 h, rl_7 h, ra_7 h, rl_8 h, ra_8 h, rl_9 h, ra_9 h, up_e]
  · refine ⟨by omega, ?_⟩
    have ei : (if 0 < nm then 0 else nm) = 0 := by omega
    rw [ei]; rfl
end T8
