/-! laying the draft, the battery on the way, meeting time by time, counts -/
section T6
variable {a : AT} {r : Nat → Nat → Option Nat} {n : Nat → Nat} {nr nm np : Int}
/-- the draft has moves alone -/
def CD (a : AT) : Prop := (0 ≤ a 0 9 0 ∧ a 0 9 0 ≤ 40) ∧ ∀ k, 0 ≤ k → k < a 0 9 0 → 0 ≤ a 9 k 0 ∧ a 9 k 0 ≤ 6
theorem c_layDraft (h : Sh r n nr nm np) (hC : CC a) (hD : CD a) {st : Int} (h1 : 0 ≤ st) (h2 : st < 400) :
    ∃ A, f_Sk_layDraft 0 (iz st) (VV a r n) = some (iz (lay_ a st), VV A r n) ∧ TrO A a np ∧ (0 ≤ A 12 4 np ∧ A 12 4 np ≤ 80) ∧ (lay_ a st = -1 → Laid A a np st) := by
  obtain ⟨hd, hD⟩ := hD
  have hb := h.b
  unfold f_Sk_layDraft
  have key := lpQ (L := fun n' k (s : Int × AT) => l_Sk_layDraft_21 0 n' (iz s.1) (iz k) (VV s.2 r n)) (hi := a 0 9 0 + 1)
    (Q := fun k s => 1 ≤ k ∧ (∀ j, 1 ≤ j → j < k → ¬ wk a st j.toNat = -1) ∧ s.1 = wk a st (k - 1).toNat ∧ TrO s.2 a np ∧ s.2 12 4 np = k - 1 ∧ (∀ j, 0 ≤ j → j ≤ k - 1 → s.2 13 j np = wk a st j.toNat))
    (R := fun v => (∃ A, v = .inl (iz (bad a st), VV A r n) ∧ ¬ bad a st = -1 ∧ TrO A a np ∧ (0 ≤ A 12 4 np ∧ A 12 4 np ≤ 80)) ∨ (∃ A, v = .inr (iz (wk a st (a 0 9 0).toNat), VV A r n) ∧ bad a st = -1 ∧ TrO A a np ∧ Laid A a np st)) ?_ ?_ 4096 1 (st, up (up a 12 4 np 0) 13 0 np st) (by omega) (by omega) ?_
  · obtain ⟨v, hv, hr⟩ := key
    have e0 : up (up a 12 4 np 0) 13 0 np st 0 9 0 = a 0 9 0 := by simp only [up_e]; omega
    dsimp only at hv
    rcases hr with ⟨A, rfl, k1, k2, k3⟩ | ⟨A, rfl, k1, k2, k3⟩
    · have e : lay_ a st = bad a st := if_neg k1
      refine ⟨A, ?_, k2, k3, fun q => absurd (e ▸ q) k1⟩
      rw [e]
      simp (disch := omega) only [lt__e, bnd_e, bnd2_e, bnd3_e, el0_l, el0_r, el1_l, el1_r, el2_l, el2_r, ↓reduceIte, not_true_eq_false, not_false_eq_true, reduceCtorEq, and_true, true_and, and_false, false_and, or_true, true_or, or_false, false_or, and_self, or_self, ite_true, ite_false, Int.cast_ofNat_Int, Nat.reduceEqDiff, Nat.reduceLT, Int.reduceAdd, Int.reduceSub, Int.reduceMul, Int.reduceNeg, Int.reduceLT, Int.reduceLE, Int.reduceEq, ilt_t, ilt_f, ile_t, ile_f, ieq_t, ieq_f, z_0, z_1, z_2, z_3, z_4, z_5, z_6, z_7, z_8, z_9, z_10, z_12, z_20, z_40, z_80, z_81, z_99, z_100, z_200, z_400, z_3240, z_20000, z_100000, iz_add, iz_sub, iz_mul, iz_neg, iz_nat, iz_lt, iz_le, iz_eq, iz_div, iz_ite, iz_c, md10, md100, izcb_0, izcb_1, isOut_0, isNoCell_0, isGr_0, np_p, VV_r, VV_n, V_k, W_k, V_0, W_0, V_1, W_1, V_2, W_2, V_3, W_3, V_4, W_4, V_5, W_5, V_6, W_6, V_7, W_7, V_8, W_8, V_9, W_9, h.r0_0, h.r0_1, h.r0_2, h.r0_3, h.r0_4, h.r0_5, h.r1_0, h.r1_1, h.r1_2, h.r1_3, h.r12, rf_0 h, rf_1 h, rf_10 h, rf_11 h, rf_12 h, r6_i h, r6_o h, r7_i h, r7_o h, r8_i h, r8_o h, rl_13 h, ra_13 h, rl_2 h, ra_2 h, rl_3 h, ra_3 h, rl_4 h, ra_4 h, rl_5 h, ra_5 h, rl_6 h, ra_6 h, rl_7 h, ra_7 h, rl_8 h, ra_8 h, rl_9 h, ra_9 h, up_e, c_setPlace h, hv]
    · have e : lay_ a st = (if a 0 9 0 = 0 ∨ 100 ≤ wk a st (a 0 9 0).toNat then a 0 9 0 else -1) := if_pos k1
      have e9 : A 0 9 0 = a 0 9 0 := by rw [k2.1 0 (by omega) (by omega)]
      have hw := wk_b a h1 h2 (a 0 9 0).toNat
      refine ⟨A, ?_, k2, by rw [k3.1]; omega, fun _ => k3⟩
      rw [e]
      by_cases c0 : a 0 9 0 = 0
      · rw [if_pos (Or.inl c0)]
        simp (disch := omega) only [lt__e, bnd_e, bnd2_e, bnd3_e, el0_l, el0_r, el1_l, el1_r, el2_l, el2_r, ↓reduceIte, not_true_eq_false, not_false_eq_true, reduceCtorEq, and_true, true_and, and_false, false_and, or_true, true_or, or_false, false_or, and_self, or_self, ite_true, ite_false, Int.cast_ofNat_Int, Nat.reduceEqDiff, Nat.reduceLT, Int.reduceAdd, Int.reduceSub, Int.reduceMul, Int.reduceNeg, Int.reduceLT, Int.reduceLE, Int.reduceEq, ilt_t, ilt_f, ile_t, ile_f, ieq_t, ieq_f, z_0, z_1, z_2, z_3, z_4, z_5, z_6, z_7, z_8, z_9, z_10, z_12, z_20, z_40, z_80, z_81, z_99, z_100, z_200, z_400, z_3240, z_20000, z_100000, iz_add, iz_sub, iz_mul, iz_neg, iz_nat, iz_lt, iz_le, iz_eq, iz_div, iz_ite, iz_c, md10, md100, izcb_0, izcb_1, isOut_0, isNoCell_0, isGr_0, np_p, VV_r, VV_n, V_k, W_k, V_0, W_0, V_1, W_1, V_2, W_2, V_3, W_3, V_4, W_4, V_5, W_5, V_6, W_6, V_7, W_7, V_8, W_8, V_9, W_9, h.r0_0, h.r0_1, h.r0_2, h.r0_3, h.r0_4, h.r0_5, h.r1_0, h.r1_1, h.r1_2, h.r1_3, h.r12, rf_0 h, rf_1 h, rf_10 h, rf_11 h, rf_12 h, r6_i h, r6_o h, r7_i h, r7_o h, r8_i h, r8_o h, rl_13 h, ra_13 h, rl_2 h, ra_2 h, rl_3 h, ra_3 h, rl_4 h, ra_4 h, rl_5 h, ra_5 h, rl_6 h, ra_6 h, rl_7 h, ra_7 h, rl_8 h, ra_8 h, rl_9 h, ra_9 h, up_e, c_setPlace h, hv, e9, c0]
      · by_cases c1 : 100 ≤ wk a st (a 0 9 0).toNat
        · rw [if_pos (Or.inr c1)]
          simp (disch := omega) only [lt__e, bnd_e, bnd2_e, bnd3_e, el0_l, el0_r, el1_l, el1_r, el2_l, el2_r, ↓reduceIte, not_true_eq_false, not_false_eq_true, reduceCtorEq, and_true, true_and, and_false, false_and, or_true, true_or, or_false, false_or, and_self, or_self, ite_true, ite_false, Int.cast_ofNat_Int, Nat.reduceEqDiff, Nat.reduceLT, Int.reduceAdd, Int.reduceSub, Int.reduceMul, Int.reduceNeg, Int.reduceLT, Int.reduceLE, Int.reduceEq, ilt_t, ilt_f, ile_t, ile_f, ieq_t, ieq_f, z_0, z_1, z_2, z_3, z_4, z_5, z_6, z_7, z_8, z_9, z_10, z_12, z_20, z_40, z_80, z_81, z_99, z_100, z_200, z_400, z_3240, z_20000, z_100000, iz_add, iz_sub, iz_mul, iz_neg, iz_nat, iz_lt, iz_le, iz_eq, iz_div, iz_ite, iz_c, md10, md100, izcb_0, izcb_1, isOut_0, isNoCell_0, isGr_0, np_p, VV_r, VV_n, V_k, W_k, V_0, W_0, V_1, W_1, V_2, W_2, V_3, W_3, V_4, W_4, V_5, W_5, V_6, W_6, V_7, W_7, V_8, W_8, V_9, W_9, h.r0_0, h.r0_1, h.r0_2, h.r0_3, h.r0_4, h.r0_5, h.r1_0, h.r1_1, h.r1_2, h.r1_3, h.r12, rf_0 h, rf_1 h, rf_10 h, rf_11 h, rf_12 h, r6_i h, r6_o h, r7_i h, r7_o h, r8_i h, r8_o h, rl_13 h, ra_13 h, rl_2 h, ra_2 h, rl_3 h, ra_3 h, rl_4 h, ra_4 h, rl_5 h, ra_5 h, rl_6 h, ra_6 h, rl_7 h, ra_7 h, rl_8 h, ra_8 h, rl_9 h, ra_9 h, up_e, c_setPlace h, hv, e9]
        · rw [if_neg (by omega)]
          simp (disch := omega) only [lt__e, bnd_e, bnd2_e, bnd3_e, el0_l, el0_r, el1_l, el1_r, el2_l, el2_r, ↓reduceIte, not_true_eq_false, not_false_eq_true, reduceCtorEq, and_true, true_and, and_false, false_and, or_true, true_or, or_false, false_or, and_self, or_self, ite_true, ite_false, Int.cast_ofNat_Int, Nat.reduceEqDiff, Nat.reduceLT, Int.reduceAdd, Int.reduceSub, Int.reduceMul, Int.reduceNeg, Int.reduceLT, Int.reduceLE, Int.reduceEq, ilt_t, ilt_f, ile_t, ile_f, ieq_t, ieq_f, z_0, z_1, z_2, z_3, z_4, z_5, z_6, z_7, z_8, z_9, z_10, z_12, z_20, z_40, z_80, z_81, z_99, z_100, z_200, z_400, z_3240, z_20000, z_100000, iz_add, iz_sub, iz_mul, iz_neg, iz_nat, iz_lt, iz_le, iz_eq, iz_div, iz_ite, iz_c, md10, md100, izcb_0, izcb_1, isOut_0, isNoCell_0, isGr_0, np_p, VV_r, VV_n, V_k, W_k, V_0, W_0, V_1, W_1, V_2, W_2, V_3, W_3, V_4, W_4, V_5, W_5, V_6, W_6, V_7, W_7, V_8, W_8, V_9, W_9, h.r0_0, h.r0_1, h.r0_2, h.r0_3, h.r0_4, h.r0_5, h.r1_0, h.r1_1, h.r1_2, h.r1_3, h.r12, rf_0 h, rf_1 h, rf_10 h, rf_11 h, rf_12 h, r6_i h, r6_o h, r7_i h, r7_o h, r8_i h, r8_o h, rl_13 h, ra_13 h, rl_2 h, ra_2 h, rl_3 h, ra_3 h, rl_4 h, ra_4 h, rl_5 h, ra_5 h, rl_6 h, ra_6 h, rl_7 h, ra_7 h, rl_8 h, ra_8 h, rl_9 h, ra_9 h, up_e, c_setPlace h, hv, e9]
  · rintro n' k ⟨pl, A⟩ h3 ⟨h4, h5, h6, h7, h8, h9⟩
    dsimp only at h6 h7 h8 h9
    have e9 : A 0 9 0 = a 0 9 0 := by rw [h7.1 0 (by omega) (by omega)]
    have ed : A 9 (k - 1) 0 = a 9 (k - 1) 0 := by rw [h7.1 9 (by omega) (by omega)]
    have hk := hD (k - 1) (by omega) (by omega)
    have hw := wk_b a h1 h2 (k - 1).toNat
    have h10 : 0 ≤ pl := by
      by_cases c : k = 1
      · subst c; rw [h6]; exact h1
      · have := h5 (k - 1) (by omega) (by omega)
        rw [← h6] at this; omega
    have ew := wk_s a st (i := k - 1) (by omega)
    have ek : k - 1 + 1 = k := by omega
    rw [ek, ← h6] at ew
    have hp := pb_b pl (a 9 (k - 1) 0)
    have hf := c_isFree (a := A) h (CC_c h7.eqC hC) (q := pb pl (a 9 (k - 1) 0)) hp.1 hp.2
    rw [isFr_c h7.eqC] at hf
    rw [← h6] at hw
    by_cases c : isFr a (pb pl (a 9 (k - 1) 0))
    · left
      have en : wk a st k.toNat = pb pl (a 9 (k - 1) 0) := by rw [ew]; exact if_pos c
      refine ⟨(pb pl (a 9 (k - 1) 0), up (up A 12 4 np k) 13 k np (pb pl (a 9 (k - 1) 0))), ⟨by omega, ?_, ?_, ?_, ?_, ?_⟩, ?_⟩
      · intro j j1 j2
        by_cases e : j = k
        · subst e; rw [en]; have := c.1; omega
        · exact h5 j j1 (by omega)
      · have : k + 1 - 1 = k := by omega
        rw [this]; exact en.symm
      · obtain ⟨t1, t2, t3⟩ := h7
        refine ⟨fun t u1 u2 => ?_, fun j m u1 => ?_, fun j m u1 => ?_⟩
        · rw [← t1 t u1 u2]; funext j m; simp only [up_e]; rw [if_neg (by omega), if_neg (by omega)]
        · rw [← t2 j m u1]; simp only [up_e]; rw [if_neg (by omega), if_neg (by omega)]
        · rw [← t3 j m u1]; simp only [up_e]; rw [if_neg (by omega), if_neg (by omega)]
      · simp (disch := omega) only [up_e, lt__e, bnd_e, bnd2_e, bnd3_e, el0_l, el0_r, el1_l, el1_r, el2_l, el2_r, ↓reduceIte, not_true_eq_false, not_false_eq_true, reduceCtorEq, and_true, true_and, and_false, false_and, or_true, true_or, or_false, false_or, and_self, or_self, ite_true, ite_false, Int.cast_ofNat_Int, Nat.reduceEqDiff, Nat.reduceLT, Int.reduceAdd, Int.reduceSub, Int.reduceMul, Int.reduceNeg, Int.reduceLT, Int.reduceLE, Int.reduceEq, ilt_t, ilt_f, ile_t, ile_f, ieq_t, ieq_f]
      · intro j j1 j2
        by_cases e : j = k
        · subst e; simp (disch := omega) only [up_e, lt__e, bnd_e, bnd2_e, bnd3_e, el0_l, el0_r, el1_l, el1_r, el2_l, el2_r, ↓reduceIte, not_true_eq_false, not_false_eq_true, reduceCtorEq, and_true, true_and, and_false, false_and, or_true, true_or, or_false, false_or, and_self, or_self, ite_true, ite_false, Int.cast_ofNat_Int, Nat.reduceEqDiff, Nat.reduceLT, Int.reduceAdd, Int.reduceSub, Int.reduceMul, Int.reduceNeg, Int.reduceLT, Int.reduceLE, Int.reduceEq, ilt_t, ilt_f, ile_t, ile_f, ieq_t, ieq_f, en]
        · simp (disch := omega) only [up_e, lt__e, bnd_e, bnd2_e, bnd3_e, el0_l, el0_r, el1_l, el1_r, el2_l, el2_r, ↓reduceIte, not_true_eq_false, not_false_eq_true, reduceCtorEq, and_true, true_and, and_false, false_and, or_true, true_or, or_false, false_or, and_self, or_self, ite_true, ite_false, Int.cast_ofNat_Int, Nat.reduceEqDiff, Nat.reduceLT, Int.reduceAdd, Int.reduceSub, Int.reduceMul, Int.reduceNeg, Int.reduceLT, Int.reduceLE, Int.reduceEq, ilt_t, ilt_f, ile_t, ile_f, ieq_t, ieq_f, h9 j j1 (by omega)]
      · dsimp only [l_Sk_layDraft_21, b_Sk_layDraft_21]
        rw [cb_t c] at hf
        simp (disch := omega) only [lt__e, bnd_e, bnd2_e, bnd3_e, el0_l, el0_r, el1_l, el1_r, el2_l, el2_r, ↓reduceIte, not_true_eq_false, not_false_eq_true, reduceCtorEq, and_true, true_and, and_false, false_and, or_true, true_or, or_false, false_or, and_self, or_self, ite_true, ite_false, Int.cast_ofNat_Int, Nat.reduceEqDiff, Nat.reduceLT, Int.reduceAdd, Int.reduceSub, Int.reduceMul, Int.reduceNeg, Int.reduceLT, Int.reduceLE, Int.reduceEq, ilt_t, ilt_f, ile_t, ile_f, ieq_t, ieq_f, z_0, z_1, z_2, z_3, z_4, z_5, z_6, z_7, z_8, z_9, z_10, z_12, z_20, z_40, z_80, z_81, z_99, z_100, z_200, z_400, z_3240, z_20000, z_100000, iz_add, iz_sub, iz_mul, iz_neg, iz_nat, iz_lt, iz_le, iz_eq, iz_div, iz_ite, iz_c, md10, md100, izcb_0, izcb_1, isOut_0, isNoCell_0, isGr_0, np_p, VV_r, VV_n, V_k, W_k, V_0, W_0, V_1, W_1, V_2, W_2, V_3, W_3, V_4, W_4, V_5, W_5, V_6, W_6, V_7, W_7, V_8, W_8, V_9, W_9, h.r0_0, h.r0_1, h.r0_2, h.r0_3, h.r0_4, h.r0_5, h.r1_0, h.r1_1, h.r1_2, h.r1_3, h.r12, rf_0 h, rf_1 h, rf_10 h, rf_11 h, rf_12 h, r6_i h, r6_o h, r7_i h, r7_o h, r8_i h, r8_o h, rl_13 h, ra_13 h, rl_2 h, ra_2 h, rl_3 h, ra_3 h, rl_4 h, ra_4 h, rl_5 h, ra_5 h, rl_6 h, ra_6 h, rl_7 h, ra_7 h, rl_8 h, ra_8 h, rl_9 h, ra_9 h, up_e, e9, ed, c_placeBehind, hf, c_setPlace h]
    · right
      have en : wk a st k.toNat = -1 := by rw [ew]; exact if_neg c
      have eb : bad a st = k := fst_i h4 h3 en h5
      refine ⟨.inl (iz k, VV A r n), ?_, Or.inl ⟨A, by rw [eb], by omega, h7, by omega⟩⟩
      dsimp only [l_Sk_layDraft_21, b_Sk_layDraft_21]
      rw [cb_f c] at hf
      simp (disch := omega) only [lt__e, bnd_e, bnd2_e, bnd3_e, el0_l, el0_r, el1_l, el1_r, el2_l, el2_r, ↓reduceIte, not_true_eq_false, not_false_eq_true, reduceCtorEq, and_true, true_and, and_false, false_and, or_true, true_or, or_false, false_or, and_self, or_self, ite_true, ite_false, Int.cast_ofNat_Int, Nat.reduceEqDiff, Nat.reduceLT, Int.reduceAdd, Int.reduceSub, Int.reduceMul, Int.reduceNeg, Int.reduceLT, Int.reduceLE, Int.reduceEq, ilt_t, ilt_f, ile_t, ile_f, ieq_t, ieq_f, z_0, z_1, z_2, z_3, z_4, z_5, z_6, z_7, z_8, z_9, z_10, z_12, z_20, z_40, z_80, z_81, z_99, z_100, z_200, z_400, z_3240, z_20000, z_100000, iz_add, iz_sub, iz_mul, iz_neg, iz_nat, iz_lt, iz_le, iz_eq, iz_div, iz_ite, iz_c, md10, md100, izcb_0, izcb_1, isOut_0, isNoCell_0, isGr_0, np_p, VV_r, VV_n, V_k, W_k, V_0, W_0, V_1, W_1, V_2, W_2, V_3, W_3, V_4, W_4, V_5, W_5, V_6, W_6, V_7, W_7, V_8, W_8, V_9, W_9, h.r0_0, h.r0_1, h.r0_2, h.r0_3, h.r0_4, h.r0_5, h.r1_0, h.r1_1, h.r1_2, h.r1_3, h.r12, rf_0 h, rf_1 h, rf_10 h, rf_11 h, rf_12 h, r6_i h, r6_o h, r7_i h, r7_o h, r8_i h, r8_o h, rl_13 h, ra_13 h, rl_2 h, ra_2 h, rl_3 h, ra_3 h, rl_4 h, ra_4 h, rl_5 h, ra_5 h, rl_6 h, ra_6 h, rl_7 h, ra_7 h, rl_8 h, ra_8 h, rl_9 h, ra_9 h, up_e, e9, ed, c_placeBehind, hf]
  · rintro n' ⟨pl, A⟩ ⟨h4, h5, h6, h7, h8, h9⟩
    dsimp only at h6 h7 h8 h9
    have e9 : A 0 9 0 = a 0 9 0 := by rw [h7.1 0 (by omega) (by omega)]
    have ek : a 0 9 0 + 1 - 1 = a 0 9 0 := by omega
    rw [ek] at h6 h8 h9
    refine ⟨.inr (iz (wk a st (a 0 9 0).toNat), VV A r n), ?_, Or.inr ⟨A, rfl, fst_n h5, h7, h8, h9⟩⟩
    dsimp only [l_Sk_layDraft_21, b_Sk_layDraft_21]
    rw [h6]
    simp (disch := omega) only [lt__e, bnd_e, bnd2_e, bnd3_e, el0_l, el0_r, el1_l, el1_r, el2_l, el2_r, ↓reduceIte, not_true_eq_false, not_false_eq_true, reduceCtorEq, and_true, true_and, and_false, false_and, or_true, true_or, or_false, false_or, and_self, or_self, ite_true, ite_false, Int.cast_ofNat_Int, Nat.reduceEqDiff, Nat.reduceLT, Int.reduceAdd, Int.reduceSub, Int.reduceMul, Int.reduceNeg, Int.reduceLT, Int.reduceLE, Int.reduceEq, ilt_t, ilt_f, ile_t, ile_f, ieq_t, ieq_f, z_0, z_1, z_2, z_3, z_4, z_5, z_6, z_7, z_8, z_9, z_10, z_12, z_20, z_40, z_80, z_81, z_99, z_100, z_200, z_400, z_3240, z_20000, z_100000, iz_add, iz_sub, iz_mul, iz_neg, iz_nat, iz_lt, iz_le, iz_eq, iz_div, iz_ite, iz_c, md10, md100, izcb_0, izcb_1, isOut_0, isNoCell_0, isGr_0, np_p, VV_r, VV_n, V_k, W_k, V_0, W_0, V_1, W_1, V_2, W_2, V_3, W_3, V_4, W_4, V_5, W_5, V_6, W_6, V_7, W_7, V_8, W_8, V_9, W_9, h.r0_0, h.r0_1, h.r0_2, h.r0_3, h.r0_4, h.r0_5, h.r1_0, h.r1_1, h.r1_2, h.r1_3, h.r12, rf_0 h, rf_1 h, rf_10 h, rf_11 h, rf_12 h, r6_i h, r6_o h, r7_i h, r7_o h, r8_i h, r8_o h, rl_13 h, ra_13 h, rl_2 h, ra_2 h, rl_3 h, ra_3 h, rl_4 h, ra_4 h, rl_5 h, ra_5 h, rl_6 h, ra_6 h, rl_7 h, ra_7 h, rl_8 h, ra_8 h, rl_9 h, ra_9 h, up_e, e9]
  · refine ⟨by omega, fun j j1 j2 => by omega, rfl, ⟨fun t u1 u2 => ?_, fun j m u1 => ?_, fun j m u1 => ?_⟩, ?_, fun j j1 j2 => ?_⟩
    · funext j m; simp only [up_e]; rw [if_neg (by omega), if_neg (by omega)]
    · simp only [up_e]; rw [if_neg (by omega), if_neg (by omega)]
    · simp only [up_e]; rw [if_neg (by omega), if_neg (by omega)]
    · simp (disch := omega) only [up_e, lt__e, bnd_e, bnd2_e, bnd3_e, el0_l, el0_r, el1_l, el1_r, el2_l, el2_r, ↓reduceIte, not_true_eq_false, not_false_eq_true, reduceCtorEq, and_true, true_and, and_false, false_and, or_true, true_or, or_false, false_or, and_self, or_self, ite_true, ite_false, Int.cast_ofNat_Int, Nat.reduceEqDiff, Nat.reduceLT, Int.reduceAdd, Int.reduceSub, Int.reduceMul, Int.reduceNeg, Int.reduceLT, Int.reduceLE, Int.reduceEq, ilt_t, ilt_f, ile_t, ile_f, ieq_t, ieq_f]
    · have : j = 0 := by omega
      subst this
      simp (disch := omega) only [up_e, lt__e, bnd_e, bnd2_e, bnd3_e, el0_l, el0_r, el1_l, el1_r, el2_l, el2_r, ↓reduceIte, not_true_eq_false, not_false_eq_true, reduceCtorEq, and_true, true_and, and_false, false_and, or_true, true_or, or_false, false_or, and_self, or_self, ite_true, ite_false, Int.cast_ofNat_Int, Nat.reduceEqDiff, Nat.reduceLT, Int.reduceAdd, Int.reduceSub, Int.reduceMul, Int.reduceNeg, Int.reduceLT, Int.reduceLE, Int.reduceEq, ilt_t, ilt_f, ile_t, ile_f, ieq_t, ieq_f]
      rfl
theorem c_placeTooLow (h : Sh r n nr nm np) (hC : CC a) (h0 : 0 < a 1 4 0) {p k l : Int} (h1 : 0 ≤ p) (h2 : p ≤ np) (hw : PW a p) (h3 : 0 ≤ k) (h4 : k ≤ a 12 4 p) (h5 : -1000 ≤ l) (h6 : l ≤ 1000) :
    f_Sk_placeTooLow 0 (some (kk 12 p)) (iz k) (iz l) (VV a r n) = some (iz (fst_ (k + 1) (a 12 4 p + 1) (low a p k l))) := by
  have hb := h.b
  obtain ⟨hb1, hl, hpl⟩ := hw
  unfold f_Sk_placeTooLow
  have key := lpQ (L := fun n' i (s : Int) => l_Sk_placeTooLow_8 0 (some (kk 12 p)) (VV a r n) n' (iz s) (iz i)) (hi := a 12 4 p + 1)
    (Q := fun i s => k + 1 ≤ i ∧ s = l - (sm (pc a p) (i - 1).toNat - sm (pc a p) k.toNat) ∧ (l - 7 * (i - 1 - k) ≤ s ∧ s ≤ l) ∧ ∀ j, k + 1 ≤ j → j < i → ¬ low a p k l j)
    (R := fun v => (∃ i, v = .inl (iz i) ∧ fst_ (k + 1) (a 12 4 p + 1) (low a p k l) = i) ∨ (v = .inr () ∧ fst_ (k + 1) (a 12 4 p + 1) (low a p k l) = -1)) ?_ ?_ 4096 (k + 1) l (by omega) (by omega) ?_
  · obtain ⟨v, hv, hr⟩ := key
    rcases hr with ⟨i, rfl, k1⟩ | ⟨rfl, k1⟩
    · simp (disch := omega) only [lt__e, bnd_e, bnd2_e, bnd3_e, el0_l, el0_r, el1_l, el1_r, el2_l, el2_r, ↓reduceIte, not_true_eq_false, not_false_eq_true, reduceCtorEq, and_true, true_and, and_false, false_and, or_true, true_or, or_false, false_or, and_self, or_self, ite_true, ite_false, Int.cast_ofNat_Int, Nat.reduceEqDiff, Nat.reduceLT, Int.reduceAdd, Int.reduceSub, Int.reduceMul, Int.reduceNeg, Int.reduceLT, Int.reduceLE, Int.reduceEq, ilt_t, ilt_f, ile_t, ile_f, ieq_t, ieq_f, z_0, z_1, z_2, z_3, z_4, z_5, z_6, z_7, z_8, z_9, z_10, z_12, z_20, z_40, z_80, z_81, z_99, z_100, z_200, z_400, z_3240, z_20000, z_100000, iz_add, iz_sub, iz_mul, iz_neg, iz_nat, iz_lt, iz_le, iz_eq, iz_div, iz_ite, iz_c, md10, md100, izcb_0, izcb_1, isOut_0, isNoCell_0, isGr_0, np_p, hv, k1]
    · simp (disch := omega) only [lt__e, bnd_e, bnd2_e, bnd3_e, el0_l, el0_r, el1_l, el1_r, el2_l, el2_r, ↓reduceIte, not_true_eq_false, not_false_eq_true, reduceCtorEq, and_true, true_and, and_false, false_and, or_true, true_or, or_false, false_or, and_self, or_self, ite_true, ite_false, Int.cast_ofNat_Int, Nat.reduceEqDiff, Nat.reduceLT, Int.reduceAdd, Int.reduceSub, Int.reduceMul, Int.reduceNeg, Int.reduceLT, Int.reduceLE, Int.reduceEq, ilt_t, ilt_f, ile_t, ile_f, ieq_t, ieq_f, z_0, z_1, z_2, z_3, z_4, z_5, z_6, z_7, z_8, z_9, z_10, z_12, z_20, z_40, z_80, z_81, z_99, z_100, z_200, z_400, z_3240, z_20000, z_100000, iz_add, iz_sub, iz_mul, iz_neg, iz_nat, iz_lt, iz_le, iz_eq, iz_div, iz_ite, iz_c, md10, md100, izcb_0, izcb_1, isOut_0, isNoCell_0, isGr_0, np_p, hv, k1]
  · rintro n' i s h7 ⟨h8, h9, h10, h11⟩
    have b1 := hpl (i - 1) (by omega) (by omega)
    have b2 := hpl i (by omega) (by omega)
    have e1 : PO a p (i - 1) = a 13 (i - 1) p := PO_in (by omega) (by omega)
    have e2 : PO a p i = a 13 i p := PO_in (by omega) (by omega)
    have hc := cost_b hC (t := 4) (Or.inl rfl) (p := a 13 (i - 1) p) (q := a 13 i p) (by omega) (by omega)
    have es := sm_s (pc a p) (i := i - 1) (by omega)
    have ei : i - 1 + 1 = i := by omega
    rw [ei] at es
    have ep : pc a p (i - 1) = cost a 4 (a 13 (i - 1) p) (a 13 i p) := by unfold pc; rw [ei]
    rw [ep] at es
    have hlow : low a p k l i ↔ s - cost a 4 (a 13 (i - 1) p) (a 13 i p) < need a (a 13 i p) := by
      unfold low; rw [es]
      constructor <;> intro q <;> omega
    have ht := c_taken (a := a) h hC (t := 4) (Or.inl rfl) (p := a 13 (i - 1) p) (q := a 13 i p) (by omega) (by omega) (by omega) (by omega)
    dsimp only [l_Sk_placeTooLow_8, b_Sk_placeTooLow_8, j_Sk_placeTooLow_81]
    by_cases c : 100 ≤ a 13 i p
    · obtain ⟨-, hN⟩ := c_nearestSpot h hC (c := a 13 i p % 100) (by omega) (by omega)
      have hn := near_b hC h0 hN
      have hd := dst_b (c := a 13 i p % 100) (d := near a (a 13 i p % 100)) (by omega) (by omega) hn.1 hn.2
      have en : need a (a 13 i p) = dst (a 13 i p % 100) (near a (a 13 i p % 100)) + 10 := if_neg (by omega)
      rw [en] at hlow
      have hh := c_wayHome h hC (c := a 13 i p % 100) (by omega) (by omega)
      rw [if_neg (by omega)] at hh
      by_cases d : low a p k l i
      · right
        have d' := hlow.1 d
        refine ⟨.inl (iz i), ?_, Or.inl ⟨i, rfl, fst_i h8 h7 d h11⟩⟩
        simp (disch := omega) only [lt__e, bnd_e, bnd2_e, bnd3_e, el0_l, el0_r, el1_l, el1_r, el2_l, el2_r, ↓reduceIte, not_true_eq_false, not_false_eq_true, reduceCtorEq, and_true, true_and, and_false, false_and, or_true, true_or, or_false, false_or, and_self, or_self, ite_true, ite_false, Int.cast_ofNat_Int, Nat.reduceEqDiff, Nat.reduceLT, Int.reduceAdd, Int.reduceSub, Int.reduceMul, Int.reduceNeg, Int.reduceLT, Int.reduceLE, Int.reduceEq, ilt_t, ilt_f, ile_t, ile_f, ieq_t, ieq_f, z_0, z_1, z_2, z_3, z_4, z_5, z_6, z_7, z_8, z_9, z_10, z_12, z_20, z_40, z_80, z_81, z_99, z_100, z_200, z_400, z_3240, z_20000, z_100000, iz_add, iz_sub, iz_mul, iz_neg, iz_nat, iz_lt, iz_le, iz_eq, iz_div, iz_ite, iz_c, md10, md100, izcb_0, izcb_1, isOut_0, isNoCell_0, isGr_0, np_p, VV_r, VV_n, V_k, W_k, V_0, W_0, V_1, W_1, V_2, W_2, V_3, W_3, V_4, W_4, V_5, W_5, V_6, W_6, V_7, W_7, V_8, W_8, V_9, W_9, h.r0_0, h.r0_1, h.r0_2, h.r0_3, h.r0_4, h.r0_5, h.r1_0, h.r1_1, h.r1_2, h.r1_3, h.r12, rf_0 h, rf_1 h, rf_10 h, rf_11 h, rf_12 h, r6_i h, r6_o h, r7_i h, r7_o h, r8_i h, r8_o h, rl_13 h, ra_13 h, rl_2 h, ra_2 h, rl_3 h, ra_3 h, rl_4 h, ra_4 h, rl_5 h, ra_5 h, rl_6 h, ra_6 h, rl_7 h, ra_7 h, rl_8 h, ra_8 h, rl_9 h, ra_9 h, up_e, c_placeOf h, e1, e2, ht, hh]
      · left
        have d' := (not_congr hlow).1 d
        refine ⟨s - cost a 4 (a 13 (i - 1) p) (a 13 i p), ⟨by omega, ?_, ?_, fun j j1 j2 => ?_⟩, ?_⟩
        rotate_left 3
        · simp (disch := omega) only [lt__e, bnd_e, bnd2_e, bnd3_e, el0_l, el0_r, el1_l, el1_r, el2_l, el2_r, ↓reduceIte, not_true_eq_false, not_false_eq_true, reduceCtorEq, and_true, true_and, and_false, false_and, or_true, true_or, or_false, false_or, and_self, or_self, ite_true, ite_false, Int.cast_ofNat_Int, Nat.reduceEqDiff, Nat.reduceLT, Int.reduceAdd, Int.reduceSub, Int.reduceMul, Int.reduceNeg, Int.reduceLT, Int.reduceLE, Int.reduceEq, ilt_t, ilt_f, ile_t, ile_f, ieq_t, ieq_f, z_0, z_1, z_2, z_3, z_4, z_5, z_6, z_7, z_8, z_9, z_10, z_12, z_20, z_40, z_80, z_81, z_99, z_100, z_200, z_400, z_3240, z_20000, z_100000, iz_add, iz_sub, iz_mul, iz_neg, iz_nat, iz_lt, iz_le, iz_eq, iz_div, iz_ite, iz_c, md10, md100, izcb_0, izcb_1, isOut_0, isNoCell_0, isGr_0, np_p, VV_r, VV_n, V_k, W_k, V_0, W_0, V_1, W_1, V_2, W_2, V_3, W_3, V_4, W_4, V_5, W_5, V_6, W_6, V_7, W_7, V_8, W_8, V_9, W_9, h.r0_0, h.r0_1, h.r0_2, h.r0_3, h.r0_4, h.r0_5, h.r1_0, h.r1_1, h.r1_2, h.r1_3, h.r12, rf_0 h, rf_1 h, rf_10 h, rf_11 h, rf_12 h, r6_i h, r6_o h, r7_i h, r7_o h, r8_i h, r8_o h, rl_13 h, ra_13 h, rl_2 h, ra_2 h, rl_3 h, ra_3 h, rl_4 h, ra_4 h, rl_5 h, ra_5 h, rl_6 h, ra_6 h, rl_7 h, ra_7 h, rl_8 h, ra_8 h, rl_9 h, ra_9 h, up_e, c_placeOf h, e1, e2, ht, hh]
        · have : i + 1 - 1 = i := by omega
          rw [this, es]; omega
        · omega
        · by_cases e : j = i
          · subst e; exact d
          · exact h11 j j1 (by omega)
    · have en : need a (a 13 i p) = 0 := if_pos (by omega)
      rw [en] at hlow
      by_cases d : low a p k l i
      · right
        have d' := hlow.1 d
        refine ⟨.inl (iz i), ?_, Or.inl ⟨i, rfl, fst_i h8 h7 d h11⟩⟩
        simp (disch := omega) only [lt__e, bnd_e, bnd2_e, bnd3_e, el0_l, el0_r, el1_l, el1_r, el2_l, el2_r, ↓reduceIte, not_true_eq_false, not_false_eq_true, reduceCtorEq, and_true, true_and, and_false, false_and, or_true, true_or, or_false, false_or, and_self, or_self, ite_true, ite_false, Int.cast_ofNat_Int, Nat.reduceEqDiff, Nat.reduceLT, Int.reduceAdd, Int.reduceSub, Int.reduceMul, Int.reduceNeg, Int.reduceLT, Int.reduceLE, Int.reduceEq, ilt_t, ilt_f, ile_t, ile_f, ieq_t, ieq_f, z_0, z_1, z_2, z_3, z_4, z_5, z_6, z_7, z_8, z_9, z_10, z_12, z_20, z_40, z_80, z_81, z_99, z_100, z_200, z_400, z_3240, z_20000, z_100000, iz_add, iz_sub, iz_mul, iz_neg, iz_nat, iz_lt, iz_le, iz_eq, iz_div, iz_ite, iz_c, md10, md100, izcb_0, izcb_1, isOut_0, isNoCell_0, isGr_0, np_p, VV_r, VV_n, V_k, W_k, V_0, W_0, V_1, W_1, V_2, W_2, V_3, W_3, V_4, W_4, V_5, W_5, V_6, W_6, V_7, W_7, V_8, W_8, V_9, W_9, h.r0_0, h.r0_1, h.r0_2, h.r0_3, h.r0_4, h.r0_5, h.r1_0, h.r1_1, h.r1_2, h.r1_3, h.r12, rf_0 h, rf_1 h, rf_10 h, rf_11 h, rf_12 h, r6_i h, r6_o h, r7_i h, r7_o h, r8_i h, r8_o h, rl_13 h, ra_13 h, rl_2 h, ra_2 h, rl_3 h, ra_3 h, rl_4 h, ra_4 h, rl_5 h, ra_5 h, rl_6 h, ra_6 h, rl_7 h, ra_7 h, rl_8 h, ra_8 h, rl_9 h, ra_9 h, up_e, c_placeOf h, e1, e2, ht]
      · left
        have d' := (not_congr hlow).1 d
        refine ⟨s - cost a 4 (a 13 (i - 1) p) (a 13 i p), ⟨by omega, ?_, ?_, fun j j1 j2 => ?_⟩, ?_⟩
        rotate_left 3
        · simp (disch := omega) only [lt__e, bnd_e, bnd2_e, bnd3_e, el0_l, el0_r, el1_l, el1_r, el2_l, el2_r, ↓reduceIte, not_true_eq_false, not_false_eq_true, reduceCtorEq, and_true, true_and, and_false, false_and, or_true, true_or, or_false, false_or, and_self, or_self, ite_true, ite_false, Int.cast_ofNat_Int, Nat.reduceEqDiff, Nat.reduceLT, Int.reduceAdd, Int.reduceSub, Int.reduceMul, Int.reduceNeg, Int.reduceLT, Int.reduceLE, Int.reduceEq, ilt_t, ilt_f, ile_t, ile_f, ieq_t, ieq_f, z_0, z_1, z_2, z_3, z_4, z_5, z_6, z_7, z_8, z_9, z_10, z_12, z_20, z_40, z_80, z_81, z_99, z_100, z_200, z_400, z_3240, z_20000, z_100000, iz_add, iz_sub, iz_mul, iz_neg, iz_nat, iz_lt, iz_le, iz_eq, iz_div, iz_ite, iz_c, md10, md100, izcb_0, izcb_1, isOut_0, isNoCell_0, isGr_0, np_p, VV_r, VV_n, V_k, W_k, V_0, W_0, V_1, W_1, V_2, W_2, V_3, W_3, V_4, W_4, V_5, W_5, V_6, W_6, V_7, W_7, V_8, W_8, V_9, W_9, h.r0_0, h.r0_1, h.r0_2, h.r0_3, h.r0_4, h.r0_5, h.r1_0, h.r1_1, h.r1_2, h.r1_3, h.r12, rf_0 h, rf_1 h, rf_10 h, rf_11 h, rf_12 h, r6_i h, r6_o h, r7_i h, r7_o h, r8_i h, r8_o h, rl_13 h, ra_13 h, rl_2 h, ra_2 h, rl_3 h, ra_3 h, rl_4 h, ra_4 h, rl_5 h, ra_5 h, rl_6 h, ra_6 h, rl_7 h, ra_7 h, rl_8 h, ra_8 h, rl_9 h, ra_9 h, up_e, c_placeOf h, e1, e2, ht]
        · have : i + 1 - 1 = i := by omega
          rw [this, es]; omega
        · omega
        · by_cases e : j = i
          · subst e; exact d
          · exact h11 j j1 (by omega)
  · rintro n' s ⟨h8, h9, h10, h11⟩
    refine ⟨.inr (), ?_, Or.inr ⟨rfl, fst_n h11⟩⟩
    dsimp only [l_Sk_placeTooLow_8, b_Sk_placeTooLow_8, j_Sk_placeTooLow_81]
    simp (disch := omega) only [lt__e, bnd_e, bnd2_e, bnd3_e, el0_l, el0_r, el1_l, el1_r, el2_l, el2_r, ↓reduceIte, not_true_eq_false, not_false_eq_true, reduceCtorEq, and_true, true_and, and_false, false_and, or_true, true_or, or_false, false_or, and_self, or_self, ite_true, ite_false, Int.cast_ofNat_Int, Nat.reduceEqDiff, Nat.reduceLT, Int.reduceAdd, Int.reduceSub, Int.reduceMul, Int.reduceNeg, Int.reduceLT, Int.reduceLE, Int.reduceEq, ilt_t, ilt_f, ile_t, ile_f, ieq_t, ieq_f, z_0, z_1, z_2, z_3, z_4, z_5, z_6, z_7, z_8, z_9, z_10, z_12, z_20, z_40, z_80, z_81, z_99, z_100, z_200, z_400, z_3240, z_20000, z_100000, iz_add, iz_sub, iz_mul, iz_neg, iz_nat, iz_lt, iz_le, iz_eq, iz_div, iz_ite, iz_c, md10, md100, izcb_0, izcb_1, isOut_0, isNoCell_0, isGr_0, np_p, VV_r, VV_n, V_k, W_k, V_0, W_0, V_1, W_1, V_2, W_2, V_3, W_3, V_4, W_4, V_5, W_5, V_6, W_6, V_7, W_7, V_8, W_8, V_9, W_9, h.r0_0, h.r0_1, h.r0_2, h.r0_3, h.r0_4, h.r0_5, h.r1_0, h.r1_1, h.r1_2, h.r1_3, h.r12, rf_0 h, rf_1 h, rf_10 h, rf_11 h, rf_12 h, r6_i h, r6_o h, r7_i h, r7_o h, r8_i h, r8_o h, rl_13 h, ra_13 h, rl_2 h, ra_2 h, rl_3 h, ra_3 h, rl_4 h, ra_4 h, rl_5 h, ra_5 h, rl_6 h, ra_6 h, rl_7 h, ra_7 h, rl_8 h, ra_8 h, rl_9 h, ra_9 h, up_e]
  · refine ⟨by omega, ?_, by omega, fun j j1 j2 => by omega⟩
    have : k + 1 - 1 = k := by omega
    rw [this]; omega
end T6
