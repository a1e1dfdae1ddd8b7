/-! takes, lose -/
theorem lay_b {a : AT} (hD : CD a) (st : Int) : -1 ≤ lay_ a st ∧ lay_ a st ≤ 41 := by
  have h := hD.1
  unfold lay_
  rcases fst_cases 1 (a 0 9 0 + 1) (fun k => wk a st k.toNat = -1) with ⟨h1, h2, -⟩ | ⟨h1, -⟩
  · have e : bad a st = fst_ 1 (a 0 9 0 + 1) (fun k => wk a st k.toNat = -1) := rfl
    rw [if_neg (by omega)]; omega
  · have e : bad a st = fst_ 1 (a 0 9 0 + 1) (fun k => wk a st k.toNat = -1) := rfl
    rw [if_pos (by omega)]
    split <;> omega
/-- a draft that can be laid -/
theorem lay_ok {a : AT} {st : Int} (hD : CD a) (h1 : 0 ≤ st) (h2 : st < 400) (hl : lay_ a st = -1) : (∀ j, 0 ≤ j → j ≤ a 0 9 0 → 0 ≤ wk a st j.toNat ∧ wk a st j.toNat < 400) ∧ 1 ≤ a 0 9 0 ∧ wk a st (a 0 9 0).toNat < 100 := by
  have h := hD.1
  have hb : bad a st = -1 := by
    by_cases c : bad a st = -1
    · exact c
    · unfold lay_ at hl; rw [if_neg c] at hl; exact hl
  unfold lay_ at hl
  rw [if_pos hb] at hl
  have hc : ¬ (a 0 9 0 = 0 ∨ 100 ≤ wk a st (a 0 9 0).toNat) := by
    intro z; rw [if_pos z] at hl; omega
  refine ⟨fun j j1 j2 => ?_, by omega, by omega⟩
  have hw := wk_b a h1 h2 j.toNat
  by_cases e : j = 0
  · subst e
    exact ⟨h1, h2⟩
  · rcases fst_cases 1 (a 0 9 0 + 1) (fun k => wk a st k.toNat = -1) with ⟨g1, g2, g3, -⟩ | ⟨g1, g2⟩
    · have e : bad a st = fst_ 1 (a 0 9 0 + 1) (fun k => wk a st k.toNat = -1) := rfl
      omega
    · have := g2 j (by omega) (by omega)
      omega
section C6
variable {a A B c c' b b' : AT} {r : Nat → Nat → Option Nat} {n : Nat → Nat} {nr nm np : Int}
theorem TrO.q (h : TrO A a np) : EqQ A a np := fun p p1 => ⟨fun j => h.2.1 j p (fun z => by omega), fun k => h.2.2 k p (by omega)⟩
theorem c_takes_l2 (h : Sh r n nr nm np) (hC : CC a) (hl : 0 ≤ a 12 4 np ∧ a 12 4 np ≤ 80) (hpl : ∀ k, 0 ≤ k → k ≤ a 12 4 np → 0 ≤ a 13 k np ∧ a 13 k np < 400) : l_Sk_takes_46 0 (VV a r n) 4096 (iz 0) (iz 1) = some (iz (sm (pc a np) (a 12 4 np).toNat)) := by
  have hb := h.b
  have key := lpQ (L := fun n' i (s : Int) => l_Sk_takes_46 0 (VV a r n) n' (iz s) (iz i)) (hi := a 12 4 np + 1)
    (Q := fun i s => 1 ≤ i ∧ s = sm (pc a np) (i - 1).toNat) (R := fun v => v = iz (sm (pc a np) (a 12 4 np).toNat)) ?_ ?_ 4096 1 0 (by omega) (by omega) ⟨by omega, rfl⟩
  · obtain ⟨v, hv, rfl⟩ := key; exact hv
  · rintro n' i s h3 ⟨h4, rfl⟩
    left
    have b1 := hpl (i - 1) (by omega) (by omega)
    have b2 := hpl i (by omega) (by omega)
    have e1 : PO a np (i - 1) = a 13 (i - 1) np := PO_in (by omega) (by omega)
    have e2 : PO a np i = a 13 i np := PO_in (by omega) (by omega)
    have ht := c_taken (a := a) h hC (t := 4) (Or.inl rfl) (p := a 13 (i - 1) np) (q := a 13 i np) (by omega) (by omega) (by omega) (by omega)
    have es := sm_s (pc a np) (i := i - 1) (by omega)
    have ei : i - 1 + 1 = i := by omega
    have ei2 : i + 1 - 1 = i := by omega
    have ep : pc a np (i - 1) = cost a 4 (a 13 (i - 1) np) (a 13 i np) := by unfold pc; rw [ei]
    rw [ei, ep] at es
    refine ⟨_, ⟨by omega, rfl⟩, ?_⟩
    rw [ei2, es]
    dsimp only [l_Sk_takes_46, b_Sk_takes_46]
    simp (disch := omega) only [lt__e, bnd_e, bnd2_e, bnd3_e, el0_l, el0_r, el1_l, el1_r, el2_l, el2_r, ↓reduceIte, not_true_eq_false, not_false_eq_true, reduceCtorEq, and_true, true_and, and_false, false_and, or_true, true_or, or_false, false_or, and_self, or_self, ite_true, ite_false, Int.cast_ofNat_Int, Nat.reduceEqDiff, Nat.reduceLT, Int.reduceAdd, Int.reduceSub, Int.reduceMul, Int.reduceNeg, Int.reduceLT, Int.reduceLE, Int.reduceEq, ilt_t, ilt_f, ile_t, ile_f, ieq_t, ieq_f, z_0, z_1, z_2, z_3, z_4, z_5, z_6, z_7, z_8, z_9, z_10, z_12, z_20, z_40, z_80, z_81, z_99, z_100, z_200, z_400, z_3240, z_20000, z_100000, iz_add, iz_sub, iz_mul, iz_neg, iz_nat, iz_lt, iz_le, iz_eq, iz_div, iz_ite, iz_c, md10, md100, izcb_0, izcb_1, isOut_0, isNoCell_0, isGr_0, np_p, VV_r, VV_n, V_k, W_k, V_0, W_0, V_1, W_1, V_2, W_2, V_3, W_3, V_4, W_4, V_5, W_5, V_6, W_6, V_7, W_7, V_8, W_8, V_9, W_9, h.r0_0, h.r0_1, h.r0_2, h.r0_3, h.r0_4, h.r0_5, h.r1_0, h.r1_1, h.r1_2, h.r1_3, h.r12, rf_0 h, rf_1 h, rf_10 h, rf_11 h, rf_12 h, r6_i h, r6_o h, r7_i h, r7_o h, r8_i h, r8_o h, rl_13 h, ra_13 h, rl_2 h, ra_2 h, rl_3 h, ra_3 h, rl_4 h, ra_4 h, rl_5 h, ra_5 h, rl_6 h, ra_6 h, rl_7 h, ra_7 h, rl_8 h, ra_8 h, rl_9 h, ra_9 h, up_e, c_placeOf h, e1, e2, ht]
  · rintro n' s ⟨h4, rfl⟩
    refine ⟨_, ?_, rfl⟩
    have ei : a 12 4 np + 1 - 1 = a 12 4 np := by omega
    rw [ei]
    dsimp only [l_Sk_takes_46, b_Sk_takes_46]
    simp (disch := omega) only [lt__e, bnd_e, bnd2_e, bnd3_e, el0_l, el0_r, el1_l, el1_r, el2_l, el2_r, ↓reduceIte, not_true_eq_false, not_false_eq_true, reduceCtorEq, and_true, true_and, and_false, false_and, or_true, true_or, or_false, false_or, and_self, or_self, ite_true, ite_false, Int.cast_ofNat_Int, Nat.reduceEqDiff, Nat.reduceLT, Int.reduceAdd, Int.reduceSub, Int.reduceMul, Int.reduceNeg, Int.reduceLT, Int.reduceLE, Int.reduceEq, ilt_t, ilt_f, ile_t, ile_f, ieq_t, ieq_f, z_0, z_1, z_2, z_3, z_4, z_5, z_6, z_7, z_8, z_9, z_10, z_12, z_20, z_40, z_80, z_81, z_99, z_100, z_200, z_400, z_3240, z_20000, z_100000, iz_add, iz_sub, iz_mul, iz_neg, iz_nat, iz_lt, iz_le, iz_eq, iz_div, iz_ite, iz_c, md10, md100, izcb_0, izcb_1, isOut_0, isNoCell_0, isGr_0, np_p, VV_r, VV_n, V_k, W_k, V_0, W_0, V_1, W_1, V_2, W_2, V_3, W_3, V_4, W_4, V_5, W_5, V_6, W_6, V_7, W_7, V_8, W_8, V_9, W_9, h.r0_0, h.r0_1, h.r0_2, h.r0_3, h.r0_4, h.r0_5, h.r1_0, h.r1_1, h.r1_2, h.r1_3, h.r12, rf_0 h, rf_1 h, rf_10 h, rf_11 h, rf_12 h, r6_i h, r6_o h, r7_i h, r7_o h, r8_i h, r8_o h, rl_13 h, ra_13 h, rl_2 h, ra_2 h, rl_3 h, ra_3 h, rl_4 h, ra_4 h, rl_5 h, ra_5 h, rl_6 h, ra_6 h, rl_7 h, ra_7 h, rl_8 h, ra_8 h, rl_9 h, ra_9 h, up_e]
end C6
