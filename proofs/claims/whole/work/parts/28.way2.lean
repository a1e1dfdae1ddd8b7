/-! the reference: laying, the battery on the way, sums; meeting time by time; counts -/
/-- only the reference's last row of places is another -/
def ScO (c' c : AT) : Prop := (∀ t, t ≠ 38 → c' t = c t) ∧ (∀ j m, j < 3240 → c' 38 j m = c 38 j m)
theorem ScO.refl (c : AT) : ScO c c := ⟨fun _ _ => rfl, fun _ _ _ => rfl⟩
theorem MC_c {c' c b : AT} (h : ∀ t, 20 ≤ t → t ≤ 24 → c' t = c t) (hM : MC c b) : MC c' b := by
  unfold MC at hM ⊢
  rw [h 20 (by omega) (by omega), h 21 (by omega) (by omega), h 22 (by omega) (by omega), h 23 (by omega) (by omega), h 24 (by omega) (by omega)]
  exact hM
theorem MPa_c {c' c b : AT} {p : Int} (h1 : c' 34 = c 34) (h2 : c' 35 = c 35) (h3 : ∀ j, j < 3240 → c' 38 j 0 = c 38 j 0) (hw : PW b p) (h4 : p < 40) (hM : MPa c b p) : MPa c' b p := by
  obtain ⟨m1, m2, m3⟩ := hM
  have := hw.2.1
  refine ⟨by rw [h1]; exact m1, by rw [h2]; exact m2, fun k k1 k2 => ?_⟩
  rw [h3 _ (by omega)]; exact m3 k k1 k2
section T7
variable {a : AT} {r : Nat → Nat → Option Nat} {n : Nat → Nat} {nr nm np : Int}
theorem m_lay (h : Sh r n nr nm np) {b : AT} (hM : MC a b) (hC : CC b) (hD : CD b) (hd : a 20 15 0 = b 0 9 0) (hdr : ∀ k, 0 ≤ k → k < b 0 9 0 → a 32 k 0 = b 9 k 0) {m st : Int} (h1 : 0 ≤ m) (h2 : m < 10) (hst : a 28 m 0 = st) (h3 : 0 ≤ st) (h4 : st < 400) :
    ∃ c, f_Mo_lay 20 (iz m) (VV a r n) = some (iz (lay_ b st), VV c r n) ∧ ScO c a ∧ (lay_ b st = -1 → ∀ j, 0 ≤ j → j ≤ b 0 9 0 → c 38 (3240 + j) 0 = wk b st j.toNat) := by
  obtain ⟨hd1, hD⟩ := hD
  unfold f_Mo_lay
  have key := lpQ (L := fun n' k (s : AT) => l_Mo_lay_18 20 (iz 3240) n' (iz k) (VV s r n)) (hi := b 0 9 0)
    (Q := fun k s => 0 ≤ k ∧ (∀ j, 1 ≤ j → j < k + 1 → ¬ wk b st j.toNat = -1) ∧ ScO s a ∧ (∀ j, 0 ≤ j → j ≤ k → s 38 (3240 + j) 0 = wk b st j.toNat))
    (R := fun v => (∃ c, v = .inl (iz (bad b st), VV c r n) ∧ ¬ bad b st = -1 ∧ ScO c a) ∨ (∃ c, v = .inr (VV c r n) ∧ bad b st = -1 ∧ ScO c a ∧ (∀ j, 0 ≤ j → j ≤ b 0 9 0 → c 38 (3240 + j) 0 = wk b st j.toNat))) ?_ ?_ 4096 0 (up a 38 3240 0 st) (by omega) (by omega) ?_
  · obtain ⟨v, hv, hr⟩ := key
    rcases hr with ⟨c, rfl, k1, k2⟩ | ⟨c, rfl, k1, k2, k3⟩
    · have e : lay_ b st = bad b st := if_neg k1
      refine ⟨c, ?_, k2, fun q => absurd (e ▸ q) k1⟩
      rw [e]
      simp (disch := omega) only [lt__e, bnd_e, bnd2_e, bnd3_e, el0_l, el0_r, el1_l, el1_r, el2_l, el2_r, ↓reduceIte, not_true_eq_false, not_false_eq_true, reduceCtorEq, and_true, true_and, and_false, false_and, or_true, true_or, or_false, false_or, and_self, or_self, ite_true, ite_false, Int.cast_ofNat_Int, Nat.reduceEqDiff, Nat.reduceLT, Int.reduceAdd, Int.reduceSub, Int.reduceMul, Int.reduceNeg, Int.reduceLT, Int.reduceLE, Int.reduceEq, ilt_t, ilt_f, ile_t, ile_f, ieq_t, ieq_f, z_0, z_1, z_2, z_3, z_4, z_5, z_6, z_7, z_8, z_9, z_10, z_12, z_20, z_40, z_80, z_81, z_99, z_100, z_200, z_400, z_3240, z_20000, z_100000, iz_add, iz_sub, iz_mul, iz_neg, iz_nat, iz_lt, iz_le, iz_eq, iz_div, iz_ite, iz_c, md10, md100, izcb_0, izcb_1, isOut_0, isNoCell_0, isGr_0, within_e, isCell_e, np_p, VV_r, VV_n, V_20, W_20, V_21, W_21, V_22, W_22, V_23, W_23, V_24, W_24, V_25, W_25, V_26, W_26, V_27, W_27, V_28, W_28, V_29, W_29, V_30, W_30, V_31, W_31, V_32, W_32, V_33, W_33, V_34, W_34, V_35, W_35, V_36, W_36, V_37, W_37, V_38, W_38, V_39, W_39, h.r20_2, h.r20_3, h.r20_5, h.r20_6, h.r20_8, h.r20_9, h.r20_10, h.r20_11, h.r20_12, h.r20_13, h.r20_14, h.r20_16, h.r20_18, h.r20_19, h.r20_20, h.r20_21, h.r20_22, h.r20_23, h.r20_25, rf_20 h, ra_21 h, ra_22 h, ra_23 h, ra_24 h, ra_25 h, ra_26 h, ra_27 h, ra_28 h, ra_29 h, ra_30 h, ra_31 h, ra_32 h, ra_33 h, ra_34 h, ra_35 h, ra_36 h, ra_37 h, ra_38 h, ra_39 h, up_e, hst, hv]
    · have e : lay_ b st = (if b 0 9 0 = 0 ∨ 100 ≤ wk b st (b 0 9 0).toNat then b 0 9 0 else -1) := if_pos k1
      have e9 : c 20 15 0 = b 0 9 0 := by rw [k2.1 20 (by omega)]; exact hd
      have e10 := k3 (b 0 9 0) (by omega) (by omega)
      have hw := wk_b b h3 h4 (b 0 9 0).toNat
      refine ⟨c, ?_, k2, fun _ => k3⟩
      rw [e]
      by_cases c0 : b 0 9 0 = 0
      · rw [if_pos (Or.inl c0)]
        simp (disch := omega) only [lt__e, bnd_e, bnd2_e, bnd3_e, el0_l, el0_r, el1_l, el1_r, el2_l, el2_r, ↓reduceIte, not_true_eq_false, not_false_eq_true, reduceCtorEq, and_true, true_and, and_false, false_and, or_true, true_or, or_false, false_or, and_self, or_self, ite_true, ite_false, Int.cast_ofNat_Int, Nat.reduceEqDiff, Nat.reduceLT, Int.reduceAdd, Int.reduceSub, Int.reduceMul, Int.reduceNeg, Int.reduceLT, Int.reduceLE, Int.reduceEq, ilt_t, ilt_f, ile_t, ile_f, ieq_t, ieq_f, z_0, z_1, z_2, z_3, z_4, z_5, z_6, z_7, z_8, z_9, z_10, z_12, z_20, z_40, z_80, z_81, z_99, z_100, z_200, z_400, z_3240, z_20000, z_100000, iz_add, iz_sub, iz_mul, iz_neg, iz_nat, iz_lt, iz_le, iz_eq, iz_div, iz_ite, iz_c, md10, md100, izcb_0, izcb_1, isOut_0, isNoCell_0, isGr_0, within_e, isCell_e, np_p, VV_r, VV_n, V_20, W_20, V_21, W_21, V_22, W_22, V_23, W_23, V_24, W_24, V_25, W_25, V_26, W_26, V_27, W_27, V_28, W_28, V_29, W_29, V_30, W_30, V_31, W_31, V_32, W_32, V_33, W_33, V_34, W_34, V_35, W_35, V_36, W_36, V_37, W_37, V_38, W_38, V_39, W_39, h.r20_2, h.r20_3, h.r20_5, h.r20_6, h.r20_8, h.r20_9, h.r20_10, h.r20_11, h.r20_12, h.r20_13, h.r20_14, h.r20_16, h.r20_18, h.r20_19, h.r20_20, h.r20_21, h.r20_22, h.r20_23, h.r20_25, rf_20 h, ra_21 h, ra_22 h, ra_23 h, ra_24 h, ra_25 h, ra_26 h, ra_27 h, ra_28 h, ra_29 h, ra_30 h, ra_31 h, ra_32 h, ra_33 h, ra_34 h, ra_35 h, ra_36 h, ra_37 h, ra_38 h, ra_39 h, up_e, hst, hv, e9, c0]
      · by_cases c1 : 100 ≤ wk b st (b 0 9 0).toNat
        · rw [if_pos (Or.inr c1)]
          simp (disch := omega) only [lt__e, bnd_e, bnd2_e, bnd3_e, el0_l, el0_r, el1_l, el1_r, el2_l, el2_r, ↓reduceIte, not_true_eq_false, not_false_eq_true, reduceCtorEq, and_true, true_and, and_false, false_and, or_true, true_or, or_false, false_or, and_self, or_self, ite_true, ite_false, Int.cast_ofNat_Int, Nat.reduceEqDiff, Nat.reduceLT, Int.reduceAdd, Int.reduceSub, Int.reduceMul, Int.reduceNeg, Int.reduceLT, Int.reduceLE, Int.reduceEq, ilt_t, ilt_f, ile_t, ile_f, ieq_t, ieq_f, z_0, z_1, z_2, z_3, z_4, z_5, z_6, z_7, z_8, z_9, z_10, z_12, z_20, z_40, z_80, z_81, z_99, z_100, z_200, z_400, z_3240, z_20000, z_100000, iz_add, iz_sub, iz_mul, iz_neg, iz_nat, iz_lt, iz_le, iz_eq, iz_div, iz_ite, iz_c, md10, md100, izcb_0, izcb_1, isOut_0, isNoCell_0, isGr_0, within_e, isCell_e, np_p, VV_r, VV_n, V_20, W_20, V_21, W_21, V_22, W_22, V_23, W_23, V_24, W_24, V_25, W_25, V_26, W_26, V_27, W_27, V_28, W_28, V_29, W_29, V_30, W_30, V_31, W_31, V_32, W_32, V_33, W_33, V_34, W_34, V_35, W_35, V_36, W_36, V_37, W_37, V_38, W_38, V_39, W_39, h.r20_2, h.r20_3, h.r20_5, h.r20_6, h.r20_8, h.r20_9, h.r20_10, h.r20_11, h.r20_12, h.r20_13, h.r20_14, h.r20_16, h.r20_18, h.r20_19, h.r20_20, h.r20_21, h.r20_22, h.r20_23, h.r20_25, rf_20 h, ra_21 h, ra_22 h, ra_23 h, ra_24 h, ra_25 h, ra_26 h, ra_27 h, ra_28 h, ra_29 h, ra_30 h, ra_31 h, ra_32 h, ra_33 h, ra_34 h, ra_35 h, ra_36 h, ra_37 h, ra_38 h, ra_39 h, up_e, hst, hv, e9, e10]
        · rw [if_neg (by omega)]
          simp (disch := omega) only [lt__e, bnd_e, bnd2_e, bnd3_e, el0_l, el0_r, el1_l, el1_r, el2_l, el2_r, ↓reduceIte, not_true_eq_false, not_false_eq_true, reduceCtorEq, and_true, true_and, and_false, false_and, or_true, true_or, or_false, false_or, and_self, or_self, ite_true, ite_false, Int.cast_ofNat_Int, Nat.reduceEqDiff, Nat.reduceLT, Int.reduceAdd, Int.reduceSub, Int.reduceMul, Int.reduceNeg, Int.reduceLT, Int.reduceLE, Int.reduceEq, ilt_t, ilt_f, ile_t, ile_f, ieq_t, ieq_f, z_0, z_1, z_2, z_3, z_4, z_5, z_6, z_7, z_8, z_9, z_10, z_12, z_20, z_40, z_80, z_81, z_99, z_100, z_200, z_400, z_3240, z_20000, z_100000, iz_add, iz_sub, iz_mul, iz_neg, iz_nat, iz_lt, iz_le, iz_eq, iz_div, iz_ite, iz_c, md10, md100, izcb_0, izcb_1, isOut_0, isNoCell_0, isGr_0, within_e, isCell_e, np_p, VV_r, VV_n, V_20, W_20, V_21, W_21, V_22, W_22, V_23, W_23, V_24, W_24, V_25, W_25, V_26, W_26, V_27, W_27, V_28, W_28, V_29, W_29, V_30, W_30, V_31, W_31, V_32, W_32, V_33, W_33, V_34, W_34, V_35, W_35, V_36, W_36, V_37, W_37, V_38, W_38, V_39, W_39, h.r20_2, h.r20_3, h.r20_5, h.r20_6, h.r20_8, h.r20_9, h.r20_10, h.r20_11, h.r20_12, h.r20_13, h.r20_14, h.r20_16, h.r20_18, h.r20_19, h.r20_20, h.r20_21, h.r20_22, h.r20_23, h.r20_25, rf_20 h, ra_21 h, ra_22 h, ra_23 h, ra_24 h, ra_25 h, ra_26 h, ra_27 h, ra_28 h, ra_29 h, ra_30 h, ra_31 h, ra_32 h, ra_33 h, ra_34 h, ra_35 h, ra_36 h, ra_37 h, ra_38 h, ra_39 h, up_e, hst, hv, e9, e10]
  · rintro n' k s h5 ⟨h6, h7, h8, h9⟩
    have e9 : s 20 15 0 = b 0 9 0 := by rw [h8.1 20 (by omega)]; exact hd
    have ed : s 32 k 0 = b 9 k 0 := by rw [h8.1 32 (by omega)]; exact hdr k h6 h5
    have hk := hD k h6 h5
    have hw := wk_b b h3 h4 k.toNat
    have e10 := h9 k h6 (Int.le_refl _)
    have hM' : MC s b := MC_c (fun t t1 t2 => h8.1 t (by omega)) hM
    have ew := wk_s b st h6
    have h10 : 0 ≤ wk b st k.toNat := by
      by_cases c : k = 0
      · subst c; exact h3
      · have := h7 k (by omega) (by omega); omega
    have hx := m_next (a := s) h hM' hC (p := wk b st k.toNat) (mv := b 9 k 0) h10 (by omega) hk.1 hk.2
    have hb := nxt_b b (wk b st k.toNat) (b 9 k 0)
    rw [← ew] at hx hb
    by_cases c : wk b st (k + 1).toNat = -1
    · right
      have eb : bad b st = k + 1 := fst_i (by omega) (by omega) c h7
      refine ⟨.inl (iz (k + 1), VV s r n), ?_, Or.inl ⟨s, by rw [eb], by omega, h8⟩⟩
      dsimp only [l_Mo_lay_18, b_Mo_lay_18]
      simp (disch := omega) only [lt__e, bnd_e, bnd2_e, bnd3_e, el0_l, el0_r, el1_l, el1_r, el2_l, el2_r, ↓reduceIte, not_true_eq_false, not_false_eq_true, reduceCtorEq, and_true, true_and, and_false, false_and, or_true, true_or, or_false, false_or, and_self, or_self, ite_true, ite_false, Int.cast_ofNat_Int, Nat.reduceEqDiff, Nat.reduceLT, Int.reduceAdd, Int.reduceSub, Int.reduceMul, Int.reduceNeg, Int.reduceLT, Int.reduceLE, Int.reduceEq, ilt_t, ilt_f, ile_t, ile_f, ieq_t, ieq_f, z_0, z_1, z_2, z_3, z_4, z_5, z_6, z_7, z_8, z_9, z_10, z_12, z_20, z_40, z_80, z_81, z_99, z_100, z_200, z_400, z_3240, z_20000, z_100000, iz_add, iz_sub, iz_mul, iz_neg, iz_nat, iz_lt, iz_le, iz_eq, iz_div, iz_ite, iz_c, md10, md100, izcb_0, izcb_1, isOut_0, isNoCell_0, isGr_0, within_e, isCell_e, np_p, VV_r, VV_n, V_20, W_20, V_21, W_21, V_22, W_22, V_23, W_23, V_24, W_24, V_25, W_25, V_26, W_26, V_27, W_27, V_28, W_28, V_29, W_29, V_30, W_30, V_31, W_31, V_32, W_32, V_33, W_33, V_34, W_34, V_35, W_35, V_36, W_36, V_37, W_37, V_38, W_38, V_39, W_39, h.r20_2, h.r20_3, h.r20_5, h.r20_6, h.r20_8, h.r20_9, h.r20_10, h.r20_11, h.r20_12, h.r20_13, h.r20_14, h.r20_16, h.r20_18, h.r20_19, h.r20_20, h.r20_21, h.r20_22, h.r20_23, h.r20_25, rf_20 h, ra_21 h, ra_22 h, ra_23 h, ra_24 h, ra_25 h, ra_26 h, ra_27 h, ra_28 h, ra_29 h, ra_30 h, ra_31 h, ra_32 h, ra_33 h, ra_34 h, ra_35 h, ra_36 h, ra_37 h, ra_38 h, ra_39 h, up_e, e9, ed, e10, hx]
    · left
      refine ⟨up s 38 (3240 + k + 1) 0 (wk b st (k + 1).toNat), ⟨by omega, fun j j1 j2 => ?_, ⟨fun t t1 => ?_, fun j m t1 => ?_⟩, fun j j1 j2 => ?_⟩, ?_⟩
      · by_cases e : j = k + 1
        · subst e; exact c
        · exact h7 j j1 (by omega)
      · rw [← h8.1 t t1]; funext j m; simp (disch := omega) only [up_e]; rw [if_neg (by omega)]
      · rw [← h8.2 j m t1]; simp only [up_e]; rw [if_neg (by omega)]
      · by_cases e : j = k + 1
        · subst e; simp (disch := omega) only [up_e, lt__e, bnd_e, bnd2_e, bnd3_e, el0_l, el0_r, el1_l, el1_r, el2_l, el2_r, ↓reduceIte, not_true_eq_false, not_false_eq_true, reduceCtorEq, and_true, true_and, and_false, false_and, or_true, true_or, or_false, false_or, and_self, or_self, ite_true, ite_false, Int.cast_ofNat_Int, Nat.reduceEqDiff, Nat.reduceLT, Int.reduceAdd, Int.reduceSub, Int.reduceMul, Int.reduceNeg, Int.reduceLT, Int.reduceLE, Int.reduceEq, ilt_t, ilt_f, ile_t, ile_f, ieq_t, ieq_f]
        · rw [← h9 j j1 (by omega)]; simp only [up_e]; rw [if_neg (by omega)]
      · dsimp only [l_Mo_lay_18, b_Mo_lay_18]
        simp (disch := omega) only [lt__e, bnd_e, bnd2_e, bnd3_e, el0_l, el0_r, el1_l, el1_r, el2_l, el2_r, ↓reduceIte, not_true_eq_false, not_false_eq_true, reduceCtorEq, and_true, true_and, and_false, false_and, or_true, true_or, or_false, false_or, and_self, or_self, ite_true, ite_false, Int.cast_ofNat_Int, Nat.reduceEqDiff, Nat.reduceLT, Int.reduceAdd, Int.reduceSub, Int.reduceMul, Int.reduceNeg, Int.reduceLT, Int.reduceLE, Int.reduceEq, ilt_t, ilt_f, ile_t, ile_f, ieq_t, ieq_f, z_0, z_1, z_2, z_3, z_4, z_5, z_6, z_7, z_8, z_9, z_10, z_12, z_20, z_40, z_80, z_81, z_99, z_100, z_200, z_400, z_3240, z_20000, z_100000, iz_add, iz_sub, iz_mul, iz_neg, iz_nat, iz_lt, iz_le, iz_eq, iz_div, iz_ite, iz_c, md10, md100, izcb_0, izcb_1, isOut_0, isNoCell_0, isGr_0, within_e, isCell_e, np_p, VV_r, VV_n, V_20, W_20, V_21, W_21, V_22, W_22, V_23, W_23, V_24, W_24, V_25, W_25, V_26, W_26, V_27, W_27, V_28, W_28, V_29, W_29, V_30, W_30, V_31, W_31, V_32, W_32, V_33, W_33, V_34, W_34, V_35, W_35, V_36, W_36, V_37, W_37, V_38, W_38, V_39, W_39, h.r20_2, h.r20_3, h.r20_5, h.r20_6, h.r20_8, h.r20_9, h.r20_10, h.r20_11, h.r20_12, h.r20_13, h.r20_14, h.r20_16, h.r20_18, h.r20_19, h.r20_20, h.r20_21, h.r20_22, h.r20_23, h.r20_25, rf_20 h, ra_21 h, ra_22 h, ra_23 h, ra_24 h, ra_25 h, ra_26 h, ra_27 h, ra_28 h, ra_29 h, ra_30 h, ra_31 h, ra_32 h, ra_33 h, ra_34 h, ra_35 h, ra_36 h, ra_37 h, ra_38 h, ra_39 h, up_e, e9, ed, e10, hx]
  · rintro n' s ⟨h6, h7, h8, h9⟩
    have e9 : s 20 15 0 = b 0 9 0 := by rw [h8.1 20 (by omega)]; exact hd
    refine ⟨.inr (VV s r n), ?_, Or.inr ⟨s, rfl, fst_n h7, h8, h9⟩⟩
    dsimp only [l_Mo_lay_18, b_Mo_lay_18]
    simp (disch := omega) only [lt__e, bnd_e, bnd2_e, bnd3_e, el0_l, el0_r, el1_l, el1_r, el2_l, el2_r, ↓reduceIte, not_true_eq_false, not_false_eq_true, reduceCtorEq, and_true, true_and, and_false, false_and, or_true, true_or, or_false, false_or, and_self, or_self, ite_true, ite_false, Int.cast_ofNat_Int, Nat.reduceEqDiff, Nat.reduceLT, Int.reduceAdd, Int.reduceSub, Int.reduceMul, Int.reduceNeg, Int.reduceLT, Int.reduceLE, Int.reduceEq, ilt_t, ilt_f, ile_t, ile_f, ieq_t, ieq_f, z_0, z_1, z_2, z_3, z_4, z_5, z_6, z_7, z_8, z_9, z_10, z_12, z_20, z_40, z_80, z_81, z_99, z_100, z_200, z_400, z_3240, z_20000, z_100000, iz_add, iz_sub, iz_mul, iz_neg, iz_nat, iz_lt, iz_le, iz_eq, iz_div, iz_ite, iz_c, md10, md100, izcb_0, izcb_1, isOut_0, isNoCell_0, isGr_0, within_e, isCell_e, np_p, VV_r, VV_n, V_20, W_20, V_21, W_21, V_22, W_22, V_23, W_23, V_24, W_24, V_25, W_25, V_26, W_26, V_27, W_27, V_28, W_28, V_29, W_29, V_30, W_30, V_31, W_31, V_32, W_32, V_33, W_33, V_34, W_34, V_35, W_35, V_36, W_36, V_37, W_37, V_38, W_38, V_39, W_39, h.r20_2, h.r20_3, h.r20_5, h.r20_6, h.r20_8, h.r20_9, h.r20_10, h.r20_11, h.r20_12, h.r20_13, h.r20_14, h.r20_16, h.r20_18, h.r20_19, h.r20_20, h.r20_21, h.r20_22, h.r20_23, h.r20_25, rf_20 h, ra_21 h, ra_22 h, ra_23 h, ra_24 h, ra_25 h, ra_26 h, ra_27 h, ra_28 h, ra_29 h, ra_30 h, ra_31 h, ra_32 h, ra_33 h, ra_34 h, ra_35 h, ra_36 h, ra_37 h, ra_38 h, ra_39 h, up_e, e9]
  · refine ⟨by omega, fun j j1 j2 => by omega, ⟨fun t t1 => ?_, fun j m t1 => ?_⟩, fun j j1 j2 => ?_⟩
    · funext j m; simp only [up_e]; rw [if_neg (by omega)]
    · simp only [up_e]; rw [if_neg (by omega)]
    · have : j = 0 := by omega
      subst this
      simp (disch := omega) only [up_e, lt__e, bnd_e, bnd2_e, bnd3_e, el0_l, el0_r, el1_l, el1_r, el2_l, el2_r, ↓reduceIte, not_true_eq_false, not_false_eq_true, reduceCtorEq, and_true, true_and, and_false, false_and, or_true, true_or, or_false, false_or, and_self, or_self, ite_true, ite_false, Int.cast_ofNat_Int, Nat.reduceEqDiff, Nat.reduceLT, Int.reduceAdd, Int.reduceSub, Int.reduceMul, Int.reduceNeg, Int.reduceLT, Int.reduceLE, Int.reduceEq, ilt_t, ilt_f, ile_t, ile_f, ieq_t, ieq_f]
      rfl
theorem m_homeOf (h : Sh r n nr nm np) {b : AT} (hM : MC a b) (hC : CC b) {c : Int} (h1 : 0 ≤ c) (h2 : c < 100) (h3 : 0 ≤ near b c) (h4 : near b c < 100) : f_Mo_homeOf 20 (iz c) (VV a r n) = some (iz (dst c (near b c))) := by
  unfold f_Mo_homeOf
  simp (disch := omega) only [lt__e, bnd_e, bnd2_e, bnd3_e, el0_l, el0_r, el1_l, el1_r, el2_l, el2_r, ↓reduceIte, not_true_eq_false, not_false_eq_true, reduceCtorEq, and_true, true_and, and_false, false_and, or_true, true_or, or_false, false_or, and_self, or_self, ite_true, ite_false, Int.cast_ofNat_Int, Nat.reduceEqDiff, Nat.reduceLT, Int.reduceAdd, Int.reduceSub, Int.reduceMul, Int.reduceNeg, Int.reduceLT, Int.reduceLE, Int.reduceEq, ilt_t, ilt_f, ile_t, ile_f, ieq_t, ieq_f, z_0, z_1, z_2, z_3, z_4, z_5, z_6, z_7, z_8, z_9, z_10, z_12, z_20, z_40, z_80, z_81, z_99, z_100, z_200, z_400, z_3240, z_20000, z_100000, iz_add, iz_sub, iz_mul, iz_neg, iz_nat, iz_lt, iz_le, iz_eq, iz_div, iz_ite, iz_c, md10, md100, izcb_0, izcb_1, isOut_0, isNoCell_0, isGr_0, within_e, isCell_e, np_p, m_nearest h hM hC, m_way]
theorem near_n {b : AT} (hC : CC b) (h0 : 0 < b 1 4 0) (c : Int) : Nr b c (near b c) := by
  have key : ∀ k : Nat, (k : Int) ≤ b 1 4 0 → 0 < k → ∃ z, (∃ i, 0 ≤ i ∧ i < (k : Int) ∧ b 3 i 0 = z) ∧ ∀ i, 0 ≤ i → i < (k : Int) → dst c z < dst c (b 3 i 0) ∨ (dst c z = dst c (b 3 i 0) ∧ z ≤ b 3 i 0) := by
    intro k
    induction k with
    | zero => intro _ h; omega
    | succ k ih =>
      intro h1 _
      by_cases hk : k = 0
      · subst hk
        exact ⟨b 3 0 0, ⟨0, by omega, by omega, rfl⟩, fun i i1 i2 => by
          have : i = 0 := by omega
          subst this; omega⟩
      · obtain ⟨z, ⟨i, i1, i2, i3⟩, h2⟩ := ih (by omega) (by omega)
        by_cases hc : dst c z < dst c (b 3 k 0) ∨ (dst c z = dst c (b 3 k 0) ∧ z ≤ b 3 k 0)
        · refine ⟨z, ⟨i, i1, by omega, i3⟩, fun j j1 j2 => ?_⟩
          by_cases e : j = k
          · subst e; exact hc
          · exact h2 j j1 (by omega)
        · refine ⟨b 3 k 0, ⟨k, by omega, by omega, rfl⟩, fun j j1 j2 => ?_⟩
          by_cases e : j = k
          · subst e; omega
          · have := h2 j j1 (by omega)
            omega
  have h1 := hC.1
  obtain ⟨z, ⟨i, i1, i2, i3⟩, h2⟩ := key (b 1 4 0).toNat (by omega) (by omega)
  have hz : Nr b c z := Or.inr ⟨⟨i, i1, by omega, i3⟩, by
    rintro d ⟨j, j1, j2, rfl⟩
    exact h2 j j1 (by omega)⟩
  rw [near_e hz]; exact hz
theorem m_poor (h : Sh r n nr nm np) {b : AT} (hM : MC a b) (hC : CC b) (h0 : 0 < b 1 4 0) {p k l ro : Int} (hw : PW b p) (h1 : 0 ≤ ro) (h2 : ro ≤ 3240) (hro : ∀ k, 0 ≤ k → k ≤ b 12 4 p → a 38 (ro + k) 0 = b 13 k p) (h3 : 0 ≤ k) (h4 : k ≤ b 12 4 p) (h5 : -1000 ≤ l) (h6 : l ≤ 1000) :
    f_Mo_poor 20 (iz ro) (iz k) (iz (b 12 4 p)) (iz l) (VV a r n) = some (iz (fst_ k (b 12 4 p + 1) (low b p k l))) := by
  obtain ⟨hb1, hl, hpl⟩ := hw
  unfold f_Mo_poor
  have key := lpQ (L := fun n' i (s : Int) => l_Mo_poor_7 20 (iz ro) (iz (b 12 4 p)) (VV a r n) n' (iz s) (iz i)) (hi := b 12 4 p + 1)
    (Q := fun i s => k ≤ i ∧ (i ≤ b 12 4 p → s = l - (sm (pc b p) i.toNat - sm (pc b p) k.toNat)) ∧ (l - 7 * (i - k) ≤ s ∧ s ≤ l) ∧ ∀ j, k ≤ j → j < i → ¬ low b p k l j)
    (R := fun v => (∃ i, v = .inl (iz i) ∧ fst_ k (b 12 4 p + 1) (low b p k l) = i) ∨ (v = .inr () ∧ fst_ k (b 12 4 p + 1) (low b p k l) = -1)) ?_ ?_ 4096 k l (by omega) (by omega) ?_
  · obtain ⟨v, hv, hr⟩ := key
    rcases hr with ⟨i, rfl, k1⟩ | ⟨rfl, k1⟩
    · simp (disch := omega) only [lt__e, bnd_e, bnd2_e, bnd3_e, el0_l, el0_r, el1_l, el1_r, el2_l, el2_r, ↓reduceIte, not_true_eq_false, not_false_eq_true, reduceCtorEq, and_true, true_and, and_false, false_and, or_true, true_or, or_false, false_or, and_self, or_self, ite_true, ite_false, Int.cast_ofNat_Int, Nat.reduceEqDiff, Nat.reduceLT, Int.reduceAdd, Int.reduceSub, Int.reduceMul, Int.reduceNeg, Int.reduceLT, Int.reduceLE, Int.reduceEq, ilt_t, ilt_f, ile_t, ile_f, ieq_t, ieq_f, z_0, z_1, z_2, z_3, z_4, z_5, z_6, z_7, z_8, z_9, z_10, z_12, z_20, z_40, z_80, z_81, z_99, z_100, z_200, z_400, z_3240, z_20000, z_100000, iz_add, iz_sub, iz_mul, iz_neg, iz_nat, iz_lt, iz_le, iz_eq, iz_div, iz_ite, iz_c, md10, md100, izcb_0, izcb_1, isOut_0, isNoCell_0, isGr_0, within_e, isCell_e, np_p, hv, k1]
    · simp (disch := omega) only [lt__e, bnd_e, bnd2_e, bnd3_e, el0_l, el0_r, el1_l, el1_r, el2_l, el2_r, ↓reduceIte, not_true_eq_false, not_false_eq_true, reduceCtorEq, and_true, true_and, and_false, false_and, or_true, true_or, or_false, false_or, and_self, or_self, ite_true, ite_false, Int.cast_ofNat_Int, Nat.reduceEqDiff, Nat.reduceLT, Int.reduceAdd, Int.reduceSub, Int.reduceMul, Int.reduceNeg, Int.reduceLT, Int.reduceLE, Int.reduceEq, ilt_t, ilt_f, ile_t, ile_f, ieq_t, ieq_f, z_0, z_1, z_2, z_3, z_4, z_5, z_6, z_7, z_8, z_9, z_10, z_12, z_20, z_40, z_80, z_81, z_99, z_100, z_200, z_400, z_3240, z_20000, z_100000, iz_add, iz_sub, iz_mul, iz_neg, iz_nat, iz_lt, iz_le, iz_eq, iz_div, iz_ite, iz_c, md10, md100, izcb_0, izcb_1, isOut_0, isNoCell_0, isGr_0, within_e, isCell_e, np_p, hv, k1]
  · rintro n' i s h7 ⟨h8, h9, h10, h11⟩
    have h9 := h9 (by omega)
    have b1 := hpl i (by omega) (by omega)
    have e1 := hro i (by omega) (by omega)
    have hlow : low b p k l i ↔ s < need b (b 13 i p) := by unfold low; rw [h9]
    -- what is done behind the test
    have cont : ∀ v : Int, -1000 ≤ v → v ≤ 1000 → ¬ low b p k l i → ¬ s < v → ∀ q : Int, q = b 13 i p → ∃ s', (k ≤ i + 1 ∧ (i + 1 ≤ b 12 4 p → s' = l - (sm (pc b p) (i + 1).toNat - sm (pc b p) k.toNat)) ∧ (l - 7 * (i + 1 - k) ≤ s' ∧ s' ≤ l) ∧ ∀ j, k ≤ j → j < i + 1 → ¬ low b p k l j) ∧
        j_Mo_poor_49 20 (iz ro) (iz (b 12 4 p)) (iz s) (iz i) (iz q) (iz v) (iz s) (VV a r n) (l_Mo_poor_7 20 (iz ro) (iz (b 12 4 p)) (VV a r n) n') = l_Mo_poor_7 20 (iz ro) (iz (b 12 4 p)) (VV a r n) n' (iz s') (iz (i + 1)) := by
      rintro v v1 v2 d d' q rfl
      have hj : ∀ j, k ≤ j → j < i + 1 → ¬ low b p k l j := fun j j1 j2 => by
        by_cases e : j = i
        · subst e; exact d
        · exact h11 j j1 (by omega)
      by_cases c : i < b 12 4 p
      · have b2 := hpl (i + 1) (by omega) (by omega)
        have e2 := hro (i + 1) (by omega) (by omega)
        have e3 : ro + (i + 1) = ro + i + 1 := by omega
        rw [e3] at e2
        have hc := cost_b hC (t := 4) (Or.inl rfl) (p := b 13 i p) (q := b 13 (i + 1) p) (by omega) (by omega)
        have es := sm_s (pc b p) (i := i) (by omega)
        have ep : pc b p i = cost b 4 (b 13 i p) (b 13 (i + 1) p) := rfl
        rw [ep] at es
        have ht := m_cost (a := a) h hM (t := 4) (Or.inl rfl) (p := b 13 i p) (q := b 13 (i + 1) p) (by omega) (by omega) (by omega) (by omega)
        refine ⟨s - cost b 4 (b 13 i p) (b 13 (i + 1) p), ⟨by omega, fun _ => ?_, by omega, hj⟩, ?_⟩
        · rw [es]; omega
        · unfold j_Mo_poor_49
          simp (disch := omega) only [lt__e, bnd_e, bnd2_e, bnd3_e, el0_l, el0_r, el1_l, el1_r, el2_l, el2_r, ↓reduceIte, not_true_eq_false, not_false_eq_true, reduceCtorEq, and_true, true_and, and_false, false_and, or_true, true_or, or_false, false_or, and_self, or_self, ite_true, ite_false, Int.cast_ofNat_Int, Nat.reduceEqDiff, Nat.reduceLT, Int.reduceAdd, Int.reduceSub, Int.reduceMul, Int.reduceNeg, Int.reduceLT, Int.reduceLE, Int.reduceEq, ilt_t, ilt_f, ile_t, ile_f, ieq_t, ieq_f, z_0, z_1, z_2, z_3, z_4, z_5, z_6, z_7, z_8, z_9, z_10, z_12, z_20, z_40, z_80, z_81, z_99, z_100, z_200, z_400, z_3240, z_20000, z_100000, iz_add, iz_sub, iz_mul, iz_neg, iz_nat, iz_lt, iz_le, iz_eq, iz_div, iz_ite, iz_c, md10, md100, izcb_0, izcb_1, isOut_0, isNoCell_0, isGr_0, within_e, isCell_e, np_p, VV_r, VV_n, V_20, W_20, V_21, W_21, V_22, W_22, V_23, W_23, V_24, W_24, V_25, W_25, V_26, W_26, V_27, W_27, V_28, W_28, V_29, W_29, V_30, W_30, V_31, W_31, V_32, W_32, V_33, W_33, V_34, W_34, V_35, W_35, V_36, W_36, V_37, W_37, V_38, W_38, V_39, W_39, h.r20_2, h.r20_3, h.r20_5, h.r20_6, h.r20_8, h.r20_9, h.r20_10, h.r20_11, h.r20_12, h.r20_13, h.r20_14, h.r20_16, h.r20_18, h.r20_19, h.r20_20, h.r20_21, h.r20_22, h.r20_23, h.r20_25, rf_20 h, ra_21 h, ra_22 h, ra_23 h, ra_24 h, ra_25 h, ra_26 h, ra_27 h, ra_28 h, ra_29 h, ra_30 h, ra_31 h, ra_32 h, ra_33 h, ra_34 h, ra_35 h, ra_36 h, ra_37 h, ra_38 h, ra_39 h, up_e, e1, e2, ht]
      · refine ⟨s, ⟨by omega, fun q => by omega, by omega, hj⟩, ?_⟩
        unfold j_Mo_poor_49
        simp (disch := omega) only [lt__e, bnd_e, bnd2_e, bnd3_e, el0_l, el0_r, el1_l, el1_r, el2_l, el2_r, ↓reduceIte, not_true_eq_false, not_false_eq_true, reduceCtorEq, and_true, true_and, and_false, false_and, or_true, true_or, or_false, false_or, and_self, or_self, ite_true, ite_false, Int.cast_ofNat_Int, Nat.reduceEqDiff, Nat.reduceLT, Int.reduceAdd, Int.reduceSub, Int.reduceMul, Int.reduceNeg, Int.reduceLT, Int.reduceLE, Int.reduceEq, ilt_t, ilt_f, ile_t, ile_f, ieq_t, ieq_f, z_0, z_1, z_2, z_3, z_4, z_5, z_6, z_7, z_8, z_9, z_10, z_12, z_20, z_40, z_80, z_81, z_99, z_100, z_200, z_400, z_3240, z_20000, z_100000, iz_add, iz_sub, iz_mul, iz_neg, iz_nat, iz_lt, iz_le, iz_eq, iz_div, iz_ite, iz_c, md10, md100, izcb_0, izcb_1, isOut_0, isNoCell_0, isGr_0, within_e, isCell_e, np_p, VV_r, VV_n, V_20, W_20, V_21, W_21, V_22, W_22, V_23, W_23, V_24, W_24, V_25, W_25, V_26, W_26, V_27, W_27, V_28, W_28, V_29, W_29, V_30, W_30, V_31, W_31, V_32, W_32, V_33, W_33, V_34, W_34, V_35, W_35, V_36, W_36, V_37, W_37, V_38, W_38, V_39, W_39, h.r20_2, h.r20_3, h.r20_5, h.r20_6, h.r20_8, h.r20_9, h.r20_10, h.r20_11, h.r20_12, h.r20_13, h.r20_14, h.r20_16, h.r20_18, h.r20_19, h.r20_20, h.r20_21, h.r20_22, h.r20_23, h.r20_25, rf_20 h, ra_21 h, ra_22 h, ra_23 h, ra_24 h, ra_25 h, ra_26 h, ra_27 h, ra_28 h, ra_29 h, ra_30 h, ra_31 h, ra_32 h, ra_33 h, ra_34 h, ra_35 h, ra_36 h, ra_37 h, ra_38 h, ra_39 h, up_e, Int.sub_zero]
    have stop : ∀ v q : Int, -1000 ≤ v → v ≤ 1000 → s < v → j_Mo_poor_49 20 (iz ro) (iz (b 12 4 p)) (iz s) (iz i) (iz q) (iz v) (iz s) (VV a r n) (l_Mo_poor_7 20 (iz ro) (iz (b 12 4 p)) (VV a r n) n') = some (.inl (iz i)) := by
      intro v q v1 v2 d
      unfold j_Mo_poor_49
      simp (disch := omega) only [lt__e, bnd_e, bnd2_e, bnd3_e, el0_l, el0_r, el1_l, el1_r, el2_l, el2_r, ↓reduceIte, not_true_eq_false, not_false_eq_true, reduceCtorEq, and_true, true_and, and_false, false_and, or_true, true_or, or_false, false_or, and_self, or_self, ite_true, ite_false, Int.cast_ofNat_Int, Nat.reduceEqDiff, Nat.reduceLT, Int.reduceAdd, Int.reduceSub, Int.reduceMul, Int.reduceNeg, Int.reduceLT, Int.reduceLE, Int.reduceEq, ilt_t, ilt_f, ile_t, ile_f, ieq_t, ieq_f, z_0, z_1, z_2, z_3, z_4, z_5, z_6, z_7, z_8, z_9, z_10, z_12, z_20, z_40, z_80, z_81, z_99, z_100, z_200, z_400, z_3240, z_20000, z_100000, iz_add, iz_sub, iz_mul, iz_neg, iz_nat, iz_lt, iz_le, iz_eq, iz_div, iz_ite, iz_c, md10, md100, izcb_0, izcb_1, isOut_0, isNoCell_0, isGr_0, within_e, isCell_e, np_p, VV_r, VV_n, V_20, W_20, V_21, W_21, V_22, W_22, V_23, W_23, V_24, W_24, V_25, W_25, V_26, W_26, V_27, W_27, V_28, W_28, V_29, W_29, V_30, W_30, V_31, W_31, V_32, W_32, V_33, W_33, V_34, W_34, V_35, W_35, V_36, W_36, V_37, W_37, V_38, W_38, V_39, W_39, h.r20_2, h.r20_3, h.r20_5, h.r20_6, h.r20_8, h.r20_9, h.r20_10, h.r20_11, h.r20_12, h.r20_13, h.r20_14, h.r20_16, h.r20_18, h.r20_19, h.r20_20, h.r20_21, h.r20_22, h.r20_23, h.r20_25, rf_20 h, ra_21 h, ra_22 h, ra_23 h, ra_24 h, ra_25 h, ra_26 h, ra_27 h, ra_28 h, ra_29 h, ra_30 h, ra_31 h, ra_32 h, ra_33 h, ra_34 h, ra_35 h, ra_36 h, ra_37 h, ra_38 h, ra_39 h, up_e]
    have ev : ∀ v : Int, v = need b (b 13 i p) → l_Mo_poor_7 20 (iz ro) (iz (b 12 4 p)) (VV a r n) (n' + 1) (iz s) (iz i) = j_Mo_poor_49 20 (iz ro) (iz (b 12 4 p)) (iz s) (iz i) (iz (b 13 i p)) (iz v) (iz s) (VV a r n) (l_Mo_poor_7 20 (iz ro) (iz (b 12 4 p)) (VV a r n) n') := by
      intro v hv
      dsimp only [l_Mo_poor_7, b_Mo_poor_7]
      by_cases c : 100 ≤ b 13 i p
      · have hN := near_n hC h0 (b 13 i p % 100)
        have hn := near_b hC h0 hN
        have en : need b (b 13 i p) = dst (b 13 i p % 100) (near b (b 13 i p % 100)) + 10 := if_neg (by omega)
        rw [en] at hv
        simp (disch := omega) only [lt__e, bnd_e, bnd2_e, bnd3_e, el0_l, el0_r, el1_l, el1_r, el2_l, el2_r, ↓reduceIte, not_true_eq_false, not_false_eq_true, reduceCtorEq, and_true, true_and, and_false, false_and, or_true, true_or, or_false, false_or, and_self, or_self, ite_true, ite_false, Int.cast_ofNat_Int, Nat.reduceEqDiff, Nat.reduceLT, Int.reduceAdd, Int.reduceSub, Int.reduceMul, Int.reduceNeg, Int.reduceLT, Int.reduceLE, Int.reduceEq, ilt_t, ilt_f, ile_t, ile_f, ieq_t, ieq_f, z_0, z_1, z_2, z_3, z_4, z_5, z_6, z_7, z_8, z_9, z_10, z_12, z_20, z_40, z_80, z_81, z_99, z_100, z_200, z_400, z_3240, z_20000, z_100000, iz_add, iz_sub, iz_mul, iz_neg, iz_nat, iz_lt, iz_le, iz_eq, iz_div, iz_ite, iz_c, md10, md100, izcb_0, izcb_1, isOut_0, isNoCell_0, isGr_0, within_e, isCell_e, np_p, VV_r, VV_n, V_20, W_20, V_21, W_21, V_22, W_22, V_23, W_23, V_24, W_24, V_25, W_25, V_26, W_26, V_27, W_27, V_28, W_28, V_29, W_29, V_30, W_30, V_31, W_31, V_32, W_32, V_33, W_33, V_34, W_34, V_35, W_35, V_36, W_36, V_37, W_37, V_38, W_38, V_39, W_39, h.r20_2, h.r20_3, h.r20_5, h.r20_6, h.r20_8, h.r20_9, h.r20_10, h.r20_11, h.r20_12, h.r20_13, h.r20_14, h.r20_16, h.r20_18, h.r20_19, h.r20_20, h.r20_21, h.r20_22, h.r20_23, h.r20_25, rf_20 h, ra_21 h, ra_22 h, ra_23 h, ra_24 h, ra_25 h, ra_26 h, ra_27 h, ra_28 h, ra_29 h, ra_30 h, ra_31 h, ra_32 h, ra_33 h, ra_34 h, ra_35 h, ra_36 h, ra_37 h, ra_38 h, ra_39 h, up_e, e1, m_homeOf h hM hC, hv]
      · have en : need b (b 13 i p) = 0 := if_pos (by omega)
        rw [en] at hv
        simp (disch := omega) only [lt__e, bnd_e, bnd2_e, bnd3_e, el0_l, el0_r, el1_l, el1_r, el2_l, el2_r, ↓reduceIte, not_true_eq_false, not_false_eq_true, reduceCtorEq, and_true, true_and, and_false, false_and, or_true, true_or, or_false, false_or, and_self, or_self, ite_true, ite_false, Int.cast_ofNat_Int, Nat.reduceEqDiff, Nat.reduceLT, Int.reduceAdd, Int.reduceSub, Int.reduceMul, Int.reduceNeg, Int.reduceLT, Int.reduceLE, Int.reduceEq, ilt_t, ilt_f, ile_t, ile_f, ieq_t, ieq_f, z_0, z_1, z_2, z_3, z_4, z_5, z_6, z_7, z_8, z_9, z_10, z_12, z_20, z_40, z_80, z_81, z_99, z_100, z_200, z_400, z_3240, z_20000, z_100000, iz_add, iz_sub, iz_mul, iz_neg, iz_nat, iz_lt, iz_le, iz_eq, iz_div, iz_ite, iz_c, md10, md100, izcb_0, izcb_1, isOut_0, isNoCell_0, isGr_0, within_e, isCell_e, np_p, VV_r, VV_n, V_20, W_20, V_21, W_21, V_22, W_22, V_23, W_23, V_24, W_24, V_25, W_25, V_26, W_26, V_27, W_27, V_28, W_28, V_29, W_29, V_30, W_30, V_31, W_31, V_32, W_32, V_33, W_33, V_34, W_34, V_35, W_35, V_36, W_36, V_37, W_37, V_38, W_38, V_39, W_39, h.r20_2, h.r20_3, h.r20_5, h.r20_6, h.r20_8, h.r20_9, h.r20_10, h.r20_11, h.r20_12, h.r20_13, h.r20_14, h.r20_16, h.r20_18, h.r20_19, h.r20_20, h.r20_21, h.r20_22, h.r20_23, h.r20_25, rf_20 h, ra_21 h, ra_22 h, ra_23 h, ra_24 h, ra_25 h, ra_26 h, ra_27 h, ra_28 h, ra_29 h, ra_30 h, ra_31 h, ra_32 h, ra_33 h, ra_34 h, ra_35 h, ra_36 h, ra_37 h, ra_38 h, ra_39 h, up_e, e1, hv]
    have hnb : -1000 ≤ need b (b 13 i p) ∧ need b (b 13 i p) ≤ 1000 := by
      by_cases c : 100 ≤ b 13 i p
      · have hN := near_n hC h0 (b 13 i p % 100)
        have hn := near_b hC h0 hN
        have hd := dst_b (c := b 13 i p % 100) (d := near b (b 13 i p % 100)) (by omega) (by omega) hn.1 hn.2
        have en : need b (b 13 i p) = dst (b 13 i p % 100) (near b (b 13 i p % 100)) + 10 := if_neg (by omega)
        omega
      · have en : need b (b 13 i p) = 0 := if_pos (by omega)
        omega
    rw [ev _ rfl]
    by_cases d : low b p k l i
    · right
      exact ⟨.inl (iz i), stop _ _ hnb.1 hnb.2 (hlow.1 d), Or.inl ⟨i, rfl, fst_i h8 h7 d h11⟩⟩
    · left
      exact cont _ hnb.1 hnb.2 d ((not_congr hlow).1 d) _ rfl
  · rintro n' s ⟨h8, h9, h10, h11⟩
    refine ⟨.inr (), ?_, Or.inr ⟨rfl, fst_n h11⟩⟩
    dsimp only [l_Mo_poor_7, b_Mo_poor_7]
    simp (disch := omega) only [lt__e, bnd_e, bnd2_e, bnd3_e, el0_l, el0_r, el1_l, el1_r, el2_l, el2_r, ↓reduceIte, not_true_eq_false, not_false_eq_true, reduceCtorEq, and_true, true_and, and_false, false_and, or_true, true_or, or_false, false_or, and_self, or_self, ite_true, ite_false, Int.cast_ofNat_Int, Nat.reduceEqDiff, Nat.reduceLT, Int.reduceAdd, Int.reduceSub, Int.reduceMul, Int.reduceNeg, Int.reduceLT, Int.reduceLE, Int.reduceEq, ilt_t, ilt_f, ile_t, ile_f, ieq_t, ieq_f, z_0, z_1, z_2, z_3, z_4, z_5, z_6, z_7, z_8, z_9, z_10, z_12, z_20, z_40, z_80, z_81, z_99, z_100, z_200, z_400, z_3240, z_20000, z_100000, iz_add, iz_sub, iz_mul, iz_neg, iz_nat, iz_lt, iz_le, iz_eq, iz_div, iz_ite, iz_c, md10, md100, izcb_0, izcb_1, isOut_0, isNoCell_0, isGr_0, within_e, isCell_e, np_p, VV_r, VV_n, V_20, W_20, V_21, W_21, V_22, W_22, V_23, W_23, V_24, W_24, V_25, W_25, V_26, W_26, V_27, W_27, V_28, W_28, V_29, W_29, V_30, W_30, V_31, W_31, V_32, W_32, V_33, W_33, V_34, W_34, V_35, W_35, V_36, W_36, V_37, W_37, V_38, W_38, V_39, W_39, h.r20_2, h.r20_3, h.r20_5, h.r20_6, h.r20_8, h.r20_9, h.r20_10, h.r20_11, h.r20_12, h.r20_13, h.r20_14, h.r20_16, h.r20_18, h.r20_19, h.r20_20, h.r20_21, h.r20_22, h.r20_23, h.r20_25, rf_20 h, ra_21 h, ra_22 h, ra_23 h, ra_24 h, ra_25 h, ra_26 h, ra_27 h, ra_28 h, ra_29 h, ra_30 h, ra_31 h, ra_32 h, ra_33 h, ra_34 h, ra_35 h, ra_36 h, ra_37 h, ra_38 h, ra_39 h, up_e]
  · exact ⟨by omega, fun _ => by omega, by omega, fun j j1 j2 => by omega⟩
end T7
