/-! file: what judges, in the class and in the reference -/
theorem fst_up {lo hi : Int} {p : Int → Prop} (h : ¬ p lo) : fst_ lo hi p = fst_ (lo + 1) hi p := by
  rcases fst_cases lo hi p with ⟨h1, h2, h3, h4⟩ | ⟨h1, h2⟩
  · have : fst_ lo hi p ≠ lo := fun e => h (e ▸ h3)
    exact (fst_i (by omega) h2 h3 (fun j j1 j2 => h4 j (by omega) j2)).symm
  · rw [h1, fst_n (fun j j1 j2 => h2 j (by omega) j2)]
theorem fst_b {lo hi : Int} (p : Int → Prop) (h : 0 ≤ lo) (h2 : -1 ≤ hi) : -1 ≤ fst_ lo hi p ∧ fst_ lo hi p ≤ hi := by
  rcases fst_cases lo hi p with ⟨h1, h2, h3, h4⟩ | ⟨h1, h2⟩ <;> omega
theorem sr_l {r : Nat → Nat → Option Nat} {k k' j j' : Nat} {v : Option Nat} (h : k' ≠ k) : sr r k j v k' j' = r k' j' := if_neg (fun q => h q.1)
/-- how many of its firm wait -/
noncomputable def wt (T : AT) (np m : Int) : Int := cnt (fun p => T 12 6 p = 0 ∧ T 11 0 (T 12 2 p) = T 11 0 m) np.toNat
/-- what will be in the battery as the trial begins -/
def bt (A : AT) (np m : Int) : Int := if A 11 2 m + 5 * (A 12 3 np - A 0 10 0) < A 11 1 m then A 11 2 m + 5 * (A 12 3 np - A 0 10 0) else A 11 1 m
noncomputable def lw (A : AT) (np m : Int) : Int := fst_ 1 (A 12 4 np + 1) (low A np 0 (bt A np m))
noncomputable def wy (A : AT) (np : Int) : Int := fst_ 0 np (fun q => gw A np q ∧ mt A np q 0)
/-- the reason and the cause -/
def Vd (T A : AT) (nr np m rz cz : Int) : Prop :=
  (T 11 4 m ≠ 0 ∧ rz = 1 ∧ cz = -1) ∨ (T 11 4 m = 0 ∧
  ((T 11 5 m ≠ -1 ∧ rz = 1 ∧ cz = T 11 5 m) ∨ (T 11 5 m = -1 ∧
  ((2 < wt T np m ∧ rz = 2 ∧ cz = -1) ∨ (wt T np m ≤ 2 ∧
  ((lay_ T (T 11 3 m) ≠ -1 ∧ rz = 3 ∧ cz = lay_ T (T 11 3 m)) ∨ (lay_ T (T 11 3 m) = -1 ∧ Laid A T np (T 11 3 m) ∧
  ((lw A np m ≠ -1 ∧ rz = 4 ∧ cz = lw A np m) ∨ (lw A np m = -1 ∧
  ((fst_ 0 nr (inRm A np 0) ≠ -1 ∧ rz = 5 ∧ cz = fst_ 0 nr (inRm A np 0)) ∨ (fst_ 0 nr (inRm A np 0) = -1 ∧
  ((wy A np ≠ -1 ∧ rz = 6 ∧ cz = wy A np) ∨ (wy A np = -1 ∧ rz = 0 ∧ cz = -1)))))))))))))
section C8
variable {a A B T c' b b' : AT} {r : Nat → Nat → Option Nat} {n : Nat → Nat} {nr nm np : Int}
theorem Laid.pw {st : Int} (hT : TrO A T np) (hD : CD T) (h1 : 0 ≤ st) (h2 : st < 400) (hl : lay_ T st = -1) (hL : Laid A T np st) (ht : 1 ≤ T 12 3 np ∧ T 12 3 np ≤ 20200) : PW A np := by
  obtain ⟨g1, g2, g3⟩ := lay_ok hD h1 h2 hl
  obtain ⟨g4, g5⟩ := hL
  have hd := hD.1
  have e3 : A 12 3 np = T 12 3 np := hT.2.1 3 np (by omega)
  refine ⟨by omega, by omega, fun k k1 k2 => ?_⟩
  rw [g5 k k1 (by omega)]
  exact g1 k k1 (by omega)
theorem c_judge (h : Sh r n nr nm np) (hC : CC T) (hD : CD T) (hR : CRm T nr) (hMa : CMa T nm np) (hP : CP T nm np) (h0 : 0 < T 1 4 0) {m : Int} (m1 : 0 ≤ m) (m2 : m < nm) (ht : 1 ≤ T 12 3 np ∧ T 12 3 np ≤ 20200) (hu : 0 ≤ T 12 5 np ∧ T 12 5 np ≤ 3)
    (hn : 0 ≤ T 0 10 0 ∧ T 0 10 0 ≤ 20000) (hd : 0 ≤ T 12 3 np - T 0 10 0 ∧ T 12 3 np - T 0 10 0 ≤ 200) (hst : T 11 4 m = 0 → T 11 3 m < 100 ∧ 0 ≤ T 11 2 m) :
    ∃ A rz cz, TrO A T np ∧ (0 ≤ rz ∧ rz ≤ 6) ∧ Vd T A nr np m rz cz ∧ f_Sk_judge 0 (some (kk 11 m)) (VV T r n) = some (iz (-rz), VV (if rz = 0 then A else up (up A 0 11 0 (A 0 11 0 + 1)) 0 12 0 cz) r n) := by
  have hb := h.b
  obtain ⟨w0, w1, w2, w3, w4, w5, w6⟩ := hMa m m1 m2
  by_cases c1 : T 11 4 m = 0
  · obtain ⟨hs1, hs2⟩ := hst c1
    by_cases c2 : T 11 5 m = -1
    · have ew := c_waitingOfFirm h hP hMa (f := T 11 0 m) w0
      have ew' : f_Sk_waitingOfFirm 0 (iz (T 11 0 m)) (VV T r n) = some (iz (wt T np m)) := ew
      have hwb : 0 ≤ wt T np m ∧ wt T np m ≤ np.toNat := cnt_b _ _
      by_cases c3 : wt T np m ≤ 2
      · obtain ⟨A, d1, d2, d3, d4⟩ := c_layDraft h hC hD (st := T 11 3 m) w3.1 (by omega)
        have hlb := lay_b hD (T 11 3 m)
        by_cases c4 : lay_ T (T 11 3 m) = -1
        · have hL := d4 c4
          have hw := hL.pw d2 hD w3.1 (by omega) c4 ht
          have e11 : A 11 = T 11 := d2.1 11 (by omega) (by omega)
          have e0 : A 0 = T 0 := d2.1 0 (by omega) (by omega)
          have e3 : A 12 3 np = T 12 3 np := d2.2.1 3 np (by omega)
          have e5 : A 12 5 np = T 12 5 np := d2.2.1 5 np (by omega)
          have hCA := CC_c d2.eqC hC
          have hRA : CRm A nr := CRm_c2 (d2.1 10 (by omega) (by omega)) hR
          have hPA : CP A nm np := CP_c d2.q hP
          have hbt : 0 ≤ bt A np m ∧ bt A np m ≤ 1000 := by unfold bt; rw [e11, e0, e3]; omega
          have k1 := c_placeTooLow (a := A) h hCA (by rw [d2.1 1 (by omega) (by omega)]; exact h0) (p := np) (k := 0) (l := bt A np m) hb.2.2.1 (Int.le_refl _) hw (Int.le_refl _) hw.2.1.1 (by omega) (by omega)
          have k1' : f_Sk_placeTooLow 0 (some (kk 12 np)) (iz 0) (iz (bt A np m)) (VV A r n) = some (iz (lw A np m)) := k1
          have k2 := c_roomHolding (a := A) h hRA (p := np) (k := 0) hb.2.2.1 (Int.le_refl _) hw (Int.le_refl _) (by have := hw.2.1; omega)
          have k3 := c_pathInTheWay (a := A) h hPA (p := np) hb.2.2.1 (Int.le_refl _) hw (by rw [e5]; exact hu)
          have k3' : f_Sk_pathInTheWay 0 (some (kk 12 np)) (VV A r n) = some (iz (wy A np)) := k3
          have b1 := fst_b (lo := 1) (hi := A 12 4 np + 1) (low A np 0 (bt A np m)) (by omega) (by have := hw.2.1; omega)
          have b1' : -1 ≤ lw A np m ∧ lw A np m ≤ 100 := by have := hw.2.1; unfold lw; omega
          have b2 := fst_b (lo := 0) (hi := nr) (inRm A np 0) (by omega) (by omega)
          have b3' : -1 ≤ wy A np ∧ wy A np ≤ np := fst_b (lo := 0) (hi := np) _ (by omega) (by omega)
          have ebt : (if T 11 2 m + 5 * (T 12 3 np - T 0 10 0) < T 11 1 m then T 11 2 m + 5 * (T 12 3 np - T 0 10 0) else T 11 1 m) = bt A np m := by unfold bt; rw [e11, e0, e3]
          by_cases c5 : lw A np m = -1
          · by_cases c6 : fst_ 0 nr (inRm A np 0) = -1
            · by_cases c7 : wy A np = -1
              · refine ⟨A, 0, -1, d2, by omega, Or.inr ⟨c1, Or.inr ⟨c2, Or.inr ⟨c3, Or.inr ⟨c4, hL, Or.inr ⟨c5, Or.inr ⟨c6, Or.inr ⟨c7, rfl, rfl⟩⟩⟩⟩⟩⟩⟩, ?_⟩
                unfold f_Sk_judge f_Sk_refuse f_Ma_batteryAfter
                simp (disch := omega) only [lt__e, bnd_e, bnd2_e, bnd3_e, el0_l, el0_r, el1_l, el1_r, el2_l, el2_r, ↓reduceIte, not_true_eq_false, not_false_eq_true, reduceCtorEq, and_true, true_and, and_false, false_and, or_true, true_or, or_false, false_or, and_self, or_self, ite_true, ite_false, Int.cast_ofNat_Int, Nat.reduceEqDiff, Nat.reduceLT, Int.reduceAdd, Int.reduceSub, Int.reduceMul, Int.reduceNeg, Int.reduceLT, Int.reduceLE, Int.reduceEq, ilt_t, ilt_f, ile_t, ile_f, ieq_t, ieq_f, z_0, z_1, z_2, z_3, z_4, z_5, z_6, z_7, z_8, z_9, z_10, z_12, z_20, z_40, z_80, z_81, z_99, z_100, z_200, z_400, z_3240, z_20000, z_100000, iz_add, iz_sub, iz_mul, iz_neg, iz_nat, iz_lt, iz_le, iz_eq, iz_div, iz_ite, iz_c, md10, md100, izcb_0, izcb_1, isOut_0, isNoCell_0, isGr_0, np_p, VV_r, VV_n, V_k, W_k, V_0, W_0, V_1, W_1, V_2, W_2, V_3, W_3, V_4, W_4, V_5, W_5, V_6, W_6, V_7, W_7, V_8, W_8, V_9, W_9, h.r0_0, h.r0_1, h.r0_2, h.r0_3, h.r0_4, h.r0_5, h.r1_0, h.r1_1, h.r1_2, h.r1_3, h.r12, rf_0 h, rf_1 h, rf_10 h, rf_11 h, rf_12 h, r6_i h, r6_o h, r7_i h, r7_o h, r8_i h, r8_o h, rl_13 h, ra_13 h, rl_2 h, ra_2 h, rl_3 h, ra_3 h, rl_4 h, ra_4 h, rl_5 h, ra_5 h, rl_6 h, ra_6 h, rl_7 h, ra_7 h, rl_8 h, ra_8 h, rl_9 h, ra_9 h, rl_50 h, ra_50 h, rl_51 h, ra_51 h, V_50, W_50, V_51, W_51, up_e, y_0, y_1, y_2, y_3, y_40, y_100, y_m1, y_m6, y_x1, y_x2, y_x3, z_m1, jz_neg, jz_add, jz_mul, jz_eq, jz_lt, jz_i, jz_l, jz_cmp, cmp_0, cmp_l, cmp_g, Int.neg_zero, c1, c2, ew', d1, c4, e3, e0, e11, ebt, k1', c5, k2, c6, k3', c7]
              · refine ⟨A, 6, wy A np, d2, by omega, Or.inr ⟨c1, Or.inr ⟨c2, Or.inr ⟨c3, Or.inr ⟨c4, hL, Or.inr ⟨c5, Or.inr ⟨c6, Or.inl ⟨c7, rfl, rfl⟩⟩⟩⟩⟩⟩⟩, ?_⟩
                unfold f_Sk_judge f_Sk_refuse f_Ma_batteryAfter
                simp (disch := omega) only [lt__e, bnd_e, bnd2_e, bnd3_e, el0_l, el0_r, el1_l, el1_r, el2_l, el2_r, ↓reduceIte, not_true_eq_false, not_false_eq_true, reduceCtorEq, and_true, true_and, and_false, false_and, or_true, true_or, or_false, false_or, and_self, or_self, ite_true, ite_false, Int.cast_ofNat_Int, Nat.reduceEqDiff, Nat.reduceLT, Int.reduceAdd, Int.reduceSub, Int.reduceMul, Int.reduceNeg, Int.reduceLT, Int.reduceLE, Int.reduceEq, ilt_t, ilt_f, ile_t, ile_f, ieq_t, ieq_f, z_0, z_1, z_2, z_3, z_4, z_5, z_6, z_7, z_8, z_9, z_10, z_12, z_20, z_40, z_80, z_81, z_99, z_100, z_200, z_400, z_3240, z_20000, z_100000, iz_add, iz_sub, iz_mul, iz_neg, iz_nat, iz_lt, iz_le, iz_eq, iz_div, iz_ite, iz_c, md10, md100, izcb_0, izcb_1, isOut_0, isNoCell_0, isGr_0, np_p, VV_r, VV_n, V_k, W_k, V_0, W_0, V_1, W_1, V_2, W_2, V_3, W_3, V_4, W_4, V_5, W_5, V_6, W_6, V_7, W_7, V_8, W_8, V_9, W_9, h.r0_0, h.r0_1, h.r0_2, h.r0_3, h.r0_4, h.r0_5, h.r1_0, h.r1_1, h.r1_2, h.r1_3, h.r12, rf_0 h, rf_1 h, rf_10 h, rf_11 h, rf_12 h, r6_i h, r6_o h, r7_i h, r7_o h, r8_i h, r8_o h, rl_13 h, ra_13 h, rl_2 h, ra_2 h, rl_3 h, ra_3 h, rl_4 h, ra_4 h, rl_5 h, ra_5 h, rl_6 h, ra_6 h, rl_7 h, ra_7 h, rl_8 h, ra_8 h, rl_9 h, ra_9 h, rl_50 h, ra_50 h, rl_51 h, ra_51 h, V_50, W_50, V_51, W_51, up_e, y_0, y_1, y_2, y_3, y_40, y_100, y_m1, y_m6, y_x1, y_x2, y_x3, z_m1, jz_neg, jz_add, jz_mul, jz_eq, jz_lt, jz_i, jz_l, jz_cmp, cmp_0, cmp_l, cmp_g, c1, c2, ew', d1, c4, e3, e0, e11, ebt, k1', c5, k2, c6, k3', c7]
            · refine ⟨A, 5, fst_ 0 nr (inRm A np 0), d2, by omega, Or.inr ⟨c1, Or.inr ⟨c2, Or.inr ⟨c3, Or.inr ⟨c4, hL, Or.inr ⟨c5, Or.inl ⟨c6, rfl, rfl⟩⟩⟩⟩⟩⟩, ?_⟩
              unfold f_Sk_judge f_Sk_refuse f_Ma_batteryAfter
              simp (disch := omega) only [lt__e, bnd_e, bnd2_e, bnd3_e, el0_l, el0_r, el1_l, el1_r, el2_l, el2_r, ↓reduceIte, not_true_eq_false, not_false_eq_true, reduceCtorEq, and_true, true_and, and_false, false_and, or_true, true_or, or_false, false_or, and_self, or_self, ite_true, ite_false, Int.cast_ofNat_Int, Nat.reduceEqDiff, Nat.reduceLT, Int.reduceAdd, Int.reduceSub, Int.reduceMul, Int.reduceNeg, Int.reduceLT, Int.reduceLE, Int.reduceEq, ilt_t, ilt_f, ile_t, ile_f, ieq_t, ieq_f, z_0, z_1, z_2, z_3, z_4, z_5, z_6, z_7, z_8, z_9, z_10, z_12, z_20, z_40, z_80, z_81, z_99, z_100, z_200, z_400, z_3240, z_20000, z_100000, iz_add, iz_sub, iz_mul, iz_neg, iz_nat, iz_lt, iz_le, iz_eq, iz_div, iz_ite, iz_c, md10, md100, izcb_0, izcb_1, isOut_0, isNoCell_0, isGr_0, np_p, VV_r, VV_n, V_k, W_k, V_0, W_0, V_1, W_1, V_2, W_2, V_3, W_3, V_4, W_4, V_5, W_5, V_6, W_6, V_7, W_7, V_8, W_8, V_9, W_9, h.r0_0, h.r0_1, h.r0_2, h.r0_3, h.r0_4, h.r0_5, h.r1_0, h.r1_1, h.r1_2, h.r1_3, h.r12, rf_0 h, rf_1 h, rf_10 h, rf_11 h, rf_12 h, r6_i h, r6_o h, r7_i h, r7_o h, r8_i h, r8_o h, rl_13 h, ra_13 h, rl_2 h, ra_2 h, rl_3 h, ra_3 h, rl_4 h, ra_4 h, rl_5 h, ra_5 h, rl_6 h, ra_6 h, rl_7 h, ra_7 h, rl_8 h, ra_8 h, rl_9 h, ra_9 h, rl_50 h, ra_50 h, rl_51 h, ra_51 h, V_50, W_50, V_51, W_51, up_e, y_0, y_1, y_2, y_3, y_40, y_100, y_m1, y_m6, y_x1, y_x2, y_x3, z_m1, jz_neg, jz_add, jz_mul, jz_eq, jz_lt, jz_i, jz_l, jz_cmp, cmp_0, cmp_l, cmp_g, c1, c2, ew', d1, c4, e3, e0, e11, ebt, k1', c5, k2, c6]
          · refine ⟨A, 4, lw A np m, d2, by omega, Or.inr ⟨c1, Or.inr ⟨c2, Or.inr ⟨c3, Or.inr ⟨c4, hL, Or.inl ⟨c5, rfl, rfl⟩⟩⟩⟩⟩, ?_⟩
            unfold f_Sk_judge f_Sk_refuse f_Ma_batteryAfter
            simp (disch := omega) only [lt__e, bnd_e, bnd2_e, bnd3_e, el0_l, el0_r, el1_l, el1_r, el2_l, el2_r, ↓reduceIte, not_true_eq_false, not_false_eq_true, reduceCtorEq, and_true, true_and, and_false, false_and, or_true, true_or, or_false, false_or, and_self, or_self, ite_true, ite_false, Int.cast_ofNat_Int, Nat.reduceEqDiff, Nat.reduceLT, Int.reduceAdd, Int.reduceSub, Int.reduceMul, Int.reduceNeg, Int.reduceLT, Int.reduceLE, Int.reduceEq, ilt_t, ilt_f, ile_t, ile_f, ieq_t, ieq_f, z_0, z_1, z_2, z_3, z_4, z_5, z_6, z_7, z_8, z_9, z_10, z_12, z_20, z_40, z_80, z_81, z_99, z_100, z_200, z_400, z_3240, z_20000, z_100000, iz_add, iz_sub, iz_mul, iz_neg, iz_nat, iz_lt, iz_le, iz_eq, iz_div, iz_ite, iz_c, md10, md100, izcb_0, izcb_1, isOut_0, isNoCell_0, isGr_0, np_p, VV_r, VV_n, V_k, W_k, V_0, W_0, V_1, W_1, V_2, W_2, V_3, W_3, V_4, W_4, V_5, W_5, V_6, W_6, V_7, W_7, V_8, W_8, V_9, W_9, h.r0_0, h.r0_1, h.r0_2, h.r0_3, h.r0_4, h.r0_5, h.r1_0, h.r1_1, h.r1_2, h.r1_3, h.r12, rf_0 h, rf_1 h, rf_10 h, rf_11 h, rf_12 h, r6_i h, r6_o h, r7_i h, r7_o h, r8_i h, r8_o h, rl_13 h, ra_13 h, rl_2 h, ra_2 h, rl_3 h, ra_3 h, rl_4 h, ra_4 h, rl_5 h, ra_5 h, rl_6 h, ra_6 h, rl_7 h, ra_7 h, rl_8 h, ra_8 h, rl_9 h, ra_9 h, rl_50 h, ra_50 h, rl_51 h, ra_51 h, V_50, W_50, V_51, W_51, up_e, y_0, y_1, y_2, y_3, y_40, y_100, y_m1, y_m6, y_x1, y_x2, y_x3, z_m1, jz_neg, jz_add, jz_mul, jz_eq, jz_lt, jz_i, jz_l, jz_cmp, cmp_0, cmp_l, cmp_g, c1, c2, ew', d1, c4, e3, e0, e11, ebt, k1', c5]
        · refine ⟨A, 3, lay_ T (T 11 3 m), d2, by omega, Or.inr ⟨c1, Or.inr ⟨c2, Or.inr ⟨c3, Or.inl ⟨c4, rfl, rfl⟩⟩⟩⟩, ?_⟩
          unfold f_Sk_judge f_Sk_refuse
          simp (disch := omega) only [lt__e, bnd_e, bnd2_e, bnd3_e, el0_l, el0_r, el1_l, el1_r, el2_l, el2_r, ↓reduceIte, not_true_eq_false, not_false_eq_true, reduceCtorEq, and_true, true_and, and_false, false_and, or_true, true_or, or_false, false_or, and_self, or_self, ite_true, ite_false, Int.cast_ofNat_Int, Nat.reduceEqDiff, Nat.reduceLT, Int.reduceAdd, Int.reduceSub, Int.reduceMul, Int.reduceNeg, Int.reduceLT, Int.reduceLE, Int.reduceEq, ilt_t, ilt_f, ile_t, ile_f, ieq_t, ieq_f, z_0, z_1, z_2, z_3, z_4, z_5, z_6, z_7, z_8, z_9, z_10, z_12, z_20, z_40, z_80, z_81, z_99, z_100, z_200, z_400, z_3240, z_20000, z_100000, iz_add, iz_sub, iz_mul, iz_neg, iz_nat, iz_lt, iz_le, iz_eq, iz_div, iz_ite, iz_c, md10, md100, izcb_0, izcb_1, isOut_0, isNoCell_0, isGr_0, np_p, VV_r, VV_n, V_k, W_k, V_0, W_0, V_1, W_1, V_2, W_2, V_3, W_3, V_4, W_4, V_5, W_5, V_6, W_6, V_7, W_7, V_8, W_8, V_9, W_9, h.r0_0, h.r0_1, h.r0_2, h.r0_3, h.r0_4, h.r0_5, h.r1_0, h.r1_1, h.r1_2, h.r1_3, h.r12, rf_0 h, rf_1 h, rf_10 h, rf_11 h, rf_12 h, r6_i h, r6_o h, r7_i h, r7_o h, r8_i h, r8_o h, rl_13 h, ra_13 h, rl_2 h, ra_2 h, rl_3 h, ra_3 h, rl_4 h, ra_4 h, rl_5 h, ra_5 h, rl_6 h, ra_6 h, rl_7 h, ra_7 h, rl_8 h, ra_8 h, rl_9 h, ra_9 h, rl_50 h, ra_50 h, rl_51 h, ra_51 h, V_50, W_50, V_51, W_51, up_e, y_0, y_1, y_2, y_3, y_40, y_100, y_m1, y_m6, y_x1, y_x2, y_x3, z_m1, jz_neg, jz_add, jz_mul, jz_eq, jz_lt, jz_i, jz_l, jz_cmp, cmp_0, cmp_l, cmp_g, c1, c2, ew', d1, c4]
      · refine ⟨T, 2, -1, TrO.refl T np, by omega, Or.inr ⟨c1, Or.inr ⟨c2, Or.inl ⟨by omega, rfl, rfl⟩⟩⟩, ?_⟩
        unfold f_Sk_judge f_Sk_refuse
        simp (disch := omega) only [lt__e, bnd_e, bnd2_e, bnd3_e, el0_l, el0_r, el1_l, el1_r, el2_l, el2_r, ↓reduceIte, not_true_eq_false, not_false_eq_true, reduceCtorEq, and_true, true_and, and_false, false_and, or_true, true_or, or_false, false_or, and_self, or_self, ite_true, ite_false, Int.cast_ofNat_Int, Nat.reduceEqDiff, Nat.reduceLT, Int.reduceAdd, Int.reduceSub, Int.reduceMul, Int.reduceNeg, Int.reduceLT, Int.reduceLE, Int.reduceEq, ilt_t, ilt_f, ile_t, ile_f, ieq_t, ieq_f, z_0, z_1, z_2, z_3, z_4, z_5, z_6, z_7, z_8, z_9, z_10, z_12, z_20, z_40, z_80, z_81, z_99, z_100, z_200, z_400, z_3240, z_20000, z_100000, iz_add, iz_sub, iz_mul, iz_neg, iz_nat, iz_lt, iz_le, iz_eq, iz_div, iz_ite, iz_c, md10, md100, izcb_0, izcb_1, isOut_0, isNoCell_0, isGr_0, np_p, VV_r, VV_n, V_k, W_k, V_0, W_0, V_1, W_1, V_2, W_2, V_3, W_3, V_4, W_4, V_5, W_5, V_6, W_6, V_7, W_7, V_8, W_8, V_9, W_9, h.r0_0, h.r0_1, h.r0_2, h.r0_3, h.r0_4, h.r0_5, h.r1_0, h.r1_1, h.r1_2, h.r1_3, h.r12, rf_0 h, rf_1 h, rf_10 h, rf_11 h, rf_12 h, r6_i h, r6_o h, r7_i h, r7_o h, r8_i h, r8_o h, rl_13 h, ra_13 h, rl_2 h, ra_2 h, rl_3 h, ra_3 h, rl_4 h, ra_4 h, rl_5 h, ra_5 h, rl_6 h, ra_6 h, rl_7 h, ra_7 h, rl_8 h, ra_8 h, rl_9 h, ra_9 h, rl_50 h, ra_50 h, rl_51 h, ra_51 h, V_50, W_50, V_51, W_51, up_e, y_0, y_1, y_2, y_3, y_40, y_100, y_m1, y_m6, y_x1, y_x2, y_x3, z_m1, jz_neg, jz_add, jz_mul, jz_eq, jz_lt, jz_i, jz_l, jz_cmp, cmp_0, cmp_l, cmp_g, c1, c2, ew']
    · refine ⟨T, 1, T 11 5 m, TrO.refl T np, by omega, Or.inr ⟨c1, Or.inl ⟨c2, rfl, rfl⟩⟩, ?_⟩
      unfold f_Sk_judge f_Sk_refuse
      simp (disch := omega) only [lt__e, bnd_e, bnd2_e, bnd3_e, el0_l, el0_r, el1_l, el1_r, el2_l, el2_r, ↓reduceIte, not_true_eq_false, not_false_eq_true, reduceCtorEq, and_true, true_and, and_false, false_and, or_true, true_or, or_false, false_or, and_self, or_self, ite_true, ite_false, Int.cast_ofNat_Int, Nat.reduceEqDiff, Nat.reduceLT, Int.reduceAdd, Int.reduceSub, Int.reduceMul, Int.reduceNeg, Int.reduceLT, Int.reduceLE, Int.reduceEq, ilt_t, ilt_f, ile_t, ile_f, ieq_t, ieq_f, z_0, z_1, z_2, z_3, z_4, z_5, z_6, z_7, z_8, z_9, z_10, z_12, z_20, z_40, z_80, z_81, z_99, z_100, z_200, z_400, z_3240, z_20000, z_100000, iz_add, iz_sub, iz_mul, iz_neg, iz_nat, iz_lt, iz_le, iz_eq, iz_div, iz_ite, iz_c, md10, md100, izcb_0, izcb_1, isOut_0, isNoCell_0, isGr_0, np_p, VV_r, VV_n, V_k, W_k, V_0, W_0, V_1, W_1, V_2, W_2, V_3, W_3, V_4, W_4, V_5, W_5, V_6, W_6, V_7, W_7, V_8, W_8, V_9, W_9, h.r0_0, h.r0_1, h.r0_2, h.r0_3, h.r0_4, h.r0_5, h.r1_0, h.r1_1, h.r1_2, h.r1_3, h.r12, rf_0 h, rf_1 h, rf_10 h, rf_11 h, rf_12 h, r6_i h, r6_o h, r7_i h, r7_o h, r8_i h, r8_o h, rl_13 h, ra_13 h, rl_2 h, ra_2 h, rl_3 h, ra_3 h, rl_4 h, ra_4 h, rl_5 h, ra_5 h, rl_6 h, ra_6 h, rl_7 h, ra_7 h, rl_8 h, ra_8 h, rl_9 h, ra_9 h, rl_50 h, ra_50 h, rl_51 h, ra_51 h, V_50, W_50, V_51, W_51, up_e, y_0, y_1, y_2, y_3, y_40, y_100, y_m1, y_m6, y_x1, y_x2, y_x3, z_m1, jz_neg, jz_add, jz_mul, jz_eq, jz_lt, jz_i, jz_l, jz_cmp, cmp_0, cmp_l, cmp_g, c1, c2]
  · refine ⟨T, 1, -1, TrO.refl T np, by omega, Or.inl ⟨c1, rfl, rfl⟩, ?_⟩
    unfold f_Sk_judge f_Sk_refuse
    simp (disch := omega) only [lt__e, bnd_e, bnd2_e, bnd3_e, el0_l, el0_r, el1_l, el1_r, el2_l, el2_r, ↓reduceIte, not_true_eq_false, not_false_eq_true, reduceCtorEq, and_true, true_and, and_false, false_and, or_true, true_or, or_false, false_or, and_self, or_self, ite_true, ite_false, Int.cast_ofNat_Int, Nat.reduceEqDiff, Nat.reduceLT, Int.reduceAdd, Int.reduceSub, Int.reduceMul, Int.reduceNeg, Int.reduceLT, Int.reduceLE, Int.reduceEq, ilt_t, ilt_f, ile_t, ile_f, ieq_t, ieq_f, z_0, z_1, z_2, z_3, z_4, z_5, z_6, z_7, z_8, z_9, z_10, z_12, z_20, z_40, z_80, z_81, z_99, z_100, z_200, z_400, z_3240, z_20000, z_100000, iz_add, iz_sub, iz_mul, iz_neg, iz_nat, iz_lt, iz_le, iz_eq, iz_div, iz_ite, iz_c, md10, md100, izcb_0, izcb_1, isOut_0, isNoCell_0, isGr_0, np_p, VV_r, VV_n, V_k, W_k, V_0, W_0, V_1, W_1, V_2, W_2, V_3, W_3, V_4, W_4, V_5, W_5, V_6, W_6, V_7, W_7, V_8, W_8, V_9, W_9, h.r0_0, h.r0_1, h.r0_2, h.r0_3, h.r0_4, h.r0_5, h.r1_0, h.r1_1, h.r1_2, h.r1_3, h.r12, rf_0 h, rf_1 h, rf_10 h, rf_11 h, rf_12 h, r6_i h, r6_o h, r7_i h, r7_o h, r8_i h, r8_o h, rl_13 h, ra_13 h, rl_2 h, ra_2 h, rl_3 h, ra_3 h, rl_4 h, ra_4 h, rl_5 h, ra_5 h, rl_6 h, ra_6 h, rl_7 h, ra_7 h, rl_8 h, ra_8 h, rl_9 h, ra_9 h, rl_50 h, ra_50 h, rl_51 h, ra_51 h, V_50, W_50, V_51, W_51, up_e, y_0, y_1, y_2, y_3, y_40, y_100, y_m1, y_m6, y_x1, y_x2, y_x3, z_m1, jz_neg, jz_add, jz_mul, jz_eq, jz_lt, jz_i, jz_l, jz_cmp, cmp_0, cmp_l, cmp_g, c1]
/-- the memory behind a path that is accepted -/
noncomputable def acc (A : AT) (np m : Int) : AT := zr (zr (up (up (up (up (fin_ A np 3 (fun q => A 12 6 q = 0 ∧ mt A np q 0)) 0 8 0 (np + 1)) 12 6 np 0) 11 5 m np) 0 9 0 0) 12 (np + 1)) 13 (np + 1)
theorem c_accept (h : Sh r n nr nm np) (hP : CP A nm np) (hw : PW A np) (h8 : A 0 8 0 = np) (hp : np < 40) {m : Int} (m1 : 0 ≤ m) (m2 : m < nm) :
    f_Sk_accept 0 (some (kk 11 m)) (VV A r n) = some (iz np, VV (acc A np m) (rP r np) (nP n)) := by
  have hb := h.b
  have ew := c_withdrawThoseMet (a := A) h hP (p := np) hb.2.2.1 (Int.le_refl _) hw
  have f8 : fin_ A np 3 (fun q => A 12 6 q = 0 ∧ mt A np q 0) 0 8 0 = np := by rw [fin_o (by omega) (by omega)]; exact h8
  have e4 : (iz np).toNatClampNeg = np.toNat := iz_n (by omega) (by omega)
  have n12 : n 12 = (np + 1).toNat := by rw [h.n12]; omega
  have n13 : sn n 12 13 = (np + 1).toNat := by rw [sn_t (by omega), h.n13]; omega
  have e1 : ∀ a r, nid (VV a r n) 12 = kk 12 (np + 1) := fun a r => nid_e n12
  have e2 : ∀ a r, nw (VV a r n) 12 = VV (zr a 12 (np + 1)) (clr r (kk 12 (np + 1))) (sn n 12) := fun a r => nw_e (by omega) (by omega) n12
  have e5 : ∀ a r, nid (VV a r (sn n 12)) 13 = kk 13 (np + 1) := fun a r => nid_e n13
  have e6 : ∀ a r, nw (VV a r (sn n 12)) 13 = VV (zr a 13 (np + 1)) (clr r (kk 13 (np + 1))) (sn (sn n 12) 13) := fun a r => nw_e (by omega) (by omega) n13
  unfold f_Sk_accept j_Sk_accept_46 f_Pa_init acc rP nP
  simp (disch := omega) only [lt__e, bnd_e, bnd2_e, bnd3_e, el0_l, el0_r, el1_l, el1_r, el2_l, el2_r, ↓reduceIte, not_true_eq_false, not_false_eq_true, reduceCtorEq, and_true, true_and, and_false, false_and, or_true, true_or, or_false, false_or, and_self, or_self, ite_true, ite_false, Int.cast_ofNat_Int, Nat.reduceEqDiff, Nat.reduceLT, Int.reduceAdd, Int.reduceSub, Int.reduceMul, Int.reduceNeg, Int.reduceLT, Int.reduceLE, Int.reduceEq, ilt_t, ilt_f, ile_t, ile_f, ieq_t, ieq_f, z_0, z_1, z_2, z_3, z_4, z_5, z_6, z_7, z_8, z_9, z_10, z_12, z_20, z_40, z_80, z_81, z_99, z_100, z_200, z_400, z_3240, z_20000, z_100000, iz_add, iz_sub, iz_mul, iz_neg, iz_nat, iz_lt, iz_le, iz_eq, iz_div, iz_ite, iz_c, md10, md100, izcb_0, izcb_1, isOut_0, isNoCell_0, isGr_0, np_p, VV_r, VV_n, V_k, W_k, V_0, W_0, V_1, W_1, V_2, W_2, V_3, W_3, V_4, W_4, V_5, W_5, V_6, W_6, V_7, W_7, V_8, W_8, V_9, W_9, h.r0_0, h.r0_1, h.r0_2, h.r0_3, h.r0_4, h.r0_5, h.r1_0, h.r1_1, h.r1_2, h.r1_3, h.r12, rf_0 h, rf_1 h, rf_10 h, rf_11 h, rf_12 h, r6_i h, r6_o h, r7_i h, r7_o h, r8_i h, r8_o h, rl_13 h, ra_13 h, rl_2 h, ra_2 h, rl_3 h, ra_3 h, rl_4 h, ra_4 h, rl_5 h, ra_5 h, rl_6 h, ra_6 h, rl_7 h, ra_7 h, rl_8 h, ra_8 h, rl_9 h, ra_9 h, rl_50 h, ra_50 h, rl_51 h, ra_51 h, V_50, W_50, V_51, W_51, up_e, y_0, y_1, y_2, y_3, y_40, y_100, y_m1, y_m6, y_x1, y_x2, y_x3, z_m1, jz_neg, jz_add, jz_mul, jz_eq, jz_lt, jz_i, jz_l, jz_cmp, cmp_0, cmp_l, cmp_g, W_k, ew, f8, e4, wr_e, sr_l, e1, e2, e5, e6]
end C8
