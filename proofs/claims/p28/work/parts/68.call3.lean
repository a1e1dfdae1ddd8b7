/-! machine, close, file -/
section J9
variable {a A T : AT} {r : Nat → Nat → Option Nat} {n : Nat → Nat} {nr nm np k : Int}
theorem c_machine_ok (h : Sh r n nr nm np) (hC : CC a) (hm : nm < 10) (h0 : a 0 7 0 = nm) {f c u : Int} (c1 : 0 ≤ c ∧ c ≤ 99) (c2 : 0 ≤ f ∧ f ≤ 3) (c3 : 20 ≤ u ∧ u ≤ 200) (hs : isSp a c) :
    ∃ A, f_La_machine (some 0) (iz f) (iz c) (iz u) (VV a r n) = some (jz nm, VV A (sr (clr r (kk 11 nm)) 7 nm.toNat (some (kk 11 nm))) (sn n 11)) ∧ (∀ t, t ≠ 0 → t ≠ 11 → A t = a t) ∧ (∀ j, j ≠ 7 → A 0 j 0 = a 0 j 0) ∧ A 0 7 0 = nm + 1 ∧
      (∀ j m, m ≠ nm → A 11 j m = a 11 j m) ∧ (A 11 0 nm = f ∧ A 11 1 nm = u ∧ A 11 2 nm = u ∧ A 11 3 nm = c ∧ A 11 4 nm = 0 ∧ A 11 5 nm = -1 ∧ A 11 6 nm = -1) := by
  have hb := h.b
  have h' := Sh_m h hm
  have e1 : nid (VV a r n) 11 = kk 11 nm := nid_e h.n11
  have e2 : nw (VV a r n) 11 = _ := nw_e (by omega) hb.2.1.1 h.n11
  have e4 : (iz nm).toNatClampNeg = nm.toNat := iz_n (by omega) (by omega)
  have e5 := c_isSpot h hC c1.1 (by omega : c < 100)
  rw [cb_t hs] at e5
  refine ⟨up (up (up (up (up (up (up (up (zr a 11 nm) 11 4 nm 0) 11 5 nm (-1)) 11 6 nm (-1)) 11 0 nm f) 11 1 nm u) 11 2 nm u) 11 3 nm c) 0 7 0 (nm + 1), ?_, fun t t1 t2 => ?_, fun j j1 => ?_, ?_, fun j m m1 => ?_, ?_, ?_, ?_, ?_, ?_, ?_, ?_⟩
  · unfold f_La_machine f_Sk_machine f_Ma_init
    simp (disch := omega) only [lt__e, bnd_e, bnd2_e, bnd3_e, el0_l, el0_r, el1_l, el1_r, el2_l, el2_r, ↓reduceIte, not_true_eq_false, not_false_eq_true, reduceCtorEq, and_true, true_and, and_false, false_and, or_true, true_or, or_false, false_or, and_self, or_self, ite_true, ite_false, Int.cast_ofNat_Int, Nat.reduceEqDiff, Nat.reduceLT, Int.reduceAdd, Int.reduceSub, Int.reduceMul, Int.reduceNeg, Int.reduceLT, Int.reduceLE, Int.reduceEq, ilt_t, ilt_f, ile_t, ile_f, ieq_t, ieq_f, z_0, z_1, z_2, z_3, z_4, z_5, z_6, z_7, z_8, z_9, z_10, z_12, z_20, z_40, z_80, z_81, z_99, z_100, z_200, z_400, z_3240, z_20000, z_100000, iz_add, iz_sub, iz_mul, iz_neg, iz_nat, iz_lt, iz_le, iz_eq, iz_div, iz_ite, iz_c, md10, md100, izcb_0, izcb_1, isOut_0, isNoCell_0, isGr_0, np_p, VV_r, VV_n, V_k, W_k, V_0, W_0, V_1, W_1, V_2, W_2, V_3, W_3, V_4, W_4, V_5, W_5, V_6, W_6, V_7, W_7, V_8, W_8, V_9, W_9, h.r0_0, h.r0_1, h.r0_2, h.r0_3, h.r0_4, h.r0_5, h.r1_0, h.r1_1, h.r1_2, h.r1_3, h.r12, rf_0 h, rf_1 h, rf_10 h, rf_11 h, rf_12 h, r6_i h, r6_o h, r7_i h, r7_o h, r8_i h, r8_o h, rl_13 h, ra_13 h, rl_2 h, ra_2 h, rl_3 h, ra_3 h, rl_4 h, ra_4 h, rl_5 h, ra_5 h, rl_6 h, ra_6 h, rl_7 h, ra_7 h, rl_8 h, ra_8 h, rl_9 h, ra_9 h, rl_50 h, ra_50 h, rl_51 h, ra_51 h, V_50, W_50, V_51, W_51, up_e, y_0, y_1, y_2, y_3, y_40, y_100, y_m1, y_m6, y_x1, y_x2, y_x3, z_m1, jz_neg, jz_add, jz_mul, jz_eq, jz_lt, jz_i, jz_l, jz_cmp, cmp_0, cmp_l, cmp_g, W_k, ra_7 h', rl_7 h', c1, c2, c3, e1, e2, e4, e5, h0, zr_e, wr_e]
  · simp (disch := omega) only [up_t, zr_t]
  · simp (disch := omega) only [up_e, lt__e, bnd_e, bnd2_e, bnd3_e, el0_l, el0_r, el1_l, el1_r, el2_l, el2_r, ↓reduceIte, not_true_eq_false, not_false_eq_true, reduceCtorEq, and_true, true_and, and_false, false_and, or_true, true_or, or_false, false_or, and_self, or_self, ite_true, ite_false, Int.cast_ofNat_Int, Nat.reduceEqDiff, Nat.reduceLT, Int.reduceAdd, Int.reduceSub, Int.reduceMul, Int.reduceNeg, Int.reduceLT, Int.reduceLE, Int.reduceEq, ilt_t, ilt_f, ile_t, ile_f, ieq_t, ieq_f, zr_e]
  · simp (disch := omega) only [up_e, lt__e, bnd_e, bnd2_e, bnd3_e, el0_l, el0_r, el1_l, el1_r, el2_l, el2_r, ↓reduceIte, not_true_eq_false, not_false_eq_true, reduceCtorEq, and_true, true_and, and_false, false_and, or_true, true_or, or_false, false_or, and_self, or_self, ite_true, ite_false, Int.cast_ofNat_Int, Nat.reduceEqDiff, Nat.reduceLT, Int.reduceAdd, Int.reduceSub, Int.reduceMul, Int.reduceNeg, Int.reduceLT, Int.reduceLE, Int.reduceEq, ilt_t, ilt_f, ile_t, ile_f, ieq_t, ieq_f]
  · simp (disch := omega) only [up_e, lt__e, bnd_e, bnd2_e, bnd3_e, el0_l, el0_r, el1_l, el1_r, el2_l, el2_r, ↓reduceIte, not_true_eq_false, not_false_eq_true, reduceCtorEq, and_true, true_and, and_false, false_and, or_true, true_or, or_false, false_or, and_self, or_self, ite_true, ite_false, Int.cast_ofNat_Int, Nat.reduceEqDiff, Nat.reduceLT, Int.reduceAdd, Int.reduceSub, Int.reduceMul, Int.reduceNeg, Int.reduceLT, Int.reduceLE, Int.reduceEq, ilt_t, ilt_f, ile_t, ile_f, ieq_t, ieq_f, zr_e]
  all_goals simp (disch := omega) only [up_e, lt__e, bnd_e, bnd2_e, bnd3_e, el0_l, el0_r, el1_l, el1_r, el2_l, el2_r, ↓reduceIte, not_true_eq_false, not_false_eq_true, reduceCtorEq, and_true, true_and, and_false, false_and, or_true, true_or, or_false, false_or, and_self, or_self, ite_true, ite_false, Int.cast_ofNat_Int, Nat.reduceEqDiff, Nat.reduceLT, Int.reduceAdd, Int.reduceSub, Int.reduceMul, Int.reduceNeg, Int.reduceLT, Int.reduceLE, Int.reduceEq, ilt_t, ilt_f, ile_t, ile_f, ieq_t, ieq_f]
theorem Lw_mach (hb : (0 ≤ nr ∧ nr ≤ 10) ∧ (0 ≤ nm ∧ nm ≤ 10) ∧ (0 ≤ np ∧ np ≤ 40)) (hL : Lw a nr nm np k) {f c u : Int} (c1 : 0 ≤ c ∧ c ≤ 99) (c2 : 0 ≤ f ∧ f ≤ 3) (c3 : 20 ≤ u ∧ u ≤ 200) (hs : isSp a c) (d3 : ∀ t, t ≠ 0 → t ≠ 11 → t ≠ 51 → A t = a t) (d4 : ∀ j, j ≠ 7 → A 0 j 0 = a 0 j 0) (d5 : A 0 7 0 = nm + 1)
    (d6 : ∀ j m, m ≠ nm → A 11 j m = a 11 j m) (d7 : A 11 0 nm = f ∧ A 11 1 nm = u ∧ A 11 2 nm = u ∧ A 11 3 nm = c ∧ A 11 4 nm = 0 ∧ A 11 5 nm = -1 ∧ A 11 6 nm = -1) (d8 : ∀ m, A 51 m 0 = if m = nm then u else a 51 m 0) : Lw A nr (nm + 1) np k := by
  obtain ⟨hI, hJ, hS, hA, h11, h10, h12⟩ := hL
  obtain ⟨⟨⟨hnr, hnm, hnp⟩, hnow, hns⟩, hC, hD, hR, hMa, hP, hL⟩ := id hI
  have q : EqQ A a np := EqQ.of (d3 12 (by omega) (by omega) (by omega)) (d3 13 (by omega) (by omega) (by omega))
  have qc : EqC A a := fun t t1 t2 => d3 t (by omega) (by omega) (by omega)
  have hsp : ∀ c, isSp A c ↔ isSp a c := fun c => by rw [isSp_c qc]
  refine ⟨⟨⟨⟨?_, d5, ?_⟩, ?_, fun _ => ?_⟩, CC_c qc hC, CD_c (d4 9 (by omega)) (d3 9 (by omega) (by omega) (by omega)) hD, CRm_c2 (d3 10 (by omega) (by omega) (by omega)) hR, fun m m1 m2 => ?_, fun p p1 p2 => ?_, fun m m1 m2 => ?_, fun p p1 p2 => ?_⟩, ⟨fun m m1 m2 => ?_, fun p p1 p2 => ?_, fun p q' p1 p2 q1 q2 hne s1 s2 hmt => ?_, ?_⟩, SPS_c qc.e1 qc.e3 hS, ⟨?_, fun m m1 m2 => ?_⟩, ?_, ?_, ?_⟩
  · rw [d4 6 (by omega)]; exact hnr
  · rw [d4 8 (by omega)]; exact hnp
  · rw [d4 10 (by omega)]; exact hnow
  · rw [qc.e1]; obtain ⟨i, i1, i2, -⟩ := hs; omega
  · by_cases e : m = nm
    · subst e; omega
    · simp (disch := omega) only [d6]
      exact hMa m m1 (by omega)
  · obtain ⟨w1, w2, w3, w4, w5, w6, w7⟩ := hP p p1 p2
    have e := q.e p2
    have y := (q p p2).1
    refine ⟨PW_c e w1, ?_⟩
    simp only [y]
    exact ⟨w2, w3, w4, ⟨w5.1, by omega⟩, w6, w7⟩
  · by_cases e : m = nm
    · subst e
      unfold CL1
      refine ⟨fun _ => ⟨by omega, by omega, fun y => by omega⟩, fun y => by omega, fun y => by omega, fun y => by omega⟩
    · have k := hL.1 m m1 (by omega)
      have k0 := hMa m m1 (by omega)
      unfold CL1 at k ⊢
      have e := q (a 11 5 m) k0.2.2.2.2.2.1.2
      simp (disch := omega) only [d6, d4, e.1, e.2]
      exact k
  · have k := hL.2 p p1 p2
    have k0 := (hP p p1 p2).2.2.2.2.1
    have e := q p p2
    unfold CL2 at k ⊢
    simp (disch := omega) only [d6, d4, e.1, e.2]
    exact k
  · by_cases e : m = nm
    · subst e
      unfold JM
      rw [d7.2.1, d7.2.2.1, d7.2.2.2.1, d7.2.2.2.2.1, hsp]
      exact ⟨Int.le_refl _, fun _ => hs, fun z => by omega⟩
    · have x := hJ.1 m m1 (by omega)
      unfold JM at x ⊢
      rw [d6 1 m e, d6 2 m e, d6 3 m e, d6 4 m e, d6 6 m e, hsp, hsp]; exact x
  · have x := hJ.2.1 p p1 p2
    have k0 := (hP p p1 p2).2.2.2.2.1
    have e := q p p2
    unfold JP at x ⊢
    simp only [e.1, e.2, hsp, d4 10 (by omega)]
    rw [d6 4 _ (by omega), d6 5 _ (by omega)]; exact x
  · have e := (q p p2).1 6
    have e' := (q q' q2).1 6
    exact hJ.2.2.1 p q' p1 p2 q1 q2 hne (by rw [← e]; exact s1) (by rw [← e']; exact s2) ((mt_c (q.e p2) (q.e q2)).1 hmt)
  · have x := hJ.2.2.2
    unfold JC at x ⊢
    rw [d4 13 (by omega), cnt_s _ hb.2.1.1, cnt_c (P := fun m => A 11 4 m = 3) (Q := fun m => a 11 4 m = 3) nm.toNat (fun i i1 i2 => by rw [d6 4 i (by omega)])]
    rcases cb_01 (A 11 4 nm = 3) with e | e <;> omega
  · rw [d3 50 (by omega) (by omega) (by omega)]; exact hA.1
  · rw [d8]
    by_cases e : m = nm
    · rw [if_pos e, e, d7.2.1]
    · rw [if_neg e, d6 1 m e]; exact hA.2 m m1 (by omega)
  · rw [d4 11 (by omega)]; exact h11
  · rw [d4 10 (by omega)]; exact h10
  · rw [d4 12 (by omega)]; exact h12
/-- a machine is brought, and the law writes down what it holds -/
theorem k_machine (h : Sh r n nr nm np) (hL : Lw a nr nm np k) (hm : nm < 10) {f c u : Int} (c2 : 0 ≤ f ∧ f ≤ 3) (c3 : 20 ≤ u ∧ u ≤ 200) (hc : c = 3 ∨ c = 27 ∨ c = 50 ∨ c = 96) :
    ∃ A r' n', f_La_machine (some 0) (iz f) (iz c) (iz u) (VV a r n) = some (jz nm, VV A r' n') ∧ Sh r' n' nr (nm + 1) np ∧ Lw (up A 51 nm 0 u) nr (nm + 1) np k := by
  have hb := h.b
  have hs := (hL.2.2.1.i c).2 hc
  have c1 : 0 ≤ c ∧ c ≤ 99 := by omega
  obtain ⟨A, d1, d3, d4, d5, d6, d7⟩ := c_machine_ok h hL.1.2.1 hm hL.1.1.1.2.1 c1 c2 c3 hs
  refine ⟨A, _, _, d1, Sh_m h hm, Lw_mach hb hL c1 c2 c3 hs (fun t t1 t2 t3 => ?_) (fun j j1 => ?_) ?_ (fun j m m1 => ?_) ?_ (fun m => ?_)⟩
  · rw [up_t t3, d3 t t1 t2]
  · rw [up_t (by omega), d4 j j1]
  · rw [up_t (by omega), d5]
  · rw [up_t (by omega), d6 j m m1]
  · rw [up_t (by omega)]; exact d7
  · rw [up_s, d3 51 (by omega) (by omega)]
    by_cases e : m = nm
    · rw [if_pos ⟨e, rfl⟩, if_pos e]
    · rw [if_neg (by omega), if_neg e]
theorem k_machine10 (h : Sh r n nr nm np) (hL : Lw a nr nm np k) (hm : nm = 10) {f c u : Int} (c2 : 0 ≤ f ∧ f ≤ 3) (c3 : 20 ≤ u ∧ u ≤ 200) (hc : c = 3 ∨ c = 27 ∨ c = 50 ∨ c = 96) : f_La_machine (some 0) (iz f) (iz c) (iz u) (VV a r n) = some (jz (-9000000000000000003), VV a r n) := by
  have hb := h.b
  have hs := (hL.2.2.1.i c).2 hc
  have e5 := c_isSpot h hL.1.2.1 (c := c) (by omega) (by omega)
  rw [cb_t hs] at e5
  have h0 := hL.1.1.1.2.1
  unfold f_La_machine f_Sk_machine
  simp (disch := omega) only [lt__e, bnd_e, bnd2_e, bnd3_e, el0_l, el0_r, el1_l, el1_r, el2_l, el2_r, ↓reduceIte, not_true_eq_false, not_false_eq_true, reduceCtorEq, and_true, true_and, and_false, false_and, or_true, true_or, or_false, false_or, and_self, or_self, ite_true, ite_false, Int.cast_ofNat_Int, Nat.reduceEqDiff, Nat.reduceLT, Int.reduceAdd, Int.reduceSub, Int.reduceMul, Int.reduceNeg, Int.reduceLT, Int.reduceLE, Int.reduceEq, ilt_t, ilt_f, ile_t, ile_f, ieq_t, ieq_f, z_0, z_1, z_2, z_3, z_4, z_5, z_6, z_7, z_8, z_9, z_10, z_12, z_20, z_40, z_80, z_81, z_99, z_100, z_200, z_400, z_3240, z_20000, z_100000, iz_add, iz_sub, iz_mul, iz_neg, iz_nat, iz_lt, iz_le, iz_eq, iz_div, iz_ite, iz_c, md10, md100, izcb_0, izcb_1, isOut_0, isNoCell_0, isGr_0, np_p, VV_r, VV_n, V_k, W_k, V_0, W_0, V_1, W_1, V_2, W_2, V_3, W_3, V_4, W_4, V_5, W_5, V_6, W_6, V_7, W_7, V_8, W_8, V_9, W_9, h.r0_0, h.r0_1, h.r0_2, h.r0_3, h.r0_4, h.r0_5, h.r1_0, h.r1_1, h.r1_2, h.r1_3, h.r12, rf_0 h, rf_1 h, rf_10 h, rf_11 h, rf_12 h, r6_i h, r6_o h, r7_i h, r7_o h, r8_i h, r8_o h, rl_13 h, ra_13 h, rl_2 h, ra_2 h, rl_3 h, ra_3 h, rl_4 h, ra_4 h, rl_5 h, ra_5 h, rl_6 h, ra_6 h, rl_7 h, ra_7 h, rl_8 h, ra_8 h, rl_9 h, ra_9 h, rl_50 h, ra_50 h, rl_51 h, ra_51 h, V_50, W_50, V_51, W_51, up_e, y_0, y_1, y_2, y_3, y_40, y_100, y_m1, y_m6, y_x1, y_x2, y_x3, z_m1, jz_neg, jz_add, jz_mul, jz_eq, jz_lt, jz_i, jz_l, jz_cmp, cmp_0, cmp_l, cmp_g, e5, h0]
theorem c_close_ok (h : Sh r n nr nm np) (hP : CP a nm np) (hR : CRm a nr) (hm : nr < 10) (h0 : a 0 6 0 = nr) {c d l f u : Int} (c1 : 0 ≤ c ∧ c ≤ 99) (c2 : 0 ≤ d ∧ d ≤ 99) (c3 : ((1 ≤ l ∧ l ≤ 3) ∧ (0 ≤ f ∧ f ≤ 100000) ∧ (f ≤ u ∧ u ≤ 100000))) :
    ∃ X, f_La_close (some 0) (iz c) (iz d) (iz l) (iz f) (iz u) (VV a r n) = some (jz nr, VV (fin_ X np 3 (fun q => X 12 6 q = 0 ∧ inRm X q 0 nr)) (sr (clr r (kk 10 nr)) 6 nr.toNat (some (kk 10 nr))) (sn n 10)) ∧ (∀ t, t ≠ 0 → t ≠ 10 → X t = a t) ∧ (∀ j, j ≠ 6 → X 0 j 0 = a 0 j 0) ∧ X 0 6 0 = nr + 1 ∧
      (∀ j i, i ≠ nr → X 10 j i = a 10 j i) ∧ (X 10 0 nr = rW c d ∧ X 10 1 nr = rE c d ∧ X 10 2 nr = rN c d ∧ X 10 3 nr = rS c d ∧ X 10 4 nr = l ∧ X 10 5 nr = f ∧ X 10 6 nr = u ∧ X 10 7 nr = 0) ∧ CRm X (nr + 1) ∧ CP X nm np := by
  have hb := h.b
  have h' := Sh_r h hm
  obtain ⟨d1, d2, d3⟩ := c3
  obtain ⟨b1, b2, b3, b4⟩ := rB c1 c2
  have f1 : (if d % 10 < c % 10 then d % 10 else c % 10) = rW c d := rfl
  have f2 : (if c % 10 < d % 10 then d % 10 else c % 10) = rE c d := rfl
  have f3 : (if d / 10 < c / 10 then d / 10 else c / 10) = rN c d := rfl
  have f4 : (if c / 10 < d / 10 then d / 10 else c / 10) = rS c d := rfl
  have e1 : nid (VV a r n) 10 = kk 10 nr := nid_e h.n10
  have e2 : nw (VV a r n) 10 = _ := nw_e (by omega) hb.1.1 h.n10
  have e4 : (iz nr).toNatClampNeg = nr.toNat := iz_n (by omega) (by omega)
  have g1 : ∀ t, t ≠ 0 → t ≠ 10 → up (up (up (up (up (up (up (up (zr a 10 nr) 10 0 nr (rW c d)) 10 1 nr (rE c d)) 10 2 nr (rN c d)) 10 3 nr (rS c d)) 10 4 nr l) 10 5 nr f) 10 6 nr u) 0 6 0 (nr + 1) t = a t := fun t t1 t2 => by
    rw [up_t t1, up_t t2, up_t t2, up_t t2, up_t t2, up_t t2, up_t t2, up_t t2, zr_t t2]
  have g2 : ∀ j, j ≠ 6 → up (up (up (up (up (up (up (up (zr a 10 nr) 10 0 nr (rW c d)) 10 1 nr (rE c d)) 10 2 nr (rN c d)) 10 3 nr (rS c d)) 10 4 nr l) 10 5 nr f) 10 6 nr u) 0 6 0 (nr + 1) 0 j 0 = a 0 j 0 := fun j j1 => by simp (disch := omega) only [up_e, lt__e, bnd_e, bnd2_e, bnd3_e, el0_l, el0_r, el1_l, el1_r, el2_l, el2_r, ↓reduceIte, not_true_eq_false, not_false_eq_true, reduceCtorEq, and_true, true_and, and_false, false_and, or_true, true_or, or_false, false_or, and_self, or_self, ite_true, ite_false, Int.cast_ofNat_Int, Nat.reduceEqDiff, Nat.reduceLT, Int.reduceAdd, Int.reduceSub, Int.reduceMul, Int.reduceNeg, Int.reduceLT, Int.reduceLE, Int.reduceEq, ilt_t, ilt_f, ile_t, ile_f, ieq_t, ieq_f, zr_e]
  have g3 : up (up (up (up (up (up (up (up (zr a 10 nr) 10 0 nr (rW c d)) 10 1 nr (rE c d)) 10 2 nr (rN c d)) 10 3 nr (rS c d)) 10 4 nr l) 10 5 nr f) 10 6 nr u) 0 6 0 (nr + 1) 0 6 0 = nr + 1 := by simp (disch := omega) only [up_e, lt__e, bnd_e, bnd2_e, bnd3_e, el0_l, el0_r, el1_l, el1_r, el2_l, el2_r, ↓reduceIte, not_true_eq_false, not_false_eq_true, reduceCtorEq, and_true, true_and, and_false, false_and, or_true, true_or, or_false, false_or, and_self, or_self, ite_true, ite_false, Int.cast_ofNat_Int, Nat.reduceEqDiff, Nat.reduceLT, Int.reduceAdd, Int.reduceSub, Int.reduceMul, Int.reduceNeg, Int.reduceLT, Int.reduceLE, Int.reduceEq, ilt_t, ilt_f, ile_t, ile_f, ieq_t, ieq_f]
  have g4 : ∀ j i, i ≠ nr → up (up (up (up (up (up (up (up (zr a 10 nr) 10 0 nr (rW c d)) 10 1 nr (rE c d)) 10 2 nr (rN c d)) 10 3 nr (rS c d)) 10 4 nr l) 10 5 nr f) 10 6 nr u) 0 6 0 (nr + 1) 10 j i = a 10 j i := fun j i i1 => by simp (disch := omega) only [up_e, lt__e, bnd_e, bnd2_e, bnd3_e, el0_l, el0_r, el1_l, el1_r, el2_l, el2_r, ↓reduceIte, not_true_eq_false, not_false_eq_true, reduceCtorEq, and_true, true_and, and_false, false_and, or_true, true_or, or_false, false_or, and_self, or_self, ite_true, ite_false, Int.cast_ofNat_Int, Nat.reduceEqDiff, Nat.reduceLT, Int.reduceAdd, Int.reduceSub, Int.reduceMul, Int.reduceNeg, Int.reduceLT, Int.reduceLE, Int.reduceEq, ilt_t, ilt_f, ile_t, ile_f, ieq_t, ieq_f, zr_e]
  have v0 : up (up (up (up (up (up (up (up (zr a 10 nr) 10 0 nr (rW c d)) 10 1 nr (rE c d)) 10 2 nr (rN c d)) 10 3 nr (rS c d)) 10 4 nr l) 10 5 nr f) 10 6 nr u) 0 6 0 (nr + 1) 10 0 nr = rW c d := by simp (disch := omega) only [up_e, lt__e, bnd_e, bnd2_e, bnd3_e, el0_l, el0_r, el1_l, el1_r, el2_l, el2_r, ↓reduceIte, not_true_eq_false, not_false_eq_true, reduceCtorEq, and_true, true_and, and_false, false_and, or_true, true_or, or_false, false_or, and_self, or_self, ite_true, ite_false, Int.cast_ofNat_Int, Nat.reduceEqDiff, Nat.reduceLT, Int.reduceAdd, Int.reduceSub, Int.reduceMul, Int.reduceNeg, Int.reduceLT, Int.reduceLE, Int.reduceEq, ilt_t, ilt_f, ile_t, ile_f, ieq_t, ieq_f]
  have v1 : up (up (up (up (up (up (up (up (zr a 10 nr) 10 0 nr (rW c d)) 10 1 nr (rE c d)) 10 2 nr (rN c d)) 10 3 nr (rS c d)) 10 4 nr l) 10 5 nr f) 10 6 nr u) 0 6 0 (nr + 1) 10 1 nr = rE c d := by simp (disch := omega) only [up_e, lt__e, bnd_e, bnd2_e, bnd3_e, el0_l, el0_r, el1_l, el1_r, el2_l, el2_r, ↓reduceIte, not_true_eq_false, not_false_eq_true, reduceCtorEq, and_true, true_and, and_false, false_and, or_true, true_or, or_false, false_or, and_self, or_self, ite_true, ite_false, Int.cast_ofNat_Int, Nat.reduceEqDiff, Nat.reduceLT, Int.reduceAdd, Int.reduceSub, Int.reduceMul, Int.reduceNeg, Int.reduceLT, Int.reduceLE, Int.reduceEq, ilt_t, ilt_f, ile_t, ile_f, ieq_t, ieq_f]
  have v2 : up (up (up (up (up (up (up (up (zr a 10 nr) 10 0 nr (rW c d)) 10 1 nr (rE c d)) 10 2 nr (rN c d)) 10 3 nr (rS c d)) 10 4 nr l) 10 5 nr f) 10 6 nr u) 0 6 0 (nr + 1) 10 2 nr = rN c d := by simp (disch := omega) only [up_e, lt__e, bnd_e, bnd2_e, bnd3_e, el0_l, el0_r, el1_l, el1_r, el2_l, el2_r, ↓reduceIte, not_true_eq_false, not_false_eq_true, reduceCtorEq, and_true, true_and, and_false, false_and, or_true, true_or, or_false, false_or, and_self, or_self, ite_true, ite_false, Int.cast_ofNat_Int, Nat.reduceEqDiff, Nat.reduceLT, Int.reduceAdd, Int.reduceSub, Int.reduceMul, Int.reduceNeg, Int.reduceLT, Int.reduceLE, Int.reduceEq, ilt_t, ilt_f, ile_t, ile_f, ieq_t, ieq_f]
  have v3 : up (up (up (up (up (up (up (up (zr a 10 nr) 10 0 nr (rW c d)) 10 1 nr (rE c d)) 10 2 nr (rN c d)) 10 3 nr (rS c d)) 10 4 nr l) 10 5 nr f) 10 6 nr u) 0 6 0 (nr + 1) 10 3 nr = rS c d := by simp (disch := omega) only [up_e, lt__e, bnd_e, bnd2_e, bnd3_e, el0_l, el0_r, el1_l, el1_r, el2_l, el2_r, ↓reduceIte, not_true_eq_false, not_false_eq_true, reduceCtorEq, and_true, true_and, and_false, false_and, or_true, true_or, or_false, false_or, and_self, or_self, ite_true, ite_false, Int.cast_ofNat_Int, Nat.reduceEqDiff, Nat.reduceLT, Int.reduceAdd, Int.reduceSub, Int.reduceMul, Int.reduceNeg, Int.reduceLT, Int.reduceLE, Int.reduceEq, ilt_t, ilt_f, ile_t, ile_f, ieq_t, ieq_f]
  have v4 : up (up (up (up (up (up (up (up (zr a 10 nr) 10 0 nr (rW c d)) 10 1 nr (rE c d)) 10 2 nr (rN c d)) 10 3 nr (rS c d)) 10 4 nr l) 10 5 nr f) 10 6 nr u) 0 6 0 (nr + 1) 10 4 nr = l := by simp (disch := omega) only [up_e, lt__e, bnd_e, bnd2_e, bnd3_e, el0_l, el0_r, el1_l, el1_r, el2_l, el2_r, ↓reduceIte, not_true_eq_false, not_false_eq_true, reduceCtorEq, and_true, true_and, and_false, false_and, or_true, true_or, or_false, false_or, and_self, or_self, ite_true, ite_false, Int.cast_ofNat_Int, Nat.reduceEqDiff, Nat.reduceLT, Int.reduceAdd, Int.reduceSub, Int.reduceMul, Int.reduceNeg, Int.reduceLT, Int.reduceLE, Int.reduceEq, ilt_t, ilt_f, ile_t, ile_f, ieq_t, ieq_f]
  have v5 : up (up (up (up (up (up (up (up (zr a 10 nr) 10 0 nr (rW c d)) 10 1 nr (rE c d)) 10 2 nr (rN c d)) 10 3 nr (rS c d)) 10 4 nr l) 10 5 nr f) 10 6 nr u) 0 6 0 (nr + 1) 10 5 nr = f := by simp (disch := omega) only [up_e, lt__e, bnd_e, bnd2_e, bnd3_e, el0_l, el0_r, el1_l, el1_r, el2_l, el2_r, ↓reduceIte, not_true_eq_false, not_false_eq_true, reduceCtorEq, and_true, true_and, and_false, false_and, or_true, true_or, or_false, false_or, and_self, or_self, ite_true, ite_false, Int.cast_ofNat_Int, Nat.reduceEqDiff, Nat.reduceLT, Int.reduceAdd, Int.reduceSub, Int.reduceMul, Int.reduceNeg, Int.reduceLT, Int.reduceLE, Int.reduceEq, ilt_t, ilt_f, ile_t, ile_f, ieq_t, ieq_f]
  have v6 : up (up (up (up (up (up (up (up (zr a 10 nr) 10 0 nr (rW c d)) 10 1 nr (rE c d)) 10 2 nr (rN c d)) 10 3 nr (rS c d)) 10 4 nr l) 10 5 nr f) 10 6 nr u) 0 6 0 (nr + 1) 10 6 nr = u := by simp (disch := omega) only [up_e, lt__e, bnd_e, bnd2_e, bnd3_e, el0_l, el0_r, el1_l, el1_r, el2_l, el2_r, ↓reduceIte, not_true_eq_false, not_false_eq_true, reduceCtorEq, and_true, true_and, and_false, false_and, or_true, true_or, or_false, false_or, and_self, or_self, ite_true, ite_false, Int.cast_ofNat_Int, Nat.reduceEqDiff, Nat.reduceLT, Int.reduceAdd, Int.reduceSub, Int.reduceMul, Int.reduceNeg, Int.reduceLT, Int.reduceLE, Int.reduceEq, ilt_t, ilt_f, ile_t, ile_f, ieq_t, ieq_f]
  have v7 : up (up (up (up (up (up (up (up (zr a 10 nr) 10 0 nr (rW c d)) 10 1 nr (rE c d)) 10 2 nr (rN c d)) 10 3 nr (rS c d)) 10 4 nr l) 10 5 nr f) 10 6 nr u) 0 6 0 (nr + 1) 10 7 nr = 0 := by simp (disch := omega) only [up_e, lt__e, bnd_e, bnd2_e, bnd3_e, el0_l, el0_r, el1_l, el1_r, el2_l, el2_r, ↓reduceIte, not_true_eq_false, not_false_eq_true, reduceCtorEq, and_true, true_and, and_false, false_and, or_true, true_or, or_false, false_or, and_self, or_self, ite_true, ite_false, Int.cast_ofNat_Int, Nat.reduceEqDiff, Nat.reduceLT, Int.reduceAdd, Int.reduceSub, Int.reduceMul, Int.reduceNeg, Int.reduceLT, Int.reduceLE, Int.reduceEq, ilt_t, ilt_f, ile_t, ile_f, ieq_t, ieq_f, zr_e]
  have x5 : up (up (up (up (up (up (up (up (zr a 10 nr) 10 0 nr (rW c d)) 10 1 nr (rE c d)) 10 2 nr (rN c d)) 10 3 nr (rS c d)) 10 4 nr l) 10 5 nr f) 10 6 nr u) 0 6 0 (nr + 1) = up (up (up (up (up (up (up (up (zr a 10 nr) 10 0 nr (rW c d)) 10 1 nr (rE c d)) 10 2 nr (rN c d)) 10 3 nr (rS c d)) 10 4 nr l) 10 5 nr f) 10 6 nr u) 0 6 0 (nr + 1) := rfl
  have hRX : CRm (up (up (up (up (up (up (up (up (zr a 10 nr) 10 0 nr (rW c d)) 10 1 nr (rE c d)) 10 2 nr (rN c d)) 10 3 nr (rS c d)) 10 4 nr l) 10 5 nr f) 10 6 nr u) 0 6 0 (nr + 1)) (nr + 1) := fun i i1 i2 => by
    by_cases e : i = nr
    · subst e; rw [v0, v1, v2, v3, v4, v5, v6, v7]; omega
    · rw [g4 0 i e, g4 1 i e, g4 2 i e, g4 3 i e, g4 4 i e, g4 5 i e, g4 6 i e, g4 7 i e]; exact hR i i1 (by omega)
  have hPX : CP (up (up (up (up (up (up (up (up (zr a 10 nr) 10 0 nr (rW c d)) 10 1 nr (rE c d)) 10 2 nr (rN c d)) 10 3 nr (rS c d)) 10 4 nr l) 10 5 nr f) 10 6 nr u) 0 6 0 (nr + 1)) nm np := CP_c (EqQ.of (g1 12 (by omega) (by omega)) (g1 13 (by omega) (by omega))) hP
  have ew := c_withdrawThoseIn (a := up (up (up (up (up (up (up (up (zr a 10 nr) 10 0 nr (rW c d)) 10 1 nr (rE c d)) 10 2 nr (rN c d)) 10 3 nr (rS c d)) 10 4 nr l) 10 5 nr f) 10 6 nr u) 0 6 0 (nr + 1)) h' hPX hRX (k := nr) hb.1.1 (by omega)
  refine ⟨up (up (up (up (up (up (up (up (zr a 10 nr) 10 0 nr (rW c d)) 10 1 nr (rE c d)) 10 2 nr (rN c d)) 10 3 nr (rS c d)) 10 4 nr l) 10 5 nr f) 10 6 nr u) 0 6 0 (nr + 1), ?_, g1, g2, g3, g4, ⟨v0, v1, v2, v3, v4, v5, v6, v7⟩, hRX, hPX⟩
  unfold f_La_close f_Sk_close f_Ro_init
  simp (disch := omega) only [lt__e, bnd_e, bnd2_e, bnd3_e, el0_l, el0_r, el1_l, el1_r, el2_l, el2_r, ↓reduceIte, not_true_eq_false, not_false_eq_true, reduceCtorEq, and_true, true_and, and_false, false_and, or_true, true_or, or_false, false_or, and_self, or_self, ite_true, ite_false, Int.cast_ofNat_Int, Nat.reduceEqDiff, Nat.reduceLT, Int.reduceAdd, Int.reduceSub, Int.reduceMul, Int.reduceNeg, Int.reduceLT, Int.reduceLE, Int.reduceEq, ilt_t, ilt_f, ile_t, ile_f, ieq_t, ieq_f, z_0, z_1, z_2, z_3, z_4, z_5, z_6, z_7, z_8, z_9, z_10, z_12, z_20, z_40, z_80, z_81, z_99, z_100, z_200, z_400, z_3240, z_20000, z_100000, iz_add, iz_sub, iz_mul, iz_neg, iz_nat, iz_lt, iz_le, iz_eq, iz_div, iz_ite, iz_c, md10, md100, izcb_0, izcb_1, isOut_0, isNoCell_0, isGr_0, np_p, VV_r, VV_n, V_k, W_k, V_0, W_0, V_1, W_1, V_2, W_2, V_3, W_3, V_4, W_4, V_5, W_5, V_6, W_6, V_7, W_7, V_8, W_8, V_9, W_9, h.r0_0, h.r0_1, h.r0_2, h.r0_3, h.r0_4, h.r0_5, h.r1_0, h.r1_1, h.r1_2, h.r1_3, h.r12, rf_0 h, rf_1 h, rf_10 h, rf_11 h, rf_12 h, r6_i h, r6_o h, r7_i h, r7_o h, r8_i h, r8_o h, rl_13 h, ra_13 h, rl_2 h, ra_2 h, rl_3 h, ra_3 h, rl_4 h, ra_4 h, rl_5 h, ra_5 h, rl_6 h, ra_6 h, rl_7 h, ra_7 h, rl_8 h, ra_8 h, rl_9 h, ra_9 h, rl_50 h, ra_50 h, rl_51 h, ra_51 h, V_50, W_50, V_51, W_51, up_e, y_0, y_1, y_2, y_3, y_40, y_100, y_m1, y_m6, y_x1, y_x2, y_x3, z_m1, jz_neg, jz_add, jz_mul, jz_eq, jz_lt, jz_i, jz_l, jz_cmp, cmp_0, cmp_l, cmp_g, W_k, ra_6 h', rf_10 h', c1, c2, d1, d2, d3, e1, e2, e4, f1, f2, f3, f4, h0, zr_e, wr_e, clr_l, ew]
theorem k_close (h : Sh r n nr nm np) (hL : Lw a nr nm np k) (hm : nr < 10) {c d l f u : Int} (c1 : 0 ≤ c ∧ c ≤ 99) (c2 : 0 ≤ d ∧ d ≤ 99) (c3 : ((1 ≤ l ∧ l ≤ 3) ∧ (0 ≤ f ∧ f ≤ 100000) ∧ (f ≤ u ∧ u ≤ 100000))) :
    ∃ A r' n', f_La_close (some 0) (iz c) (iz d) (iz l) (iz f) (iz u) (VV a r n) = some (jz nr, VV A r' n') ∧ Sh r' n' (nr + 1) nm np ∧ Lw A (nr + 1) nm np k := by
  have hb := h.b
  have hL0 := hL
  obtain ⟨hI, hJ, hS, hA, h11, h10, h12⟩ := hL
  obtain ⟨⟨⟨hnr, hnm, hnp⟩, hnow, hns⟩, hC, hD, hR, hMa, hP, hL⟩ := id hI
  obtain ⟨X, d1, d2, d3, d4, d5, d6, d7, d8⟩ := c_close_ok h hP hR hm hnr c1 c2 c3
  have q : EqQ X a np := EqQ.of (d2 12 (by omega) (by omega)) (d2 13 (by omega) (by omega))
  have qc : EqC X a := fun t t1 t2 => d2 t (by omega) (by omega)
  have e11 := d2 11 (by omega) (by omega)
  have hIX : CI X (nr + 1) nm np := by
    refine ⟨⟨⟨d4, ?_, ?_⟩, ?_, ?_⟩, CC_c qc hC, CD_c (d3 9 (by omega)) (d2 9 (by omega) (by omega)) hD, d7, CMa_c e11 hMa, d8, CL_c (d3 10 (by omega)) e11 q hMa hL hP⟩
    · rw [d3 7 (by omega)]; exact hnm
    · rw [d3 8 (by omega)]; exact hnp
    · rw [d3 10 (by omega)]; exact hnow
    · rw [qc.e1]; exact hns
  have hJX : CJ X nm np := CJ_c (d3 10 (by omega)) (d3 13 (by omega)) (fun c => by rw [isSp_c qc]) (fun m _ _ j => by rw [e11]) hL0.own q hJ
  have hIB := CI_fin (a := X) (v := 3) (P := fun q => X 12 6 q = 0 ∧ inRm X q 0 nr) (by omega) hIX (fun p _ _ y => y.1)
  have hJB := CJ_fin (a := X) (P := fun q => X 12 6 q = 0 ∧ inRm X q 0 nr) hIX (fun p _ _ y => y.1) hJX
  have F : ∀ t, t ≠ 11 → t ≠ 12 → fin_ X np 3 (fun q => X 12 6 q = 0 ∧ inRm X q 0 nr) t = X t := fun t t1 t2 => fin_o t1 t2
  refine ⟨_, _, _, d1, Sh_r h hm, hIB, hJB, SPS_c ?_ ?_ hS, LA_c ?_ ?_ (fun m _ _ => ?_) hA, ?_, ?_, ?_⟩
  · rw [F 1 (by omega) (by omega), qc.e1]
  · rw [F 3 (by omega) (by omega), qc.e3]
  · rw [F 50 (by omega) (by omega), d2 50 (by omega) (by omega)]
  · rw [F 51 (by omega) (by omega), d2 51 (by omega) (by omega)]
  · rw [fin_11 (by omega), e11]
  · rw [F 0 (by omega) (by omega), d3 11 (by omega)]; exact h11
  · rw [F 0 (by omega) (by omega), d3 10 (by omega)]; exact h10
  · rw [F 0 (by omega) (by omega), d3 12 (by omega)]; exact h12
theorem k_close10 (h : Sh r n nr nm np) (hL : Lw a nr nm np k) (hm : nr = 10) {c d l f u : Int} (c1 : 0 ≤ c ∧ c ≤ 99) (c2 : 0 ≤ d ∧ d ≤ 99) (c3 : ((1 ≤ l ∧ l ≤ 3) ∧ (0 ≤ f ∧ f ≤ 100000) ∧ (f ≤ u ∧ u ≤ 100000))) : f_La_close (some 0) (iz c) (iz d) (iz l) (iz f) (iz u) (VV a r n) = some (jz (-9000000000000000003), VV a r n) := by
  have hb := h.b
  have h0 := hL.1.1.1.1
  unfold f_La_close f_Sk_close
  simp (disch := omega) only [lt__e, bnd_e, bnd2_e, bnd3_e, el0_l, el0_r, el1_l, el1_r, el2_l, el2_r, ↓reduceIte, not_true_eq_false, not_false_eq_true, reduceCtorEq, and_true, true_and, and_false, false_and, or_true, true_or, or_false, false_or, and_self, or_self, ite_true, ite_false, Int.cast_ofNat_Int, Nat.reduceEqDiff, Nat.reduceLT, Int.reduceAdd, Int.reduceSub, Int.reduceMul, Int.reduceNeg, Int.reduceLT, Int.reduceLE, Int.reduceEq, ilt_t, ilt_f, ile_t, ile_f, ieq_t, ieq_f, z_0, z_1, z_2, z_3, z_4, z_5, z_6, z_7, z_8, z_9, z_10, z_12, z_20, z_40, z_80, z_81, z_99, z_100, z_200, z_400, z_3240, z_20000, z_100000, iz_add, iz_sub, iz_mul, iz_neg, iz_nat, iz_lt, iz_le, iz_eq, iz_div, iz_ite, iz_c, md10, md100, izcb_0, izcb_1, isOut_0, isNoCell_0, isGr_0, np_p, VV_r, VV_n, V_k, W_k, V_0, W_0, V_1, W_1, V_2, W_2, V_3, W_3, V_4, W_4, V_5, W_5, V_6, W_6, V_7, W_7, V_8, W_8, V_9, W_9, h.r0_0, h.r0_1, h.r0_2, h.r0_3, h.r0_4, h.r0_5, h.r1_0, h.r1_1, h.r1_2, h.r1_3, h.r12, rf_0 h, rf_1 h, rf_10 h, rf_11 h, rf_12 h, r6_i h, r6_o h, r7_i h, r7_o h, r8_i h, r8_o h, rl_13 h, ra_13 h, rl_2 h, ra_2 h, rl_3 h, ra_3 h, rl_4 h, ra_4 h, rl_5 h, ra_5 h, rl_6 h, ra_6 h, rl_7 h, ra_7 h, rl_8 h, ra_8 h, rl_9 h, ra_9 h, rl_50 h, ra_50 h, rl_51 h, ra_51 h, V_50, W_50, V_51, W_51, up_e, y_0, y_1, y_2, y_3, y_40, y_100, y_m1, y_m6, y_x1, y_x2, y_x3, z_m1, jz_neg, jz_add, jz_mul, jz_eq, jz_lt, jz_i, jz_l, jz_cmp, cmp_0, cmp_l, cmp_g, h0]
theorem Vd_c {m rz cz : Int} (hD : CD T) (hw : 0 ≤ A 12 4 np ∧ A 12 4 np ≤ 80) (hb : (0 ≤ nr ∧ nr ≤ 10) ∧ (0 ≤ np ∧ np ≤ 40)) (hq : -1 ≤ T 11 5 m ∧ T 11 5 m < np) (hV : Vd T A nr np m rz cz) : -1 ≤ cz ∧ cz ≤ 100 := by
  have b1 := lay_b hD (T 11 3 m)
  have b2 := fst_b (lo := 1) (hi := A 12 4 np + 1) (low A np 0 (bt A np m)) (by omega) (by omega)
  have b3 := fst_b (lo := 0) (hi := nr) (inRm A np 0) (by omega) (by omega)
  have b4 := fst_b (lo := 0) (hi := np) (fun q => gw A np q ∧ mt A np q 0) (by omega) (by omega)
  unfold Vd lw wy at hV
  omega
end J9
