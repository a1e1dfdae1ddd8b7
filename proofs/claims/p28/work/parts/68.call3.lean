/-! machine, close, file -/
section J9
variable {a A T : AT} {r : Nat → Nat → Option Nat} {n : Nat → Nat} {nr nm np k : Int}
theorem c_machine_ok (h : Sh r n nr nm np) (hC : CC a) (hm : nm < 10) (h0 : a 0 7 0 = nm) {f c u : Int} (c1 : 0 ≤ c ∧ c ≤ 99) (c2 : 0 ≤ f ∧ f ≤ 3) (c3 : 20 ≤ u ∧ u ≤ 200) (hs : isSp a c) :
    ∃ A, f_La_machine (some 0) (iz f) (iz c) (iz u) (VV a r n) = some (jz nm, VV A (sr (clr r (kk 11 nm)) 7 nm.toNat (some (kk 11 nm))) (sn n 11)) ∧ (∀ t, t ≠ 0 → t ≠ 11 → A t = a t) ∧ (∀ j, j ≠ 7 → A 0 j 0 = a 0 j 0) ∧ A 0 7 0 = nm + 1 ∧
      (∀ j m, m ≠ nm → A 11 j m = a 11 j m) ∧ (A 11 0 nm = f ∧ A 11 1 nm = u ∧ A 11 2 nm = u ∧ A 11 3 nm = c ∧ A 11 4 nm = 0 ∧ A 11 5 nm = -1 ∧ A 11 6 nm = -1) := by
  have hb := h.b
  have h' := Sh_m h hm
  have e1 : nid (VV a r n) 11 = kk 11 nm := nid_e h.n11
  have e2 : nw (VV a r n) 11 = _ := nw_e (by omega) hb.2.1.1 h.n11
  have e4 : (iz nm).toNatClampNeg = nm.toNat := iz_n (by omega) (by omega)
  have e5 := c_isSpot h hC c1.1 (by omega : c < 100)
  rw [cb_t hs] at e5
  refine ⟨up (up (up (up (up (up (up (up (zr a 11 nm) 11 4 nm 0) 11 5 nm (-1)) 11 6 nm (-1)) 11 0 nm f) 11 1 nm u) 11 2 nm u) 11 3 nm c) 0 7 0 (nm + 1), ?_, fun t t1 t2 => ?_, fun j j1 => ?_, ?_, fun j m m1 => ?_, ?_, ?_, ?_, ?_, ?_, ?_, ?_⟩
  · unfold f_La_machine f_Sk_machine f_Ma_init
    simp (disch := omega) only [lt__e, bnd_e, bnd2_e, bnd3_e, el0_l, el0_r, el1_l, el1_r, el2_l, el2_r, ↓reduceIte, not_true_eq_false, not_false_eq_true, reduceCtorEq, and_true, true_and, and_false, false_and, or_true, true_or, or_false, false_or, and_self, or_self, ite_true, ite_false, Int.cast_ofNat_Int, Nat.reduceEqDiff, Nat.reduceLT, Int.reduceAdd, Int.reduceSub, Int.reduceMul, Int.reduceNeg, Int.reduceLT, Int.reduceLE, Int.reduceEq, ilt_t, ilt_f, ile_t, ile_f, ieq_t, ieq_f, z_0, z_1, z_2, z_3, z_4, z_5, z_6, z_7, z_8, z_9, z_10, z_12, z_20, z_40, z_80, z_81, z_99, z_100, z_200, z_400, z_3240, z_20000, z_100000, iz_add, iz_sub, iz_mul, iz_neg, iz_nat, iz_lt, iz_le, iz_eq, iz_div, iz_ite, iz_c, md10, md100, izcb_0, izcb_1, isOut_0, isNoCell_0, isGr_0, np_p, VV_r, VV_n, V_k, W_k, V_0, W_0, V_1, W_1, V_2, W_2, V_3, W_3, V_4, W_4, V_5, W_5, V_6, W_6, V_7, W_7, V_8, W_8, V_9, W_9, h.r0_0, h.r0_1, h.r0_2, h.r0_3, h.r0_4, h.r0_5, h.r1_0, h.r1_1, h.r1_2, h.r1_3, h.r12, rf_0 h, rf_1 h, rf_10 h, rf_11 h, rf_12 h, r6_i h, r6_o h, r7_i h, r7_o h, r8_i h, r8_o h, rl_13 h, ra_13 h, rl_2 h, ra_2 h, rl_3 h, ra_3 h, rl_4 h, ra_4 h, rl_5 h, ra_5 h, rl_6 h, ra_6 h, rl_7 h, ra_7 h, rl_8 h, ra_8 h, rl_9 h, ra_9 h, rl_50 h, ra_50 h, rl_51 h, ra_51 h, V_50, W_50, V_51, W_51, up_e, y_0, y_1, y_2, y_3, y_40, y_100, y_m1, y_m6, y_x1, y_x2, y_x3, z_m1, jz_neg, jz_add, jz_mul, jz_eq, jz_lt, jz_i, jz_l, jz_cmp, cmp_0, cmp_l, cmp_g, W_k, ra_7 h', rl_7 h', c1, c2, c3, e1, e2, e4, e5, h0, zr_e, wr_e]
  · simp (disch := omega) only [up_t, zr_t]
  · simp (disch := omega) only [up_e, lt__e, bnd_e, bnd2_e, bnd3_e, el0_l, el0_r, el1_l, el1_r, el2_l, el2_r, ↓reduceIte, not_true_eq_false, not_false_eq_true, reduceCtorEq, and_true, true_and, and_false, false_and, or_true, true_or, or_false, false_or, and_self, or_self, ite_true, ite_false, Int.cast_ofNat_Int, Nat.reduceEqDiff, Nat.reduceLT, Int.reduceAdd, Int.reduceSub, Int.reduceMul, Int.reduceNeg, Int.reduceLT, Int.reduceLE, Int.reduceEq, ilt_t, ilt_f, ile_t, ile_f, ieq_t, ieq_f, zr_e]
  · simp (disch := omega) only [up_e, lt__e, bnd_e, bnd2_e, bnd3_e, el0_l, el0_r, el1_l, el1_r, el2_l, el2_r, ↓reduceIte, not_true_eq_false, not_false_eq_true, reduceCtorEq, and_true, true_and, and_false, false_and, or_true, true_or, or_false, false_or, and_self, or_self, ite_true, ite_false, Int.cast_ofNat_Int, Nat.reduceEqDiff, Nat.reduceLT, Int.reduceAdd, Int.reduceSub, Int.reduceMul, Int.reduceNeg, Int.reduceLT, Int.reduceLE, Int.reduceEq, ilt_t, ilt_f, ile_t, ile_f, ieq_t, ieq_f]
  · simp (disch := omega) only [up_e, lt__e, bnd_e, bnd2_e, bnd3_e, el0_l, el0_r, el1_l, el1_r, el2_l, el2_r, ↓reduceIte, not_true_eq_false, not_false_eq_true, reduceCtorEq, and_true, true_and, and_false, false_and, or_true, true_or, or_false, false_or, and_self, or_self, ite_true, ite_false, Int.cast_ofNat_Int, Nat.reduceEqDiff, Nat.reduceLT, Int.reduceAdd, Int.reduceSub, Int.reduceMul, Int.reduceNeg, Int.reduceLT, Int.reduceLE, Int.reduceEq, ilt_t, ilt_f, ile_t, ile_f, ieq_t, ieq_f, zr_e]
  all_goals simp (disch := omega) only [up_e, lt__e, bnd_e, bnd2_e, bnd3_e, el0_l, el0_r, el1_l, el1_r, el2_l, el2_r, ↓reduceIte, not_true_eq_false, not_false_eq_true, reduceCtorEq, and_true, true_and, and_false, false_and, or_true, true_or, or_false, false_or, and_self, or_self, ite_true, ite_false, Int.cast_ofNat_Int, Nat.reduceEqDiff, Nat.reduceLT, Int.reduceAdd, Int.reduceSub, Int.reduceMul, Int.reduceNeg, Int.reduceLT, Int.reduceLE, Int.reduceEq, ilt_t, ilt_f, ile_t, ile_f, ieq_t, ieq_f]
theorem Lw_mach (hb : (0 ≤ nr ∧ nr ≤ 10) ∧ (0 ≤ nm ∧ nm ≤ 10) ∧ (0 ≤ np ∧ np ≤ 40)) (hL : Lw a nr nm np k) {f c u : Int} (c1 : 0 ≤ c ∧ c ≤ 99) (c2 : 0 ≤ f ∧ f ≤ 3) (c3 : 20 ≤ u ∧ u ≤ 200) (hs : isSp a c) (d3 : ∀ t, t ≠ 0 → t ≠ 11 → t ≠ 51 → A t = a t) (d4 : ∀ j, j ≠ 7 → A 0 j 0 = a 0 j 0) (d5 : A 0 7 0 = nm + 1)
    (d6 : ∀ j m, m ≠ nm → A 11 j m = a 11 j m) (d7 : A 11 0 nm = f ∧ A 11 1 nm = u ∧ A 11 2 nm = u ∧ A 11 3 nm = c ∧ A 11 4 nm = 0 ∧ A 11 5 nm = -1 ∧ A 11 6 nm = -1) (d8 : ∀ m, A 51 m 0 = if m = nm then u else a 51 m 0) : Lw A nr (nm + 1) np k := by
  obtain ⟨hI, hJ, hS, hA, h11, h10, h12⟩ := hL
  obtain ⟨⟨⟨hnr, hnm, hnp⟩, hnow, hns⟩, hC, hD, hR, hMa, hP, hL⟩ := id hI
  have q : EqQ A a np := EqQ.of (d3 12 (by omega) (by omega) (by omega)) (d3 13 (by omega) (by omega) (by omega))
  have qc : EqC A a := fun t t1 t2 => d3 t (by omega) (by omega) (by omega)
  have hsp : ∀ c, isSp A c ↔ isSp a c := fun c => by rw [isSp_c qc]
  refine ⟨⟨⟨⟨?_, d5, ?_⟩, ?_, fun _ => ?_⟩, CC_c qc hC, CD_c (d4 9 (by omega)) (d3 9 (by omega) (by omega) (by omega)) hD, CRm_c2 (d3 10 (by omega) (by omega) (by omega)) hR, fun m m1 m2 => ?_, fun p p1 p2 => ?_, fun m m1 m2 => ?_, fun p p1 p2 => ?_⟩, ⟨fun m m1 m2 => ?_, fun p p1 p2 => ?_, fun p q' p1 p2 q1 q2 hne s1 s2 hmt => ?_, ?_⟩, SPS_c qc.e1 qc.e3 hS, ⟨?_, fun m m1 m2 => ?_⟩, ?_, ?_, ?_⟩
  · rw [d4 6 (by omega)]; exact hnr
  · rw [d4 8 (by omega)]; exact hnp
  · rw [d4 10 (by omega)]; exact hnow
  · rw [qc.e1]; obtain ⟨i, i1, i2, -⟩ := hs; omega
  · by_cases e : m = nm
    · subst e; omega
    · simp (disch := omega) only [d6]
      exact hMa m m1 (by omega)
  · obtain ⟨w1, w2, w3, w4, w5, w6, w7⟩ := hP p p1 p2
    have e := q.e p2
    have y := (q p p2).1
    refine ⟨PW_c e w1, ?_⟩
    simp only [y]
    exact ⟨w2, w3, w4, ⟨w5.1, by omega⟩, w6, w7⟩
  · by_cases e : m = nm
    · subst e
      unfold CL1
      refine ⟨fun _ => ⟨by omega, by omega, fun y => by omega⟩, fun y => by omega, fun y => by omega, fun y => by omega⟩
    · have k := hL.1 m m1 (by omega)
      have k0 := hMa m m1 (by omega)
      unfold CL1 at k ⊢
      have e := q (a 11 5 m) k0.2.2.2.2.2.1.2
      simp (disch := omega) only [d6, d4, e.1, e.2]
      exact k
  · have k := hL.2 p p1 p2
    have k0 := (hP p p1 p2).2.2.2.2.1
    have e := q p p2
    unfold CL2 at k ⊢
    simp (disch := omega) only [d6, d4, e.1, e.2]
    exact k
  · by_cases e : m = nm
    · subst e
      unfold JM
      rw [d7.2.1, d7.2.2.1, d7.2.2.2.1, d7.2.2.2.2.1, hsp]
      exact ⟨Int.le_refl _, fun _ => hs, fun z => by omega⟩
    · have x := hJ.1 m m1 (by omega)
      unfold JM at x ⊢
      rw [d6 1 m e, d6 2 m e, d6 3 m e, d6 4 m e, d6 6 m e, hsp, hsp]; exact x
  · have x := hJ.2.1 p p1 p2
    have k0 := (hP p p1 p2).2.2.2.2.1
    have e := q p p2
    unfold JP at x ⊢
    simp only [e.1, e.2, hsp, d4 10 (by omega)]
    rw [d6 4 _ (by omega), d6 5 _ (by omega)]; exact x
  · have e := (q p p2).1 6
    have e' := (q q' q2).1 6
    exact hJ.2.2.1 p q' p1 p2 q1 q2 hne (by rw [← e]; exact s1) (by rw [← e']; exact s2) ((mt_c (q.e p2) (q.e q2)).1 hmt)
  · have x := hJ.2.2.2
    unfold JC at x ⊢
    rw [d4 13 (by omega), cnt_s _ hb.2.1.1, cnt_c (P := fun m => A 11 4 m = 3) (Q := fun m => a 11 4 m = 3) nm.toNat (fun i i1 i2 => by rw [d6 4 i (by omega)])]
    rcases cb_01 (A 11 4 nm = 3) with e | e <;> omega
  · rw [d3 50 (by omega) (by omega) (by omega)]; exact hA.1
  · rw [d8]
    by_cases e : m = nm
    · rw [if_pos e, e, d7.2.1]
    · rw [if_neg e, d6 1 m e]; exact hA.2 m m1 (by omega)
  · rw [d4 11 (by omega)]; exact h11
  · rw [d4 10 (by omega)]; exact h10
  · rw [d4 12 (by omega)]; exact h12
/-- a machine is brought, and the law writes down what it holds -/
theorem k_machine (h : Sh r n nr nm np) (hL : Lw a nr nm np k) (hm : nm < 10) {f c u : Int} (c2 : 0 ≤ f ∧ f ≤ 3) (c3 : 20 ≤ u ∧ u ≤ 200) (hc : c = 3 ∨ c = 27 ∨ c = 50 ∨ c = 96) :
    ∃ A r' n', f_La_machine (some 0) (iz f) (iz c) (iz u) (VV a r n) = some (jz nm, VV A r' n') ∧ Sh r' n' nr (nm + 1) np ∧ Lw (up A 51 nm 0 u) nr (nm + 1) np k := by
  have hb := h.b
  have hs := (hL.2.2.1.i c).2 hc
  have c1 : 0 ≤ c ∧ c ≤ 99 := by omega
  obtain ⟨A, d1, d3, d4, d5, d6, d7⟩ := c_machine_ok h hL.1.2.1 hm hL.1.1.1.2.1 c1 c2 c3 hs
  refine ⟨A, _, _, d1, Sh_m h hm, Lw_mach hb hL c1 c2 c3 hs (fun t t1 t2 t3 => ?_) (fun j j1 => ?_) ?_ (fun j m m1 => ?_) ?_ (fun m => ?_)⟩
  · rw [up_t t3, d3 t t1 t2]
  · rw [up_t (by omega), d4 j j1]
  · rw [up_t (by omega), d5]
  · rw [up_t (by omega), d6 j m m1]
  · rw [up_t (by omega)]; exact d7
  · rw [up_s, d3 51 (by omega) (by omega)]
    by_cases e : m = nm
    · rw [if_pos ⟨e, rfl⟩, if_pos e]
    · rw [if_neg (by omega), if_neg e]
theorem k_machine10 (h : Sh r n nr nm np) (hL : Lw a nr nm np k) (hm : nm = 10) {f c u : Int} (c2 : 0 ≤ f ∧ f ≤ 3) (c3 : 20 ≤ u ∧ u ≤ 200) (hc : c = 3 ∨ c = 27 ∨ c = 50 ∨ c = 96) : f_La_machine (some 0) (iz f) (iz c) (iz u) (VV a r n) = some (jz (-9000000000000000003), VV a r n) := by
  have hb := h.b
  have hs := (hL.2.2.1.i c).2 hc
  have e5 := c_isSpot h hL.1.2.1 (c := c) (by omega) (by omega)
  rw [cb_t hs] at e5
  have h0 := hL.1.1.1.2.1
  unfold f_La_machine f_Sk_machine
  simp (disch := omega) only [lt__e, bnd_e, bnd2_e, bnd3_e, el0_l, el0_r, el1_l, el1_r, el2_l, el2_r, ↓reduceIte, not_true_eq_false, not_false_eq_true, reduceCtorEq, and_true, true_and, and_false, false_and, or_true, true_or, or_false, false_or, and_self, or_self, ite_true, ite_false, Int.cast_ofNat_Int, Nat.reduceEqDiff, Nat.reduceLT, Int.reduceAdd, Int.reduceSub, Int.reduceMul, Int.reduceNeg, Int.reduceLT, Int.reduceLE, Int.reduceEq, ilt_t, ilt_f, ile_t, ile_f, ieq_t, ieq_f, z_0, z_1, z_2, z_3, z_4, z_5, z_6, z_7, z_8, z_9, z_10, z_12, z_20, z_40, z_80, z_81, z_99, z_100, z_200, z_400, z_3240, z_20000, z_100000, iz_add, iz_sub, iz_mul, iz_neg, iz_nat, iz_lt, iz_le, iz_eq, iz_div, iz_ite, iz_c, md10, md100, izcb_0, izcb_1, isOut_0, isNoCell_0, isGr_0, np_p, VV_r, VV_n, V_k, W_k, V_0, W_0, V_1, W_1, V_2, W_2, V_3, W_3, V_4, W_4, V_5, W_5, V_6, W_6, V_7, W_7, V_8, W_8, V_9, W_9, h.r0_0, h.r0_1, h.r0_2, h.r0_3, h.r0_4, h.r0_5, h.r1_0, h.r1_1, h.r1_2, h.r1_3, h.r12, rf_0 h, rf_1 h, rf_10 h, rf_11 h, rf_12 h, r6_i h, r6_o h, r7_i h, r7_o h, r8_i h, r8_o h, rl_13 h, ra_13 h, rl_2 h, ra_2 h, rl_3 h, ra_3 h, rl_4 h, ra_4 h, rl_5 h, ra_5 h, rl_6 h, ra_6 h, rl_7 h, ra_7 h, rl_8 h, ra_8 h, rl_9 h, ra_9 h, rl_50 h, ra_50 h, rl_51 h, ra_51 h, V_50, W_50, V_51, W_51, up_e, y_0, y_1, y_2, y_3, y_40, y_100, y_m1, y_m6, y_x1, y_x2, y_x3, z_m1, jz_neg, jz_add, jz_mul, jz_eq, jz_lt, jz_i, jz_l, jz_cmp, cmp_0, cmp_l, cmp_g, e5, h0]
theorem c_close_ok (h : Sh r n nr nm np) (hP : CP a nm np) (hR : CRm a nr) (hm : nr < 10) (h0 : a 0 6 0 = nr) {c d l f u : Int} (c1 : 0 ≤ c ∧ c ≤ 99) (c2 : 0 ≤ d ∧ d ≤ 99) (c3 : ((1 ≤ l ∧ l ≤ 3) ∧ (0 ≤ f ∧ f ≤ 100000) ∧ (f ≤ u ∧ u ≤ 100000))) :
    ∃ X, f_La_close (some 0) (iz c) (iz d) (iz l) (iz f) (iz u) (VV a r n) = some (jz nr, VV (fin_ X np 3 (fun q => X 12 6 q = 0 ∧ inRm X q 0 nr)) (sr (clr r (kk 10 nr)) 6 nr.toNat (some (kk 10 nr))) (sn n 10)) ∧ (∀ t, t ≠ 0 → t ≠ 10 → X t = a t) ∧ (∀ j, j ≠ 6 → X 0 j 0 = a 0 j 0) ∧ X 0 6 0 = nr + 1 ∧
      (∀ j i, i ≠ nr → X 10 j i = a 10 j i) ∧ (X 10 0 nr = rW c d ∧ X 10 1 nr = rE c d ∧ X 10 2 nr = rN c d ∧ X 10 3 nr = rS c d ∧ X 10 4 nr = l ∧ X 10 5 nr = f ∧ X 10 6 nr = u ∧ X 10 7 nr = 0) ∧ CRm X (nr + 1) ∧ CP X nm np := by
  have hb := h.b
  have h' := Sh_r h hm
  obtain ⟨d1, d2, d3⟩ := c3
  obtain ⟨b1, b2, b3, b4⟩ := rB c1 c2
  have f1 : (if d % 10 < c % 10 then d % 10 else c % 10) = rW c d := rfl
  have f2 : (if c % 10 < d % 10 then d % 10 else c % 10) = rE c d := rfl
  have f3 : (if d / 10 < c / 10 then d / 10 else c / 10) = rN c d := rfl
  have f4 : (if c / 10 < d / 10 then d / 10 else c / 10) = rS c d := rfl
  have e1 : nid (VV a r n) 10 = kk 10 nr := nid_e h.n10
  have e2 : nw (VV a r n) 10 = _ := nw_e (by omega) hb.1.1 h.n10
  have e4 : (iz nr).toNatClampNeg = nr.toNat := iz_n (by omega) (by omega)
  have g1 : ∀ t, t ≠ 0 → t ≠ 10 → up (up (up (up (up (up (up (up (zr a 10 nr) 10 0 nr (rW c d)) 10 1 nr (rE c d)) 10 2 nr (rN c d)) 10 3 nr (rS c d)) 10 4 nr l) 10 5 nr f) 10 6 nr u) 0 6 0 (nr + 1) t = a t := fun t t1 t2 => by
    rw [up_t t1, up_t t2, up_t t2, up_t t2, up_t t2, up_t t2, up_t t2, up_t t2, zr_t t2]
  have g2 : ∀ j, j ≠ 6 → up (up (up (up (up (up (up (up (zr a 10 nr) 10 0 nr (rW c d)) 10 1 nr (rE c d)) 10 2 nr (rN c d)) 10 3 nr (rS c d)) 10 4 nr l) 10 5 nr f) 10 6 nr u) 0 6 0 (nr + 1) 0 j 0 = a 0 j 0 := fun j j1 => by simp (disch := omega) only [up_e, lt__e, bnd_e, bnd2_e, bnd3_e, el0_l, el0_r, el1_l, el1_r, el2_l, el2_r, ↓reduceIte, not_true_eq_false, not_false_eq_true, reduceCtorEq, and_true, true_and, and_false, false_and, or_true, true_or, or_false, false_or, and_self, or_self, ite_true, ite_false, Int.cast_ofNat_Int, Nat.reduceEqDiff, Nat.reduceLT, Int.reduceAdd, Int.reduceSub, Int.reduceMul, Int.reduceNeg, Int.reduceLT, Int.reduceLE, Int.reduceEq, ilt_t, ilt_f, ile_t, ile_f, ieq_t, ieq_f, zr_e]
  have g3 : up (up (up (up (up (up (up (up (zr a 10 nr) 10 0 nr (rW c d)) 10 1 nr (rE c d)) 10 2 nr (rN c d)) 10 3 nr (rS c d)) 10 4 nr l) 10 5 nr f) 10 6 nr u) 0 6 0 (nr + 1) 0 6 0 = nr + 1 := by simp (disch := omega) only [up_e, lt__e, bnd_e, bnd2_e, bnd3_e, el0_l, el0_r, el1_l, el1_r, el2_l, el2_r, ↓reduceIte, not_true_eq_false, not_false_eq_true, reduceCtorEq, and_true, true_and, and_false, false_and, or_true, true_or, or_false, false_or, and_self, or_self, ite_true, ite_false, Int.cast_ofNat_Int, Nat.reduceEqDiff, Nat.reduceLT, Int.reduceAdd, Int.reduceSub, Int.reduceMul, Int.reduceNeg, Int.reduceLT, Int.reduceLE, Int.reduceEq, ilt_t, ilt_f, ile_t, ile_f, ieq_t, ieq_f]
  have g4 : ∀ j i, i ≠ nr → up (up (up (up (up (up (up (up (zr a 10 nr) 10 0 nr (rW c d)) 10 1 nr (rE c d)) 10 2 nr (rN c d)) 10 3 nr (rS c d)) 10 4 nr l) 10 5 nr f) 10 6 nr u) 0 6 0 (nr + 1) 10 j i = a 10 j i := fun j i i1 => by simp (disch := omega) only [up_e, lt__e, bnd_e, bnd2_e, bnd3_e, el0_l, el0_r, el1_l, el1_r, el2_l, el2_r, ↓reduceIte, not_true_eq_false, not_false_eq_true, reduceCtorEq, and_true, true_and, and_false, false_and, or_true, true_or, or_false, false_or, and_self, or_self, ite_true, ite_false, Int.cast_ofNat_Int, Nat.reduceEqDiff, Nat.reduceLT, Int.reduceAdd, Int.reduceSub, Int.reduceMul, Int.reduceNeg, Int.reduceLT, Int.reduceLE, Int.reduceEq, ilt_t, ilt_f, ile_t, ile_f, ieq_t, ieq_f, zr_e]
  have v0 : up (up (up (up (up (up (up (up (zr a 10 nr) 10 0 nr (rW c d)) 10 1 nr (rE c d)) 10 2 nr (rN c d)) 10 3 nr (rS c d)) 10 4 nr l) 10 5 nr f) 10 6 nr u) 0 6 0 (nr + 1) 10 0 nr = rW c d := by simp (disch := omega) only [up_e, lt__e, bnd_e, bnd2_e, bnd3_e, el0_l, el0_r, el1_l, el1_r, el2_l, el2_r, ↓reduceIte, not_true_eq_false, not_false_eq_true, reduceCtorEq, and_true, true_and, and_false, false_and, or_true, true_or, or_false, false_or, and_self, or_self, ite_true, ite_false, Int.cast_ofNat_Int, Nat.reduceEqDiff, Nat.reduceLT, Int.reduceAdd, Int.reduceSub, Int.reduceMul, Int.reduceNeg, Int.reduceLT, Int.reduceLE, Int.reduceEq, ilt_t, ilt_f, ile_t, ile_f, ieq_t, ieq_f]
  have v1 : up (up (up (up (up (up (up (up (zr a 10 nr) 10 0 nr (rW c d)) 10 1 nr (rE c d)) 10 2 nr (rN c d)) 10 3 nr (rS c d)) 10 4 nr l) 10 5 nr f) 10 6 nr u) 0 6 0 (nr + 1) 10 1 nr = rE c d := by simp (disch := omega) only [up_e, lt__e, bnd_e, bnd2_e, bnd3_e, el0_l, el0_r, el1_l, el1_r, el2_l, el2_r, ↓reduceIte, not_true_eq_false, not_false_eq_true, reduceCtorEq, and_true, true_and, and_false, false_and, or_true, true_or, or_false, false_or, and_self, or_self, ite_true, ite_false, Int.cast_ofNat_Int, Nat.reduceEqDiff, Nat.reduceLT, Int.reduceAdd, Int.reduceSub, Int.reduceMul, Int.reduceNeg, Int.reduceLT, Int.reduceLE, Int.reduceEq, ilt_t, ilt_f, ile_t, ile_f, ieq_t, ieq_f]
  have v2 : up (up (up (up (up (up (up (up (zr a 10 nr) 10 0 nr (rW c d)) 10 1 nr (rE c d)) 10 2 nr (rN c d)) 10 3 nr (rS c d)) 10 4 nr l) 10 5 nr f) 10 6 nr u) 0 6 0 (nr + 1) 10 2 nr = rN c d := by simp (disch := omega) only [up_e, lt__e, bnd_e, bnd2_e, bnd3_e, el0_l, el0_r, el1_l, el1_r, el2_l, el2_r, ↓reduceIte, not_true_eq_false, not_false_eq_true, reduceCtorEq, and_true, true_and, and_false, false_and, or_true, true_or, or_false, false_or, and_self, or_self, ite_true, ite_false, Int.cast_ofNat_Int, Nat.reduceEqDiff, Nat.reduceLT, Int.reduceAdd, Int.reduceSub, Int.reduceMul, Int.reduceNeg, Int.reduceLT, Int.reduceLE, Int.reduceEq, ilt_t, ilt_f, ile_t, ile_f, ieq_t, ieq_f]
  have v3 : up (up (up (up (up (up (up (up (zr a 10 nr) 10 0 nr (rW c d)) 10 1 nr (rE c d)) 10 2 nr (rN c d)) 10 3 nr (rS c d)) 10 4 nr l) 10 5 nr f) 10 6 nr u) 0 6 0 (nr + 1) 10 3 nr = rS c d := by simp (disch := omega) only [up_e, lt__e, bnd_e, bnd2_e, bnd3_e, el0_l, el0_r, el1_l, el1_r, el2_l, el2_r, ↓reduceIte, not_true_eq_false, not_false_eq_true, reduceCtorEq, and_true, true_and, and_false, false_and, or_true, true_or, or_false, false_or, and_self, or_self, ite_true, ite_false, Int.cast_ofNat_Int, Nat.reduceEqDiff, Nat.reduceLT, Int.reduceAdd, Int.reduceSub, Int.reduceMul, Int.reduceNeg, Int.reduceLT, Int.reduceLE, Int.reduceEq, ilt_t, ilt_f, ile_t, ile_f, ieq_t, ieq_f]
  have v4 : up (up (up (up (up (up (up (up (zr a 10 nr) 10 0 nr (rW c d)) 10 1 nr (rE c d)) 10 2 nr (rN c d)) 10 3 nr (rS c d)) 10 4 nr l) 10 5 nr f) 10 6 nr u) 0 6 0 (nr + 1) 10 4 nr = l := by simp (disch := omega) only [up_e, lt__e, bnd_e, bnd2_e, bnd3_e, el0_l, el0_r, el1_l, el1_r, el2_l, el2_r, ↓reduceIte, not_true_eq_false, not_false_eq_true, reduceCtorEq, and_true, true_and, and_false, false_and, or_true, true_or, or_false, false_or, and_self, or_self, ite_true, ite_false, Int.cast_ofNat_Int, Nat.reduceEqDiff, Nat.reduceLT, Int.reduceAdd, Int.reduceSub, Int.reduceMul, Int.reduceNeg, Int.reduceLT, Int.reduceLE, Int.reduceEq, ilt_t, ilt_f, ile_t, ile_f, ieq_t, ieq_f]
  have v5 : up (up (up (up (up (up (up (up (zr a 10 nr) 10 0 nr (rW c d)) 10 1 nr (rE c d)) 10 2 nr (rN c d)) 10 3 nr (rS c d)) 10 4 nr l) 10 5 nr f) 10 6 nr u) 0 6 0 (nr + 1) 10 5 nr = f := by simp (disch := omega) only [up_e, lt__e, bnd_e, bnd2_e, bnd3_e, el0_l, el0_r, el1_l, el1_r, el2_l, el2_r, ↓reduceIte, not_true_eq_false, not_false_eq_true, reduceCtorEq, and_true, true_and, and_false, false_and, or_true, true_or, or_false, false_or, and_self, or_self, ite_true, ite_false, Int.cast_ofNat_Int, Nat.reduceEqDiff, Nat.reduceLT, Int.reduceAdd, Int.reduceSub, Int.reduceMul, Int.reduceNeg, Int.reduceLT, Int.reduceLE, Int.reduceEq, ilt_t, ilt_f, ile_t, ile_f, ieq_t, ieq_f]
  have v6 : up (up (up (up (up (up (up (up (zr a 10 nr) 10 0 nr (rW c d)) 10 1 nr (rE c d)) 10 2 nr (rN c d)) 10 3 nr (rS c d)) 10 4 nr l) 10 5 nr f) 10 6 nr u) 0 6 0 (nr + 1) 10 6 nr = u := by simp (disch := omega) only [up_e, lt__e, bnd_e, bnd2_e, bnd3_e, el0_l, el0_r, el1_l, el1_r, el2_l, el2_r, ↓reduceIte, not_true_eq_false, not_false_eq_true, reduceCtorEq, and_true, true_and, and_false, false_and, or_true, true_or, or_false, false_or, and_self, or_self, ite_true, ite_false, Int.cast_ofNat_Int, Nat.reduceEqDiff, Nat.reduceLT, Int.reduceAdd, Int.reduceSub, Int.reduceMul, Int.reduceNeg, Int.reduceLT, Int.reduceLE, Int.reduceEq, ilt_t, ilt_f, ile_t, ile_f, ieq_t, ieq_f]
  have v7 : up (up (up (up (up (up (up (up (zr a 10 nr) 10 0 nr (rW c d)) 10 1 nr (rE c d)) 10 2 nr (rN c d)) 10 3 nr (rS c d)) 10 4 nr l) 10 5 nr f) 10 6 nr u) 0 6 0 (nr + 1) 10 7 nr = 0 := by simp (disch := omega) only [up_e, lt__e, bnd_e, bnd2_e, bnd3_e, el0_l, el0_r, el1_l, el1_r, el2_l, el2_r, ↓reduceIte, not_true_eq_false, not_false_eq_true, reduceCtorEq, and_true, true_and, and_false, false_and, or_true, true_or, or_false, false_or, and_self, or_self, ite_true, ite_false, Int.cast_ofNat_Int, Nat.reduceEqDiff, Nat.reduceLT, Int.reduceAdd, Int.reduceSub, Int.reduceMul, Int.reduceNeg, Int.reduceLT, Int.reduceLE, Int.reduceEq, ilt_t, ilt_f, ile_t, ile_f, ieq_t, ieq_f, zr_e]
  have x5 : up (up (up (up (up (up (up (up (zr a 10 nr) 10 0 nr (rW c d)) 10 1 nr (rE c d)) 10 2 nr (rN c d)) 10 3 nr (rS c d)) 10 4 nr l) 10 5 nr f) 10 6 nr u) 0 6 0 (nr + 1) = up (up (up (up (up (up (up (up (zr a 10 nr) 10 0 nr (rW c d)) 10 1 nr (rE c d)) 10 2 nr (rN c d)) 10 3 nr (rS c d)) 10 4 nr l) 10 5 nr f) 10 6 nr u) 0 6 0 (nr + 1) := rfl
  have hRX : CRm (up (up (up (up (up (up (up (up (zr a 10 nr) 10 0 nr (rW c d)) 10 1 nr (rE c d)) 10 2 nr (rN c d)) 10 3 nr (rS c d)) 10 4 nr l) 10 5 nr f) 10 6 nr u) 0 6 0 (nr + 1)) (nr + 1) := fun i i1 i2 => by
    by_cases e : i = nr
    · subst e; rw [v0, v1, v2, v3, v4, v5, v6, v7]; omega
    · rw [g4 0 i e, g4 1 i e, g4 2 i e, g4 3 i e, g4 4 i e, g4 5 i e, g4 6 i e, g4 7 i e]; exact hR i i1 (by omega)
  have hPX : CP (up (up (up (up (up (up (up (up (zr a 10 nr) 10 0 nr (rW c d)) 10 1 nr (rE c d)) 10 2 nr (rN c d)) 10 3 nr (rS c d)) 10 4 nr l) 10 5 nr f) 10 6 nr u) 0 6 0 (nr + 1)) nm np := CP_c (EqQ.of (g1 12 (by omega) (by omega)) (g1 13 (by omega) (by omega))) hP
  have ew := c_withdrawThoseIn (a := up (up (up (up (up (up (up (up (zr a 10 nr) 10 0 nr (rW c d)) 10 1 nr (rE c d)) 10 2 nr (rN c d)) 10 3 nr (rS c d)) 10 4 nr l) 10 5 nr f) 10 6 nr u) 0 6 0 (nr + 1)) h' hPX hRX (k := nr) hb.1.1 (by omega)
  refine ⟨up (up (up (up (up (up (up (up (zr a 10 nr) 10 0 nr (rW c d)) 10 1 nr (rE c d)) 10 2 nr (rN c d)) 10 3 nr (rS c d)) 10 4 nr l) 10 5 nr f) 10 6 nr u) 0 6 0 (nr + 1), ?_, g1, g2, g3, g4, ⟨v0, v1, v2, v3, v4, v5, v6, v7⟩, hRX, hPX⟩
  unfold f_La_close f_Sk_close f_Ro_init
  simp (disch := omega) only [lt__e, bnd_e, bnd2_e, bnd3_e, el0_l, el0_r, el1_l, el1_r, el2_l, el2_r, ↓reduceIte, not_true_eq_false, not_false_eq_true, reduceCtorEq, and_true, true_and, and_false, false_and, or_true, true_or, or_false, false_or, and_self, or_self, ite_true, ite_false, Int.cast_ofNat_Int, Nat.reduceEqDiff, Nat.reduceLT, Int.reduceAdd, Int.reduceSub, Int.reduceMul, Int.reduceNeg, Int.reduceLT, Int.reduceLE, Int.reduceEq, ilt_t, ilt_f, ile_t, ile_f, ieq_t, ieq_f, z_0, z_1, z_2, z_3, z_4, z_5, z_6, z_7, z_8, z_9, z_10, z_12, z_20, z_40, z_80, z_81, z_99, z_100, z_200, z_400, z_3240, z_20000, z_100000, iz_add, iz_sub, iz_mul, iz_neg, iz_nat, iz_lt, iz_le, iz_eq, iz_div, iz_ite, iz_c, md10, md100, izcb_0, izcb_1, isOut_0, isNoCell_0, isGr_0, np_p, VV_r, VV_n, V_k, W_k, V_0, W_0, V_1, W_1, V_2, W_2, V_3, W_3, V_4, W_4, V_5, W_5, V_6, W_6, V_7, W_7, V_8, W_8, V_9, W_9, h.r0_0, h.r0_1, h.r0_2, h.r0_3, h.r0_4, h.r0_5, h.r1_0, h.r1_1, h.r1_2, h.r1_3, h.r12, rf_0 h, rf_1 h, rf_10 h, rf_11 h, rf_12 h, r6_i h, r6_o h, r7_i h, r7_o h, r8_i h, r8_o h, rl_13 h, ra_13 h, rl_2 h, ra_2 h, rl_3 h, ra_3 h, rl_4 h, ra_4 h, rl_5 h, ra_5 h, rl_6 h, ra_6 h, rl_7 h, ra_7 h, rl_8 h, ra_8 h, rl_9 h, ra_9 h, rl_50 h, ra_50 h, rl_51 h, ra_51 h, V_50, W_50, V_51, W_51, up_e, y_0, y_1, y_2, y_3, y_40, y_100, y_m1, y_m6, y_x1, y_x2, y_x3, z_m1, jz_neg, jz_add, jz_mul, jz_eq, jz_lt, jz_i, jz_l, jz_cmp, cmp_0, cmp_l, cmp_g, W_k, ra_6 h', rf_10 h', c1, c2, d1, d2, d3, e1, e2, e4, f1, f2, f3, f4, h0, zr_e, wr_e, clr_l, ew]
theorem k_close (h : Sh r n nr nm np) (hL : Lw a nr nm np k) (hm : nr < 10) {c d l f u : Int} (c1 : 0 ≤ c ∧ c ≤ 99) (c2 : 0 ≤ d ∧ d ≤ 99) (c3 : ((1 ≤ l ∧ l ≤ 3) ∧ (0 ≤ f ∧ f ≤ 100000) ∧ (f ≤ u ∧ u ≤ 100000))) :
    ∃ A r' n', f_La_close (some 0) (iz c) (iz d) (iz l) (iz f) (iz u) (VV a r n) = some (jz nr, VV A r' n') ∧ Sh r' n' (nr + 1) nm np ∧ Lw A (nr + 1) nm np k := by
  have hb := h.b
  have hL0 := hL
  obtain ⟨hI, hJ, hS, hA, h11, h10, h12⟩ := hL
  obtain ⟨⟨⟨hnr, hnm, hnp⟩, hnow, hns⟩, hC, hD, hR, hMa, hP, hL⟩ := id hI
  obtain ⟨X, d1, d2, d3, d4, d5, d6, d7, d8⟩ := c_close_ok h hP hR hm hnr c1 c2 c3
  have q : EqQ X a np := EqQ.of (d2 12 (by omega) (by omega)) (d2 13 (by omega) (by omega))
  have qc : EqC X a := fun t t1 t2 => d2 t (by omega) (by omega)
  have e11 := d2 11 (by omega) (by omega)
  have hIX : CI X (nr + 1) nm np := by
    refine ⟨⟨⟨d4, ?_, ?_⟩, ?_, ?_⟩, CC_c qc hC, CD_c (d3 9 (by omega)) (d2 9 (by omega) (by omega)) hD, d7, CMa_c e11 hMa, d8, CL_c (d3 10 (by omega)) e11 q hMa hL hP⟩
    · rw [d3 7 (by omega)]; exact hnm
    · rw [d3 8 (by omega)]; exact hnp
    · rw [d3 10 (by omega)]; exact hnow
    · rw [qc.e1]; exact hns
  have hJX : CJ X nm np := CJ_c (d3 10 (by omega)) (d3 13 (by omega)) (fun c => by rw [isSp_c qc]) (fun m _ _ j => by rw [e11]) hL0.own q hJ
  have hIB := CI_fin (a := X) (v := 3) (P := fun q => X 12 6 q = 0 ∧ inRm X q 0 nr) (by omega) hIX (fun p _ _ y => y.1)
  have hJB := CJ_fin (a := X) (P := fun q => X 12 6 q = 0 ∧ inRm X q 0 nr) hIX (fun p _ _ y => y.1) hJX
  have F : ∀ t, t ≠ 11 → t ≠ 12 → fin_ X np 3 (fun q => X 12 6 q = 0 ∧ inRm X q 0 nr) t = X t := fun t t1 t2 => fin_o t1 t2
  refine ⟨_, _, _, d1, Sh_r h hm, hIB, hJB, SPS_c ?_ ?_ hS, LA_c ?_ ?_ (fun m _ _ => ?_) hA, ?_, ?_, ?_⟩
  · rw [F 1 (by omega) (by omega), qc.e1]
  · rw [F 3 (by omega) (by omega), qc.e3]
  · rw [F 50 (by omega) (by omega), d2 50 (by omega) (by omega)]
  · rw [F 51 (by omega) (by omega), d2 51 (by omega) (by omega)]
  · rw [fin_11 (by omega), e11]
  · rw [F 0 (by omega) (by omega), d3 11 (by omega)]; exact h11
  · rw [F 0 (by omega) (by omega), d3 10 (by omega)]; exact h10
  · rw [F 0 (by omega) (by omega), d3 12 (by omega)]; exact h12
theorem k_close10 (h : Sh r n nr nm np) (hL : Lw a nr nm np k) (hm : nr = 10) {c d l f u : Int} (c1 : 0 ≤ c ∧ c ≤ 99) (c2 : 0 ≤ d ∧ d ≤ 99) (c3 : ((1 ≤ l ∧ l ≤ 3) ∧ (0 ≤ f ∧ f ≤ 100000) ∧ (f ≤ u ∧ u ≤ 100000))) : f_La_close (some 0) (iz c) (iz d) (iz l) (iz f) (iz u) (VV a r n) = some (jz (-9000000000000000003), VV a r n) := by
  have hb := h.b
  have h0 := hL.1.1.1.1
  unfold f_La_close f_Sk_close
  simp (disch := omega) only [lt__e, bnd_e, bnd2_e, bnd3_e, el0_l, el0_r, el1_l, el1_r, el2_l, el2_r, ↓reduceIte, not_true_eq_false, not_false_eq_true, reduceCtorEq, and_true, true_and, and_false, false_and, or_true, true_or, or_false, false_or, and_self, or_self, ite_true, ite_false, Int.cast_ofNat_Int, Nat.reduceEqDiff, Nat.reduceLT, Int.reduceAdd, Int.reduceSub, Int.reduceMul, Int.reduceNeg, Int.reduceLT, Int.reduceLE, Int.reduceEq, ilt_t, ilt_f, ile_t, ile_f, ieq_t, ieq_f, z_0, z_1, z_2, z_3, z_4, z_5, z_6, z_7, z_8, z_9, z_10, z_12, z_20, z_40, z_80, z_81, z_99, z_100, z_200, z_400, z_3240, z_20000, z_100000, iz_add, iz_sub, iz_mul, iz_neg, iz_nat, iz_lt, iz_le, iz_eq, iz_div, iz_ite, iz_c, md10, md100, izcb_0, izcb_1, isOut_0, isNoCell_0, isGr_0, np_p, VV_r, VV_n, V_k, W_k, V_0, W_0, V_1, W_1, V_2, W_2, V_3, W_3, V_4, W_4, V_5, W_5, V_6, W_6, V_7, W_7, V_8, W_8, V_9, W_9, h.r0_0, h.r0_1, h.r0_2, h.r0_3, h.r0_4, h.r0_5, h.r1_0, h.r1_1, h.r1_2, h.r1_3, h.r12, rf_0 h, rf_1 h, rf_10 h, rf_11 h, rf_12 h, r6_i h, r6_o h, r7_i h, r7_o h, r8_i h, r8_o h, rl_13 h, ra_13 h, rl_2 h, ra_2 h, rl_3 h, ra_3 h, rl_4 h, ra_4 h, rl_5 h, ra_5 h, rl_6 h, ra_6 h, rl_7 h, ra_7 h, rl_8 h, ra_8 h, rl_9 h, ra_9 h, rl_50 h, ra_50 h, rl_51 h, ra_51 h, V_50, W_50, V_51, W_51, up_e, y_0, y_1, y_2, y_3, y_40, y_100, y_m1, y_m6, y_x1, y_x2, y_x3, z_m1, jz_neg, jz_add, jz_mul, jz_eq, jz_lt, jz_i, jz_l, jz_cmp, cmp_0, cmp_l, cmp_g, h0]
theorem Vd_c {m rz cz : Int} (hD : CD T) (hb : (0 ≤ nr ∧ nr ≤ 10) ∧ (0 ≤ np ∧ np ≤ 40)) (hq : -1 ≤ T 11 5 m ∧ T 11 5 m < np) (hV : Vd T A nr np m rz cz) : -1 ≤ cz ∧ cz ≤ 100 := by
  have b1 := lay_b hD (T 11 3 m)
  have b3 := fst_b (lo := 0) (hi := nr) (inRm A np 0) (by omega) (by omega)
  have b4 := fst_b (lo := 0) (hi := np) (fun q => gw A np q ∧ mt A np q 0) (by omega) (by omega)
  have hd := hD.1
  unfold Vd at hV
  rcases hV with ⟨_, _, e⟩ | ⟨_, ⟨_, _, e⟩ | ⟨_, ⟨_, _, e⟩ | ⟨_, ⟨_, _, e⟩ | ⟨_, hl, hV⟩⟩⟩⟩
  · omega
  · omega
  · omega
  · omega
  · have b2 := fst_b (lo := 1) (hi := A 12 4 np + 1) (low A np 0 (bt A np m)) (by omega) (by have := hl.1; omega)
    have := hl.1
    unfold lw wy at hV
    omega
theorem k_file (h : Sh r n nr nm np) (hL : Lw a nr nm np k) (hk : 0 ≤ k ∧ k ≤ 100) {m t u : Int} (m1 : 0 ≤ m) (m2 : m < nm) (c2 : a 0 10 0 + 1 ≤ t ∧ t ≤ a 0 10 0 + 200) (c3 : 0 ≤ u ∧ u ≤ 3) (c4 : np < 40) :
    (∃ z A, f_La_file (some 0) (iz m) (iz t) (iz u) (VV a r n) = some (jz z, VV A r n) ∧ (-6 ≤ z ∧ z ≤ -1) ∧ A 0 11 0 = a 0 11 0 + 1 ∧ Lw A nr nm np (k + 1)) ∨ ∃ A r' n', f_La_file (some 0) (iz m) (iz t) (iz u) (VV a r n) = some (jz np, VV A r' n') ∧ Sh r' n' nr nm (np + 1) ∧ A 0 9 0 = 0 ∧ Lw A nr nm (np + 1) k := by
  have hb := h.b
  have hL0 := hL
  obtain ⟨hI, hJ, hS, hA, h11, h10, h12⟩ := hL
  have hI' := hI
  obtain ⟨⟨⟨hnr, hnm, hnp⟩, hnow, hns⟩, hC, hD, hR, hMa, hP, hL⟩ := id hI
  have yT : ∀ x, x ≠ 12 → up (up (up (up a 12 1 np np) 12 2 np m) 12 3 np t) 12 5 np u x = a x := fun x t1 => by rw [up_t t1, up_t t1, up_t t1, up_t t1]
  have yq : EqQ (up (up (up (up a 12 1 np np) 12 2 np m) 12 3 np t) 12 5 np u) a np := fun p p1 => ⟨fun j => by rw [up_s, if_neg (by omega), up_s, if_neg (by omega), up_s, if_neg (by omega), up_s, if_neg (by omega)], fun k => by rw [yT 13 (by omega)]⟩
  have v3 : up (up (up (up a 12 1 np np) 12 2 np m) 12 3 np t) 12 5 np u 12 3 np = t := by simp (disch := omega) only [up_e, lt__e, bnd_e, bnd2_e, bnd3_e, el0_l, el0_r, el1_l, el1_r, el2_l, el2_r, ↓reduceIte, not_true_eq_false, not_false_eq_true, reduceCtorEq, and_true, true_and, and_false, false_and, or_true, true_or, or_false, false_or, and_self, or_self, ite_true, ite_false, Int.cast_ofNat_Int, Nat.reduceEqDiff, Nat.reduceLT, Int.reduceAdd, Int.reduceSub, Int.reduceMul, Int.reduceNeg, Int.reduceLT, Int.reduceLE, Int.reduceEq, ilt_t, ilt_f, ile_t, ile_f, ieq_t, ieq_f]
  have v5 : up (up (up (up a 12 1 np np) 12 2 np m) 12 3 np t) 12 5 np u 12 5 np = u := by simp (disch := omega) only [up_e, lt__e, bnd_e, bnd2_e, bnd3_e, el0_l, el0_r, el1_l, el1_r, el2_l, el2_r, ↓reduceIte, not_true_eq_false, not_false_eq_true, reduceCtorEq, and_true, true_and, and_false, false_and, or_true, true_or, or_false, false_or, and_self, or_self, ite_true, ite_false, Int.cast_ofNat_Int, Nat.reduceEqDiff, Nat.reduceLT, Int.reduceAdd, Int.reduceSub, Int.reduceMul, Int.reduceNeg, Int.reduceLT, Int.reduceLE, Int.reduceEq, ilt_t, ilt_f, ile_t, ile_f, ieq_t, ieq_f]
  have v2 : up (up (up (up a 12 1 np np) 12 2 np m) 12 3 np t) 12 5 np u 12 2 np = m := by simp (disch := omega) only [up_e, lt__e, bnd_e, bnd2_e, bnd3_e, el0_l, el0_r, el1_l, el1_r, el2_l, el2_r, ↓reduceIte, not_true_eq_false, not_false_eq_true, reduceCtorEq, and_true, true_and, and_false, false_and, or_true, true_or, or_false, false_or, and_self, or_self, ite_true, ite_false, Int.cast_ofNat_Int, Nat.reduceEqDiff, Nat.reduceLT, Int.reduceAdd, Int.reduceSub, Int.reduceMul, Int.reduceNeg, Int.reduceLT, Int.reduceLE, Int.reduceEq, ilt_t, ilt_f, ile_t, ile_f, ieq_t, ieq_f]
  have v1 : up (up (up (up a 12 1 np np) 12 2 np m) 12 3 np t) 12 5 np u 12 1 np = np := by simp (disch := omega) only [up_e, lt__e, bnd_e, bnd2_e, bnd3_e, el0_l, el0_r, el1_l, el1_r, el2_l, el2_r, ↓reduceIte, not_true_eq_false, not_false_eq_true, reduceCtorEq, and_true, true_and, and_false, false_and, or_true, true_or, or_false, false_or, and_self, or_self, ite_true, ite_false, Int.cast_ofNat_Int, Nat.reduceEqDiff, Nat.reduceLT, Int.reduceAdd, Int.reduceSub, Int.reduceMul, Int.reduceNeg, Int.reduceLT, Int.reduceLE, Int.reduceEq, ilt_t, ilt_f, ile_t, ile_f, ieq_t, ieq_f]
  have hcl : f_Sk_file 0 (iz m) (iz t) (iz u) (VV a r n) = bnd2 (f_Sk_judge 0 (some (kk 11 m)) (VV (up (up (up (up a 12 1 np np) 12 2 np m) 12 3 np t) 12 5 np u) r n)) (fun x33 s32 => if x33 < iz 0 then some (0, x33, s32) else bnd2 (f_Sk_accept 0 (some (kk 11 m)) s32) (fun x38 s37 => some (0, x38, s37))) := by
    unfold f_Sk_file
    simp (disch := omega) only [lt__e, bnd_e, bnd2_e, bnd3_e, el0_l, el0_r, el1_l, el1_r, el2_l, el2_r, ↓reduceIte, not_true_eq_false, not_false_eq_true, reduceCtorEq, and_true, true_and, and_false, false_and, or_true, true_or, or_false, false_or, and_self, or_self, ite_true, ite_false, Int.cast_ofNat_Int, Nat.reduceEqDiff, Nat.reduceLT, Int.reduceAdd, Int.reduceSub, Int.reduceMul, Int.reduceNeg, Int.reduceLT, Int.reduceLE, Int.reduceEq, ilt_t, ilt_f, ile_t, ile_f, ieq_t, ieq_f, z_0, z_1, z_2, z_3, z_4, z_5, z_6, z_7, z_8, z_9, z_10, z_12, z_20, z_40, z_80, z_81, z_99, z_100, z_200, z_400, z_3240, z_20000, z_100000, iz_add, iz_sub, iz_mul, iz_neg, iz_nat, iz_lt, iz_le, iz_eq, iz_div, iz_ite, iz_c, md10, md100, izcb_0, izcb_1, isOut_0, isNoCell_0, isGr_0, np_p, VV_r, VV_n, V_k, W_k, V_0, W_0, V_1, W_1, V_2, W_2, V_3, W_3, V_4, W_4, V_5, W_5, V_6, W_6, V_7, W_7, V_8, W_8, V_9, W_9, h.r0_0, h.r0_1, h.r0_2, h.r0_3, h.r0_4, h.r0_5, h.r1_0, h.r1_1, h.r1_2, h.r1_3, h.r12, rf_0 h, rf_1 h, rf_10 h, rf_11 h, rf_12 h, r6_i h, r6_o h, r7_i h, r7_o h, r8_i h, r8_o h, rl_13 h, ra_13 h, rl_2 h, ra_2 h, rl_3 h, ra_3 h, rl_4 h, ra_4 h, rl_5 h, ra_5 h, rl_6 h, ra_6 h, rl_7 h, ra_7 h, rl_8 h, ra_8 h, rl_9 h, ra_9 h, rl_50 h, ra_50 h, rl_51 h, ra_51 h, V_50, W_50, V_51, W_51, up_e, y_0, y_1, y_2, y_3, y_40, y_100, y_m1, y_m6, y_x1, y_x2, y_x3, z_m1, jz_neg, jz_add, jz_mul, jz_eq, jz_lt, jz_i, jz_l, jz_cmp, cmp_0, cmp_l, cmp_g, c_machineOf_i h, c2, c3, hnp]
  generalize hT : up (up (up (up a 12 1 np np) 12 2 np m) 12 3 np t) 12 5 np u = T at *
  have qcT : EqC T a := fun x t1 t2 => yT x (by omega)
  have hCT := CC_c qcT hC
  have e0 : T 0 = a 0 := yT 0 (by omega)
  have e11 : T 11 = a 11 := yT 11 (by omega)
  have hDT : CD T := CD_c (by rw [e0]) (yT 9 (by omega)) hD
  have hRT : CRm T nr := CRm_c2 (yT 10 (by omega)) hR
  have hMT : CMa T nm np := CMa_c e11 hMa
  have hPT : CP T nm np := CP_c yq hP
  have hLT : CL T nm np := CL_c (by rw [e0]) e11 yq hMa hL hP
  have h0T : 0 < T 1 4 0 := by rw [yT 1 (by omega)]; exact hns (by omega)
  have hst : T 11 4 m = 0 → T 11 3 m < 100 ∧ 0 ≤ T 11 2 m := fun z => by
    have x := (hLT.1 m m1 m2).1 z
    exact ⟨x.1, x.2.1⟩
  have htT : 1 ≤ T 12 3 np ∧ T 12 3 np ≤ 20200 := by omega
  have huT : 0 ≤ T 12 5 np ∧ T 12 5 np ≤ 3 := by omega
  have hnT : 0 ≤ T 0 10 0 ∧ T 0 10 0 ≤ 20000 := by rw [e0]; exact hnow
  have hdT : 0 ≤ T 12 3 np - T 0 10 0 ∧ T 12 3 np - T 0 10 0 ≤ 200 := by rw [e0]; omega
  obtain ⟨A, rz, cz, d1, d2, d3, d4⟩ := c_judge (T := T) h hCT hDT hRT hMT hPT h0T m1 m2 htT huT hnT hdT hst
  have dA : ∀ x, x ≠ 12 → x ≠ 13 → A x = a x := fun x t1 t2 => by rw [d1.1 x t1 t2, yT x t1]
  have dq : EqQ A a np := fun p p1 => ⟨fun j => by rw [(d1.q p p1).1 j, (yq p p1).1 j], fun k => by rw [(d1.q p p1).2 k, (yq p p1).2 k]⟩
  have dA0 := dA 0 (by omega) (by omega)
  have hLA := Lw_tr dA dq hL0
  by_cases c5 : rz = 0
  · right
    subst c5
    rw [if_pos rfl, show iz (-0) = iz 0 from rfl] at d4
    obtain ⟨u1, u2, u3, u4⟩ := Vd0 d3
    have hs := hst u1
    have hm3 := hMT m m1 m2
    have hw := u4.pw d1 hDT hm3.2.2.2.1.1 (by omega) u3 htT
    obtain ⟨o1, o2, o3⟩ := lay_ok hDT hm3.2.2.2.1.1 (by omega) u3
    have A3 : A 12 3 np = t := by rw [d1.2.1 3 np (by omega)]; exact v3
    have A5 : A 12 5 np = u := by rw [d1.2.1 5 np (by omega)]; exact v5
    have A2_ : A 12 2 np = m := by rw [d1.2.1 2 np (by omega)]; exact v2
    have A1_ : A 12 1 np = np := by rw [d1.2.1 1 np (by omega)]; exact v1
    have hIA := hLA.1
    have hac := c_accept (A := A) h hIA.2.2.2.2.2.1 hw (by rw [dA0]; exact hnp) c4 m1 m2
    have h' := Sh_p h c4
    have a11 := dA 11 (by omega) (by omega)
    have A0 : A 13 0 np = a 11 3 m := by rw [u4.2 0 (by omega) hDT.1.1, e11]; rfl
    have hG := CI_acc (m := m) hIA ⟨hb.2.2.1, c4⟩ m1 m2 hw (by omega) (by rw [u4.1]; exact o2) A1_ A2_ (by omega) (by rw [a11, ← e11]; exact u1) (by rw [a11, ← e11]; exact u2) (by rw [u4.1, u4.2 _ hDT.1.1 (Int.le_refl _)]; exact o3) (by rw [dA0]; omega) (by rw [A0, a11])
    have qcA : EqC A a := fun x t1 t2 => dA x (by omega) (by omega)
    have s1 : isSp A (A 13 0 np) := by
      rw [A0, isSp_c qcA]
      exact (hJ.1 m m1 m2).2.1 (by rw [← e11]; exact u1)
    have s2 : isSp A (A 13 (A 12 4 np) np) := by
      rw [u4.1, u4.2 _ hDT.1.1 (Int.le_refl _), isSp_c qcA, ← isSp_c qcT]
      exact lay_sp hDT hm3.2.2.2.1.1 (by omega) u3
    have hGJ := CJ_acc (m := m) hIA ⟨hb.2.2.1, c4⟩ m1 m2 hw (by omega) (by rw [a11, ← e11]; exact u1) s1 s2 hLA.2.1
    refine ⟨acc A np m, rP r np, nP n, ?_, h', acc_09, hG, hGJ, SPS_c ?_ ?_ hS, LA_c ?_ ?_ (fun i _ _ => ?_) hA, ?_, ?_, ?_⟩
    · unfold f_La_file
      simp (disch := omega) only [lt__e, bnd_e, bnd2_e, bnd3_e, el0_l, el0_r, el1_l, el1_r, el2_l, el2_r, ↓reduceIte, not_true_eq_false, not_false_eq_true, reduceCtorEq, and_true, true_and, and_false, false_and, or_true, true_or, or_false, false_or, and_self, or_self, ite_true, ite_false, Int.cast_ofNat_Int, Nat.reduceEqDiff, Nat.reduceLT, Int.reduceAdd, Int.reduceSub, Int.reduceMul, Int.reduceNeg, Int.reduceLT, Int.reduceLE, Int.reduceEq, ilt_t, ilt_f, ile_t, ile_f, ieq_t, ieq_f, z_0, z_1, z_2, z_3, z_4, z_5, z_6, z_7, z_8, z_9, z_10, z_12, z_20, z_40, z_80, z_81, z_99, z_100, z_200, z_400, z_3240, z_20000, z_100000, iz_add, iz_sub, iz_mul, iz_neg, iz_nat, iz_lt, iz_le, iz_eq, iz_div, iz_ite, iz_c, md10, md100, izcb_0, izcb_1, isOut_0, isNoCell_0, isGr_0, np_p, VV_r, VV_n, V_k, W_k, V_0, W_0, V_1, W_1, V_2, W_2, V_3, W_3, V_4, W_4, V_5, W_5, V_6, W_6, V_7, W_7, V_8, W_8, V_9, W_9, h.r0_0, h.r0_1, h.r0_2, h.r0_3, h.r0_4, h.r0_5, h.r1_0, h.r1_1, h.r1_2, h.r1_3, h.r12, rf_0 h, rf_1 h, rf_10 h, rf_11 h, rf_12 h, r6_i h, r6_o h, r7_i h, r7_o h, r8_i h, r8_o h, rl_13 h, ra_13 h, rl_2 h, ra_2 h, rl_3 h, ra_3 h, rl_4 h, ra_4 h, rl_5 h, ra_5 h, rl_6 h, ra_6 h, rl_7 h, ra_7 h, rl_8 h, ra_8 h, rl_9 h, ra_9 h, rl_50 h, ra_50 h, rl_51 h, ra_51 h, V_50, W_50, V_51, W_51, up_e, y_0, y_1, y_2, y_3, y_40, y_100, y_m1, y_m6, y_x1, y_x2, y_x3, z_m1, jz_neg, jz_add, jz_mul, jz_eq, jz_lt, jz_i, jz_l, jz_cmp, cmp_0, cmp_l, cmp_g, hcl, d4, hac]
    · rw [acc_t (by omega) (by omega) (by omega) (by omega), qcA.e1]
    · rw [acc_t (by omega) (by omega) (by omega) (by omega), qcA.e3]
    · rw [acc_t (by omega) (by omega) (by omega) (by omega), dA 50 (by omega) (by omega)]
    · rw [acc_t (by omega) (by omega) (by omega) (by omega), dA 51 (by omega) (by omega)]
    · rw [acc_11 (by omega), fin_11 (by omega), a11]
    · rw [acc_0 (by omega) (by omega), dA0]; exact h11
    · rw [acc_0 (by omega) (by omega), dA0]; exact h10
    · rw [acc_0 (by omega) (by omega), dA0]; exact h12
  · left
    rw [if_neg c5] at d4
    have hcz := Vd_c (A := A) hDT ⟨hb.1, hb.2.2⟩ (hMT m m1 m2).2.2.2.2.2.1 d3
    have F : ∀ x, x ≠ 0 → up (up A 0 11 0 (A 0 11 0 + 1)) 0 12 0 cz x = A x := fun x x0 => by rw [up_t x0, up_t x0]
    have F0 : ∀ j, j ≠ 11 → j ≠ 12 → up (up A 0 11 0 (A 0 11 0 + 1)) 0 12 0 cz 0 j 0 = A 0 j 0 := fun j j1 j2 => by rw [up_s, if_neg (by omega), up_s, if_neg (by omega)]
    have G11 : up (up A 0 11 0 (A 0 11 0 + 1)) 0 12 0 cz 0 11 0 = a 0 11 0 + 1 := by rw [up_s, if_neg (by omega), up_s, if_pos ⟨rfl, rfl⟩, dA0]
    have G12 : up (up A 0 11 0 (A 0 11 0 + 1)) 0 12 0 cz 0 12 0 = cz := by rw [up_s, if_pos ⟨rfl, rfl⟩]
    have q : EqQ (up (up A 0 11 0 (A 0 11 0 + 1)) 0 12 0 cz) A np := EqQ.of (F 12 (by omega)) (F 13 (by omega))
    obtain ⟨k1, k2, k3, k4, k5, k6, k7⟩ := id hLA.1
    refine ⟨-rz, up (up A 0 11 0 (A 0 11 0 + 1)) 0 12 0 cz, ?_, by omega, G11, ⟨CN_c (fun j j1 => F0 j (by omega) (by omega)) (F 1 (by omega)) k1, CC_c (fun x t1 t2 => F x (by omega)) k2, CD_c (F0 9 (by omega) (by omega)) (F 9 (by omega)) k3, CRm_c2 (F 10 (by omega)) k4, CMa_c (F 11 (by omega)) k5, CP_c q k6, CL_c (F0 10 (by omega) (by omega)) (F 11 (by omega)) q k5 k7 k6⟩, CJ_c (F0 10 (by omega) (by omega)) (F0 13 (by omega) (by omega)) (fun c => by unfold isSp; rw [F 1 (by omega), F 3 (by omega)]) (fun i _ _ j => by rw [F 11 (by omega)]) hLA.own q hLA.2.1, SPS_c (F 1 (by omega)) (F 3 (by omega)) hLA.2.2.1, LA_c (F 50 (by omega)) (F 51 (by omega)) (fun i _ _ => by rw [F 11 (by omega)]) hLA.2.2.2.1, ?_, ?_, ?_⟩
    · unfold f_La_file
      simp (disch := omega) only [lt__e, bnd_e, bnd2_e, bnd3_e, el0_l, el0_r, el1_l, el1_r, el2_l, el2_r, ↓reduceIte, not_true_eq_false, not_false_eq_true, reduceCtorEq, and_true, true_and, and_false, false_and, or_true, true_or, or_false, false_or, and_self, or_self, ite_true, ite_false, Int.cast_ofNat_Int, Nat.reduceEqDiff, Nat.reduceLT, Int.reduceAdd, Int.reduceSub, Int.reduceMul, Int.reduceNeg, Int.reduceLT, Int.reduceLE, Int.reduceEq, ilt_t, ilt_f, ile_t, ile_f, ieq_t, ieq_f, z_0, z_1, z_2, z_3, z_4, z_5, z_6, z_7, z_8, z_9, z_10, z_12, z_20, z_40, z_80, z_81, z_99, z_100, z_200, z_400, z_3240, z_20000, z_100000, iz_add, iz_sub, iz_mul, iz_neg, iz_nat, iz_lt, iz_le, iz_eq, iz_div, iz_ite, iz_c, md10, md100, izcb_0, izcb_1, isOut_0, isNoCell_0, isGr_0, np_p, VV_r, VV_n, V_k, W_k, V_0, W_0, V_1, W_1, V_2, W_2, V_3, W_3, V_4, W_4, V_5, W_5, V_6, W_6, V_7, W_7, V_8, W_8, V_9, W_9, h.r0_0, h.r0_1, h.r0_2, h.r0_3, h.r0_4, h.r0_5, h.r1_0, h.r1_1, h.r1_2, h.r1_3, h.r12, rf_0 h, rf_1 h, rf_10 h, rf_11 h, rf_12 h, r6_i h, r6_o h, r7_i h, r7_o h, r8_i h, r8_o h, rl_13 h, ra_13 h, rl_2 h, ra_2 h, rl_3 h, ra_3 h, rl_4 h, ra_4 h, rl_5 h, ra_5 h, rl_6 h, ra_6 h, rl_7 h, ra_7 h, rl_8 h, ra_8 h, rl_9 h, ra_9 h, rl_50 h, ra_50 h, rl_51 h, ra_51 h, V_50, W_50, V_51, W_51, up_e, y_0, y_1, y_2, y_3, y_40, y_100, y_m1, y_m6, y_x1, y_x2, y_x3, z_m1, jz_neg, jz_add, jz_mul, jz_eq, jz_lt, jz_i, jz_l, jz_cmp, cmp_0, cmp_l, cmp_g, hcl, d4]
    · rw [G11]; omega
    · rw [F0 10 (by omega) (by omega), dA0]; omega
    · rw [G12]; exact hcz
theorem k_file40 (h : Sh r n nr nm np) (hL : Lw a nr nm np k) {m t u : Int} (m1 : 0 ≤ m) (m2 : m < nm) (c2 : a 0 10 0 + 1 ≤ t ∧ t ≤ a 0 10 0 + 200) (c3 : 0 ≤ u ∧ u ≤ 3) (c4 : np = 40) : f_La_file (some 0) (iz m) (iz t) (iz u) (VV a r n) = some (jz (-9000000000000000003), VV a r n) := by
  have hb := h.b
  have hnow := hL.1.1.2.1
  have hnp := hL.1.1.1.2.2
  unfold f_La_file f_Sk_file
  simp (disch := omega) only [lt__e, bnd_e, bnd2_e, bnd3_e, el0_l, el0_r, el1_l, el1_r, el2_l, el2_r, ↓reduceIte, not_true_eq_false, not_false_eq_true, reduceCtorEq, and_true, true_and, and_false, false_and, or_true, true_or, or_false, false_or, and_self, or_self, ite_true, ite_false, Int.cast_ofNat_Int, Nat.reduceEqDiff, Nat.reduceLT, Int.reduceAdd, Int.reduceSub, Int.reduceMul, Int.reduceNeg, Int.reduceLT, Int.reduceLE, Int.reduceEq, ilt_t, ilt_f, ile_t, ile_f, ieq_t, ieq_f, z_0, z_1, z_2, z_3, z_4, z_5, z_6, z_7, z_8, z_9, z_10, z_12, z_20, z_40, z_80, z_81, z_99, z_100, z_200, z_400, z_3240, z_20000, z_100000, iz_add, iz_sub, iz_mul, iz_neg, iz_nat, iz_lt, iz_le, iz_eq, iz_div, iz_ite, iz_c, md10, md100, izcb_0, izcb_1, isOut_0, isNoCell_0, isGr_0, np_p, VV_r, VV_n, V_k, W_k, V_0, W_0, V_1, W_1, V_2, W_2, V_3, W_3, V_4, W_4, V_5, W_5, V_6, W_6, V_7, W_7, V_8, W_8, V_9, W_9, h.r0_0, h.r0_1, h.r0_2, h.r0_3, h.r0_4, h.r0_5, h.r1_0, h.r1_1, h.r1_2, h.r1_3, h.r12, rf_0 h, rf_1 h, rf_10 h, rf_11 h, rf_12 h, r6_i h, r6_o h, r7_i h, r7_o h, r8_i h, r8_o h, rl_13 h, ra_13 h, rl_2 h, ra_2 h, rl_3 h, ra_3 h, rl_4 h, ra_4 h, rl_5 h, ra_5 h, rl_6 h, ra_6 h, rl_7 h, ra_7 h, rl_8 h, ra_8 h, rl_9 h, ra_9 h, rl_50 h, ra_50 h, rl_51 h, ra_51 h, V_50, W_50, V_51, W_51, up_e, y_0, y_1, y_2, y_3, y_40, y_100, y_m1, y_m6, y_x1, y_x2, y_x3, z_m1, jz_neg, jz_add, jz_mul, jz_eq, jz_lt, jz_i, jz_l, jz_cmp, cmp_0, cmp_l, cmp_g, c_machineOf_i h, hnp]
end J9
