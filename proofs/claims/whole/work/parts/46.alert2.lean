/-! alerts in the reference -/
theorem kk48 (N : Nat) : kk 48 (N : Int) % 64 = 48 ∧ kk 48 (N : Int) / 64 = N := by unfold kk; omega
theorem ra_48 {n : Nat → Nat} {N : Nat} (h : N < n 48) {z : Int} (h1 : 0 ≤ z) (h2 : z < 12) : ra n 0 (some (kk 48 (N : Int))) (iz z) = some (kk 48 (N : Int)) := by
  show (match lay (kk 48 (N : Int) % 64) with | .inl _ => none | .inr q => if (q.1 = 0 ∧ kk 48 (N : Int) / 64 < n (kk 48 (N : Int) % 64)) ∧ ¬ (iz z < 0 ∨ q.2 ≤ (iz z).toNatClampNeg) then some (kk 48 (N : Int)) else none) = _
  rw [(kk48 N).1, (kk48 N).2, iz_n (by omega) (by omega)]
  exact if_pos ⟨⟨rfl, h⟩, by show ¬ (iz z < 0 ∨ 12 ≤ z.toNat); rw [z_0, iz_lt (by omega) (by omega) (by omega) (by omega)]; omega⟩
section C14
variable {a A B T X c c' b b' : AT} {r : Nat → Nat → Option Nat} {n : Nat → Nat} {nr nm np : Int}
theorem Sh_48 (h : Sh r n nr nm np) (N : Nat) : Sh (clr r (kk 48 (N : Int))) (sn n 48) nr nm np := by
  have hb := h.b
  have lit : ∀ k j : Nat, k < 48 → clr r (kk 48 (N : Int)) k j = r k j := fun k j h1 => if_neg (by unfold kk; omega)
  refine ⟨h.b, ?n1, ?n10, ?n11, ?n12, ?n13, ?_⟩
  case n1 => intro k hk; rw [sn_t (by omega)]; exact h.n1 k hk
  case n10 => rw [sn_t (by omega)]; exact h.n10
  case n11 => rw [sn_t (by omega)]; exact h.n11
  case n12 => rw [sn_t (by omega)]; exact h.n12
  case n13 => rw [sn_t (by omega)]; exact h.n13
  simp (disch := omega) only [lit, h.r0_0, h.r0_1, h.r0_2, h.r0_3, h.r0_4, h.r0_5, h.r1_0, h.r1_1, h.r1_2, h.r1_3, h.r20_2, h.r20_3, h.r20_5, h.r20_6, h.r20_8, h.r20_9, h.r20_10, h.r20_11, h.r20_12, h.r20_13, h.r20_14, h.r20_16, h.r20_18, h.r20_19, h.r20_20, h.r20_21, h.r20_22, h.r20_23, h.r20_25, true_and]
  refine ⟨h.r6, h.r7, h.r8, fun i i1 i2 => ?_⟩
  unfold clr
  rw [if_neg (by unfold kk; omega)]
  exact h.r12 i i1 i2
theorem m_isNear (h : Sh r n nr nm np) {p j x g : Int} (hp : 0 ≤ p ∧ p < 40) (hw : PW b p) (hM : MPa c b p) (hj : 0 ≤ j ∧ j < 10) (h28 : c 28 j 0 = x) (h31 : c 31 j 0 = g) (hx : 0 ≤ x ∧ x < 500) (hg : 0 ≤ g ∧ g < 100) (h1 : c 20 1 0 = b 0 10 0) (hn : 0 ≤ b 0 10 0 ∧ b 0 10 0 ≤ 20000) :
    ∃ c', f_Mo_isNear 20 (iz p) (iz j) (VV c r n) = some (iz (cb (nrp b p x g (b 0 10 0))), VV c' (clr r (kk 48 (n 48 : Int))) (sn n 48)) ∧ (∀ t, t ≠ 48 → c' t = c t) := by
  have h' := Sh_48 h (n 48)
  have hN : (n 48) < sn n 48 48 := by rw [sn_s]; omega
  have e1 : nid (VV c r n) 48 = kk 48 (n 48 : Int) := nid_e (by omega)
  have e2 : nw (VV c r n) 48 = VV (zr c 48 (n 48 : Int)) (clr r (kk 48 (n 48 : Int))) (sn n 48) := nw_e (by omega) (by omega) (by omega)
  generalize hNN : n 48 = N at *
  have hpb : ∀ k, 0 ≤ ps x g k ∧ ps x g k < 500 := ps_b hx.1 hx.2 hg.1 hg.2
  have z : ∀ t, t ≠ 48 → up (zr c 48 (N : Int)) 48 0 (N : Int) x t = c t := fun t t1 => by rw [up_t t1, zr_t t1]
  have hr : ∀ k j, k < 48 → clr r (kk 48 (N : Int)) k j = r k j := fun k j h1 => if_neg (by unfold kk; omega)
  -- the places of the lost machine
  have key := lpQ (L := fun n' i (s : AT) => l_Mo_isNear_17 20 (iz p) (iz j) (some (kk 48 (N : Int))) n' (iz i) (VV s (clr r (kk 48 (N : Int))) (sn n 48))) (hi := 12)
    (Q := fun i s => 1 ≤ i ∧ (∀ t, t ≠ 48 → s t = c t) ∧ ∀ k, 0 ≤ k → k < i → s 48 k (N : Int) = ps x g k.toNat)
    (R := fun v => ∃ s, v = VV s (clr r (kk 48 (N : Int))) (sn n 48) ∧ (∀ t, t ≠ 48 → s t = c t) ∧ ∀ k, 0 ≤ k → k < 12 → s 48 k (N : Int) = ps x g k.toNat) ?_ ?_ 4096 1 (up (zr c 48 (N : Int)) 48 0 (N : Int) x) (by omega) (by omega) ?_
  rotate_left 1
  · rintro n' i s h3 ⟨h4, h5, h6⟩
    left
    have q1 := h6 (i - 1) (by omega) (by omega)
    have b1 := hpb (i - 1).toNat
    have es := ps_s x g (i := i - 1) (by omega)
    have ei : i - 1 + 1 = i := by omega
    rw [ei] at es
    have q31 : s 31 j 0 = g := by rw [h5 31 (by omega)]; exact h31
    refine ⟨up s 48 i (N : Int) (ps x g i.toNat), ⟨by omega, fun t t1 => ?_, fun k k1 k2 => ?_⟩, ?_⟩
    · rw [up_t t1]; exact h5 t t1
    · by_cases e : k = i
      · rw [e, up_s, if_pos ⟨rfl, rfl⟩]
      · rw [up_s, if_neg (by omega)]; exact h6 k k1 (by omega)
    · rw [es]
      dsimp only [l_Mo_isNear_17, b_Mo_isNear_17]
      by_cases c1 : ps x g (i - 1).toNat < 100
      · have e : hwd (ps x g (i - 1).toNat) g = ps x g (i - 1).toNat := if_pos c1
        rw [e]
        simp (disch := omega) only [lt__e, bnd_e, bnd2_e, bnd3_e, el0_l, el0_r, el1_l, el1_r, el2_l, el2_r, ↓reduceIte, not_true_eq_false, not_false_eq_true, reduceCtorEq, and_true, true_and, and_false, false_and, or_true, true_or, or_false, false_or, and_self, or_self, ite_true, ite_false, Int.cast_ofNat_Int, Nat.reduceEqDiff, Nat.reduceLT, Int.reduceAdd, Int.reduceSub, Int.reduceMul, Int.reduceNeg, Int.reduceLT, Int.reduceLE, Int.reduceEq, ilt_t, ilt_f, ile_t, ile_f, ieq_t, ieq_f, z_0, z_1, z_2, z_3, z_4, z_5, z_6, z_7, z_8, z_9, z_10, z_12, z_20, z_40, z_80, z_81, z_99, z_100, z_200, z_400, z_3240, z_20000, z_100000, iz_add, iz_sub, iz_mul, iz_neg, iz_nat, iz_lt, iz_le, iz_eq, iz_div, iz_ite, iz_c, md10, md100, izcb_0, izcb_1, isOut_0, isNoCell_0, isGr_0, within_e, isCell_e, np_p, VV_r, VV_n, V_k, W_k, ra_48 hN, q1]
      · have e := m_homeward (x := ps x g (i - 1).toNat) (g := g) (by omega) b1.2 hg.1 hg.2
        simp (disch := omega) only [lt__e, bnd_e, bnd2_e, bnd3_e, el0_l, el0_r, el1_l, el1_r, el2_l, el2_r, ↓reduceIte, not_true_eq_false, not_false_eq_true, reduceCtorEq, and_true, true_and, and_false, false_and, or_true, true_or, or_false, false_or, and_self, or_self, ite_true, ite_false, Int.cast_ofNat_Int, Nat.reduceEqDiff, Nat.reduceLT, Int.reduceAdd, Int.reduceSub, Int.reduceMul, Int.reduceNeg, Int.reduceLT, Int.reduceLE, Int.reduceEq, ilt_t, ilt_f, ile_t, ile_f, ieq_t, ieq_f, z_0, z_1, z_2, z_3, z_4, z_5, z_6, z_7, z_8, z_9, z_10, z_12, z_20, z_40, z_80, z_81, z_99, z_100, z_200, z_400, z_3240, z_20000, z_100000, iz_add, iz_sub, iz_mul, iz_neg, iz_nat, iz_lt, iz_le, iz_eq, iz_div, iz_ite, iz_c, md10, md100, izcb_0, izcb_1, isOut_0, isNoCell_0, isGr_0, within_e, isCell_e, np_p, VV_r, VV_n, V_k, W_k, ra_48 hN, q1, hr, h.r20_14, ra_31 h', V_31, q31, e]
  · rintro n' s ⟨h4, h5, h6⟩
    refine ⟨_, ?_, s, rfl, h5, h6⟩
    dsimp only [l_Mo_isNear_17, b_Mo_isNear_17]
    simp (disch := omega) only [lt__e, bnd_e, bnd2_e, bnd3_e, el0_l, el0_r, el1_l, el1_r, el2_l, el2_r, ↓reduceIte, not_true_eq_false, not_false_eq_true, reduceCtorEq, and_true, true_and, and_false, false_and, or_true, true_or, or_false, false_or, and_self, or_self, ite_true, ite_false, Int.cast_ofNat_Int, Nat.reduceEqDiff, Nat.reduceLT, Int.reduceAdd, Int.reduceSub, Int.reduceMul, Int.reduceNeg, Int.reduceLT, Int.reduceLE, Int.reduceEq, ilt_t, ilt_f, ile_t, ile_f, ieq_t, ieq_f, z_0, z_1, z_2, z_3, z_4, z_5, z_6, z_7, z_8, z_9, z_10, z_12, z_20, z_40, z_80, z_81, z_99, z_100, z_200, z_400, z_3240, z_20000, z_100000, iz_add, iz_sub, iz_mul, iz_neg, iz_nat, iz_lt, iz_le, iz_eq, iz_div, iz_ite, iz_c, md10, md100, izcb_0, izcb_1, isOut_0, isNoCell_0, isGr_0, within_e, isCell_e, np_p]
  · refine ⟨by omega, z, fun k k1 k2 => ?_⟩
    have : k = 0 := by omega
    subst this
    rw [up_s, if_pos ⟨rfl, rfl⟩]; rfl
  obtain ⟨v, hv, s, rfl, k1, k2⟩ := key
  have s1 : s 20 1 0 = b 0 10 0 := by rw [k1 20 (by omega)]; exact h1
  have hMs : MPa s b p := by
    unfold MPa at hM ⊢
    rw [k1 34 (by omega), k1 35 (by omega), k1 38 (by omega)]; exact hM
  -- meeting
  have i102 : ∀ t : Int, 1 ≤ t → t < 11 → ∀ q : Prop, l_Mo_isNear_102 20 (iz p) (some (kk 48 (N : Int))) (iz t) (iz (PL b p (b 0 10 0 + t))) (VV s (clr r (kk 48 (N : Int))) (sn n 48)) 4096 (iz (cb q)) (iz (t - 1)) = some (iz (cb (q ∨ ∃ k, t - 1 ≤ k ∧ k < t + 2 ∧ (100 ≤ PL b p (b 0 10 0 + t) ∧ PL b p (b 0 10 0 + t) = ps x g k.toNat)))) := by
    intro t t1 t2 q
    have bp := PL_b hw (b 0 10 0 + t)
    refine lpA2 (L := fun n' k zz => l_Mo_isNear_102 20 (iz p) (some (kk 48 (N : Int))) (iz t) (iz (PL b p (b 0 10 0 + t))) (VV s (clr r (kk 48 (N : Int))) (sn n 48)) n' (iz zz) (iz k)) (lo := t - 1) (hi := t + 2) (p := fun k => 100 ≤ PL b p (b 0 10 0 + t) ∧ PL b p (b 0 10 0 + t) = ps x g k.toNat) q ?_ ?_ 4096 (by omega) (by omega)
    · intro n' k q h3 h4
      have e := k2 k (by omega) (by omega)
      have bk := hpb k.toNat
      dsimp only [l_Mo_isNear_102, b_Mo_isNear_102]
      by_cases c1 : q
      · rw [cb_t c1, cb_t (Or.inl c1)]
        simp (disch := omega) only [lt__e, bnd_e, bnd2_e, bnd3_e, el0_l, el0_r, el1_l, el1_r, el2_l, el2_r, ↓reduceIte, not_true_eq_false, not_false_eq_true, reduceCtorEq, and_true, true_and, and_false, false_and, or_true, true_or, or_false, false_or, and_self, or_self, ite_true, ite_false, Int.cast_ofNat_Int, Nat.reduceEqDiff, Nat.reduceLT, Int.reduceAdd, Int.reduceSub, Int.reduceMul, Int.reduceNeg, Int.reduceLT, Int.reduceLE, Int.reduceEq, ilt_t, ilt_f, ile_t, ile_f, ieq_t, ieq_f, z_0, z_1, z_2, z_3, z_4, z_5, z_6, z_7, z_8, z_9, z_10, z_12, z_20, z_40, z_80, z_81, z_99, z_100, z_200, z_400, z_3240, z_20000, z_100000, iz_add, iz_sub, iz_mul, iz_neg, iz_nat, iz_lt, iz_le, iz_eq, iz_div, iz_ite, iz_c, md10, md100, izcb_0, izcb_1, isOut_0, isNoCell_0, isGr_0, within_e, isCell_e, np_p]
      · by_cases c2 : 100 ≤ PL b p (b 0 10 0 + t)
        · by_cases c3 : PL b p (b 0 10 0 + t) = ps x g k.toNat
          · rw [cb_f c1, cb_t (Or.inr ⟨c2, c3⟩)]
            simp (disch := omega) only [lt__e, bnd_e, bnd2_e, bnd3_e, el0_l, el0_r, el1_l, el1_r, el2_l, el2_r, ↓reduceIte, not_true_eq_false, not_false_eq_true, reduceCtorEq, and_true, true_and, and_false, false_and, or_true, true_or, or_false, false_or, and_self, or_self, ite_true, ite_false, Int.cast_ofNat_Int, Nat.reduceEqDiff, Nat.reduceLT, Int.reduceAdd, Int.reduceSub, Int.reduceMul, Int.reduceNeg, Int.reduceLT, Int.reduceLE, Int.reduceEq, ilt_t, ilt_f, ile_t, ile_f, ieq_t, ieq_f, z_0, z_1, z_2, z_3, z_4, z_5, z_6, z_7, z_8, z_9, z_10, z_12, z_20, z_40, z_80, z_81, z_99, z_100, z_200, z_400, z_3240, z_20000, z_100000, iz_add, iz_sub, iz_mul, iz_neg, iz_nat, iz_lt, iz_le, iz_eq, iz_div, iz_ite, iz_c, md10, md100, izcb_0, izcb_1, isOut_0, isNoCell_0, isGr_0, within_e, isCell_e, np_p, VV_r, VV_n, V_k, ra_48 hN, e]
          · rw [cb_f c1, cb_f (fun z => z.elim c1 (fun z => c3 z.2))]
            simp (disch := omega) only [lt__e, bnd_e, bnd2_e, bnd3_e, el0_l, el0_r, el1_l, el1_r, el2_l, el2_r, ↓reduceIte, not_true_eq_false, not_false_eq_true, reduceCtorEq, and_true, true_and, and_false, false_and, or_true, true_or, or_false, false_or, and_self, or_self, ite_true, ite_false, Int.cast_ofNat_Int, Nat.reduceEqDiff, Nat.reduceLT, Int.reduceAdd, Int.reduceSub, Int.reduceMul, Int.reduceNeg, Int.reduceLT, Int.reduceLE, Int.reduceEq, ilt_t, ilt_f, ile_t, ile_f, ieq_t, ieq_f, z_0, z_1, z_2, z_3, z_4, z_5, z_6, z_7, z_8, z_9, z_10, z_12, z_20, z_40, z_80, z_81, z_99, z_100, z_200, z_400, z_3240, z_20000, z_100000, iz_add, iz_sub, iz_mul, iz_neg, iz_nat, iz_lt, iz_le, iz_eq, iz_div, iz_ite, iz_c, md10, md100, izcb_0, izcb_1, isOut_0, isNoCell_0, isGr_0, within_e, isCell_e, np_p, VV_r, VV_n, V_k, ra_48 hN, e]
        · rw [cb_f c1, cb_f (fun z => z.elim c1 (fun z => c2 z.1))]
          simp (disch := omega) only [lt__e, bnd_e, bnd2_e, bnd3_e, el0_l, el0_r, el1_l, el1_r, el2_l, el2_r, ↓reduceIte, not_true_eq_false, not_false_eq_true, reduceCtorEq, and_true, true_and, and_false, false_and, or_true, true_or, or_false, false_or, and_self, or_self, ite_true, ite_false, Int.cast_ofNat_Int, Nat.reduceEqDiff, Nat.reduceLT, Int.reduceAdd, Int.reduceSub, Int.reduceMul, Int.reduceNeg, Int.reduceLT, Int.reduceLE, Int.reduceEq, ilt_t, ilt_f, ile_t, ile_f, ieq_t, ieq_f, z_0, z_1, z_2, z_3, z_4, z_5, z_6, z_7, z_8, z_9, z_10, z_12, z_20, z_40, z_80, z_81, z_99, z_100, z_200, z_400, z_3240, z_20000, z_100000, iz_add, iz_sub, iz_mul, iz_neg, iz_nat, iz_lt, iz_le, iz_eq, iz_div, iz_ite, iz_c, md10, md100, izcb_0, izcb_1, isOut_0, isNoCell_0, isGr_0, within_e, isCell_e, np_p]
    · intro n' q
      dsimp only [l_Mo_isNear_102, b_Mo_isNear_102]
      simp (disch := omega) only [lt__e, bnd_e, bnd2_e, bnd3_e, el0_l, el0_r, el1_l, el1_r, el2_l, el2_r, ↓reduceIte, not_true_eq_false, not_false_eq_true, reduceCtorEq, and_true, true_and, and_false, false_and, or_true, true_or, or_false, false_or, and_self, or_self, ite_true, ite_false, Int.cast_ofNat_Int, Nat.reduceEqDiff, Nat.reduceLT, Int.reduceAdd, Int.reduceSub, Int.reduceMul, Int.reduceNeg, Int.reduceLT, Int.reduceLE, Int.reduceEq, ilt_t, ilt_f, ile_t, ile_f, ieq_t, ieq_f, z_0, z_1, z_2, z_3, z_4, z_5, z_6, z_7, z_8, z_9, z_10, z_12, z_20, z_40, z_80, z_81, z_99, z_100, z_200, z_400, z_3240, z_20000, z_100000, iz_add, iz_sub, iz_mul, iz_neg, iz_nat, iz_lt, iz_le, iz_eq, iz_div, iz_ite, iz_c, md10, md100, izcb_0, izcb_1, isOut_0, isNoCell_0, isGr_0, within_e, isCell_e, np_p]
  have i75 : l_Mo_isNear_75 20 (iz p) (some (kk 48 (N : Int))) (VV s (clr r (kk 48 (N : Int))) (sn n 48)) 4096 (iz 0) (iz 1) = some (iz (cb (nrp b p x g (b 0 10 0)))) := by
    have key := lpA2 (L := fun n' t zz => l_Mo_isNear_75 20 (iz p) (some (kk 48 (N : Int))) (VV s (clr r (kk 48 (N : Int))) (sn n 48)) n' (iz zz) (iz t)) (lo := 1) (hi := 11) (p := fun t => ∃ k, t - 1 ≤ k ∧ k < t + 2 ∧ (100 ≤ PL b p (b 0 10 0 + t) ∧ PL b p (b 0 10 0 + t) = ps x g k.toNat)) False ?_ ?_ 4096 (by omega) (by omega)
    · rw [cb_or0, cb_f id] at key
      exact key
    · intro n' t q t1 t2
      have hwh := m_whereAt (a := s) h' hp.1 hp.2 hw hMs (t := b 0 10 0 + t) (by omega) (by omega)
      dsimp only [l_Mo_isNear_75, b_Mo_isNear_75]
      simp (disch := omega) only [lt__e, bnd_e, bnd2_e, bnd3_e, el0_l, el0_r, el1_l, el1_r, el2_l, el2_r, ↓reduceIte, not_true_eq_false, not_false_eq_true, reduceCtorEq, and_true, true_and, and_false, false_and, or_true, true_or, or_false, false_or, and_self, or_self, ite_true, ite_false, Int.cast_ofNat_Int, Nat.reduceEqDiff, Nat.reduceLT, Int.reduceAdd, Int.reduceSub, Int.reduceMul, Int.reduceNeg, Int.reduceLT, Int.reduceLE, Int.reduceEq, ilt_t, ilt_f, ile_t, ile_f, ieq_t, ieq_f, z_0, z_1, z_2, z_3, z_4, z_5, z_6, z_7, z_8, z_9, z_10, z_12, z_20, z_40, z_80, z_81, z_99, z_100, z_200, z_400, z_3240, z_20000, z_100000, iz_add, iz_sub, iz_mul, iz_neg, iz_nat, iz_lt, iz_le, iz_eq, iz_div, iz_ite, iz_c, md10, md100, izcb_0, izcb_1, isOut_0, isNoCell_0, isGr_0, within_e, isCell_e, np_p, z_11, V_20, s1, hwh, i102 t t1 t2]
    · intro n' q
      dsimp only [l_Mo_isNear_75, b_Mo_isNear_75]
      simp (disch := omega) only [lt__e, bnd_e, bnd2_e, bnd3_e, el0_l, el0_r, el1_l, el1_r, el2_l, el2_r, ↓reduceIte, not_true_eq_false, not_false_eq_true, reduceCtorEq, and_true, true_and, and_false, false_and, or_true, true_or, or_false, false_or, and_self, or_self, ite_true, ite_false, Int.cast_ofNat_Int, Nat.reduceEqDiff, Nat.reduceLT, Int.reduceAdd, Int.reduceSub, Int.reduceMul, Int.reduceNeg, Int.reduceLT, Int.reduceLE, Int.reduceEq, ilt_t, ilt_f, ile_t, ile_f, ieq_t, ieq_f, z_0, z_1, z_2, z_3, z_4, z_5, z_6, z_7, z_8, z_9, z_10, z_12, z_20, z_40, z_80, z_81, z_99, z_100, z_200, z_400, z_3240, z_20000, z_100000, iz_add, iz_sub, iz_mul, iz_neg, iz_nat, iz_lt, iz_le, iz_eq, iz_div, iz_ite, iz_c, md10, md100, izcb_0, izcb_1, isOut_0, isNoCell_0, isGr_0, within_e, isCell_e, np_p, z_11]
  refine ⟨s, ?_, k1⟩
  unfold f_Mo_isNear
  have x28 : zr c 48 (N : Int) 28 j 0 = x := by rw [zr_t (by omega)]; exact h28
  simp (disch := omega) only [lt__e, bnd_e, bnd2_e, bnd3_e, el0_l, el0_r, el1_l, el1_r, el2_l, el2_r, ↓reduceIte, not_true_eq_false, not_false_eq_true, reduceCtorEq, and_true, true_and, and_false, false_and, or_true, true_or, or_false, false_or, and_self, or_self, ite_true, ite_false, Int.cast_ofNat_Int, Nat.reduceEqDiff, Nat.reduceLT, Int.reduceAdd, Int.reduceSub, Int.reduceMul, Int.reduceNeg, Int.reduceLT, Int.reduceLE, Int.reduceEq, ilt_t, ilt_f, ile_t, ile_f, ieq_t, ieq_f, z_0, z_1, z_2, z_3, z_4, z_5, z_6, z_7, z_8, z_9, z_10, z_12, z_20, z_40, z_80, z_81, z_99, z_100, z_200, z_400, z_3240, z_20000, z_100000, iz_add, iz_sub, iz_mul, iz_neg, iz_nat, iz_lt, iz_le, iz_eq, iz_div, iz_ite, iz_c, md10, md100, izcb_0, izcb_1, isOut_0, isNoCell_0, isGr_0, within_e, isCell_e, np_p, VV_r, VV_n, V_k, W_k, e1, e2, hr, h.r20_11, ra_28 h', V_28, x28, ra_48 hN, hv, i75, gd_T]
  try rw [gd_e (by first | trivial | exact (Classical.em _).symm)]
theorem m_alerts (h : Sh r n nr nm np) (hI : CI b nr nm np) (hM : MR c b nr nm np) :
    ∃ c' r' n', f_Mo_alerts 20 (VV c r n) = some (bts (alr b nr nm) nm.toNat, VV c' r' n') ∧ (∀ t, t ≠ 48 → c' t = up c 20 0 0 0 t) ∧ Sh r' n' nr nm np := by
  obtain ⟨⟨⟨hnr, hnm, hnp⟩, hnow, hns⟩, hC, hD, hR, hMa, hP, hL⟩ := hI
  obtain ⟨hMC, hMRm, hMP, hMS⟩ := hM
  obtain ⟨s1, s7, s15, s17, s24, s26, s27, s28, s32⟩ := hMS
  have hb := h.b
  have ev : ∀ (s : AT), (∀ t, t ≠ 48 → s t = up c 20 0 0 0 t) → (∀ t, t ≠ 48 → t ≠ 20 → s t = c t) ∧ s 20 1 0 = b 0 10 0 ∧ s 20 7 0 = nm ∧ s 20 24 0 = nr := fun s hs =>
    ⟨fun t t1 t2 => by rw [hs t t1, up_t t2], by rw [hs 20 (by omega), up_s, if_neg (by omega)]; exact s1, by rw [hs 20 (by omega), up_s, if_neg (by omega)]; exact s7, by rw [hs 20 (by omega), up_s, if_neg (by omega)]; exact s24⟩
  generalize hn0 : n 48 = n0
  -- one machine against those that are lost
  have i22 : ∀ (i : Int), 0 ≤ i → i < nm → ∀ (s : AT) (r' : Nat → Nat → Option Nat) (n' : Nat → Nat), (∀ t, t ≠ 48 → s t = up c 20 0 0 0 t) → Sh r' n' nr nm np → n0 ≤ n' 48 → ((n' 48 : Nat) : Int) ≤ n0 + 10 * i →
      ∃ s' r'' n'', l_Mo_alerts_22 20 n0 (bts (alr b nr nm) i.toNat) (iz i) 4096 (iz 0) (iz 0) (VV s r' n') = some (iz (cb (b 11 4 i = 1 ∧ ∃ j, 0 ≤ j ∧ j < nm ∧ b 11 4 j = 2 ∧ nrp b (b 11 5 i) (b 11 3 j) (b 11 6 j) (b 0 10 0))), VV s' r'' n'') ∧ (∀ t, t ≠ 48 → s' t = up c 20 0 0 0 t) ∧ Sh r'' n'' nr nm np ∧ n0 ≤ n'' 48 ∧ ((n'' 48 : Nat) : Int) ≤ n0 + 10 * (i + 1) := by
    intro i i1 i2 s r' n' hs hS g1 g2
    obtain ⟨w0, w1, w2, w3, w4, w5, w6⟩ := hMa i i1 i2
    obtain ⟨k0, k1, k2, k3, k4, k5, k6⟩ := hMP.1.1 i i1 i2
    have key := lpQ (L := fun m j (u : Int × AT × (Nat → Nat → Option Nat) × (Nat → Nat)) => l_Mo_alerts_22 20 n0 (bts (alr b nr nm) i.toNat) (iz i) m (iz u.1) (iz j) (VV u.2.1 u.2.2.1 u.2.2.2)) (hi := nm)
      (Q := fun j u => 0 ≤ j ∧ u.1 = cb (b 11 4 i = 1 ∧ ∃ k, 0 ≤ k ∧ k < j ∧ b 11 4 k = 2 ∧ nrp b (b 11 5 i) (b 11 3 k) (b 11 6 k) (b 0 10 0)) ∧ (∀ t, t ≠ 48 → u.2.1 t = up c 20 0 0 0 t) ∧ Sh u.2.2.1 u.2.2.2 nr nm np ∧ n0 ≤ u.2.2.2 48 ∧ ((u.2.2.2 48 : Nat) : Int) ≤ n0 + 10 * i + j)
      (R := fun v => ∃ s' r'' n'', v = (iz (cb (b 11 4 i = 1 ∧ ∃ j, 0 ≤ j ∧ j < nm ∧ b 11 4 j = 2 ∧ nrp b (b 11 5 i) (b 11 3 j) (b 11 6 j) (b 0 10 0))), VV s' r'' n'') ∧ (∀ t, t ≠ 48 → s' t = up c 20 0 0 0 t) ∧ Sh r'' n'' nr nm np ∧ n0 ≤ n'' 48 ∧ ((n'' 48 : Nat) : Int) ≤ n0 + 10 * (i + 1)) ?_ ?_ 4096 0 (0, s, r', n') hb.2.1.1 (by omega) ⟨by omega, (cb_f (by rintro ⟨-, k, z1, z2, -⟩; omega)).symm, hs, hS, g1, by dsimp only; omega⟩
    · obtain ⟨v, hv, s', r'', n'', rfl, z⟩ := key
      exact ⟨s', r'', n'', hv, z⟩
    · rintro m j ⟨f, u, ru, nu⟩ h3 ⟨h4, h5, h6, h7, h8, h9⟩
      dsimp only at h5 h6 h7 h8 h9 ⊢
      left
      obtain ⟨y1, y2, y3, y4⟩ := ev u h6
      obtain ⟨v0, v1, v2, v3, v4, v5, v6⟩ := hMa j h4 h3
      obtain ⟨m0, m1, m2, m3, m4, m5, m6⟩ := hMP.1.1 j h4 h3
      have y29 := y1 29 (by omega) (by omega)
      have y30 := y1 30 (by omega) (by omega)
      have same : ∀ (hq : ¬ (b 11 4 j = 2 ∧ nrp b (b 11 5 i) (b 11 3 j) (b 11 6 j) (b 0 10 0))), cb (b 11 4 i = 1 ∧ ∃ k, 0 ≤ k ∧ k < j + 1 ∧ b 11 4 k = 2 ∧ nrp b (b 11 5 i) (b 11 3 k) (b 11 6 k) (b 0 10 0)) = cb (b 11 4 i = 1 ∧ ∃ k, 0 ≤ k ∧ k < j ∧ b 11 4 k = 2 ∧ nrp b (b 11 5 i) (b 11 3 k) (b 11 6 k) (b 0 10 0)) := fun hq => cb_c ⟨fun ⟨z1, k, z2, z3, z4, z5⟩ => ⟨z1, k, z2, (by
          by_cases e : k = j
          · subst e; exact absurd ⟨z4, z5⟩ hq
          · omega), z4, z5⟩, fun ⟨z1, k, z2, z3, z4⟩ => ⟨z1, k, z2, by omega, z4⟩⟩
      by_cases c0 : b 11 4 i = 1 ∧ ∃ k, 0 ≤ k ∧ k < j ∧ b 11 4 k = 2 ∧ nrp b (b 11 5 i) (b 11 3 k) (b 11 6 k) (b 0 10 0)
      · rw [cb_t c0] at h5
        obtain ⟨z1, k, z2, z3, z4⟩ := c0
        refine ⟨(1, u, ru, nu), ⟨by omega, (cb_t ⟨z1, k, z2, by omega, z4⟩).symm, h6, h7, h8, by dsimp only; omega⟩, ?_⟩
        dsimp only [l_Mo_alerts_22, b_Mo_alerts_22]
        rw [h5]
        simp (disch := omega) only [lt__e, bnd_e, bnd2_e, bnd3_e, el0_l, el0_r, el1_l, el1_r, el2_l, el2_r, ↓reduceIte, not_true_eq_false, not_false_eq_true, reduceCtorEq, and_true, true_and, and_false, false_and, or_true, true_or, or_false, false_or, and_self, or_self, ite_true, ite_false, Int.cast_ofNat_Int, Nat.reduceEqDiff, Nat.reduceLT, Int.reduceAdd, Int.reduceSub, Int.reduceMul, Int.reduceNeg, Int.reduceLT, Int.reduceLE, Int.reduceEq, ilt_t, ilt_f, ile_t, ile_f, ieq_t, ieq_f, z_0, z_1, z_2, z_3, z_4, z_5, z_6, z_7, z_8, z_9, z_10, z_12, z_20, z_40, z_80, z_81, z_99, z_100, z_200, z_400, z_3240, z_20000, z_100000, iz_add, iz_sub, iz_mul, iz_neg, iz_nat, iz_lt, iz_le, iz_eq, iz_div, iz_ite, iz_c, md10, md100, izcb_0, izcb_1, isOut_0, isNoCell_0, isGr_0, within_e, isCell_e, np_p, V_20, y3]
      · rw [cb_f c0] at h5
        by_cases c1 : b 11 4 i = 1
        · have l := (hL.1 i i1 i2).2.1 c1
          by_cases c2 : b 11 4 j = 2
          · have l2 := (hL.1 j h4 h3).2.2.1 c2
            have hw := (hP _ l.2.1 w5.2).1
            have hMa' : MPa u b (b 11 5 i) := by
              have x := (hMP.2.1 (b 11 5 i) l.2.1 w5.2).1
              unfold MPa at x ⊢
              rw [y1 34 (by omega) (by omega), y1 35 (by omega) (by omega), y1 38 (by omega) (by omega)]; exact x
            obtain ⟨u', o1, o2⟩ := m_isNear (c := u) (b := b) h7 (p := b 11 5 i) (j := j) ⟨l.2.1, by omega⟩ hw hMa' ⟨h4, by omega⟩ (x := b 11 3 j) (g := b 11 6 j) (by rw [y1 28 (by omega) (by omega)]; exact m3) (by rw [y1 31 (by omega) (by omega)]; exact m6 c2) v3 ⟨l2.2.2.2, v6.2⟩ y2 hnow
            have h7' := Sh_48 h7 (nu 48)
            have e48 : sn nu 48 48 = nu 48 + 1 := sn_s 48
            have hg1 : n0 ≤ nu 48 ∧ nu 48 + 1 ≤ n0 + 100 := by omega
            by_cases c3 : nrp b (b 11 5 i) (b 11 3 j) (b 11 6 j) (b 0 10 0)
            · rw [cb_t c3] at o1
              refine ⟨(1, u', clr ru (kk 48 (nu 48 : Int)), sn nu 48), ⟨by omega, (cb_t ⟨c1, j, h4, by omega, c2, c3⟩).symm, fun t t1 => (o2 t t1).trans (h6 t t1), h7', by dsimp only; rw [e48]; omega, by dsimp only; rw [e48]; omega⟩, ?_⟩
              dsimp only [l_Mo_alerts_22, b_Mo_alerts_22]
              rw [h5]
              simp (disch := omega) only [lt__e, bnd_e, bnd2_e, bnd3_e, el0_l, el0_r, el1_l, el1_r, el2_l, el2_r, ↓reduceIte, not_true_eq_false, not_false_eq_true, reduceCtorEq, and_true, true_and, and_false, false_and, or_true, true_or, or_false, false_or, and_self, or_self, ite_true, ite_false, Int.cast_ofNat_Int, Nat.reduceEqDiff, Nat.reduceLT, Int.reduceAdd, Int.reduceSub, Int.reduceMul, Int.reduceNeg, Int.reduceLT, Int.reduceLE, Int.reduceEq, ilt_t, ilt_f, ile_t, ile_f, ieq_t, ieq_f, z_0, z_1, z_2, z_3, z_4, z_5, z_6, z_7, z_8, z_9, z_10, z_12, z_20, z_40, z_80, z_81, z_99, z_100, z_200, z_400, z_3240, z_20000, z_100000, iz_add, iz_sub, iz_mul, iz_neg, iz_nat, iz_lt, iz_le, iz_eq, iz_div, iz_ite, iz_c, md10, md100, izcb_0, izcb_1, isOut_0, isNoCell_0, isGr_0, within_e, isCell_e, np_p, VV_r, VV_n, V_20, W_20, V_21, W_21, V_22, W_22, V_23, W_23, V_24, W_24, V_25, W_25, V_26, W_26, V_27, W_27, V_28, W_28, V_29, W_29, V_30, W_30, V_31, W_31, V_32, W_32, V_33, W_33, V_34, W_34, V_35, W_35, V_36, W_36, V_37, W_37, V_38, W_38, V_39, W_39, h7.r20_12, h7.r20_13, ra_29 h7, ra_30 h7, y3, y29, y30, k4, k5, m4, c1, c2, gd_e hg1, o1, e48, gd_T]
            · rw [cb_f c3] at o1
              refine ⟨(0, u', clr ru (kk 48 (nu 48 : Int)), sn nu 48), ⟨by omega, ?_, fun t t1 => (o2 t t1).trans (h6 t t1), h7', by dsimp only; rw [e48]; omega, by dsimp only; rw [e48]; omega⟩, ?_⟩
              · rw [same (fun z => c3 z.2), cb_f c0]
              · dsimp only [l_Mo_alerts_22, b_Mo_alerts_22]
                rw [h5]
                simp (disch := omega) only [lt__e, bnd_e, bnd2_e, bnd3_e, el0_l, el0_r, el1_l, el1_r, el2_l, el2_r, ↓reduceIte, not_true_eq_false, not_false_eq_true, reduceCtorEq, and_true, true_and, and_false, false_and, or_true, true_or, or_false, false_or, and_self, or_self, ite_true, ite_false, Int.cast_ofNat_Int, Nat.reduceEqDiff, Nat.reduceLT, Int.reduceAdd, Int.reduceSub, Int.reduceMul, Int.reduceNeg, Int.reduceLT, Int.reduceLE, Int.reduceEq, ilt_t, ilt_f, ile_t, ile_f, ieq_t, ieq_f, z_0, z_1, z_2, z_3, z_4, z_5, z_6, z_7, z_8, z_9, z_10, z_12, z_20, z_40, z_80, z_81, z_99, z_100, z_200, z_400, z_3240, z_20000, z_100000, iz_add, iz_sub, iz_mul, iz_neg, iz_nat, iz_lt, iz_le, iz_eq, iz_div, iz_ite, iz_c, md10, md100, izcb_0, izcb_1, isOut_0, isNoCell_0, isGr_0, within_e, isCell_e, np_p, VV_r, VV_n, V_20, W_20, V_21, W_21, V_22, W_22, V_23, W_23, V_24, W_24, V_25, W_25, V_26, W_26, V_27, W_27, V_28, W_28, V_29, W_29, V_30, W_30, V_31, W_31, V_32, W_32, V_33, W_33, V_34, W_34, V_35, W_35, V_36, W_36, V_37, W_37, V_38, W_38, V_39, W_39, h7.r20_12, h7.r20_13, ra_29 h7, ra_30 h7, y3, y29, y30, k4, k5, m4, c1, c2, gd_e hg1, o1, e48, gd_T]
          · refine ⟨(0, u, ru, nu), ⟨by omega, ?_, h6, h7, h8, by dsimp only; omega⟩, ?_⟩
            · rw [same (fun z => c2 z.1), cb_f c0]
            · dsimp only [l_Mo_alerts_22, b_Mo_alerts_22]
              rw [h5]
              simp (disch := omega) only [lt__e, bnd_e, bnd2_e, bnd3_e, el0_l, el0_r, el1_l, el1_r, el2_l, el2_r, ↓reduceIte, not_true_eq_false, not_false_eq_true, reduceCtorEq, and_true, true_and, and_false, false_and, or_true, true_or, or_false, false_or, and_self, or_self, ite_true, ite_false, Int.cast_ofNat_Int, Nat.reduceEqDiff, Nat.reduceLT, Int.reduceAdd, Int.reduceSub, Int.reduceMul, Int.reduceNeg, Int.reduceLT, Int.reduceLE, Int.reduceEq, ilt_t, ilt_f, ile_t, ile_f, ieq_t, ieq_f, z_0, z_1, z_2, z_3, z_4, z_5, z_6, z_7, z_8, z_9, z_10, z_12, z_20, z_40, z_80, z_81, z_99, z_100, z_200, z_400, z_3240, z_20000, z_100000, iz_add, iz_sub, iz_mul, iz_neg, iz_nat, iz_lt, iz_le, iz_eq, iz_div, iz_ite, iz_c, md10, md100, izcb_0, izcb_1, isOut_0, isNoCell_0, isGr_0, within_e, isCell_e, np_p, VV_r, VV_n, V_20, W_20, V_21, W_21, V_22, W_22, V_23, W_23, V_24, W_24, V_25, W_25, V_26, W_26, V_27, W_27, V_28, W_28, V_29, W_29, V_30, W_30, V_31, W_31, V_32, W_32, V_33, W_33, V_34, W_34, V_35, W_35, V_36, W_36, V_37, W_37, V_38, W_38, V_39, W_39, h7.r20_12, h7.r20_13, ra_29 h7, ra_30 h7, y3, y29, y30, k4, k5, m4, c1, c2]
        · refine ⟨(0, u, ru, nu), ⟨by omega, (cb_f (fun z => c1 z.1)).symm, h6, h7, h8, by dsimp only; omega⟩, ?_⟩
          dsimp only [l_Mo_alerts_22, b_Mo_alerts_22]
          rw [h5]
          simp (disch := omega) only [lt__e, bnd_e, bnd2_e, bnd3_e, el0_l, el0_r, el1_l, el1_r, el2_l, el2_r, ↓reduceIte, not_true_eq_false, not_false_eq_true, reduceCtorEq, and_true, true_and, and_false, false_and, or_true, true_or, or_false, false_or, and_self, or_self, ite_true, ite_false, Int.cast_ofNat_Int, Nat.reduceEqDiff, Nat.reduceLT, Int.reduceAdd, Int.reduceSub, Int.reduceMul, Int.reduceNeg, Int.reduceLT, Int.reduceLE, Int.reduceEq, ilt_t, ilt_f, ile_t, ile_f, ieq_t, ieq_f, z_0, z_1, z_2, z_3, z_4, z_5, z_6, z_7, z_8, z_9, z_10, z_12, z_20, z_40, z_80, z_81, z_99, z_100, z_200, z_400, z_3240, z_20000, z_100000, iz_add, iz_sub, iz_mul, iz_neg, iz_nat, iz_lt, iz_le, iz_eq, iz_div, iz_ite, iz_c, md10, md100, izcb_0, izcb_1, isOut_0, isNoCell_0, isGr_0, within_e, isCell_e, np_p, VV_r, VV_n, V_20, W_20, V_21, W_21, V_22, W_22, V_23, W_23, V_24, W_24, V_25, W_25, V_26, W_26, V_27, W_27, V_28, W_28, V_29, W_29, V_30, W_30, V_31, W_31, V_32, W_32, V_33, W_33, V_34, W_34, V_35, W_35, V_36, W_36, V_37, W_37, V_38, W_38, V_39, W_39, h7.r20_12, h7.r20_13, ra_29 h7, ra_30 h7, y3, y29, y30, k4, k5, c1]
    · rintro m ⟨f, u, ru, nu⟩ ⟨h4, h5, h6, h7, h8, h9⟩
      dsimp only at h5 h6 h7 h8 h9 ⊢
      obtain ⟨y1, y2, y3, y4⟩ := ev u h6
      refine ⟨_, ?_, u, ru, nu, rfl, h6, h7, h8, by omega⟩
      dsimp only [l_Mo_alerts_22, b_Mo_alerts_22]
      rw [h5]
      simp (disch := omega) only [lt__e, bnd_e, bnd2_e, bnd3_e, el0_l, el0_r, el1_l, el1_r, el2_l, el2_r, ↓reduceIte, not_true_eq_false, not_false_eq_true, reduceCtorEq, and_true, true_and, and_false, false_and, or_true, true_or, or_false, false_or, and_self, or_self, ite_true, ite_false, Int.cast_ofNat_Int, Nat.reduceEqDiff, Nat.reduceLT, Int.reduceAdd, Int.reduceSub, Int.reduceMul, Int.reduceNeg, Int.reduceLT, Int.reduceLE, Int.reduceEq, ilt_t, ilt_f, ile_t, ile_f, ieq_t, ieq_f, z_0, z_1, z_2, z_3, z_4, z_5, z_6, z_7, z_8, z_9, z_10, z_12, z_20, z_40, z_80, z_81, z_99, z_100, z_200, z_400, z_3240, z_20000, z_100000, iz_add, iz_sub, iz_mul, iz_neg, iz_nat, iz_lt, iz_le, iz_eq, iz_div, iz_ite, iz_c, md10, md100, izcb_0, izcb_1, isOut_0, isNoCell_0, isGr_0, within_e, isCell_e, np_p, V_20, y3]
  -- one machine against the rooms
  have i86 : ∀ (i : Int), 0 ≤ i → i < nm → ∀ (w : Int32) (s : AT) (r' : Nat → Nat → Option Nat) (n' : Nat → Nat), (∀ t, t ≠ 48 → s t = up c 20 0 0 0 t) → Sh r' n' nr nm np → n0 ≤ n' 48 → ((n' 48 : Nat) : Int) ≤ n0 + 10 * (i + 1) → ∀ q : Prop,
      l_Mo_alerts_86 20 n0 w (iz i) (VV s r' n') 4096 (iz (cb q)) (iz 0) = some (iz (cb (q ∨ ∃ k, 0 ≤ k ∧ k < 10 * nr ∧ (b 11 4 i = 1 ∧ closed b (k / 10) (PL b (b 11 5 i) (b 0 10 0 + 1 + k % 10)) (b 0 10 0 + 1 + k % 10))))) := by
    intro i i1 i2 w s r' n' hs hS g1 g2 q
    obtain ⟨w0, w1, w2, w3, w4, w5, w6⟩ := hMa i i1 i2
    obtain ⟨k0, k1, k2, k3, k4, k5, k6⟩ := hMP.1.1 i i1 i2
    obtain ⟨y1, y2, y3, y4⟩ := ev s hs
    have y29 := y1 29 (by omega) (by omega)
    have y30 := y1 30 (by omega) (by omega)
    have hg1 : n0 ≤ n' 48 ∧ n' 48 + 0 ≤ n0 + 100 := by omega
    have hRM : MRm s b nr := by
      unfold MRm at hMRm ⊢
      rw [y1 39 (by omega) (by omega)]; exact hMRm
    refine lpA2 (L := fun m k z => l_Mo_alerts_86 20 n0 w (iz i) (VV s r' n') m (iz z) (iz k)) (lo := 0) (hi := 10 * nr) (p := fun k => b 11 4 i = 1 ∧ closed b (k / 10) (PL b (b 11 5 i) (b 0 10 0 + 1 + k % 10)) (b 0 10 0 + 1 + k % 10)) q ?_ ?_ 4096 (by omega) (by omega)
    · intro m k q h3 h4
      dsimp only [l_Mo_alerts_86, b_Mo_alerts_86, j_Mo_alerts_134]
      by_cases c1 : b 11 4 i = 1
      · have l := (hL.1 i i1 i2).2.1 c1
        have hw := (hP _ l.2.1 w5.2).1
        have hMa' : MPa s b (b 11 5 i) := by
          have x := (hMP.2.1 (b 11 5 i) l.2.1 w5.2).1
          unfold MPa at x ⊢
          rw [y1 34 (by omega) (by omega), y1 35 (by omega) (by omega), y1 38 (by omega) (by omega)]; exact x
        have hwh := m_whereAt (a := s) hS l.2.1 (by omega : b 11 5 i < 40) hw hMa' (t := b 0 10 0 + 1 + k % 10) (by omega) (by omega)
        have bp := PL_b hw (b 0 10 0 + 1 + k % 10)
        by_cases c0 : q
        · rw [cb_t c0, cb_t (Or.inl c0)]
          simp (disch := omega) only [lt__e, bnd_e, bnd2_e, bnd3_e, el0_l, el0_r, el1_l, el1_r, el2_l, el2_r, ↓reduceIte, not_true_eq_false, not_false_eq_true, reduceCtorEq, and_true, true_and, and_false, false_and, or_true, true_or, or_false, false_or, and_self, or_self, ite_true, ite_false, Int.cast_ofNat_Int, Nat.reduceEqDiff, Nat.reduceLT, Int.reduceAdd, Int.reduceSub, Int.reduceMul, Int.reduceNeg, Int.reduceLT, Int.reduceLE, Int.reduceEq, ilt_t, ilt_f, ile_t, ile_f, ieq_t, ieq_f, z_0, z_1, z_2, z_3, z_4, z_5, z_6, z_7, z_8, z_9, z_10, z_12, z_20, z_40, z_80, z_81, z_99, z_100, z_200, z_400, z_3240, z_20000, z_100000, iz_add, iz_sub, iz_mul, iz_neg, iz_nat, iz_lt, iz_le, iz_eq, iz_div, iz_ite, iz_c, md10, md100, izcb_0, izcb_1, isOut_0, isNoCell_0, isGr_0, within_e, isCell_e, np_p, VV_r, VV_n, V_20, W_20, V_21, W_21, V_22, W_22, V_23, W_23, V_24, W_24, V_25, W_25, V_26, W_26, V_27, W_27, V_28, W_28, V_29, W_29, V_30, W_30, V_31, W_31, V_32, W_32, V_33, W_33, V_34, W_34, V_35, W_35, V_36, W_36, V_37, W_37, V_38, W_38, V_39, W_39, hS.r20_12, hS.r20_13, ra_29 hS, ra_30 hS, y2, y4, y29, y30, k4, k5, c1, gd_e hg1, hwh]
        · by_cases c2 : PL b (b 11 5 i) (b 0 10 0 + 1 + k % 10) = -1
          · rw [cb_f c0, cb_f (fun z => z.elim c0 (fun z => by have := z.2.2.1; omega))]
            simp (disch := omega) only [lt__e, bnd_e, bnd2_e, bnd3_e, el0_l, el0_r, el1_l, el1_r, el2_l, el2_r, ↓reduceIte, not_true_eq_false, not_false_eq_true, reduceCtorEq, and_true, true_and, and_false, false_and, or_true, true_or, or_false, false_or, and_self, or_self, ite_true, ite_false, Int.cast_ofNat_Int, Nat.reduceEqDiff, Nat.reduceLT, Int.reduceAdd, Int.reduceSub, Int.reduceMul, Int.reduceNeg, Int.reduceLT, Int.reduceLE, Int.reduceEq, ilt_t, ilt_f, ile_t, ile_f, ieq_t, ieq_f, z_0, z_1, z_2, z_3, z_4, z_5, z_6, z_7, z_8, z_9, z_10, z_12, z_20, z_40, z_80, z_81, z_99, z_100, z_200, z_400, z_3240, z_20000, z_100000, iz_add, iz_sub, iz_mul, iz_neg, iz_nat, iz_lt, iz_le, iz_eq, iz_div, iz_ite, iz_c, md10, md100, izcb_0, izcb_1, isOut_0, isNoCell_0, isGr_0, within_e, isCell_e, np_p, VV_r, VV_n, V_20, W_20, V_21, W_21, V_22, W_22, V_23, W_23, V_24, W_24, V_25, W_25, V_26, W_26, V_27, W_27, V_28, W_28, V_29, W_29, V_30, W_30, V_31, W_31, V_32, W_32, V_33, W_33, V_34, W_34, V_35, W_35, V_36, W_36, V_37, W_37, V_38, W_38, V_39, W_39, hS.r20_12, hS.r20_13, ra_29 hS, ra_30 hS, y2, y4, y29, y30, k4, k5, c1, gd_e hg1, hwh, c2]
          · have hc := m_isIn (a := s) hS hR hRM (i := k / 10) (pl := PL b (b 11 5 i) (b 0 10 0 + 1 + k % 10)) (t := b 0 10 0 + 1 + k % 10) (by omega) (by omega) (by omega) (by omega) (by omega) (by omega)
            by_cases c3 : closed b (k / 10) (PL b (b 11 5 i) (b 0 10 0 + 1 + k % 10)) (b 0 10 0 + 1 + k % 10)
            · rw [cb_f c0, cb_t (Or.inr ⟨c1, c3⟩)]
              rw [cb_t c3] at hc
              simp (disch := omega) only [lt__e, bnd_e, bnd2_e, bnd3_e, el0_l, el0_r, el1_l, el1_r, el2_l, el2_r, ↓reduceIte, not_true_eq_false, not_false_eq_true, reduceCtorEq, and_true, true_and, and_false, false_and, or_true, true_or, or_false, false_or, and_self, or_self, ite_true, ite_false, Int.cast_ofNat_Int, Nat.reduceEqDiff, Nat.reduceLT, Int.reduceAdd, Int.reduceSub, Int.reduceMul, Int.reduceNeg, Int.reduceLT, Int.reduceLE, Int.reduceEq, ilt_t, ilt_f, ile_t, ile_f, ieq_t, ieq_f, z_0, z_1, z_2, z_3, z_4, z_5, z_6, z_7, z_8, z_9, z_10, z_12, z_20, z_40, z_80, z_81, z_99, z_100, z_200, z_400, z_3240, z_20000, z_100000, iz_add, iz_sub, iz_mul, iz_neg, iz_nat, iz_lt, iz_le, iz_eq, iz_div, iz_ite, iz_c, md10, md100, izcb_0, izcb_1, isOut_0, isNoCell_0, isGr_0, within_e, isCell_e, np_p, VV_r, VV_n, V_20, W_20, V_21, W_21, V_22, W_22, V_23, W_23, V_24, W_24, V_25, W_25, V_26, W_26, V_27, W_27, V_28, W_28, V_29, W_29, V_30, W_30, V_31, W_31, V_32, W_32, V_33, W_33, V_34, W_34, V_35, W_35, V_36, W_36, V_37, W_37, V_38, W_38, V_39, W_39, hS.r20_12, hS.r20_13, ra_29 hS, ra_30 hS, y2, y4, y29, y30, k4, k5, c1, gd_e hg1, hwh, c2, hc]
            · rw [cb_f c0, cb_f (fun z => z.elim c0 (fun z => c3 z.2))]
              rw [cb_f c3] at hc
              simp (disch := omega) only [lt__e, bnd_e, bnd2_e, bnd3_e, el0_l, el0_r, el1_l, el1_r, el2_l, el2_r, ↓reduceIte, not_true_eq_false, not_false_eq_true, reduceCtorEq, and_true, true_and, and_false, false_and, or_true, true_or, or_false, false_or, and_self, or_self, ite_true, ite_false, Int.cast_ofNat_Int, Nat.reduceEqDiff, Nat.reduceLT, Int.reduceAdd, Int.reduceSub, Int.reduceMul, Int.reduceNeg, Int.reduceLT, Int.reduceLE, Int.reduceEq, ilt_t, ilt_f, ile_t, ile_f, ieq_t, ieq_f, z_0, z_1, z_2, z_3, z_4, z_5, z_6, z_7, z_8, z_9, z_10, z_12, z_20, z_40, z_80, z_81, z_99, z_100, z_200, z_400, z_3240, z_20000, z_100000, iz_add, iz_sub, iz_mul, iz_neg, iz_nat, iz_lt, iz_le, iz_eq, iz_div, iz_ite, iz_c, md10, md100, izcb_0, izcb_1, isOut_0, isNoCell_0, isGr_0, within_e, isCell_e, np_p, VV_r, VV_n, V_20, W_20, V_21, W_21, V_22, W_22, V_23, W_23, V_24, W_24, V_25, W_25, V_26, W_26, V_27, W_27, V_28, W_28, V_29, W_29, V_30, W_30, V_31, W_31, V_32, W_32, V_33, W_33, V_34, W_34, V_35, W_35, V_36, W_36, V_37, W_37, V_38, W_38, V_39, W_39, hS.r20_12, hS.r20_13, ra_29 hS, ra_30 hS, y2, y4, y29, y30, k4, k5, c1, gd_e hg1, hwh, c2, hc]
      · by_cases c0 : q
        · rw [cb_t c0, cb_t (Or.inl c0)]
          simp (disch := omega) only [lt__e, bnd_e, bnd2_e, bnd3_e, el0_l, el0_r, el1_l, el1_r, el2_l, el2_r, ↓reduceIte, not_true_eq_false, not_false_eq_true, reduceCtorEq, and_true, true_and, and_false, false_and, or_true, true_or, or_false, false_or, and_self, or_self, ite_true, ite_false, Int.cast_ofNat_Int, Nat.reduceEqDiff, Nat.reduceLT, Int.reduceAdd, Int.reduceSub, Int.reduceMul, Int.reduceNeg, Int.reduceLT, Int.reduceLE, Int.reduceEq, ilt_t, ilt_f, ile_t, ile_f, ieq_t, ieq_f, z_0, z_1, z_2, z_3, z_4, z_5, z_6, z_7, z_8, z_9, z_10, z_12, z_20, z_40, z_80, z_81, z_99, z_100, z_200, z_400, z_3240, z_20000, z_100000, iz_add, iz_sub, iz_mul, iz_neg, iz_nat, iz_lt, iz_le, iz_eq, iz_div, iz_ite, iz_c, md10, md100, izcb_0, izcb_1, isOut_0, isNoCell_0, isGr_0, within_e, isCell_e, np_p, VV_r, VV_n, V_20, W_20, V_21, W_21, V_22, W_22, V_23, W_23, V_24, W_24, V_25, W_25, V_26, W_26, V_27, W_27, V_28, W_28, V_29, W_29, V_30, W_30, V_31, W_31, V_32, W_32, V_33, W_33, V_34, W_34, V_35, W_35, V_36, W_36, V_37, W_37, V_38, W_38, V_39, W_39, hS.r20_12, ra_29 hS, y4, y29, k4, c1]
        · rw [cb_f c0, cb_f (fun z => z.elim c0 (fun z => c1 z.1))]
          simp (disch := omega) only [lt__e, bnd_e, bnd2_e, bnd3_e, el0_l, el0_r, el1_l, el1_r, el2_l, el2_r, ↓reduceIte, not_true_eq_false, not_false_eq_true, reduceCtorEq, and_true, true_and, and_false, false_and, or_true, true_or, or_false, false_or, and_self, or_self, ite_true, ite_false, Int.cast_ofNat_Int, Nat.reduceEqDiff, Nat.reduceLT, Int.reduceAdd, Int.reduceSub, Int.reduceMul, Int.reduceNeg, Int.reduceLT, Int.reduceLE, Int.reduceEq, ilt_t, ilt_f, ile_t, ile_f, ieq_t, ieq_f, z_0, z_1, z_2, z_3, z_4, z_5, z_6, z_7, z_8, z_9, z_10, z_12, z_20, z_40, z_80, z_81, z_99, z_100, z_200, z_400, z_3240, z_20000, z_100000, iz_add, iz_sub, iz_mul, iz_neg, iz_nat, iz_lt, iz_le, iz_eq, iz_div, iz_ite, iz_c, md10, md100, izcb_0, izcb_1, isOut_0, isNoCell_0, isGr_0, within_e, isCell_e, np_p, VV_r, VV_n, V_20, W_20, V_21, W_21, V_22, W_22, V_23, W_23, V_24, W_24, V_25, W_25, V_26, W_26, V_27, W_27, V_28, W_28, V_29, W_29, V_30, W_30, V_31, W_31, V_32, W_32, V_33, W_33, V_34, W_34, V_35, W_35, V_36, W_36, V_37, W_37, V_38, W_38, V_39, W_39, hS.r20_12, ra_29 hS, y4, y29, k4, c1]
    · intro m q
      dsimp only [l_Mo_alerts_86, b_Mo_alerts_86]
      simp (disch := omega) only [lt__e, bnd_e, bnd2_e, bnd3_e, el0_l, el0_r, el1_l, el1_r, el2_l, el2_r, ↓reduceIte, not_true_eq_false, not_false_eq_true, reduceCtorEq, and_true, true_and, and_false, false_and, or_true, true_or, or_false, false_or, and_self, or_self, ite_true, ite_false, Int.cast_ofNat_Int, Nat.reduceEqDiff, Nat.reduceLT, Int.reduceAdd, Int.reduceSub, Int.reduceMul, Int.reduceNeg, Int.reduceLT, Int.reduceLE, Int.reduceEq, ilt_t, ilt_f, ile_t, ile_f, ieq_t, ieq_f, z_0, z_1, z_2, z_3, z_4, z_5, z_6, z_7, z_8, z_9, z_10, z_12, z_20, z_40, z_80, z_81, z_99, z_100, z_200, z_400, z_3240, z_20000, z_100000, iz_add, iz_sub, iz_mul, iz_neg, iz_nat, iz_lt, iz_le, iz_eq, iz_div, iz_ite, iz_c, md10, md100, izcb_0, izcb_1, isOut_0, isNoCell_0, isGr_0, within_e, isCell_e, np_p, V_20, y4]
  -- all machines
  have key := lpQ (L := fun m i (u : Int32 × AT × (Nat → Nat → Option Nat) × (Nat → Nat)) => l_Mo_alerts_9 20 n0 m u.1 (iz i) (VV u.2.1 u.2.2.1 u.2.2.2)) (hi := nm)
    (Q := fun i u => 0 ≤ i ∧ u.1 = bts (alr b nr nm) i.toNat ∧ (∀ t, t ≠ 48 → u.2.1 t = up c 20 0 0 0 t) ∧ Sh u.2.2.1 u.2.2.2 nr nm np ∧ n0 ≤ u.2.2.2 48 ∧ ((u.2.2.2 48 : Nat) : Int) ≤ n0 + 10 * i)
    (R := fun v => ∃ s' r'' n'', v = (bts (alr b nr nm) nm.toNat, VV s' r'' n'') ∧ (∀ t, t ≠ 48 → s' t = up c 20 0 0 0 t) ∧ Sh r'' n'' nr nm np ∧ n'' 48 ≤ n0 + 100) ?_ ?_ 4096 0 (iz 0, up c 20 0 0 0, r, n) hb.2.1.1 (by omega) ⟨by omega, z_0.symm, fun _ _ => rfl, h, by dsimp only; omega, by dsimp only; omega⟩
  · obtain ⟨v, hv, s', r'', n'', rfl, z1, z2, z3⟩ := key
    refine ⟨s', r'', n'', ?_, z1, z2⟩
    unfold f_Mo_alerts
    dsimp only at hv
    simp (disch := omega) only [lt__e, bnd_e, bnd2_e, bnd3_e, el0_l, el0_r, el1_l, el1_r, el2_l, el2_r, ↓reduceIte, not_true_eq_false, not_false_eq_true, reduceCtorEq, and_true, true_and, and_false, false_and, or_true, true_or, or_false, false_or, and_self, or_self, ite_true, ite_false, Int.cast_ofNat_Int, Nat.reduceEqDiff, Nat.reduceLT, Int.reduceAdd, Int.reduceSub, Int.reduceMul, Int.reduceNeg, Int.reduceLT, Int.reduceLE, Int.reduceEq, ilt_t, ilt_f, ile_t, ile_f, ieq_t, ieq_f, z_0, z_1, z_2, z_3, z_4, z_5, z_6, z_7, z_8, z_9, z_10, z_12, z_20, z_40, z_80, z_81, z_99, z_100, z_200, z_400, z_3240, z_20000, z_100000, iz_add, iz_sub, iz_mul, iz_neg, iz_nat, iz_lt, iz_le, iz_eq, iz_div, iz_ite, iz_c, md10, md100, izcb_0, izcb_1, isOut_0, isNoCell_0, isGr_0, within_e, isCell_e, np_p, VV_n, W_20, hn0, hv]
    unfold gd
    exact if_pos z3
  · rintro m i ⟨w, u, ru, nu⟩ h3 ⟨h4, h5, h6, h7, h8, h9⟩
    dsimp only at h5 h6 h7 h8 h9 ⊢
    left
    obtain ⟨y1, y2, y3, y4⟩ := ev u h6
    obtain ⟨s', r'', n'', o1, o2, o3, o4, o5⟩ := i22 i h4 h3 u ru nu h6 h7 h8 h9
    have o6 := i86 i h4 h3 (bts (alr b nr nm) i.toNat) s' r'' n'' o2 o3 o4 o5 (b 11 4 i = 1 ∧ ∃ j, 0 ≤ j ∧ j < nm ∧ b 11 4 j = 2 ∧ nrp b (b 11 5 i) (b 11 3 j) (b 11 6 j) (b 0 10 0))
    have e : ((b 11 4 i = 1 ∧ ∃ j, 0 ≤ j ∧ j < nm ∧ b 11 4 j = 2 ∧ nrp b (b 11 5 i) (b 11 3 j) (b 11 6 j) (b 0 10 0)) ∨ ∃ k, 0 ≤ k ∧ k < 10 * nr ∧ (b 11 4 i = 1 ∧ closed b (k / 10) (PL b (b 11 5 i) (b 0 10 0 + 1 + k % 10)) (b 0 10 0 + 1 + k % 10))) ↔ alr b nr nm i := by
      constructor
      · rintro (⟨z1, z2⟩ | ⟨k, z1, z2, z3, z4⟩)
        · exact ⟨h3, z1, Or.inr z2⟩
        · exact ⟨h3, z3, Or.inl ⟨b 0 10 0 + 1 + k % 10, by omega, by omega, k / 10, by omega, by omega, z4⟩⟩
      · rintro ⟨-, z1, ⟨t, z2, z3, j, z4, z5, z6⟩ | z2⟩
        · refine Or.inr ⟨10 * j + (t - (b 0 10 0 + 1)), by omega, by omega, z1, ?_⟩
          have q1 : (10 * j + (t - (b 0 10 0 + 1))) / 10 = j := by omega
          have q2 : b 0 10 0 + 1 + (10 * j + (t - (b 0 10 0 + 1))) % 10 = t := by omega
          rw [q1, q2]; exact z6
        · exact Or.inl ⟨z1, z2⟩
    rw [cb_c e] at o6
    by_cases ca : alr b nr nm i
    · rw [cb_t ca] at o6
      refine ⟨(_, s', r'', n''), ⟨by omega, rfl, o2, o3, o4, o5⟩, ?_⟩
      dsimp only
      rw [bts_t h4 ca]
      dsimp only [l_Mo_alerts_9, b_Mo_alerts_9]
      rw [h5]
      simp (disch := omega) only [lt__e, bnd_e, bnd2_e, bnd3_e, el0_l, el0_r, el1_l, el1_r, el2_l, el2_r, ↓reduceIte, not_true_eq_false, not_false_eq_true, reduceCtorEq, and_true, true_and, and_false, false_and, or_true, true_or, or_false, false_or, and_self, or_self, ite_true, ite_false, Int.cast_ofNat_Int, Nat.reduceEqDiff, Nat.reduceLT, Int.reduceAdd, Int.reduceSub, Int.reduceMul, Int.reduceNeg, Int.reduceLT, Int.reduceLE, Int.reduceEq, ilt_t, ilt_f, ile_t, ile_f, ieq_t, ieq_f, z_0, z_1, z_2, z_3, z_4, z_5, z_6, z_7, z_8, z_9, z_10, z_12, z_20, z_40, z_80, z_81, z_99, z_100, z_200, z_400, z_3240, z_20000, z_100000, iz_add, iz_sub, iz_mul, iz_neg, iz_nat, iz_lt, iz_le, iz_eq, iz_div, iz_ite, iz_c, md10, md100, izcb_0, izcb_1, isOut_0, isNoCell_0, isGr_0, within_e, isCell_e, np_p, V_20, y3, o1, o6]
    · rw [cb_f ca] at o6
      refine ⟨(_, s', r'', n''), ⟨by omega, rfl, o2, o3, o4, o5⟩, ?_⟩
      dsimp only
      rw [bts_f h4 ca]
      dsimp only [l_Mo_alerts_9, b_Mo_alerts_9]
      rw [h5]
      simp (disch := omega) only [lt__e, bnd_e, bnd2_e, bnd3_e, el0_l, el0_r, el1_l, el1_r, el2_l, el2_r, ↓reduceIte, not_true_eq_false, not_false_eq_true, reduceCtorEq, and_true, true_and, and_false, false_and, or_true, true_or, or_false, false_or, and_self, or_self, ite_true, ite_false, Int.cast_ofNat_Int, Nat.reduceEqDiff, Nat.reduceLT, Int.reduceAdd, Int.reduceSub, Int.reduceMul, Int.reduceNeg, Int.reduceLT, Int.reduceLE, Int.reduceEq, ilt_t, ilt_f, ile_t, ile_f, ieq_t, ieq_f, z_0, z_1, z_2, z_3, z_4, z_5, z_6, z_7, z_8, z_9, z_10, z_12, z_20, z_40, z_80, z_81, z_99, z_100, z_200, z_400, z_3240, z_20000, z_100000, iz_add, iz_sub, iz_mul, iz_neg, iz_nat, iz_lt, iz_le, iz_eq, iz_div, iz_ite, iz_c, md10, md100, izcb_0, izcb_1, isOut_0, isNoCell_0, isGr_0, within_e, isCell_e, np_p, V_20, y3, o1, o6, or_z]
  · rintro m ⟨w, u, ru, nu⟩ ⟨h4, h5, h6, h7, h8, h9⟩
    dsimp only at h5 h6 h7 h8 h9 ⊢
    obtain ⟨y1, y2, y3, y4⟩ := ev u h6
    refine ⟨_, ?_, u, ru, nu, rfl, h6, h7, by omega⟩
    dsimp only [l_Mo_alerts_9, b_Mo_alerts_9]
    rw [h5]
    simp (disch := omega) only [lt__e, bnd_e, bnd2_e, bnd3_e, el0_l, el0_r, el1_l, el1_r, el2_l, el2_r, ↓reduceIte, not_true_eq_false, not_false_eq_true, reduceCtorEq, and_true, true_and, and_false, false_and, or_true, true_or, or_false, false_or, and_self, or_self, ite_true, ite_false, Int.cast_ofNat_Int, Nat.reduceEqDiff, Nat.reduceLT, Int.reduceAdd, Int.reduceSub, Int.reduceMul, Int.reduceNeg, Int.reduceLT, Int.reduceLE, Int.reduceEq, ilt_t, ilt_f, ile_t, ile_f, ieq_t, ieq_f, z_0, z_1, z_2, z_3, z_4, z_5, z_6, z_7, z_8, z_9, z_10, z_12, z_20, z_40, z_80, z_81, z_99, z_100, z_200, z_400, z_3240, z_20000, z_100000, iz_add, iz_sub, iz_mul, iz_neg, iz_nat, iz_lt, iz_le, iz_eq, iz_div, iz_ite, iz_c, md10, md100, izcb_0, izcb_1, isOut_0, isNoCell_0, isGr_0, within_e, isCell_e, np_p, V_20, y3]
theorem call_alerts (g : GG a r n) : ∃ v A r' n', f_Sk_alerts 0 (VV a r n) = some v ∧ f_Mo_alerts 20 (VV a r n) = some (v, VV A r' n') ∧ GG A r' n' := by
  obtain ⟨nr, nm, np, h, hI, hM⟩ := g
  have hb := h.b
  obtain ⟨c', r', n', k1, k2, k3⟩ := m_alerts h hI hM
  have e : bts (alr a nr nm) 10 = bts (alr a nr nm) nm.toNat := by
    have := bts_n (P := alr a nr nm) nm.toNat (fun i i1 q => by have := q.1; omega) (10 - nm.toNat)
    rw [← this]
    congr 1
    omega
  refine ⟨_, c', r', n', c_alerts h hI, by rw [e]; exact k1, nr, nm, np, k3, CI_c (fun t t1 => by rw [k2 t (by omega), up_t (by omega)]) hI, MR_c hb.2.2.2 (fun t t1 t2 _ => by rw [k2 t (by omega), up_t (by omega)]) (fun j _ => by rw [k2 38 (by omega), up_t (by omega)]) (fun j j1 => by rw [k2 20 (by omega), up_s, if_neg (by omega)]) (fun t t1 => by rw [k2 t (by omega), up_t (by omega)]) (EqQ.of (by rw [k2 12 (by omega), up_t (by omega)]) (by rw [k2 13 (by omega), up_t (by omega)])) hI.2.2.2.2.2.1 hM⟩
end C14
