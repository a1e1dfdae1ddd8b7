/-! the draft laid out, what it takes, the battery on the way; meeting time by time; counts -/
def EqC (A a : AT) : Prop := ∀ t, 1 ≤ t → t ≤ 5 → A t = a t
section EC
variable {A a : AT}
theorem EqC.e1 (h : EqC A a) : A 1 = a 1 := h 1 (by omega) (by omega)
theorem EqC.e2 (h : EqC A a) : A 2 = a 2 := h 2 (by omega) (by omega)
theorem EqC.e3 (h : EqC A a) : A 3 = a 3 := h 3 (by omega) (by omega)
theorem EqC.e4 (h : EqC A a) : A 4 = a 4 := h 4 (by omega) (by omega)
theorem EqC.e5 (h : EqC A a) : A 5 = a 5 := h 5 (by omega) (by omega)
theorem isSp_c (h : EqC A a) (c : Int) : isSp A c = isSp a c := by unfold isSp; rw [h.e1, h.e3]
theorem isFr_c (h : EqC A a) (c : Int) : isFr A c = isFr a c := by unfold isFr; rw [isSp_c h, h.e2]
theorem CC_c (h : EqC A a) (hc : CC a) : CC A := by
  unfold CC at hc ⊢
  rw [h.e1, h.e2, h.e3, h.e4, h.e5]; exact hc
theorem near_c (h : EqC A a) (c : Int) : near A c = near a c := by
  have e : Nr A c = Nr a c := by
    funext z
    unfold Nr
    simp only [isSp_c h, h.e1]
  have key : ∀ P Q : Int → Prop, P = Q → (@dite Int (∃ z, P z) (Classical.propDecidable _) (fun h => Classical.choose h) (fun _ => -1)) = (@dite Int (∃ z, Q z) (Classical.propDecidable _) (fun h => Classical.choose h) (fun _ => -1)) := by
    rintro P Q rfl; rfl
  exact key _ _ e
theorem cost_c (h : EqC A a) {t : Nat} (ht : t = 4 ∨ t = 5) (p q : Int) : cost A t p q = cost a t p q := by
  unfold cost
  rcases ht with rfl | rfl
  · rw [h.e4]
  · rw [h.e5]
end EC
def dx_ (mv u v : Int) : Int := if mv = u then 1 else if mv = v then -1 else 0
def pb0 (x' y' l' : Int) : Int := if (0 ≤ x' ∧ x' ≤ 9) ∧ (0 ≤ y' ∧ y' ≤ 9) ∧ (0 ≤ l' ∧ l' ≤ 3) then 100 * l' + 10 * y' + x' else -1
def pb (p mv : Int) : Int := pb0 (p % 10 + dx_ mv 1 2) (p / 10 % 10 + dx_ mv 3 4) (p / 100 + dx_ mv 5 6)
theorem pb0_b (x' y' l' : Int) : -1 ≤ pb0 x' y' l' ∧ pb0 x' y' l' < 400 := by unfold pb0; split <;> omega
theorem pb_b (p mv : Int) : -1 ≤ pb p mv ∧ pb p mv < 400 := pb0_b _ _ _
theorem pb_0 (p : Int) : pb p 0 = pb0 (p % 10) (p / 10 % 10) (p / 100) := by
  show pb0 (p % 10 + 0) (p / 10 % 10 + 0) (p / 100 + 0) = _; rw [Int.add_zero, Int.add_zero, Int.add_zero]
theorem pb_1 (p : Int) : pb p 1 = pb0 (p % 10 + 1) (p / 10 % 10) (p / 100) := by
  show pb0 (p % 10 + 1) (p / 10 % 10 + 0) (p / 100 + 0) = _; rw [Int.add_zero, Int.add_zero]
theorem pb_2 (p : Int) : pb p 2 = pb0 (p % 10 + -1) (p / 10 % 10) (p / 100) := by
  show pb0 (p % 10 + -1) (p / 10 % 10 + 0) (p / 100 + 0) = _; rw [Int.add_zero, Int.add_zero]
theorem pb_3 (p : Int) : pb p 3 = pb0 (p % 10) (p / 10 % 10 + 1) (p / 100) := by
  show pb0 (p % 10 + 0) (p / 10 % 10 + 1) (p / 100 + 0) = _; rw [Int.add_zero, Int.add_zero]
theorem pb_4 (p : Int) : pb p 4 = pb0 (p % 10) (p / 10 % 10 + -1) (p / 100) := by
  show pb0 (p % 10 + 0) (p / 10 % 10 + -1) (p / 100 + 0) = _; rw [Int.add_zero, Int.add_zero]
theorem pb_5 (p : Int) : pb p 5 = pb0 (p % 10) (p / 10 % 10) (p / 100 + 1) := by
  show pb0 (p % 10 + 0) (p / 10 % 10 + 0) (p / 100 + 1) = _; rw [Int.add_zero, Int.add_zero]
theorem pb_6 (p : Int) : pb p 6 = pb0 (p % 10) (p / 10 % 10) (p / 100 + -1) := by
  show pb0 (p % 10 + 0) (p / 10 % 10 + 0) (p / 100 + -1) = _; rw [Int.add_zero, Int.add_zero]
noncomputable def nx_ (a : AT) (q : Int) : Int := @ite Int (isFr a q) (Classical.propDecidable _) q (-1)
noncomputable def nxt (a : AT) (p mv : Int) : Int := nx_ a (pb p mv)
theorem nxt_b (a : AT) (p mv : Int) : -1 ≤ nxt a p mv ∧ nxt a p mv < 400 := by
  unfold nxt nx_
  split
  · exact pb_b p mv
  · omega
noncomputable def wk (a : AT) (st : Int) : Nat → Int
  | 0 => st
  | k + 1 => nxt a (wk a st k) (a 9 (k : Int) 0)
theorem wk_s (a : AT) (st : Int) {i : Int} (h : 0 ≤ i) : wk a st (i + 1).toNat = nxt a (wk a st i.toNat) (a 9 i 0) := by
  have e : (i + 1).toNat = i.toNat + 1 := by omega
  rw [e]
  show nxt a (wk a st i.toNat) (a 9 (i.toNat : Int) 0) = _
  have e2 : ((i.toNat : Nat) : Int) = i := by omega
  rw [e2]
theorem wk_b (a : AT) {st : Int} (h1 : 0 ≤ st) (h2 : st < 400) (k : Nat) : -1 ≤ wk a st k ∧ wk a st k < 400 := by
  cases k with
  | zero => show -1 ≤ st ∧ st < 400; omega
  | succ k => exact nxt_b _ _ _
/-- the first place of the draft that is refused; -1 without one -/
noncomputable def bad (a : AT) (st : Int) : Int := fst_ 1 (a 0 9 0 + 1) (fun k => wk a st k.toNat = -1)
noncomputable def lay_ (a : AT) (st : Int) : Int := if bad a st = -1 then (if a 0 9 0 = 0 ∨ 100 ≤ wk a st (a 0 9 0).toNat then a 0 9 0 else -1) else bad a st
/-- nothing is another but the trial's last and its places -/
def TrO (A a : AT) (np : Int) : Prop := (∀ t, t ≠ 12 → t ≠ 13 → A t = a t) ∧ (∀ j m, ¬ (m = np ∧ j = 4) → A 12 j m = a 12 j m) ∧ (∀ j m, m ≠ np → A 13 j m = a 13 j m)
theorem TrO.eqC {A a : AT} {np : Int} (h : TrO A a np) : EqC A a := fun t h1 h2 => h.1 t (by omega) (by omega)
theorem TrO.refl (a : AT) (np : Int) : TrO a a np := ⟨fun _ _ _ => rfl, fun _ _ _ => rfl, fun _ _ _ => rfl⟩
/-- the trial has the draft's places -/
def Laid (A a : AT) (np st : Int) : Prop := A 12 4 np = a 0 9 0 ∧ ∀ j, 0 ≤ j → j ≤ a 0 9 0 → A 13 j np = wk a st j.toNat
noncomputable def sm (f : Int → Int) : Nat → Int
  | 0 => 0
  | k + 1 => sm f k + f k
theorem sm_s (f : Int → Int) {i : Int} (h : 0 ≤ i) : sm f (i + 1).toNat = sm f i.toNat + f i := by
  have e : (i + 1).toNat = i.toNat + 1 := by omega
  rw [e]
  show sm f i.toNat + f (i.toNat : Int) = _
  have e2 : ((i.toNat : Nat) : Int) = i := by omega
  rw [e2]
theorem sm_c {f g : Int → Int} (k : Nat) (h : ∀ i, 0 ≤ i → i < (k : Int) → f i = g i) : sm f k = sm g k := by
  induction k with
  | zero => rfl
  | succ k ih =>
    show sm f k + f (k : Int) = sm g k + g (k : Int)
    rw [ih (fun i h1 h2 => h i h1 (by omega)), h k (by omega) (by omega)]
theorem cost_b {a : AT} (hC : CC a) {t : Nat} (ht : t = 4 ∨ t = 5) {p q : Int} (h3 : 0 ≤ q) (h4 : q < 500) : 0 ≤ cost a t p q ∧ cost a t p q ≤ 7 := by
  have hw := hC.2.2.2.1 (q / 100) (by omega) (by omega)
  have hg := hC.2.2.2.2.1 (q / 100) (by omega) (by omega)
  unfold cost
  rcases ht with rfl | rfl <;> (split <;> split <;> omega)
/-- the steps' costs along path p -/
def pc (a : AT) (p : Int) : Int → Int := fun j => cost a 4 (a 13 j p) (a 13 (j + 1) p)
/-- what must be left at a place -/
noncomputable def need (a : AT) (q : Int) : Int := if q < 100 then 0 else dst (q % 100) (near a (q % 100)) + 10
/-- too little is left at place i of p, with l at place k -/
def low (a : AT) (p k l : Int) : Int → Prop := fun i => l - (sm (pc a p) i.toNat - sm (pc a p) k.toNat) < need a (a 13 i p)
theorem cnt_b (P : Int → Prop) (k : Nat) : 0 ≤ cnt P k ∧ cnt P k ≤ k := by
  induction k with
  | zero => exact ⟨Int.le_refl _, Int.le_refl _⟩
  | succ k ih =>
    show 0 ≤ cnt P k + cb (P k) ∧ cnt P k + cb (P k) ≤ _
    rcases cb_01 (P k) with h | h <;> omega
section T5
variable {a : AT} {r : Nat → Nat → Option Nat} {n : Nat → Nat} {nr nm np : Int}
theorem c_pb96 : ∀ x' y' l' : Int, -5 ≤ x' → x' ≤ 20 → -5 ≤ y' → y' ≤ 20 → -5 ≤ l' → l' ≤ 20 → j_Sk_placeBehind_96 (iz x') (iz y') (iz l') = iz (pb0 x' y' l') := by
  intro x' y' l' b1 b2 b3 b4 b5 b6
  unfold j_Sk_placeBehind_96 pb0
  by_cases c1 : 0 ≤ x' ∧ x' ≤ 9
  · by_cases c2 : 0 ≤ y' ∧ y' ≤ 9
    · by_cases c3 : 0 ≤ l' ∧ l' ≤ 3
      · simp (disch := omega) only [lt__e, bnd_e, bnd2_e, bnd3_e, el0_l, el0_r, el1_l, el1_r, el2_l, el2_r, ↓reduceIte, not_true_eq_false, not_false_eq_true, reduceCtorEq, and_true, true_and, and_false, false_and, or_true, true_or, or_false, false_or, and_self, or_self, ite_true, ite_false, Int.cast_ofNat_Int, Nat.reduceEqDiff, Nat.reduceLT, Int.reduceAdd, Int.reduceSub, Int.reduceMul, Int.reduceNeg, Int.reduceLT, Int.reduceLE, Int.reduceEq, ilt_t, ilt_f, ile_t, ile_f, ieq_t, ieq_f, z_0, z_1, z_2, z_3, z_4, z_5, z_6, z_7, z_8, z_9, z_10, z_12, z_20, z_40, z_80, z_81, z_99, z_100, z_200, z_400, z_3240, z_20000, z_100000, iz_add, iz_sub, iz_mul, iz_neg, iz_nat, iz_lt, iz_le, iz_eq, iz_div, iz_ite, iz_c, md10, md100, izcb_0, izcb_1, isOut_0, isNoCell_0, isGr_0, np_p, c1, c2, c3]
      · simp (disch := omega) only [lt__e, bnd_e, bnd2_e, bnd3_e, el0_l, el0_r, el1_l, el1_r, el2_l, el2_r, ↓reduceIte, not_true_eq_false, not_false_eq_true, reduceCtorEq, and_true, true_and, and_false, false_and, or_true, true_or, or_false, false_or, and_self, or_self, ite_true, ite_false, Int.cast_ofNat_Int, Nat.reduceEqDiff, Nat.reduceLT, Int.reduceAdd, Int.reduceSub, Int.reduceMul, Int.reduceNeg, Int.reduceLT, Int.reduceLE, Int.reduceEq, ilt_t, ilt_f, ile_t, ile_f, ieq_t, ieq_f, z_0, z_1, z_2, z_3, z_4, z_5, z_6, z_7, z_8, z_9, z_10, z_12, z_20, z_40, z_80, z_81, z_99, z_100, z_200, z_400, z_3240, z_20000, z_100000, iz_add, iz_sub, iz_mul, iz_neg, iz_nat, iz_lt, iz_le, iz_eq, iz_div, iz_ite, iz_c, md10, md100, izcb_0, izcb_1, isOut_0, isNoCell_0, isGr_0, np_p, c1, c2, c3]
    · simp (disch := omega) only [lt__e, bnd_e, bnd2_e, bnd3_e, el0_l, el0_r, el1_l, el1_r, el2_l, el2_r, ↓reduceIte, not_true_eq_false, not_false_eq_true, reduceCtorEq, and_true, true_and, and_false, false_and, or_true, true_or, or_false, false_or, and_self, or_self, ite_true, ite_false, Int.cast_ofNat_Int, Nat.reduceEqDiff, Nat.reduceLT, Int.reduceAdd, Int.reduceSub, Int.reduceMul, Int.reduceNeg, Int.reduceLT, Int.reduceLE, Int.reduceEq, ilt_t, ilt_f, ile_t, ile_f, ieq_t, ieq_f, z_0, z_1, z_2, z_3, z_4, z_5, z_6, z_7, z_8, z_9, z_10, z_12, z_20, z_40, z_80, z_81, z_99, z_100, z_200, z_400, z_3240, z_20000, z_100000, iz_add, iz_sub, iz_mul, iz_neg, iz_nat, iz_lt, iz_le, iz_eq, iz_div, iz_ite, iz_c, md10, md100, izcb_0, izcb_1, isOut_0, isNoCell_0, isGr_0, np_p, c1, c2]
  · simp (disch := omega) only [lt__e, bnd_e, bnd2_e, bnd3_e, el0_l, el0_r, el1_l, el1_r, el2_l, el2_r, ↓reduceIte, not_true_eq_false, not_false_eq_true, reduceCtorEq, and_true, true_and, and_false, false_and, or_true, true_or, or_false, false_or, and_self, or_self, ite_true, ite_false, Int.cast_ofNat_Int, Nat.reduceEqDiff, Nat.reduceLT, Int.reduceAdd, Int.reduceSub, Int.reduceMul, Int.reduceNeg, Int.reduceLT, Int.reduceLE, Int.reduceEq, ilt_t, ilt_f, ile_t, ile_f, ieq_t, ieq_f, z_0, z_1, z_2, z_3, z_4, z_5, z_6, z_7, z_8, z_9, z_10, z_12, z_20, z_40, z_80, z_81, z_99, z_100, z_200, z_400, z_3240, z_20000, z_100000, iz_add, iz_sub, iz_mul, iz_neg, iz_nat, iz_lt, iz_le, iz_eq, iz_div, iz_ite, iz_c, md10, md100, izcb_0, izcb_1, isOut_0, isNoCell_0, isGr_0, np_p, c1]
theorem c_placeBehind {p mv : Int} (h1 : 0 ≤ p) (h2 : p < 400) (h3 : 0 ≤ mv) (h4 : mv ≤ 6) : f_Sk_placeBehind (iz p) (iz mv) = iz (pb p mv) := by
  unfold f_Sk_placeBehind
  rcases (by omega : mv = 0 ∨ mv = 1 ∨ mv = 2 ∨ mv = 3 ∨ mv = 4 ∨ mv = 5 ∨ mv = 6) with e | e | e | e | e | e | e
  · have e2 := pb_0 p
    have e3 : pb p mv = pb p 0 := by rw [e]
    rw [e2] at e3
    simp (disch := omega) only [lt__e, bnd_e, bnd2_e, bnd3_e, el0_l, el0_r, el1_l, el1_r, el2_l, el2_r, ↓reduceIte, not_true_eq_false, not_false_eq_true, reduceCtorEq, and_true, true_and, and_false, false_and, or_true, true_or, or_false, false_or, and_self, or_self, ite_true, ite_false, Int.cast_ofNat_Int, Nat.reduceEqDiff, Nat.reduceLT, Int.reduceAdd, Int.reduceSub, Int.reduceMul, Int.reduceNeg, Int.reduceLT, Int.reduceLE, Int.reduceEq, ilt_t, ilt_f, ile_t, ile_f, ieq_t, ieq_f, z_0, z_1, z_2, z_3, z_4, z_5, z_6, z_7, z_8, z_9, z_10, z_12, z_20, z_40, z_80, z_81, z_99, z_100, z_200, z_400, z_3240, z_20000, z_100000, iz_add, iz_sub, iz_mul, iz_neg, iz_nat, iz_lt, iz_le, iz_eq, iz_div, iz_ite, iz_c, md10, md100, izcb_0, izcb_1, isOut_0, isNoCell_0, isGr_0, np_p, c_pb96, e3]
  · have e2 := pb_1 p
    have e3 : pb p mv = pb p 1 := by rw [e]
    rw [e2] at e3
    simp (disch := omega) only [lt__e, bnd_e, bnd2_e, bnd3_e, el0_l, el0_r, el1_l, el1_r, el2_l, el2_r, ↓reduceIte, not_true_eq_false, not_false_eq_true, reduceCtorEq, and_true, true_and, and_false, false_and, or_true, true_or, or_false, false_or, and_self, or_self, ite_true, ite_false, Int.cast_ofNat_Int, Nat.reduceEqDiff, Nat.reduceLT, Int.reduceAdd, Int.reduceSub, Int.reduceMul, Int.reduceNeg, Int.reduceLT, Int.reduceLE, Int.reduceEq, ilt_t, ilt_f, ile_t, ile_f, ieq_t, ieq_f, z_0, z_1, z_2, z_3, z_4, z_5, z_6, z_7, z_8, z_9, z_10, z_12, z_20, z_40, z_80, z_81, z_99, z_100, z_200, z_400, z_3240, z_20000, z_100000, iz_add, iz_sub, iz_mul, iz_neg, iz_nat, iz_lt, iz_le, iz_eq, iz_div, iz_ite, iz_c, md10, md100, izcb_0, izcb_1, isOut_0, isNoCell_0, isGr_0, np_p, c_pb96, e3]
  · have e2 := pb_2 p
    have e3 : pb p mv = pb p 2 := by rw [e]
    rw [e2] at e3
    simp (disch := omega) only [lt__e, bnd_e, bnd2_e, bnd3_e, el0_l, el0_r, el1_l, el1_r, el2_l, el2_r, ↓reduceIte, not_true_eq_false, not_false_eq_true, reduceCtorEq, and_true, true_and, and_false, false_and, or_true, true_or, or_false, false_or, and_self, or_self, ite_true, ite_false, Int.cast_ofNat_Int, Nat.reduceEqDiff, Nat.reduceLT, Int.reduceAdd, Int.reduceSub, Int.reduceMul, Int.reduceNeg, Int.reduceLT, Int.reduceLE, Int.reduceEq, ilt_t, ilt_f, ile_t, ile_f, ieq_t, ieq_f, z_0, z_1, z_2, z_3, z_4, z_5, z_6, z_7, z_8, z_9, z_10, z_12, z_20, z_40, z_80, z_81, z_99, z_100, z_200, z_400, z_3240, z_20000, z_100000, iz_add, iz_sub, iz_mul, iz_neg, iz_nat, iz_lt, iz_le, iz_eq, iz_div, iz_ite, iz_c, md10, md100, izcb_0, izcb_1, isOut_0, isNoCell_0, isGr_0, np_p, c_pb96, e3]
  · have e2 := pb_3 p
    have e3 : pb p mv = pb p 3 := by rw [e]
    rw [e2] at e3
    simp (disch := omega) only [lt__e, bnd_e, bnd2_e, bnd3_e, el0_l, el0_r, el1_l, el1_r, el2_l, el2_r, ↓reduceIte, not_true_eq_false, not_false_eq_true, reduceCtorEq, and_true, true_and, and_false, false_and, or_true, true_or, or_false, false_or, and_self, or_self, ite_true, ite_false, Int.cast_ofNat_Int, Nat.reduceEqDiff, Nat.reduceLT, Int.reduceAdd, Int.reduceSub, Int.reduceMul, Int.reduceNeg, Int.reduceLT, Int.reduceLE, Int.reduceEq, ilt_t, ilt_f, ile_t, ile_f, ieq_t, ieq_f, z_0, z_1, z_2, z_3, z_4, z_5, z_6, z_7, z_8, z_9, z_10, z_12, z_20, z_40, z_80, z_81, z_99, z_100, z_200, z_400, z_3240, z_20000, z_100000, iz_add, iz_sub, iz_mul, iz_neg, iz_nat, iz_lt, iz_le, iz_eq, iz_div, iz_ite, iz_c, md10, md100, izcb_0, izcb_1, isOut_0, isNoCell_0, isGr_0, np_p, c_pb96, e3]
  · have e2 := pb_4 p
    have e3 : pb p mv = pb p 4 := by rw [e]
    rw [e2] at e3
    simp (disch := omega) only [lt__e, bnd_e, bnd2_e, bnd3_e, el0_l, el0_r, el1_l, el1_r, el2_l, el2_r, ↓reduceIte, not_true_eq_false, not_false_eq_true, reduceCtorEq, and_true, true_and, and_false, false_and, or_true, true_or, or_false, false_or, and_self, or_self, ite_true, ite_false, Int.cast_ofNat_Int, Nat.reduceEqDiff, Nat.reduceLT, Int.reduceAdd, Int.reduceSub, Int.reduceMul, Int.reduceNeg, Int.reduceLT, Int.reduceLE, Int.reduceEq, ilt_t, ilt_f, ile_t, ile_f, ieq_t, ieq_f, z_0, z_1, z_2, z_3, z_4, z_5, z_6, z_7, z_8, z_9, z_10, z_12, z_20, z_40, z_80, z_81, z_99, z_100, z_200, z_400, z_3240, z_20000, z_100000, iz_add, iz_sub, iz_mul, iz_neg, iz_nat, iz_lt, iz_le, iz_eq, iz_div, iz_ite, iz_c, md10, md100, izcb_0, izcb_1, isOut_0, isNoCell_0, isGr_0, np_p, c_pb96, e3]
  · have e2 := pb_5 p
    have e3 : pb p mv = pb p 5 := by rw [e]
    rw [e2] at e3
    simp (disch := omega) only [lt__e, bnd_e, bnd2_e, bnd3_e, el0_l, el0_r, el1_l, el1_r, el2_l, el2_r, ↓reduceIte, not_true_eq_false, not_false_eq_true, reduceCtorEq, and_true, true_and, and_false, false_and, or_true, true_or, or_false, false_or, and_self, or_self, ite_true, ite_false, Int.cast_ofNat_Int, Nat.reduceEqDiff, Nat.reduceLT, Int.reduceAdd, Int.reduceSub, Int.reduceMul, Int.reduceNeg, Int.reduceLT, Int.reduceLE, Int.reduceEq, ilt_t, ilt_f, ile_t, ile_f, ieq_t, ieq_f, z_0, z_1, z_2, z_3, z_4, z_5, z_6, z_7, z_8, z_9, z_10, z_12, z_20, z_40, z_80, z_81, z_99, z_100, z_200, z_400, z_3240, z_20000, z_100000, iz_add, iz_sub, iz_mul, iz_neg, iz_nat, iz_lt, iz_le, iz_eq, iz_div, iz_ite, iz_c, md10, md100, izcb_0, izcb_1, isOut_0, isNoCell_0, isGr_0, np_p, c_pb96, e3]
  · have e2 := pb_6 p
    have e3 : pb p mv = pb p 6 := by rw [e]
    rw [e2] at e3
    simp (disch := omega) only [lt__e, bnd_e, bnd2_e, bnd3_e, el0_l, el0_r, el1_l, el1_r, el2_l, el2_r, ↓reduceIte, not_true_eq_false, not_false_eq_true, reduceCtorEq, and_true, true_and, and_false, false_and, or_true, true_or, or_false, false_or, and_self, or_self, ite_true, ite_false, Int.cast_ofNat_Int, Nat.reduceEqDiff, Nat.reduceLT, Int.reduceAdd, Int.reduceSub, Int.reduceMul, Int.reduceNeg, Int.reduceLT, Int.reduceLE, Int.reduceEq, ilt_t, ilt_f, ile_t, ile_f, ieq_t, ieq_f, z_0, z_1, z_2, z_3, z_4, z_5, z_6, z_7, z_8, z_9, z_10, z_12, z_20, z_40, z_80, z_81, z_99, z_100, z_200, z_400, z_3240, z_20000, z_100000, iz_add, iz_sub, iz_mul, iz_neg, iz_nat, iz_lt, iz_le, iz_eq, iz_div, iz_ite, iz_c, md10, md100, izcb_0, izcb_1, isOut_0, isNoCell_0, isGr_0, np_p, c_pb96, e3]
end T5
