/-! what keeps the property's own invariant -/
section J6
variable {a A u : AT} {r : Nat → Nat → Option Nat} {n : Nat → Nat} {nr nm np : Int}
theorem cnt_2 {P Q R : Int → Prop} : ∀ (k : Nat), (∀ i : Int, 0 ≤ i → i < k → (P i → R i) ∧ (Q i → R i) ∧ ¬ (P i ∧ Q i)) → cnt P k + cnt Q k ≤ cnt R k
  | 0, _ => Int.le_refl _
  | k + 1, h => by
    have ih := cnt_2 (P := P) (Q := Q) (R := R) k (fun i i1 i2 => h i i1 (by omega))
    obtain ⟨h1, h2, h3⟩ := h k (by omega) (by omega)
    show cnt P k + cb (P k) + (cnt Q k + cb (Q k)) ≤ cnt R k + cb (R k)
    by_cases c : P k
    · rw [cb_t c, cb_t (h1 c), cb_f (fun q => h3 ⟨c, q⟩)]; omega
    · rw [cb_f c]
      by_cases c2 : Q k
      · rw [cb_t c2, cb_t (h2 c2)]; omega
      · rw [cb_f c2]
        rcases cb_01 (R k) with e | e <;> omega
/-- a step of time -/
theorem CJ_step (hI : CI a nr nm np) (hJ : CJ a nm np) (hu : CS u a nm np (tB3 a) (tP3 a) (tS5 a nm) (tQ5 a nm) (tZ5 a nm)) (h13 : u 0 13 0 = kt a nm (a 0 13 0) 10) (hm : 0 ≤ nm ∧ nm ≤ 10) : CJ u nm np := by
  have hIa := hI
  obtain ⟨⟨⟨hnr, hnm, hnp⟩, hnow, hns⟩, hC, hD, hR, hMa, hP, hL1, hL2⟩ := hI
  obtain ⟨J1, J2, J3, J4⟩ := hJ
  obtain ⟨k1, k2, k3, k4, k5, k6⟩ := hu
  have e13 := k1 13 (by omega) (by omega) (by omega)
  have e1 := k1 1 (by omega) (by omega) (by omega)
  have e3 := k1 3 (by omega) (by omega) (by omega)
  have hs : ∀ c, isSp u c ↔ isSp a c := fun c => by unfold isSp; rw [e1, e3]
  have eq : ∀ p, EqP u a p := fun p => ⟨k5 3 p (by omega), k5 4 p (by omega), fun k => by rw [e13]⟩
  have z2 : ∀ p, 0 ≤ p → p < np → tZ2 a p = 1 → tS2 a (a 12 2 p) = 1 ∧ a 11 5 (a 12 2 p) = p := fun p p1 p2 z => by
    by_cases c : a 12 6 p = 0 ∧ a 12 3 p = a 0 10 0 + 1
    · obtain ⟨x1, x2, x3, x4⟩ := (hL2 p p1 p2).2 c.1
      refine ⟨?_, x3⟩
      unfold tS2
      rw [if_pos ⟨x2, by omega, by rw [x3]; exact c.2⟩]
    · unfold tZ2 at z
      rw [if_neg c] at z
      obtain ⟨x1, x2⟩ := (J2 p p1 p2).2.2.1 z
      refine ⟨?_, x2⟩
      unfold tS2
      rw [if_neg (by omega)]; exact x1
  refine ⟨fun m m1 m2 => ?_, fun p p1 p2 => ?_, fun p q p1 p2 q1 q2 hne s1 s2 hmt => ?_, ?_⟩
  · obtain ⟨y0, y1, y2, y3, y4, y5, y6⟩ := k4 m m1 m2
    obtain ⟨w0, w1, w2, w3, w4, w5, w6⟩ := hMa m m1 m2
    obtain ⟨g0, g1, g2, f0, f1, f2, f3, gP, gB, gN⟩ := tF hIa m1 m2
    obtain ⟨b0, b1, b2, b3⟩ := tS4_b hIa m1 m2
    obtain ⟨j1, j2, j3⟩ := J1 m m1 m2
    have gc := cost_b hC (t := 5) (Or.inr rfl) (p := a 11 3 m) (q := tP3 a m) gP.1 gP.2
    unfold JM
    rw [y1, y2, y3, y4, y6, hs, hs]
    refine ⟨?_, fun z => ?_, fun z => ?_⟩
    · have : tB1 a m ≤ a 11 1 m := by unfold tB1; omega
      unfold tB3
      generalize cost a 5 (a 11 3 m) (tP3 a m) = cc at gc
      omega
    · by_cases c1 : tS4 a nm m = 1 ∧ a 12 3 (a 11 5 m) + a 12 4 (a 11 5 m) ≤ a 0 10 0 + 1
      · have x := f1 (b1 c1.1)
        have y := (J2 (a 11 5 m) x.2.1 x.2.2.1).2.1
        rw [x.2.2.2.2.2.2.2]
        have e : a 0 10 0 + 1 - a 12 3 (a 11 5 m) = a 12 4 (a 11 5 m) := by omega
        rw [e]; exact y
      · by_cases c2 : tS4 a nm m = 2 ∧ tP3 a m < 100
        · have x := f2 (b2 c2.1)
          have y := j3 x.1
          have e : tP3 a m = hwd (a 11 3 m) (a 11 6 m) := by
            unfold tP3; rw [if_neg (by have := b2 c2.1; omega), if_pos (b2 c2.1)]
          have e2 : tP3 a m = a 11 6 m := by
            have c3 := c2.2
            rw [e] at c3 ⊢
            unfold hwd at c3 ⊢
            omega
          rw [e2]; exact y
        · have c3 : tS4 a nm m = 0 := by unfold tS5 at z; rw [if_neg c1, if_neg c2] at z; exact z
          have x := f0 (b3 c3)
          have y := j2 x.1
          have e : tP3 a m = a 11 3 m := by
            have := b3 c3
            unfold tP3; rw [if_neg (by omega), if_neg (by omega)]
          rw [e]; exact y
    · have c : tS4 a nm m = 2 := by unfold tS5 at z; omega
      exact j3 (f2 (b2 c)).1
  · obtain ⟨w1, w2, w3, w4, w5, w6, w7⟩ := hP p p1 p2
    obtain ⟨j1, j2, j3, j4⟩ := J2 p p1 p2
    obtain ⟨y0, y1, y2, y3, y4, y5, y6⟩ := k4 (a 12 2 p) w5.1 w5.2
    have t4 := tS4_2 hIa w5.1 w5.2
    have z2' := z2 p p1 p2
    unfold JP
    rw [k5 4 p (by omega), k5 3 p (by omega), k5 2 p (by omega), k6 p p1 p2, e13, hs, hs, y4, y5, k3]
    refine ⟨j1, j2, fun z => ?_, fun z => ?_⟩
    · unfold tZ5 at z
      by_cases c1 : tS2 a (a 12 2 p) = 1 ∧ a 11 5 (a 12 2 p) = p
      · rw [if_pos c1] at z
        by_cases c2 : tS4 a nm (a 12 2 p) = 3
        · rw [if_pos c2] at z; omega
        · rw [if_neg c2] at z
          by_cases c3 : a 12 3 p + a 12 4 p ≤ a 0 10 0 + 1
          · rw [if_pos c3] at z; omega
          · have x := (t4 c2).1
            unfold tS5 tQ5
            rw [c1.2, if_neg (by omega), if_neg (by omega), if_neg (by omega)]
            exact ⟨by omega, rfl⟩
      · rw [if_neg c1] at z
        exact absurd (z2' z) c1
    · unfold tZ5 at z
      have y : tZ2 a p = 2 → a 12 3 p + a 12 4 p ≤ a 0 10 0 + 1 := fun z9 => by
        unfold tZ2 at z9
        by_cases c : a 12 6 p = 0 ∧ a 12 3 p = a 0 10 0 + 1
        · rw [if_pos c] at z9; omega
        · rw [if_neg c] at z9
          have := j4 z9; omega
      by_cases c1 : tS2 a (a 12 2 p) = 1 ∧ a 11 5 (a 12 2 p) = p
      · rw [if_pos c1] at z
        by_cases c2 : tS4 a nm (a 12 2 p) = 3
        · rw [if_pos c2] at z; omega
        · rw [if_neg c2] at z
          by_cases c3 : a 12 3 p + a 12 4 p ≤ a 0 10 0 + 1
          · exact c3
          · rw [if_neg c3] at z; exact y z
      · rw [if_neg c1] at z; exact y z
  · have t : ∀ p, 0 ≤ p → p < np → u 12 6 p = 0 → a 12 6 p = 0 := fun p p1 p2 z => by
      rw [k6 p p1 p2] at z
      have z9 : tZ2 a p = 0 := by
        unfold tZ5 at z
        by_cases c1 : tS2 a (a 12 2 p) = 1 ∧ a 11 5 (a 12 2 p) = p
        · rw [if_pos c1] at z
          by_cases c2 : tS4 a nm (a 12 2 p) = 3
          · rw [if_pos c2] at z; omega
          · rw [if_neg c2] at z
            by_cases c3 : a 12 3 p + a 12 4 p ≤ a 0 10 0 + 1
            · rw [if_pos c3] at z; omega
            · rw [if_neg c3] at z; exact z
        · rw [if_neg c1] at z; exact z
      unfold tZ2 at z9; omega
    exact J3 p q p1 p2 q1 q2 hne (t p p1 p2 s1) (t q q1 q2 s2) ((mt_c (eq p) (eq q)).1 hmt)
  · unfold JC at J4 ⊢
    have e : kt a nm (a 0 13 0) 10 = a 0 13 0 + cnt (tTg a nm) nm.toNat := by
      unfold kt
      rw [show (if (10 : Int) < nm then 10 else nm) = nm by omega]
    have b := cnt_b (tTg a nm) nm.toNat
    rw [h13, e]
    have key := cnt_2 (P := fun m => a 11 4 m = 3) (Q := tTg a nm) (R := fun m => u 11 4 m = 3) nm.toNat (fun i i1 i2 => by
      have i3 : i < nm := by omega
      have y4 := (k4 i i1 i3).2.2.2.2.1
      obtain ⟨b0, b1, b2, b3⟩ := tS4_b hIa i1 i3
      refine ⟨fun z => ?_, fun z => ?_, fun z => ?_⟩
      · show u 11 4 i = 3
        rw [y4]
        have s2 : tS2 a i = 3 := by unfold tS2; rw [if_neg (by omega)]; exact z
        have s4 : tS4 a nm i = 3 := by
          have := (tF hIa i1 i3).2.2.1
          omega
        unfold tS5
        rw [if_neg (by omega), if_neg (by omega)]; exact s4
      · show u 11 4 i = 3
        rw [y4]
        have s4 := (tS4_f hIa i1 i3 z).1
        unfold tS5
        rw [if_neg (by omega), if_neg (by omega)]; exact s4
      · have s2 : tS2 a i = 3 := by unfold tS2; rw [if_neg (by omega)]; exact z.1
        have := (tS4_f hIa i1 i3 z.2).2.1
        omega)
    omega
theorem CJ_ch (hm : 0 ≤ nm ∧ nm ≤ 10) : ∀ (k : Nat) (a u : AT), Ch nr nm np k a u → CJ a nm np → CJ u nm np
  | 0, a, u, h, hJ => by
    have e : u = a := h
    rw [e]; exact hJ
  | k + 1, a, u, h, hJ => by
    obtain ⟨d, ⟨h1, h2, h3⟩, h4⟩ := h
    exact CJ_ch hm k d u h4 (CJ_step h1 hJ h2 h3 hm)
theorem Ch_k : ∀ (k : Nat) (a u : AT), Ch nr nm np k a u → (∀ j, j ≠ 10 → j ≠ 13 → u 0 j 0 = a 0 j 0) ∧ (∀ m, 0 ≤ m → m < nm → u 11 1 m = a 11 1 m) ∧ (∀ t, t ≠ 0 → t ≠ 11 → t ≠ 12 → u t = a t)
  | 0, a, u, h => by
    have e : u = a := h
    rw [e]; exact ⟨fun _ _ _ => rfl, fun _ _ _ => rfl, fun _ _ _ _ => rfl⟩
  | k + 1, a, u, h => by
    obtain ⟨d, ⟨h1, h2, h3⟩, h4⟩ := h
    obtain ⟨x1, x2, x3⟩ := Ch_k k d u h4
    exact ⟨fun j j1 j2 => by rw [x1 j j1 j2, h2.2.1 j j1 j2], fun m m1 m2 => by rw [x2 m m1 m2, (h2.2.2.2.1 m m1 m2).2.1], fun t t1 t2 t3 => by rw [x3 t t1 t2 t3, h2.1 t t1 t2 t3]⟩
/-- paths that wait are withdrawn -/
theorem fin_115 {v : Int} {P : Int → Prop} (m : Int) : (∃ p, 0 ≤ p ∧ p < np ∧ P p ∧ a 12 2 p = m) ∨ fin_ a np v P 11 5 m = a 11 5 m := by
  by_cases c : ∃ p, 0 ≤ p ∧ p < np ∧ P p ∧ a 12 2 p = m
  · exact Or.inl c
  · right
    unfold fin_
    rw [if_neg (fun z => absurd z.1 (by omega)), if_neg (fun z => c z.2.2)]
theorem fin_126c {P : Int → Prop} (p : Int) : (P p ∧ fin_ a np 3 P 12 6 p = 3) ∨ fin_ a np 3 P 12 6 p = a 12 6 p := by
  by_cases c : 0 ≤ p ∧ p < np ∧ P p
  · exact Or.inl ⟨c.2.2, fin_126p c.1 c.2.1 c.2.2⟩
  · right
    unfold fin_
    rw [if_neg (fun z => c z.2.2), if_neg (fun z => absurd z.1 (by omega))]
theorem CJ_fin {P : Int → Prop} (hI : CI a nr nm np) (hp : ∀ p, 0 ≤ p → p < np → P p → a 12 6 p = 0) (hJ : CJ a nm np) : CJ (fin_ a np 3 P) nm np := by
  obtain ⟨J1, J2, J3, J4⟩ := hJ
  have e : ∀ t, t ≠ 11 → t ≠ 12 → fin_ a np 3 P t = a t := fun t t1 t2 => fin_o t1 t2
  have e0 := e 0 (by omega) (by omega)
  have e13 := e 13 (by omega) (by omega)
  have hs : ∀ c, isSp (fin_ a np 3 P) c ↔ isSp a c := fun c => by unfold isSp; rw [e 1 (by omega) (by omega), e 3 (by omega) (by omega)]
  refine ⟨fun m m1 m2 => ?_, fun p p1 p2 => ?_, fun p q p1 p2 q1 q2 hne s1 s2 hmt => ?_, ?_⟩
  · have x := J1 m m1 m2
    unfold JM at x ⊢
    rw [fin_11 (by omega) m, fin_11 (by omega) m, fin_11 (by omega) m, fin_11 (by omega) m, fin_11 (by omega) m, hs, hs]; exact x
  · obtain ⟨x1, x2, x3, x4⟩ := J2 p p1 p2
    unfold JP
    rw [fin_12 (j := 4) (by omega) p, fin_12 (j := 2) (by omega) p, fin_12 (j := 3) (by omega) p, e13, e0, hs, hs]
    refine ⟨x1, x2, fun z => ?_, fun z => ?_⟩
    · rcases fin_126c (a := a) (np := np) (P := P) p with ⟨-, q⟩ | q
      · omega
      · have y := x3 (by omega)
        rw [fin_11 (by omega)]
        refine ⟨y.1, ?_⟩
        rcases fin_115 (a := a) (np := np) (v := 3) (P := P) (a 12 2 p) with ⟨q', q1, q2, q3, q4⟩ | q'
        · have := ((hI.2.2.2.2.2.2.2 q' q1 q2).2 (hp q' q1 q2 q3)).2.1
          rw [q4] at this; omega
        · rw [q']; exact y.2
    · rcases fin_126c (a := a) (np := np) (P := P) p with ⟨-, q⟩ | q
      · omega
      · exact x4 (by omega)
  · have t : ∀ p, fin_ a np 3 P 12 6 p = 0 → a 12 6 p = 0 := fun p z => by
      rcases fin_126c (a := a) (np := np) (P := P) p with ⟨-, q⟩ | q <;> omega
    exact J3 p q p1 p2 q1 q2 hne (t p s1) (t q s2) ((mt_c (fin_e p) (fin_e q)).1 hmt)
  · unfold JC at J4 ⊢
    rw [e0, cnt_c (P := fun m => fin_ a np 3 P 11 4 m = 3) (Q := fun m => a 11 4 m = 3) nm.toNat (fun i _ _ => by rw [fin_11 (by omega)])]
    exact J4
/-- the draft's last place is a spot -/
theorem lay_sp {st : Int} (hD : CD a) (h1 : 0 ≤ st) (h2 : st < 400) (hl : lay_ a st = -1) : isSp a (wk a st (a 0 9 0).toNat) := by
  obtain ⟨o1, o2, o3⟩ := lay_ok hD h1 h2 hl
  have e := wk_s a st (i := a 0 9 0 - 1) (by omega)
  rw [show a 0 9 0 - 1 + 1 = a 0 9 0 by omega] at e
  have o := (o1 (a 0 9 0) (by omega) (Int.le_refl _)).1
  unfold nxt nx_ at e
  by_cases c : isFr a (pb (wk a st (a 0 9 0 - 1).toNat) (a 9 (a 0 9 0 - 1) 0))
  · rw [if_pos c] at e
    rw [← e] at c
    rcases c.2 with q | q
    · exact q.2
    · omega
  · rw [if_neg c] at e; omega
theorem CJ_acc {m : Int} (hI : CI A nr nm np) (hp : 0 ≤ np ∧ np < 40) (m1 : 0 ≤ m) (m2 : m < nm) (hw : PW A np) (ht : 1 ≤ A 12 3 np) (hst : A 11 4 m = 0) (hs1 : isSp A (A 13 0 np)) (hs2 : isSp A (A 13 (A 12 4 np) np)) (hJ : CJ A nm np) : CJ (acc A np m) nm (np + 1) := by
  have hF := CJ_fin (a := A) (P := fun q => A 12 6 q = 0 ∧ mt A np q 0) hI (fun p _ _ y => y.1) hJ
  obtain ⟨J1, J2, J3, J4⟩ := hF
  have hs : ∀ c, isSp (acc A np m) c ↔ isSp A c := fun c => by unfold isSp; rw [acc_t (by omega) (by omega) (by omega) (by omega), acc_t (by omega) (by omega) (by omega) (by omega)]
  have hsF : ∀ c, isSp (fin_ A np 3 (fun q => A 12 6 q = 0 ∧ mt A np q 0)) c ↔ isSp A c := fun c => by unfold isSp; rw [fin_o (by omega) (by omega), fin_o (by omega) (by omega)]
  have F13 : fin_ A np 3 (fun q => A 12 6 q = 0 ∧ mt A np q 0) 13 = A 13 := fin_o (by omega) (by omega)
  have F0 : fin_ A np 3 (fun q => A 12 6 q = 0 ∧ mt A np q 0) 0 = A 0 := fin_o (by omega) (by omega)
  have eq : ∀ p, p ≤ np → EqP (acc A np m) A p := fun p p1 => ⟨by rw [acc_12 p1 (by omega), fin_12 (by omega)], by rw [acc_12 p1 (by omega), fin_12 (by omega)], fun k => acc_13 p1⟩
  have e10 : acc A np m 0 10 0 = A 0 10 0 := acc_0 (by omega) (by omega)
  have e13 : acc A np m 0 13 0 = A 0 13 0 := acc_0 (by omega) (by omega)
  refine ⟨fun i i1 i2 => ?_, fun p p1 p2 => ?_, fun p q p1 p2 q1 q2 hne s1 s2 hmt => ?_, ?_⟩
  · have x := J1 i i1 i2
    unfold JM at x ⊢
    rw [acc_11 (j := 2) (by omega), acc_11 (j := 1) (by omega), acc_11 (j := 4) (by omega), acc_11 (j := 3) (by omega), acc_11 (j := 6) (by omega), hs, hs]
    rw [hsF, hsF] at x; exact x
  · by_cases c : p = np
    · subst c
      unfold JP
      rw [acc_126, (eq p (Int.le_refl _)).2.1, acc_13 (Int.le_refl _), acc_13 (Int.le_refl _), hs, hs]
      exact ⟨hs1, hs2, fun z => by omega, fun z => by omega⟩
    · have x := J2 p p1 (by omega)
      unfold JP at x ⊢
      have o : p < np := by omega
      rw [acc_12 (j := 4) (p := p) (by omega) (by omega), acc_12 (j := 6) (p := p) (by omega) (by omega), acc_12 (j := 2) (p := p) (by omega) (by omega), acc_12 (j := 3) (p := p) (by omega) (by omega), acc_13 (by omega), acc_13 (by omega), hs, hs, e10, acc_11 (j := 4) (by omega)]
      rw [hsF, hsF, F13, F0] at x
      refine ⟨x.1, x.2.1, fun z => ?_, x.2.2.2⟩
      obtain ⟨y1, y2⟩ := x.2.2.1 z
      refine ⟨y1, ?_⟩
      rw [acc_11 (fun q => ?_)]
      · exact y2
      · rw [q.2, fin_11 (by omega)] at y1
        omega
  · have t : ∀ p, 0 ≤ p → p < np → acc A np m 12 6 p = 0 → fin_ A np 3 (fun q => A 12 6 q = 0 ∧ mt A np q 0) 12 6 p = 0 := fun p p1 p2 z => by
      rw [acc_12 (by omega) (by omega)] at z; exact z
    have t2 : ∀ q, 0 ≤ q → q < np → acc A np m 12 6 q = 0 → ¬ mt A np q 0 := fun q q1 q2 z hm => by
      have z1 := t q q1 q2 z
      rcases fin_126c (a := A) (np := np) (P := fun q => A 12 6 q = 0 ∧ mt A np q 0) q with ⟨-, y⟩ | y
      · omega
      · rw [fin_126p q1 q2 ⟨by omega, hm⟩] at z1; omega
    have hmA := (mt_c (eq p (by omega)) (eq q (by omega))).1 hmt
    by_cases c : p = np
    · subst c
      exact t2 q q1 (by omega) s2 hmA
    · by_cases c2 : q = np
      · subst c2
        have w := hI.2.2.2.2.2.1 p p1 (by omega)
        exact t2 p p1 (by omega) s1 (mt_s1 w.1 w.2.1.1 ht hmA)
      · exact J3 p q p1 (by omega) q1 (by omega) hne (t p p1 (by omega) s1) (t q q1 (by omega) s2) ((mt_c (fin_e p) (fin_e q)).2 hmA)
  · have x := hJ.2.2.2
    unfold JC at x ⊢
    rw [e13, cnt_c (P := fun m' => acc A np m 11 4 m' = 3) (Q := fun m => A 11 4 m = 3) nm.toNat (fun i _ _ => by rw [acc_11 (by omega), fin_11 (by omega)])]
    exact x
end J6
