/-! what is put together again behind a call; open, withdraw, machine, move, takes, lose -/
section C4
variable {a A B c c' b b' : AT} {r : Nat → Nat → Option Nat} {n : Nat → Nat} {nr nm np : Int}
theorem CI_fin {P : Int → Prop} {v : Int} (hv : 2 ≤ v ∧ v ≤ 4) (hI : CI a nr nm np) (hp : ∀ p, 0 ≤ p → p < np → P p → a 12 6 p = 0) : CI (fin_ a np v P) nr nm np := by
  obtain ⟨h1, h2, h3, h4, h5, h6, h7, h8⟩ := hI
  have e : ∀ t, t ≠ 11 → t ≠ 12 → fin_ a np v P t = a t := fun t t1 t2 => fin_o t1 t2
  have f0 := e 0 (by omega) (by omega)
  have f13 := e 13 (by omega) (by omega)
  have f11 : ∀ j m, j ≠ 5 → fin_ a np v P 11 j m = a 11 j m := fun j m hj => fin_11 hj m
  have f12 : ∀ j m, j ≠ 6 → fin_ a np v P 12 j m = a 12 j m := fun j m hj => fin_12 hj m
  have e5 : ∀ m, (∃ p, 0 ≤ p ∧ p < np ∧ P p ∧ a 12 2 p = m ∧ fin_ a np v P 11 5 m = -1) ∨ ((∀ p, 0 ≤ p → p < np → a 12 2 p = m → ¬ P p) ∧ fin_ a np v P 11 5 m = a 11 5 m) := by
    intro m
    by_cases q : ∃ p, 0 ≤ p ∧ p < np ∧ P p ∧ a 12 2 p = m
    · obtain ⟨p, p1, p2, p3, p4⟩ := q
      refine Or.inl ⟨p, p1, p2, p3, p4, ?_⟩
      unfold fin_
      rw [if_neg (fun z => absurd z.1 (by omega)), if_pos ⟨rfl, rfl, p, p1, p2, p3, p4⟩]
    · refine Or.inr ⟨fun p p1 p2 p3 p4 => q ⟨p, p1, p2, p4, p3⟩, ?_⟩
      unfold fin_
      rw [if_neg (fun z => absurd z.1 (by omega)), if_neg (fun z => q z.2.2)]
  have e6 : ∀ p, (0 ≤ p ∧ p < np ∧ P p ∧ fin_ a np v P 12 6 p = v) ∨ (¬ (0 ≤ p ∧ p < np ∧ P p) ∧ fin_ a np v P 12 6 p = a 12 6 p) := by
    intro p
    by_cases q : 0 ≤ p ∧ p < np ∧ P p
    · exact Or.inl ⟨q.1, q.2.1, q.2.2, fin_126p q.1 q.2.1 q.2.2⟩
    · refine Or.inr ⟨q, ?_⟩
      unfold fin_
      rw [if_neg (fun z => q z.2.2), if_neg (fun z => absurd z.1 (by omega))]
  refine ⟨CN_c (fun j _ => by rw [f0]) (e 1 (by omega) (by omega)) h1, CC_c (fun t t1 t2 => e t (by omega) (by omega)) h2, CD_c (by rw [f0]) (e 9 (by omega) (by omega)) h3, CRm_c2 (e 10 (by omega) (by omega)) h4, ?_, ?_, ?_, ?_⟩
  · intro m m1 m2
    obtain ⟨k1, k2, k3, k4, k5, k6, k7⟩ := h5 m m1 m2
    simp (disch := omega) only [f11]
    refine ⟨k1, k2, k3, k4, k5, ?_, k7⟩
    rcases e5 m with ⟨p, p1, p2, -, -, q⟩ | ⟨-, q⟩
    · rw [q]; omega
    · rw [q]; exact k6
  · intro p p1 p2
    obtain ⟨w1, w2, w3, w4, w5, w6, w7⟩ := h6 p p1 p2
    refine ⟨PW_c (fin_e p) w1, ?_, ?_, ?_, ?_, ?_, ?_⟩
    · simp (disch := omega) only [f12]; exact w2
    · simp (disch := omega) only [f12]; exact w3
    · simp (disch := omega) only [f12]; exact w4
    · simp (disch := omega) only [f12]; exact w5
    · simp (disch := omega) only [f12]; exact w6
    · rcases e6 p with ⟨-, -, -, q⟩ | ⟨-, q⟩
      · rw [q]; omega
      · rw [q]; exact w7
  · intro m m1 m2
    obtain ⟨l0, l1, l2, l3⟩ := h7 m m1 m2
    unfold CL1
    simp (disch := omega) only [f11, f12, f13, f0]
    rcases e5 m with ⟨p, p1, p2, p3, p4, q⟩ | ⟨qn, q⟩
    · have w := (h8 p p1 p2).2 (hp p p1 p2 p3)
      rw [p4] at w
      rw [q]
      exact ⟨fun z => ⟨(l0 z).1, (l0 z).2.1, fun y => by omega⟩, fun z => by omega, fun z => by omega, fun z => by omega⟩
    · rw [q]
      refine ⟨fun z => ⟨(l0 z).1, (l0 z).2.1, fun y => ?_⟩, fun z => ?_, l2, l3⟩
      · have w := (l0 z).2.2 y
        rcases e6 (a 11 5 m) with ⟨p1, p2, p3, -⟩ | ⟨-, q2⟩
        · exact absurd p3 (qn _ p1 p2 w.2)
        · rw [q2]; exact w
      · obtain ⟨w1, w2, w3, w4, w5⟩ := l1 z
        rcases e6 (a 11 5 m) with ⟨p1, p2, p3, -⟩ | ⟨-, q2⟩
        · exact absurd p3 (qn _ p1 p2 w4)
        · rw [q2]; exact ⟨w1, w2, w3, w4, w5⟩
  · intro p p1 p2
    obtain ⟨l1, l2⟩ := h8 p p1 p2
    unfold CL2
    simp (disch := omega) only [f11, f12, f13, f0]
    refine ⟨l1, fun z => ?_⟩
    rcases e6 p with ⟨-, -, -, q⟩ | ⟨qn, q⟩
    · omega
    · rw [q] at z
      obtain ⟨w1, w2, w3, w4⟩ := l2 z
      refine ⟨w1, w2, ?_, w4⟩
      rcases e5 (a 12 2 p) with ⟨p', k1, k2, k3, k4, -⟩ | ⟨-, q2⟩
      · have y := (h8 p' k1 k2).2 (hp p' k1 k2 k3)
        rw [k4, w3] at y
        have y3 := y.2.2.1
        rw [← y3] at k3
        exact absurd ⟨p1, p2, k3⟩ qn
      · rw [q2]; exact w3
theorem fin_1 {p v : Int} (h1 : 0 ≤ p) (h2 : p < np) : up (up a 12 6 p v) 11 5 (a 12 2 p) (-1) = fin_ a np v (fun q => q = p) := by
  funext t j m
  unfold up fin_
  by_cases c1 : t = 11 ∧ j = 5 ∧ m = a 12 2 p
  · rw [if_pos c1, if_neg (fun z => absurd (z.1.symm.trans c1.1) (by omega)), if_pos ⟨c1.1, c1.2.1, p, h1, h2, rfl, c1.2.2.symm⟩]
  · rw [if_neg c1]
    by_cases c2 : t = 12 ∧ j = 6 ∧ m = p
    · rw [if_pos c2, if_pos ⟨c2.1, c2.2.1, by omega, by omega, c2.2.2⟩]
    · rw [if_neg c2, if_neg (fun z => c2 ⟨z.1, z.2.1, z.2.2.2.2⟩), if_neg]
      rintro ⟨z1, z2, p', z3, z4, rfl, z5⟩
      exact c1 ⟨z1, z2, z5.symm⟩
end C4
