/-! file -/
section C10
variable {a A B T c c' b b' : AT} {r : Nat → Nat → Option Nat} {n : Nat → Nat} {nr nm np nq : Int}
theorem Vd0 {q m cz : Int} (h : Vd T A nr q m 0 cz) : T 11 4 m = 0 ∧ T 11 5 m = -1 ∧ lay_ T (T 11 3 m) = -1 ∧ Laid A T q (T 11 3 m) := by
  rcases h with ⟨_, h, _⟩ | ⟨c1, ⟨_, h, _⟩ | ⟨c2, ⟨_, h, _⟩ | ⟨c3, ⟨_, h, _⟩ | ⟨c4, hL, h⟩⟩⟩⟩
  · omega
  · omega
  · omega
  · omega
  · exact ⟨c1, c2, c4, hL⟩
theorem acc_t {m : Int} {t : Nat} (h0 : t ≠ 0) (h1 : t ≠ 11) (h2 : t ≠ 12) (h3 : t ≠ 13) : acc A np m t = A t := by
  unfold acc
  rw [zr_t h3, zr_t h2, up_t h0, up_t h1, up_t h2, up_t h0, fin_o h1 h2]
theorem acc_0 {m j : Int} (h8 : j ≠ 8) (h9 : j ≠ 9) : acc A np m 0 j 0 = A 0 j 0 := by
  unfold acc
  rw [zr_t (by omega), zr_t (by omega), up_s, if_neg (by omega), up_t (by omega), up_t (by omega), up_s, if_neg (by omega), fin_o (by omega) (by omega)]
theorem acc_08 {m : Int} : acc A np m 0 8 0 = np + 1 := by
  unfold acc
  rw [zr_t (by omega), zr_t (by omega), up_s, if_neg (by omega), up_t (by omega), up_t (by omega), up_s, if_pos ⟨rfl, rfl⟩]
theorem acc_09 {m : Int} : acc A np m 0 9 0 = 0 := by
  unfold acc
  rw [zr_t (by omega), zr_t (by omega), up_s, if_pos ⟨rfl, rfl⟩]
theorem acc_11 {m j i : Int} (h : ¬ (j = 5 ∧ i = m)) : acc A np m 11 j i = fin_ A np 3 (fun q => A 12 6 q = 0 ∧ mt A np q 0) 11 j i := by
  unfold acc
  rw [zr_t (by omega), zr_t (by omega), up_t (by omega), up_s, if_neg h, up_t (by omega), up_t (by omega)]
theorem acc_115 {m : Int} : acc A np m 11 5 m = np := by
  unfold acc
  rw [zr_t (by omega), zr_t (by omega), up_t (by omega), up_s, if_pos ⟨rfl, rfl⟩]
theorem acc_12 {m j p : Int} (hp : p ≤ np) (h : ¬ (j = 6 ∧ p = np)) : acc A np m 12 j p = fin_ A np 3 (fun q => A 12 6 q = 0 ∧ mt A np q 0) 12 j p := by
  unfold acc
  rw [zr_t (by omega), zr_e, if_neg (by omega), up_t (by omega), up_t (by omega), up_s, if_neg h, up_t (by omega)]
theorem acc_126 {m : Int} : acc A np m 12 6 np = 0 := by
  unfold acc
  rw [zr_t (by omega), zr_e, if_neg (by omega), up_t (by omega), up_t (by omega), up_s, if_pos ⟨rfl, rfl⟩]
theorem acc_13 {m k p : Int} (hp : p ≤ np) : acc A np m 13 k p = A 13 k p := by
  unfold acc
  rw [zr_e, if_neg (by omega), zr_t (by omega), up_t (by omega), up_t (by omega), up_t (by omega), up_t (by omega), fin_o (by omega) (by omega)]
theorem CI_acc {m : Int} (hI : CI A nr nm np) (hp : 0 ≤ np ∧ np < 40) (m1 : 0 ≤ m) (m2 : m < nm) (hw : PW A np) (ht : 1 ≤ A 12 3 np ∧ A 12 3 np ≤ 20200) (hd : 1 ≤ A 12 4 np) (h1 : A 12 1 np = np) (h2 : A 12 2 np = m) (h5 : 0 ≤ A 12 5 np ∧ A 12 5 np ≤ 3)
    (hst : A 11 4 m = 0) (hpa : A 11 5 m = -1) (hg : A 13 (A 12 4 np) np < 100) (hn : A 0 10 0 < A 12 3 np) (hpl : A 11 3 m = A 13 0 np) : CI (acc A np m) nr nm (np + 1) := by
  have hF := CI_fin (a := A) (v := 3) (P := fun q => A 12 6 q = 0 ∧ mt A np q 0) (by omega) hI (fun p _ _ y => y.1)
  have f12 : ∀ j p, j ≠ 6 → fin_ A np 3 (fun q => A 12 6 q = 0 ∧ mt A np q 0) 12 j p = A 12 j p := fun j p hj => fin_12 hj p
  have f11 : ∀ j p, j ≠ 5 → fin_ A np 3 (fun q => A 12 6 q = 0 ∧ mt A np q 0) 11 j p = A 11 j p := fun j p hj => fin_11 hj p
  have fm : fin_ A np 3 (fun q => A 12 6 q = 0 ∧ mt A np q 0) 11 5 m = -1 := by
    unfold fin_
    rw [if_neg (fun z => absurd z.1 (by omega))]
    split
    · rfl
    · exact hpa
  obtain ⟨k1, k2, k3, k4, k5, k6, k7⟩ := hI
  obtain ⟨l1, l2, l3, l4, l5, l6, l7⟩ := hF
  have e13 : ∀ k p, p ≤ np → acc A np m 13 k p = A 13 k p := fun k p hp => acc_13 hp
  have eF13 : fin_ A np 3 (fun q => A 12 6 q = 0 ∧ mt A np q 0) 13 = A 13 := fin_o (by omega) (by omega)
  have eF0 : fin_ A np 3 (fun q => A 12 6 q = 0 ∧ mt A np q 0) 0 = A 0 := fin_o (by omega) (by omega)
  have g12 : ∀ j p, p ≤ np → j ≠ 6 → acc A np m 12 j p = A 12 j p := fun j p hp hj => by rw [acc_12 hp (by omega), f12 j p hj]
  have g11 : ∀ j i, j ≠ 5 → acc A np m 11 j i = A 11 j i := fun j i hj => by rw [acc_11 (by omega), f11 j i hj]
  have g10 : acc A np m 0 10 0 = A 0 10 0 := acc_0 (by omega) (by omega)
  have st := k5 m m1 m2
  have stL := (k7.1 m m1 m2).1 hst
  refine ⟨⟨⟨?_, ?_, acc_08⟩, ?_, ?_⟩, CC_c (fun t t1 t2 => acc_t (by omega) (by omega) (by omega) (by omega)) k2, ⟨?_, fun k j1 j2 => ?_⟩, CRm_c2 (acc_t (by omega) (by omega) (by omega) (by omega)) k4, fun i i1 i2 => ?_, fun p p1 p2 => ?_, fun i i1 i2 => ?_, fun p p1 p2 => ?_⟩
  · rw [acc_0 (by omega) (by omega)]; exact k1.1.1
  · rw [acc_0 (by omega) (by omega)]; exact k1.1.2.1
  · rw [g10]; exact k1.2.1
  · rw [acc_t (by omega) (by omega) (by omega) (by omega)]; exact k1.2.2
  · rw [acc_09]; omega
  · rw [acc_09] at j2; omega
  · have x := l5 i i1 i2
    simp (disch := omega) only [f11] at x
    simp (disch := omega) only [g11]
    refine ⟨x.1, x.2.1, x.2.2.1, x.2.2.2.1, x.2.2.2.2.1, ?_, x.2.2.2.2.2.2⟩
    by_cases e : i = m
    · rw [e, acc_115]; omega
    · rw [acc_11 (by omega)]; have := x.2.2.2.2.2.1; omega
  · by_cases e : p = np
    · subst e
      refine ⟨PW_c (a := acc A p m) (b := A) ⟨g12 3 p (by omega) (by omega), g12 4 p (by omega) (by omega), fun k => e13 k p (by omega)⟩ hw, ?_, ?_, ?_, ?_, ?_, ?_⟩
      · rw [g12 3 p (by omega) (by omega)]; exact ht
      · rw [g12 4 p (by omega) (by omega)]; exact hd
      · rw [g12 1 p (by omega) (by omega)]; exact h1
      · rw [g12 2 p (by omega) (by omega)]; omega
      · rw [g12 5 p (by omega) (by omega)]; exact h5
      · rw [acc_126]; omega
    · obtain ⟨w1, w2, w3, w4, w5, w6, w7⟩ := l6 p p1 (by omega)
      simp (disch := omega) only [f12] at w2 w3 w4 w5 w6
      obtain ⟨y1, -⟩ := k6 p p1 (by omega)
      refine ⟨PW_c (a := acc A np m) (b := A) ⟨g12 3 p (by omega) (by omega), g12 4 p (by omega) (by omega), fun k => e13 k p (by omega)⟩ y1, ?_, ?_, ?_, ?_, ?_, ?_⟩
      · rw [g12 3 p (by omega) (by omega)]; exact w2
      · rw [g12 4 p (by omega) (by omega)]; exact w3
      · rw [g12 1 p (by omega) (by omega)]; exact w4
      · rw [g12 2 p (by omega) (by omega)]; exact w5
      · rw [g12 5 p (by omega) (by omega)]; exact w6
      · rw [acc_12 (by omega) (by omega)]; exact w7
  · by_cases e : i = m
    · subst e
      unfold CL1
      rw [acc_115]
      simp (disch := omega) only [g11, g12, acc_126, h2]
      exact ⟨fun _ => ⟨stL.1, stL.2.1, fun _ => ⟨trivial, trivial⟩⟩, fun z => by omega, fun z => by omega, fun z => by omega⟩
    · have x := l7.1 i i1 i2
      have xb := (l5 i i1 i2).2.2.2.2.2.1
      unfold CL1 at x ⊢
      rw [acc_11 (j := 5) (by omega), acc_12 (j := 6) (by omega) (by omega), e13 _ _ (by omega)]
      rw [eF0, eF13] at x
      simp (disch := omega) only [g11, g12, g10]
      simp (disch := omega) only [f11, f12] at x
      exact x
  · by_cases e : p = np
    · subst e
      unfold CL2
      simp (disch := omega) only [g12, g10, g11, e13, acc_126, h2, acc_115]
      exact ⟨hg, fun _ => ⟨hn, hst, trivial, hpl⟩⟩
    · have x := l7.2 p p1 (by omega)
      unfold CL2 at x ⊢
      rw [acc_12 (j := 6) (by omega) (by omega)]
      rw [eF0, eF13] at x
      simp (disch := omega) only [f11, f12] at x
      simp (disch := omega) only [g11, g12, g10, e13]
      refine ⟨x.1, fun z => ?_⟩
      have y := x.2 z
      have e2 : A 12 2 p ≠ m := fun e2 => by rw [e2, fm] at y; omega
      rw [acc_11 (by omega)]
      exact y
end C10
