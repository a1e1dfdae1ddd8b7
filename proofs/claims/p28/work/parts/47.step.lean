/-! a step of time: what becomes of each machine and path, as functions of the memory ahead of it -/
def tB1 (a : AT) (m : Int) : Int := if a 11 4 m = 0 then (if a 11 2 m + 5 < a 11 1 m then a 11 2 m + 5 else a 11 1 m) else a 11 2 m
def tS2 (a : AT) (m : Int) : Int := if a 11 4 m = 0 ∧ 0 ≤ a 11 5 m ∧ a 12 3 (a 11 5 m) = a 0 10 0 + 1 then 1 else a 11 4 m
def tZ2 (a : AT) (p : Int) : Int := if a 12 6 p = 0 ∧ a 12 3 p = a 0 10 0 + 1 then 1 else a 12 6 p
def tP3 (a : AT) (m : Int) : Int := if tS2 a m = 1 then (if a 12 3 (a 11 5 m) < a 0 10 0 + 1 then PL a (a 11 5 m) (a 0 10 0 + 1) else a 11 3 m) else if tS2 a m = 2 then hwd (a 11 3 m) (a 11 6 m) else a 11 3 m
def tB3 (a : AT) (m : Int) : Int := if (tS2 a m = 1 ∧ a 12 3 (a 11 5 m) < a 0 10 0 + 1) ∨ tS2 a m = 2 then tB1 a m - cost a 5 (a 11 3 m) (tP3 a m) else tB1 a m
def tS3 (a : AT) (m : Int) : Int := if (tS2 a m = 1 ∨ tS2 a m = 2) ∧ tB3 a m < 0 then 3 else tS2 a m
def tQ3 (a : AT) (m : Int) : Int := if tS3 a m = 3 then -1 else a 11 5 m
def tZ3 (a : AT) (p : Int) : Int := if tS2 a (a 12 2 p) = 1 ∧ a 11 5 (a 12 2 p) = p ∧ tS3 a (a 12 2 p) = 3 then 4 else tZ2 a p
def tUp (a : AT) (m : Int) : Prop := (tS3 a m = 1 ∨ tS3 a m = 2) ∧ 100 ≤ tP3 a m
def tTg (a : AT) (nm m : Int) : Prop := tUp a m ∧ ∃ j, 0 ≤ j ∧ j < nm ∧ (j ≠ m ∧ tUp a j ∧ tP3 a j = tP3 a m)
noncomputable def tS4 (a : AT) (nm m : Int) : Int := @ite Int (tTg a nm m) (Classical.propDecidable _) 3 (tS3 a m)
noncomputable def tQ4 (a : AT) (nm m : Int) : Int := if tS4 a nm m = 3 then -1 else a 11 5 m
noncomputable def tZ4 (a : AT) (nm p : Int) : Int := if tS2 a (a 12 2 p) = 1 ∧ a 11 5 (a 12 2 p) = p ∧ tS4 a nm (a 12 2 p) = 3 then 4 else tZ2 a p
def tEn (a : AT) (p : Int) : Prop := a 12 3 p + a 12 4 p ≤ a 0 10 0 + 1
noncomputable def tS5 (a : AT) (nm m : Int) : Int := if tS4 a nm m = 1 ∧ a 12 3 (a 11 5 m) + a 12 4 (a 11 5 m) ≤ a 0 10 0 + 1 then 0 else if tS4 a nm m = 2 ∧ tP3 a m < 100 then 0 else tS4 a nm m
noncomputable def tQ5 (a : AT) (nm m : Int) : Int := if tS4 a nm m = 3 ∨ (tS4 a nm m = 1 ∧ a 12 3 (a 11 5 m) + a 12 4 (a 11 5 m) ≤ a 0 10 0 + 1) then -1 else a 11 5 m
noncomputable def tZ5 (a : AT) (nm p : Int) : Int := if tS2 a (a 12 2 p) = 1 ∧ a 11 5 (a 12 2 p) = p then (if tS4 a nm (a 12 2 p) = 3 then 4 else if a 12 3 p + a 12 4 p ≤ a 0 10 0 + 1 then 2 else tZ2 a p) else tZ2 a p
theorem tS4_c (a : AT) (nm m : Int) : (tTg a nm m ∧ tS4 a nm m = 3) ∨ (¬ tTg a nm m ∧ tS4 a nm m = tS3 a m) := by
  unfold tS4
  by_cases c : tTg a nm m
  · exact Or.inl ⟨c, if_pos c⟩
  · exact Or.inr ⟨c, if_neg c⟩
def mx (i : Int) (f g : Int → Int) : Int → Int := fun m => if m < i then f m else g m
def mo (a : AT) (i : Int) (f g : Int → Int) : Int → Int := fun p => if a 12 2 p < i then f p else g p
theorem mx_self (i : Int) (f : Int → Int) : mx i f f = f := by funext m; unfold mx; split <;> rfl
theorem mo_self (a : AT) (i : Int) (f : Int → Int) : mo a i f f = f := by funext m; unfold mo; split <;> rfl
theorem mx_i (i : Int) (f g : Int → Int) : mx i f g i = g i := if_neg (by omega)
/-- the class's memory within a step -/
def CS (s a : AT) (nm np : Int) (B P S Q Z : Int → Int) : Prop :=
  (∀ t, t ≠ 0 → t ≠ 11 → t ≠ 12 → s t = a t) ∧ (∀ j, j ≠ 10 → j ≠ 13 → s 0 j 0 = a 0 j 0) ∧ s 0 10 0 = a 0 10 0 + 1 ∧
  (∀ m, 0 ≤ m → m < nm → s 11 0 m = a 11 0 m ∧ s 11 1 m = a 11 1 m ∧ s 11 2 m = B m ∧ s 11 3 m = P m ∧ s 11 4 m = S m ∧ s 11 5 m = Q m ∧ s 11 6 m = a 11 6 m) ∧
  (∀ j p, j ≠ 6 → s 12 j p = a 12 j p) ∧ (∀ p, 0 ≤ p → p < np → s 12 6 p = Z p)
section C15
variable {a s s' c c' x b : AT} {r : Nat → Nat → Option Nat} {n : Nat → Nat} {nr nm np : Int} {B P S Q Z B' P' S' Q' Z' : Int → Int}
theorem CS_c (h : CS s a nm np B P S Q Z) (h1 : ∀ m, 0 ≤ m → m < nm → B m = B' m ∧ P m = P' m ∧ S m = S' m ∧ Q m = Q' m) (h2 : ∀ p, 0 ≤ p → p < np → Z p = Z' p) : CS s a nm np B' P' S' Q' Z' := by
  obtain ⟨k1, k2, k3, k4, k5, k6⟩ := h
  refine ⟨k1, k2, k3, fun m m1 m2 => ?_, k5, fun p p1 p2 => ?_⟩
  · obtain ⟨e1, e2, e3, e4⟩ := h1 m m1 m2
    rw [← e1, ← e2, ← e3, ← e4]; exact k4 m m1 m2
  · rw [← h2 p p1 p2]; exact k6 p p1 p2
theorem CS_step {i : Int} (hi : 0 ≤ i) (h : CS s a nm np (mx i B' B) (mx i P' P) (mx i S' S) (mx i Q' Q) (mo a i Z' Z))
    (h1 : ∀ t, t ≠ 0 → t ≠ 11 → t ≠ 12 → s' t = s t) (h0 : ∀ j, j ≠ 13 → s' 0 j 0 = s 0 j 0) (h2 : ∀ j m, m ≠ i → s' 11 j m = s 11 j m)
    (h3 : s' 11 0 i = a 11 0 i ∧ s' 11 1 i = a 11 1 i ∧ s' 11 2 i = B' i ∧ s' 11 3 i = P' i ∧ s' 11 4 i = S' i ∧ s' 11 5 i = Q' i ∧ s' 11 6 i = a 11 6 i)
    (h4 : ∀ j p, j ≠ 6 → s' 12 j p = s 12 j p) (h5 : ∀ p, 0 ≤ p → p < np → a 12 2 p ≠ i → s' 12 6 p = s 12 6 p) (h6 : ∀ p, 0 ≤ p → p < np → a 12 2 p = i → s' 12 6 p = Z' p) :
    CS s' a nm np (mx (i + 1) B' B) (mx (i + 1) P' P) (mx (i + 1) S' S) (mx (i + 1) Q' Q) (mo a (i + 1) Z' Z) := by
  obtain ⟨k1, k2, k3, k4, k5, k6⟩ := h
  refine ⟨fun t t1 t2 t3 => by rw [h1 t t1 t2 t3, k1 t t1 t2 t3], fun j j1 j2 => by rw [h0 j j2, k2 j j1 j2], by rw [h0 10 (by omega), k3], fun m m1 m2 => ?_, fun j p j1 => by rw [h4 j p j1, k5 j p j1], fun p p1 p2 => ?_⟩
  · unfold mx at k4 ⊢
    by_cases e : m = i
    · subst e
      rw [if_pos (by omega), if_pos (by omega), if_pos (by omega), if_pos (by omega)]; exact h3
    · have y := k4 m m1 m2
      simp only [h2 _ m e]
      by_cases e2 : m < i
      · rw [if_pos e2, if_pos e2, if_pos e2, if_pos e2] at y
        rw [if_pos (by omega), if_pos (by omega), if_pos (by omega), if_pos (by omega)]; exact y
      · rw [if_neg e2, if_neg e2, if_neg e2, if_neg e2] at y
        rw [if_neg (by omega), if_neg (by omega), if_neg (by omega), if_neg (by omega)]; exact y
  · unfold mo at k6 ⊢
    by_cases e : a 12 2 p = i
    · rw [if_pos (by omega)]; exact h6 p p1 p2 e
    · have y := k6 p p1 p2
      rw [h5 p p1 p2 e]
      by_cases e2 : a 12 2 p < i
      · rw [if_pos e2] at y; rw [if_pos (by omega)]; exact y
      · rw [if_neg e2] at y; rw [if_neg (by omega)]; exact y
/-- a loop of the class over all machines -/
theorem loopC {L : Nat → Int → AT → Option MS} {kx : Int → Int} (hm : 0 ≤ nm ∧ nm ≤ 10) (ho : ∀ p, 0 ≤ p → p < np → 0 ≤ a 12 2 p ∧ a 12 2 p < nm) (h0 : CS s a nm np B P S Q Z) (hk : s 0 13 0 = kx 0)
    (st : ∀ n' i u, 0 ≤ i → i < nm → CS u a nm np (mx i B' B) (mx i P' P) (mx i S' S) (mx i Q' Q) (mo a i Z' Z) → u 0 13 0 = kx i → ∃ u', CS u' a nm np (mx (i + 1) B' B) (mx (i + 1) P' P) (mx (i + 1) S' S) (mx (i + 1) Q' Q) (mo a (i + 1) Z' Z) ∧ u' 0 13 0 = kx (i + 1) ∧ L (n' + 1) i u = L n' (i + 1) u')
    (kn : ∀ i, nm ≤ i → i < 10 → kx (i + 1) = kx i) (sk : ∀ n' i u, nm ≤ i → i < 10 → L (n' + 1) i u = L n' (i + 1) u) (fin : ∀ n' u, L (n' + 1) 10 u = some (VV u r n)) :
    ∃ u, L 4096 0 s = some (VV u r n) ∧ CS u a nm np B' P' S' Q' Z' ∧ u 0 13 0 = kx 10 := by
  have key := lpQ (L := L) (hi := 10) (Q := fun i u => 0 ≤ i ∧ CS u a nm np (mx i B' B) (mx i P' P) (mx i S' S) (mx i Q' Q) (mo a i Z' Z) ∧ u 0 13 0 = kx i) (R := fun v => ∃ u, v = VV u r n ∧ CS u a nm np B' P' S' Q' Z' ∧ u 0 13 0 = kx 10) ?_ ?_ 4096 0 s (by omega) (by omega) ⟨by omega, CS_c h0 (fun m m1 m2 => ?_) (fun p p1 p2 => ?_), hk⟩
  · obtain ⟨v, hv, u, rfl, k⟩ := key
    exact ⟨u, hv, k⟩
  · rintro n' i u h3 ⟨h4, h5, h6⟩
    left
    by_cases c1 : i < nm
    · obtain ⟨u', k1, k2, k3⟩ := st n' i u h4 c1 h5 h6
      exact ⟨u', ⟨by omega, k1, k2⟩, k3⟩
    · refine ⟨u, ⟨by omega, CS_c h5 (fun m m1 m2 => ?_) (fun p p1 p2 => ?_), by rw [kn i (by omega) h3]; exact h6⟩, sk n' i u (by omega) h3⟩
      · unfold mx
        rw [if_pos (by omega), if_pos (by omega), if_pos (by omega), if_pos (by omega), if_pos (by omega), if_pos (by omega), if_pos (by omega), if_pos (by omega)]
        exact ⟨rfl, rfl, rfl, rfl⟩
      · unfold mo
        have := ho p p1 p2
        rw [if_pos (by omega), if_pos (by omega)]
  · rintro n' u ⟨h4, h5, h6⟩
    refine ⟨_, fin n' u, u, rfl, CS_c h5 (fun m m1 m2 => ?_) (fun p p1 p2 => ?_), h6⟩
    · unfold mx
      rw [if_pos (by omega), if_pos (by omega), if_pos (by omega), if_pos (by omega)]
      exact ⟨rfl, rfl, rfl, rfl⟩
    · unfold mo
      have := ho p p1 p2
      rw [if_pos (by omega)]
  · unfold mx
    rw [if_neg (by omega), if_neg (by omega), if_neg (by omega), if_neg (by omega)]
    exact ⟨rfl, rfl, rfl, rfl⟩
  · unfold mo
    have := ho p p1 p2
    rw [if_neg (by omega)]
/-- what is known of a machine in a step -/
theorem tF (hI : CI a nr nm np) {m : Int} (m1 : 0 ≤ m) (m2 : m < nm) :
    (0 ≤ tB1 a m ∨ (a 11 4 m = 3 ∧ -100 ≤ tB1 a m)) ∧ tB1 a m ≤ 200 ∧
    (tS2 a m = 0 ∨ tS2 a m = 1 ∨ tS2 a m = 2 ∨ tS2 a m = 3) ∧
    (tS2 a m = 0 → a 11 4 m = 0 ∧ a 11 3 m < 100 ∧ (0 ≤ a 11 5 m → a 12 6 (a 11 5 m) = 0 ∧ a 12 2 (a 11 5 m) = m ∧ a 12 3 (a 11 5 m) ≠ a 0 10 0 + 1)) ∧
    (tS2 a m = 1 → 0 ≤ tB1 a m ∧ 0 ≤ a 11 5 m ∧ a 11 5 m < np ∧ a 12 2 (a 11 5 m) = m ∧ PW a (a 11 5 m) ∧ tZ2 a (a 11 5 m) = 1 ∧ (a 12 3 (a 11 5 m) ≤ a 0 10 0 + 1 ∧ a 0 10 0 + 1 ≤ a 12 3 (a 11 5 m) + a 12 4 (a 11 5 m)) ∧ tP3 a m = a 13 (a 0 10 0 + 1 - a 12 3 (a 11 5 m)) (a 11 5 m)) ∧
    (tS2 a m = 2 → a 11 4 m = 2 ∧ 0 ≤ tB1 a m ∧ a 11 5 m = -1 ∧ 100 ≤ a 11 3 m ∧ (0 ≤ a 11 6 m ∧ a 11 6 m < 100)) ∧
    (tS2 a m = 3 → a 11 4 m = 3 ∧ a 11 5 m = -1) ∧
    (0 ≤ tP3 a m ∧ tP3 a m < 500) ∧ (-100 ≤ tB3 a m ∧ tB3 a m ≤ 200) ∧ (tB3 a m < 0 → tS2 a m = 1 ∨ tS2 a m = 2 ∨ tS2 a m = 3) := by
  obtain ⟨⟨⟨hnr, hnm, hnp⟩, hnow, hns⟩, hC, hD, hR, hMa, hP, hL1, hL2⟩ := hI
  obtain ⟨w0, w1, w2, w3, w4, w5, w6⟩ := hMa m m1 m2
  obtain ⟨l0, l1, l2, l3⟩ := hL1 m m1 m2
  have g0 : (0 ≤ tB1 a m ∨ (a 11 4 m = 3 ∧ -100 ≤ tB1 a m)) ∧ tB1 a m ≤ 200 := by
    rcases (by omega : a 11 4 m = 0 ∨ a 11 4 m = 1 ∨ a 11 4 m = 2 ∨ a 11 4 m = 3) with e | e | e | e
    · have := l0 e; unfold tB1; omega
    · have := l1 e; unfold tB1; omega
    · have := l2 e; unfold tB1; omega
    · unfold tB1; omega
  have g1 : tS2 a m = 0 ∨ tS2 a m = 1 ∨ tS2 a m = 2 ∨ tS2 a m = 3 := by unfold tS2; omega
  have f0 : tS2 a m = 0 → a 11 4 m = 0 ∧ a 11 3 m < 100 ∧ (0 ≤ a 11 5 m → a 12 6 (a 11 5 m) = 0 ∧ a 12 2 (a 11 5 m) = m ∧ a 12 3 (a 11 5 m) ≠ a 0 10 0 + 1) := fun z => by
    by_cases c : a 11 4 m = 0 ∧ 0 ≤ a 11 5 m ∧ a 12 3 (a 11 5 m) = a 0 10 0 + 1
    · unfold tS2 at z; rw [if_pos c] at z; omega
    · unfold tS2 at z; rw [if_neg c] at z
      have := l0 z
      refine ⟨z, this.1, fun y => ⟨(this.2.2 y).1, (this.2.2 y).2, fun q => c ⟨z, y, q⟩⟩⟩
  have f1 : tS2 a m = 1 → 0 ≤ tB1 a m ∧ 0 ≤ a 11 5 m ∧ a 11 5 m < np ∧ a 12 2 (a 11 5 m) = m ∧ PW a (a 11 5 m) ∧ tZ2 a (a 11 5 m) = 1 ∧ (a 12 3 (a 11 5 m) ≤ a 0 10 0 + 1 ∧ a 0 10 0 + 1 ≤ a 12 3 (a 11 5 m) + a 12 4 (a 11 5 m)) ∧ tP3 a m = a 13 (a 0 10 0 + 1 - a 12 3 (a 11 5 m)) (a 11 5 m) := fun z => by
    have zz := z
    by_cases c : a 11 4 m = 0 ∧ 0 ≤ a 11 5 m ∧ a 12 3 (a 11 5 m) = a 0 10 0 + 1
    · have y := l0 c.1
      have y2 := y.2.2 c.2.1
      have hp := hP _ c.2.1 w5.2
      have pl := hp.1.2.1
      have h2 := (hL2 _ c.2.1 w5.2).2 y2.1
      rw [y2.2] at h2
      refine ⟨by omega, c.2.1, w5.2, y2.2, hp.1, ?_, by omega, ?_⟩
      · unfold tZ2; rw [if_pos ⟨y2.1, c.2.2⟩]
      · unfold tP3
        rw [if_pos zz, if_neg (by omega), c.2.2, Int.sub_self]; exact h2.2.2.2
    · have e : a 11 4 m = 1 := by unfold tS2 at z; rw [if_neg c] at z; exact z
      have y := l1 e
      have hp := hP _ y.2.1 w5.2
      refine ⟨by omega, y.2.1, w5.2, y.2.2.2.1, hp.1, ?_, by omega, ?_⟩
      · unfold tZ2; rw [if_neg (by omega)]; exact y.2.2.1
      · unfold tP3 PL
        rw [if_pos zz, if_pos (by omega)]
        exact PO_in (by omega) (by omega)
  have f2 : tS2 a m = 2 → a 11 4 m = 2 ∧ 0 ≤ tB1 a m ∧ a 11 5 m = -1 ∧ 100 ≤ a 11 3 m ∧ (0 ≤ a 11 6 m ∧ a 11 6 m < 100) := fun z => by
    have e : a 11 4 m = 2 := by unfold tS2 at z; omega
    have y := l2 e
    exact ⟨e, by omega, y.2.1, y.2.2.1, y.2.2.2, w6.2⟩
  have f3 : tS2 a m = 3 → a 11 4 m = 3 ∧ a 11 5 m = -1 := fun z => by
    have e : a 11 4 m = 3 := by unfold tS2 at z; omega
    exact ⟨e, l3 e⟩
  have gP : 0 ≤ tP3 a m ∧ tP3 a m < 500 := by
    rcases g1 with e | e | e | e
    · unfold tP3; omega
    · have y := f1 e
      have := y.2.2.2.2.1.2.2 (a 0 10 0 + 1 - a 12 3 (a 11 5 m)) (by omega) (by omega)
      omega
    · have y := f2 e
      have := hwd_b (x := a 11 3 m) (g := a 11 6 m) (by omega) (by omega) y.2.2.2.2.1 y.2.2.2.2.2
      unfold tP3
      rw [if_neg (by omega), if_pos e]; exact this
    · unfold tP3; omega
  have gc := cost_b hC (t := 5) (Or.inr rfl) (p := a 11 3 m) (q := tP3 a m) gP.1 gP.2
  have gB : (-100 ≤ tB3 a m ∧ tB3 a m ≤ 200) ∧ (tB3 a m < 0 → tS2 a m = 1 ∨ tS2 a m = 2 ∨ tS2 a m = 3) := by
    generalize hcc : cost a 5 (a 11 3 m) (tP3 a m) = cc at *
    rcases g1 with e | e | e | e
    · have y := f0 e
      have eb : tB3 a m = tB1 a m := if_neg (by omega)
      omega
    · have y := f1 e
      unfold tB3; rw [hcc]; omega
    · have y := f2 e
      unfold tB3; rw [hcc]; omega
    · have eb : tB3 a m = tB1 a m := if_neg (by omega)
      omega
  exact ⟨g0.1, g0.2, g1, f0, f1, f2, f3, gP, gB.1, gB.2⟩
end C15
