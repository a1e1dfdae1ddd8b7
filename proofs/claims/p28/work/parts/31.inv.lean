/-! what holds between two calls -/
theorem up_t {a : AT} {t t' : Nat} {j m v : Int} (h : t' ≠ t) : up a t j m v t' = a t' := by
  funext j' m'
  simp only [up_e, h, false_and, ↓reduceIte]
theorem up_s (a : AT) (t : Nat) (j m v j' m' : Int) : up a t j m v t j' m' = if j' = j ∧ m' = m then v else a t j' m' := by
  simp only [up_e, true_and]
def CL1 (a : AT) (m : Int) : Prop :=
  (a 11 4 m = 0 → a 11 3 m < 100 ∧ 0 ≤ a 11 2 m ∧ (0 ≤ a 11 5 m → a 12 6 (a 11 5 m) = 0 ∧ a 12 2 (a 11 5 m) = m)) ∧
  (a 11 4 m = 1 → 0 ≤ a 11 2 m ∧ 0 ≤ a 11 5 m ∧ a 12 6 (a 11 5 m) = 1 ∧ a 12 2 (a 11 5 m) = m ∧ (a 12 3 (a 11 5 m) ≤ a 0 10 0 ∧ a 0 10 0 < a 12 3 (a 11 5 m) + a 12 4 (a 11 5 m)) ∧ a 11 3 m = a 13 (a 0 10 0 - a 12 3 (a 11 5 m)) (a 11 5 m)) ∧
  (a 11 4 m = 2 → 0 ≤ a 11 2 m ∧ a 11 5 m = -1 ∧ 100 ≤ a 11 3 m ∧ 0 ≤ a 11 6 m) ∧ (a 11 4 m = 3 → a 11 5 m = -1)
def CL2 (a : AT) (p : Int) : Prop := a 13 (a 12 4 p) p < 100 ∧ (a 12 6 p = 0 → a 0 10 0 < a 12 3 p ∧ a 11 4 (a 12 2 p) = 0 ∧ a 11 5 (a 12 2 p) = p ∧ a 11 3 (a 12 2 p) = a 13 0 p)
def CL (a : AT) (nm np : Int) : Prop := (∀ m, 0 ≤ m → m < nm → CL1 a m) ∧ (∀ p, 0 ≤ p → p < np → CL2 a p)
def CN (a : AT) (nr nm np : Int) : Prop := (a 0 6 0 = nr ∧ a 0 7 0 = nm ∧ a 0 8 0 = np) ∧ (0 ≤ a 0 10 0 ∧ a 0 10 0 ≤ 20000) ∧ (0 < nm → 0 < a 1 4 0)
def CI (a : AT) (nr nm np : Int) : Prop := CN a nr nm np ∧ CC a ∧ CD a ∧ CRm a nr ∧ CMa a nm np ∧ CP a nm np ∧ CL a nm np
/-- the same paths below np -/
def EqQ (A a : AT) (np : Int) : Prop := ∀ p, p < np → (∀ j, A 12 j p = a 12 j p) ∧ (∀ k, A 13 k p = a 13 k p)
theorem EqQ.e {A a : AT} {np p : Int} (h : EqQ A a np) (hp : p < np) : EqP A a p := ⟨(h p hp).1 3, (h p hp).1 4, (h p hp).2⟩
section CG
variable {A a c' c b' b : AT} {nr nm np : Int}
theorem EqQ.of (h1 : A 12 = a 12) (h2 : A 13 = a 13) : EqQ A a np := fun p _ => ⟨fun j => by rw [h1], fun k => by rw [h2]⟩
theorem CD_c (h1 : A 0 9 0 = a 0 9 0) (h2 : A 9 = a 9) (h : CD a) : CD A := by
  unfold CD at h ⊢; rw [h1, h2]; exact h
theorem CMa_c (h1 : A 11 = a 11) (h : CMa a nm np) : CMa A nm np := by
  unfold CMa at h ⊢; rw [h1]; exact h
theorem CP_c (h1 : EqQ A a np) (h : CP a nm np) : CP A nm np := by
  intro p p1 p2
  obtain ⟨w1, w2, w3, w4, w5, w6, w7⟩ := h p p1 p2
  have e := h1.e p2
  have f := (h1 p p2).1
  refine ⟨PW_c e w1, ?_, ?_, ?_, ?_, ?_, ?_⟩
  all_goals (simp only [f]; assumption)
theorem CL_c (h0 : A 0 10 0 = a 0 10 0) (h1 : A 11 = a 11) (h2 : EqQ A a np) (hM : CMa a nm np) (h : CL a nm np) (hP : CP a nm np) : CL A nm np := by
  refine ⟨fun m m1 m2 => ?_, fun p p1 p2 => ?_⟩
  · have k := h.1 m m1 m2
    have hm := hM m m1 m2
    have e := h2 (a 11 5 m) hm.2.2.2.2.2.1.2
    unfold CL1 at k ⊢
    simp only [h0, h1, e.1, e.2]
    exact k
  · have k := h.2 p p1 p2
    have e := h2 p p2
    unfold CL2 at k ⊢
    simp only [h0, h1, e.1, e.2]
    exact k
theorem CN_c (h0 : ∀ j, j = 6 ∨ j = 7 ∨ j = 8 ∨ j = 10 → A 0 j 0 = a 0 j 0) (h1 : A 1 = a 1) (h : CN a nr nm np) : CN A nr nm np := by
  unfold CN at h ⊢
  rw [h0 6 (by omega), h0 7 (by omega), h0 8 (by omega), h0 10 (by omega), h1]; exact h
theorem CRm_c2 (h : A 10 = a 10) (hr : CRm a nr) : CRm A nr := CRm_c (fun j i => by rw [h]) hr
theorem CI_c (h : ∀ t, t < 14 → A t = a t) (hI : CI a nr nm np) : CI A nr nm np := by
  obtain ⟨h1, h2, h3, h4, h5, h6, h7⟩ := hI
  have q : EqQ A a np := EqQ.of (h 12 (by omega)) (h 13 (by omega))
  have e0 := h 0 (by omega)
  exact ⟨CN_c (fun j _ => by rw [e0]) (h 1 (by omega)) h1, CC_c (fun t t1 t2 => h t (by omega)) h2, CD_c (by rw [e0]) (h 9 (by omega)) h3, CRm_c2 (h 10 (by omega)) h4, CMa_c (h 11 (by omega)) h5, CP_c q h6, CL_c (by rw [e0]) (h 11 (by omega)) q h5 h7 h6⟩
end CG
