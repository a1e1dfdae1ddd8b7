/-! what holds between two calls -/
theorem up_t {a : AT} {t t' : Nat} {j m v : Int} (h : t' ≠ t) : up a t j m v t' = a t' := by
  funext j' m'
  simp only [up_e, h, false_and, ↓reduceIte]
theorem up_s (a : AT) (t : Nat) (j m v j' m' : Int) : up a t j m v t j' m' = if j' = j ∧ m' = m then v else a t j' m' := by
  simp only [up_e, true_and]
def CL1 (a : AT) (m : Int) : Prop :=
  (a 11 4 m = 0 → a 11 3 m < 100 ∧ 0 ≤ a 11 2 m ∧ (0 ≤ a 11 5 m → a 12 6 (a 11 5 m) = 0 ∧ a 12 2 (a 11 5 m) = m)) ∧
  (a 11 4 m = 1 → 0 ≤ a 11 2 m ∧ 0 ≤ a 11 5 m ∧ a 12 6 (a 11 5 m) = 1 ∧ a 12 2 (a 11 5 m) = m ∧ (a 12 3 (a 11 5 m) ≤ a 0 10 0 ∧ a 0 10 0 < a 12 3 (a 11 5 m) + a 12 4 (a 11 5 m)) ∧ a 11 3 m = a 13 (a 0 10 0 - a 12 3 (a 11 5 m)) (a 11 5 m)) ∧
  (a 11 4 m = 2 → 0 ≤ a 11 2 m ∧ a 11 5 m = -1 ∧ 100 ≤ a 11 3 m ∧ 0 ≤ a 11 6 m) ∧ (a 11 4 m = 3 → a 11 5 m = -1)
def CL2 (a : AT) (p : Int) : Prop := a 13 (a 12 4 p) p < 100 ∧ (a 12 6 p = 0 → a 0 10 0 < a 12 3 p ∧ a 11 4 (a 12 2 p) = 0 ∧ a 11 5 (a 12 2 p) = p ∧ a 11 3 (a 12 2 p) = a 13 0 p)
def CL (a : AT) (nm np : Int) : Prop := (∀ m, 0 ≤ m → m < nm → CL1 a m) ∧ (∀ p, 0 ≤ p → p < np → CL2 a p)
def CN (a : AT) (nr nm np : Int) : Prop := (a 0 6 0 = nr ∧ a 0 7 0 = nm ∧ a 0 8 0 = np) ∧ (0 ≤ a 0 10 0 ∧ a 0 10 0 ≤ 20000) ∧ (0 < nm → 0 < a 1 4 0)
def CI (a : AT) (nr nm np : Int) : Prop := CN a nr nm np ∧ CC a ∧ CD a ∧ CRm a nr ∧ CMa a nm np ∧ CP a nm np ∧ CL a nm np
def MSc (c b : AT) (nr nm np : Int) : Prop := c 20 1 0 = b 0 10 0 ∧ c 20 7 0 = nm ∧ c 20 15 0 = b 0 9 0 ∧ c 20 17 0 = np ∧ c 20 24 0 = nr ∧ c 20 26 0 = b 0 12 0 ∧ c 20 27 0 = b 0 11 0 ∧ c 20 28 0 = b 0 13 0 ∧ (∀ k, 0 ≤ k → k < b 0 9 0 → c 32 k 0 = b 9 k 0)
def MR (c b : AT) (nr nm np : Int) : Prop := MC c b ∧ MRm c b nr ∧ MP c b nm np ∧ MSc c b nr nm np
def GG (a : AT) (r : Nat → Nat → Option Nat) (n : Nat → Nat) : Prop := ∃ nr nm np, Sh r n nr nm np ∧ CI a nr nm np ∧ MR a a nr nm np
/-- the same paths below np -/
def EqQ (A a : AT) (np : Int) : Prop := ∀ p, p < np → (∀ j, A 12 j p = a 12 j p) ∧ (∀ k, A 13 k p = a 13 k p)
theorem EqQ.e {A a : AT} {np p : Int} (h : EqQ A a np) (hp : p < np) : EqP A a p := ⟨(h p hp).1 3, (h p hp).1 4, (h p hp).2⟩
section CG
variable {A a c' c b' b : AT} {nr nm np : Int}
theorem EqQ.of (h1 : A 12 = a 12) (h2 : A 13 = a 13) : EqQ A a np := fun p _ => ⟨fun j => by rw [h1], fun k => by rw [h2]⟩
theorem CD_c (h1 : A 0 9 0 = a 0 9 0) (h2 : A 9 = a 9) (h : CD a) : CD A := by
  unfold CD at h ⊢; rw [h1, h2]; exact h
theorem CMa_c (h1 : A 11 = a 11) (h : CMa a nm np) : CMa A nm np := by
  unfold CMa at h ⊢; rw [h1]; exact h
theorem CP_c (h1 : EqQ A a np) (h : CP a nm np) : CP A nm np := by
  intro p p1 p2
  obtain ⟨w1, w2, w3, w4, w5, w6, w7⟩ := h p p1 p2
  have e := h1.e p2
  have f := (h1 p p2).1
  refine ⟨PW_c e w1, ?_, ?_, ?_, ?_, ?_, ?_⟩
  all_goals (simp only [f]; assumption)
theorem CL_c (h0 : A 0 10 0 = a 0 10 0) (h1 : A 11 = a 11) (h2 : EqQ A a np) (hM : CMa a nm np) (h : CL a nm np) (hP : CP a nm np) : CL A nm np := by
  refine ⟨fun m m1 m2 => ?_, fun p p1 p2 => ?_⟩
  · have k := h.1 m m1 m2
    have hm := hM m m1 m2
    have e := h2 (a 11 5 m) hm.2.2.2.2.2.1.2
    unfold CL1 at k ⊢
    simp only [h0, h1, e.1, e.2]
    exact k
  · have k := h.2 p p1 p2
    have e := h2 p p2
    unfold CL2 at k ⊢
    simp only [h0, h1, e.1, e.2]
    exact k
theorem CN_c (h0 : ∀ j, j = 6 ∨ j = 7 ∨ j = 8 ∨ j = 10 → A 0 j 0 = a 0 j 0) (h1 : A 1 = a 1) (h : CN a nr nm np) : CN A nr nm np := by
  unfold CN at h ⊢
  rw [h0 6 (by omega), h0 7 (by omega), h0 8 (by omega), h0 10 (by omega), h1]; exact h
theorem CRm_c2 (h : A 10 = a 10) (hr : CRm a nr) : CRm A nr := CRm_c (fun j i => by rw [h]) hr
theorem CI_c (h : ∀ t, t < 14 → A t = a t) (hI : CI a nr nm np) : CI A nr nm np := by
  obtain ⟨h1, h2, h3, h4, h5, h6, h7⟩ := hI
  have q : EqQ A a np := EqQ.of (h 12 (by omega)) (h 13 (by omega))
  have e0 := h 0 (by omega)
  exact ⟨CN_c (fun j _ => by rw [e0]) (h 1 (by omega)) h1, CC_c (fun t t1 t2 => h t (by omega)) h2, CD_c (by rw [e0]) (h 9 (by omega)) h3, CRm_c2 (h 10 (by omega)) h4, CMa_c (h 11 (by omega)) h5, CP_c q h6, CL_c (by rw [e0]) (h 11 (by omega)) q h5 h7 h6⟩
theorem MC_c2 (h1 : ∀ t, 21 ≤ t → t ≤ 24 → c' t = c t) (h2 : c' 20 4 0 = c 20 4 0) (h3 : EqC b' b) (h : MC c b) : MC c' b' := by
  unfold MC at h ⊢
  simp only [isSp_c h3, h2, h3.e1, h3.e2, h3.e4, h3.e5, h1 21 (by omega) (by omega), h1 22 (by omega) (by omega), h1 23 (by omega) (by omega), h1 24 (by omega) (by omega)]
  exact h
theorem MRm_c (h1 : c' 39 = c 39) (h2 : b' 10 = b 10) (h : MRm c b nr) : MRm c' b' nr := by
  unfold MRm at h ⊢
  rw [h1, h2]; exact h
theorem MMa_c (h1 : ∀ t, 25 ≤ t → t ≤ 31 → c' t = c t) (h2 : b' 11 = b 11) (h : MMa c b nm) : MMa c' b' nm := by
  unfold MMa at h ⊢
  rw [h2, h1 25 (by omega) (by omega), h1 26 (by omega) (by omega), h1 27 (by omega) (by omega), h1 28 (by omega) (by omega), h1 29 (by omega) (by omega), h1 30 (by omega) (by omega), h1 31 (by omega) (by omega)]
  exact h
theorem MPs_c (hnp : np ≤ 40) (h1 : ∀ t, 33 ≤ t → t ≤ 37 → c' t = c t) (h3 : ∀ j, j < 3240 → c' 38 j 0 = c 38 j 0) (h2 : EqQ b' b np) (hP : CP b nm np) (h : MPs c b np) : MPs c' b' np := by
  obtain ⟨k1, k2⟩ := h
  have e37 := h1 37 (by omega) (by omega)
  refine ⟨fun p p1 p2 => ?_, fun p p1 p2 => by rw [e37]; exact k2 p p1 p2⟩
  obtain ⟨k3, k4, k5, k6⟩ := k1 p p1 p2
  have e := (h2 p p2).1
  have e13 := (h2 p p2).2
  have hw := (hP p p1 p2).1
  obtain ⟨q1, q2, q3⟩ := MPa_c (c' := c') (h1 34 (by omega) (by omega)) (h1 35 (by omega) (by omega)) h3 hw (by omega) k3
  refine ⟨⟨?_, ?_, ?_⟩, ?_, ?_, ?_⟩
  · rw [e]; exact q1
  · rw [e]; exact q2
  · rw [e]; simp only [e13]; exact q3
  · rw [e, h1 33 (by omega) (by omega)]; exact k4
  · rw [e, h1 36 (by omega) (by omega)]; exact k5
  · rw [e, e37]; exact k6
theorem MSc_c (h1 : ∀ j, 1 ≤ j → c' 20 j 0 = c 20 j 0) (h2 : c' 32 = c 32) (h3 : b' 0 = b 0) (h4 : b' 9 = b 9) (h : MSc c b nr nm np) : MSc c' b' nr nm np := by
  unfold MSc at h ⊢
  rw [h1 1 (by omega), h1 7 (by omega), h1 15 (by omega), h1 17 (by omega), h1 24 (by omega), h1 26 (by omega), h1 27 (by omega), h1 28 (by omega), h2, h3, h4]; exact h
theorem MR_c (hnp : np ≤ 40) (h1 : ∀ t, 21 ≤ t → t ≤ 39 → t ≠ 38 → c' t = c t) (h38 : ∀ j, j < 3240 → c' 38 j 0 = c 38 j 0) (h2 : ∀ j, 1 ≤ j → c' 20 j 0 = c 20 j 0) (h3 : ∀ t, t < 12 → b' t = b t) (h4 : EqQ b' b np) (hP : CP b nm np) (h : MR c b nr nm np) : MR c' b' nr nm np := by
  obtain ⟨k1, k2, ⟨k3, k4⟩, k5⟩ := h
  exact ⟨MC_c2 (fun t t1 t2 => h1 t (by omega) (by omega) (by omega)) (h2 4 (by omega)) (fun t t1 t2 => h3 t (by omega)) k1, MRm_c (h1 39 (by omega) (by omega) (by omega)) (h3 10 (by omega)) k2,
    ⟨MMa_c (fun t t1 t2 => h1 t (by omega) (by omega) (by omega)) (h3 11 (by omega)) k3, MPs_c hnp (fun t t1 t2 => h1 t (by omega) (by omega) (by omega)) h38 h4 hP k4⟩,
    MSc_c h2 (h1 32 (by omega) (by omega) (by omega)) (h3 0 (by omega)) (h3 9 (by omega)) k5⟩
/-- nothing of worth has changed -/
theorem GG_c {r : Nat → Nat → Option Nat} {n : Nat → Nat} (h1 : ∀ t, t < 40 → t ≠ 20 → A t = a t) (h2 : ∀ j, 1 ≤ j → A 20 j 0 = a 20 j 0) (h : GG a r n) : GG A r n := by
  obtain ⟨nr, nm, np, hS, hI, hM⟩ := h
  refine ⟨nr, nm, np, hS, CI_c (fun t t1 => h1 t (by omega) (by omega)) hI, MR_c hS.b.2.2.2 (fun t t1 t2 _ => h1 t (by omega) (by omega)) (fun j _ => by rw [h1 38 (by omega) (by omega)]) h2 (fun t t1 => h1 t (by omega) (by omega)) (EqQ.of (h1 12 (by omega) (by omega)) (h1 13 (by omega) (by omega))) hI.2.2.2.2.2.1 hM⟩
end CG
