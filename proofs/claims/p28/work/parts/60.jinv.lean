/-! THE PROPERTY'S OWN MATHEMATICS: what holds between two rounds of the law -/
/-- the four spots -/
def SPS (a : AT) : Prop := a 1 4 0 = 4 ∧ a 3 0 0 = 3 ∧ a 3 1 0 = 27 ∧ a 3 2 0 = 50 ∧ a 3 3 0 = 96
def JM (a : AT) (m : Int) : Prop := a 11 2 m ≤ a 11 1 m ∧ (a 11 4 m = 0 → isSp a (a 11 3 m)) ∧ (a 11 4 m = 2 → isSp a (a 11 6 m))
def JP (a : AT) (p : Int) : Prop := isSp a (a 13 0 p) ∧ isSp a (a 13 (a 12 4 p) p) ∧ (a 12 6 p = 1 → a 11 4 (a 12 2 p) = 1 ∧ a 11 5 (a 12 2 p) = p) ∧ (a 12 6 p = 2 → a 12 3 p + a 12 4 p ≤ a 0 10 0)
def JX (a : AT) (np : Int) : Prop := ∀ p q, 0 ≤ p → p < np → 0 ≤ q → q < np → p ≠ q → a 12 6 p = 0 → a 12 6 q = 0 → ¬ mt a p q 0
def JC (a : AT) (nm : Int) : Prop := 0 ≤ a 0 13 0 ∧ a 0 13 0 ≤ cnt (fun m => a 11 4 m = 3) nm.toNat
def CJ (a : AT) (nm np : Int) : Prop := (∀ m, 0 ≤ m → m < nm → JM a m) ∧ (∀ p, 0 ≤ p → p < np → JP a p) ∧ JX a np ∧ JC a nm
/-- the law's own rows: the spots, what the machines hold when full -/
def LA (a : AT) (nm : Int) : Prop := (a 50 0 0 = 3 ∧ a 50 1 0 = 27 ∧ a 50 2 0 = 50 ∧ a 50 3 0 = 96) ∧ ∀ m, 0 ≤ m → m < nm → a 51 m 0 = a 11 1 m
/-- what holds behind k rounds -/
def Lw (a : AT) (nr nm np k : Int) : Prop := CI a nr nm np ∧ CJ a nm np ∧ SPS a ∧ LA a nm ∧ (0 ≤ a 0 11 0 ∧ a 0 11 0 ≤ k) ∧ a 0 10 0 ≤ 9 * k ∧ (-1 ≤ a 0 12 0 ∧ a 0 12 0 ≤ 100)
section J1
variable {a A : AT} {nr nm np k : Int}
theorem SPS.i (h : SPS a) (c : Int) : isSp a c ↔ (c = 3 ∨ c = 27 ∨ c = 50 ∨ c = 96) := by
  obtain ⟨h0, h1, h2, h3, h4⟩ := h
  constructor
  · rintro ⟨i, i1, i2, e⟩
    rcases (show i = 0 ∨ i = 1 ∨ i = 2 ∨ i = 3 by omega) with rfl | rfl | rfl | rfl <;> omega
  · rintro (rfl | rfl | rfl | rfl)
    · exact ⟨0, by omega, by omega, h1⟩
    · exact ⟨1, by omega, by omega, h2⟩
    · exact ⟨2, by omega, by omega, h3⟩
    · exact ⟨3, by omega, by omega, h4⟩
theorem SPS_c (h1 : A 1 = a 1) (h3 : A 3 = a 3) (h : SPS a) : SPS A := by
  unfold SPS; rw [h1, h3]; exact h
theorem LA_c (h0 : A 50 = a 50) (h1 : A 51 = a 51) (h2 : ∀ m, 0 ≤ m → m < nm → A 11 1 m = a 11 1 m) (h : LA a nm) : LA A nm :=
  ⟨by rw [h0]; exact h.1, fun m m1 m2 => by rw [h1, h2 m m1 m2]; exact h.2 m m1 m2⟩
theorem mt_s1 {p q : Int} (hp : PW a p) (h1 : 1 ≤ a 12 3 p) (h2 : 1 ≤ a 12 3 q) (h : mt a p q 0) : mt a q p 0 := by
  obtain ⟨k, k1, k2, k3, k4, k5⟩ := h
  have hP := PL_at (a := a) (p := p) (k := k) k1 (by omega)
  obtain ⟨t, ht, e⟩ : ∃ t, (t = a 12 3 p + k - 1 ∨ t = a 12 3 p + k ∨ t = a 12 3 p + k + 1) ∧ PL a q t = a 13 k p := by
    rcases k5 with ⟨-, e⟩ | e | e
    · exact ⟨_, Or.inl rfl, e⟩
    · exact ⟨_, Or.inr (Or.inl rfl), e⟩
    · exact ⟨_, Or.inr (Or.inr rfl), e⟩
  obtain ⟨i1, i2⟩ := PL_in (a := a) (p := q) (t := t) (by omega)
  refine ⟨t - a 12 3 q, i1.1, by omega, by omega, by omega, ?_⟩
  have e2 : a 12 3 q + (t - a 12 3 q) = t := by omega
  have e3 : a 13 (t - a 12 3 q) q = a 13 k p := by omega
  rw [e2, e3]
  rcases ht with rfl | rfl | rfl
  · refine Or.inr (Or.inr ?_)
    rw [show a 12 3 p + k - 1 + 1 = a 12 3 p + k by omega]; exact hP
  · exact Or.inr (Or.inl hP)
  · refine Or.inl ⟨by omega, ?_⟩
    rw [show a 12 3 p + k + 1 - 1 = a 12 3 p + k by omega]; exact hP
theorem mt_s {p q : Int} (hp : PW a p) (hq : PW a q) (h1 : 1 ≤ a 12 3 p) (h2 : 1 ≤ a 12 3 q) : mt a p q 0 ↔ mt a q p 0 := ⟨mt_s1 hp h1 h2, mt_s1 hq h2 h1⟩
theorem cnt_c {P Q : Int → Prop} : ∀ (k : Nat), (∀ i : Int, 0 ≤ i → i < k → (P i ↔ Q i)) → cnt P k = cnt Q k
  | 0, _ => rfl
  | k + 1, h => by
    show cnt P k + cb (P k) = cnt Q k + cb (Q k)
    rw [cnt_c k (fun i i1 i2 => h i i1 (by omega)), cb_c (h k (by omega) (by omega))]
theorem cnt_le {P Q : Int → Prop} : ∀ (k : Nat), (∀ i : Int, 0 ≤ i → i < k → P i → Q i) → cnt P k ≤ cnt Q k
  | 0, _ => Int.le_refl _
  | k + 1, h => by
    have ih := cnt_le (P := P) (Q := Q) k (fun i i1 i2 => h i i1 (by omega))
    show cnt P k + cb (P k) ≤ cnt Q k + cb (Q k)
    by_cases c : P k
    · rw [cb_t c, cb_t (h k (by omega) (by omega) c)]; omega
    · rw [cb_f c]
      rcases cb_01 (Q k) with e | e <;> omega
/-- the property's own invariant over a memory that is the same where it matters -/
theorem CJ_c (h0 : A 0 10 0 = a 0 10 0) (h13 : A 0 13 0 = a 0 13 0) (hs : ∀ c, isSp A c ↔ isSp a c) (h11 : ∀ m, 0 ≤ m → m < nm → ∀ j, A 11 j m = a 11 j m) (ho : ∀ p, 0 ≤ p → p < np → 0 ≤ a 12 2 p ∧ a 12 2 p < nm) (q : EqQ A a np) (h : CJ a nm np) : CJ A nm np := by
  obtain ⟨k1, k2, k3, k4⟩ := h
  refine ⟨fun m m1 m2 => ?_, fun p p1 p2 => ?_, fun p p' p1 p2 p3 p4 p5 p6 p7 p8 => ?_, ?_⟩
  · have x := k1 m m1 m2
    have e := h11 m m1 m2
    unfold JM at x ⊢
    simp only [e, hs]; exact x
  · have x := k2 p p1 p2
    have e := q p p2
    have o := ho p p1 p2
    have e11 := h11 (a 12 2 p) o.1 o.2
    unfold JP at x ⊢
    simp only [e.1, e.2, e11, hs, h0]; exact x
  · have e := (q p p2).1 6
    have e' := (q p' p4).1 6
    exact k3 p p' p1 p2 p3 p4 p5 (by rw [← e]; exact p6) (by rw [← e']; exact p7) ((mt_c (q.e p2) (q.e p4)).1 p8)
  · unfold JC at k4 ⊢
    rw [h13, cnt_c (P := fun m => A 11 4 m = 3) (Q := fun m => a 11 4 m = 3) nm.toNat (fun i i1 i2 => by rw [h11 i i1 (by omega) 4])]
    exact k4
theorem Lw.own (h : Lw a nr nm np k) : ∀ p, 0 ≤ p → p < np → 0 ≤ a 12 2 p ∧ a 12 2 p < nm := fun p p1 p2 => (h.1.2.2.2.2.2.1 p p1 p2).2.2.2.2.1
theorem Lw.mono {k' : Int} (hk : k ≤ k') (h : Lw a nr nm np k) : Lw a nr nm np k' := by
  obtain ⟨h1, h2, h3, h4, h5, h6, h7⟩ := h
  exact ⟨h1, h2, h3, h4, ⟨h5.1, by omega⟩, by omega, h7⟩
/-- a memory that is the same but in the winds, the draft and the trial -/
theorem Lw_c (h0 : ∀ j, j = 10 ∨ j = 11 ∨ j = 12 ∨ j = 13 → A 0 j 0 = a 0 j 0) (h1 : A 1 = a 1) (h3 : A 3 = a 3) (h11 : A 11 = a 11) (h50 : A 50 = a 50) (h51 : A 51 = a 51) (q : EqQ A a np) (hI : CI A nr nm np) (h : Lw a nr nm np k) : Lw A nr nm np k := by
  have ho := h.own
  obtain ⟨g1, g2, g3, g4, g5, g6, g7⟩ := h
  refine ⟨hI, CJ_c (h0 10 (by omega)) (h0 13 (by omega)) (fun c => by unfold isSp; rw [h1, h3]) (fun m _ _ j => by rw [h11]) ho q g2, SPS_c h1 h3 g3, LA_c h50 h51 (fun m _ _ => by rw [h11]) g4, ?_, ?_, ?_⟩
  · rw [h0 11 (by omega)]; exact g5
  · rw [h0 10 (by omega)]; exact g6
  · rw [h0 12 (by omega)]; exact g7
end J1
