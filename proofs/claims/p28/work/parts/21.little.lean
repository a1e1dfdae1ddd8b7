theorem ilt_t {a b : Int} (h : a < b) : (a < b) = True := eq_true h
theorem ilt_f {a b : Int} (h : ¬ a < b) : (a < b) = False := eq_false h
theorem ile_t {a b : Int} (h : a ≤ b) : (a ≤ b) = True := eq_true h
theorem ile_f {a b : Int} (h : ¬ a ≤ b) : (a ≤ b) = False := eq_false h
theorem ieq_t {a b : Int} (h : a = b) : (a = b) = True := eq_true h
theorem ieq_f {a b : Int} (h : ¬ a = b) : (a = b) = False := eq_false h
section LF
variable {a b c : Int}
theorem isOut_0 (h1 : -2147483648 ≤ a) (h2 : a ≤ 2147483647) (h3 : -2147483648 ≤ b) (h4 : b ≤ 2147483647) (h5 : -2147483648 ≤ c) (h6 : c ≤ 2147483647) : (f_Sk_isOut (iz a) (iz b) (iz c) = iz 0) = (b ≤ a ∧ a ≤ c) := by
  unfold f_Sk_isOut
  by_cases k1 : a < b
  · rw [if_pos (by rw [iz_lt h1 h2 h3 h4]; exact k1), z_1, iz_eq (by omega) (by omega) (by omega) (by omega)]; exact propext ⟨fun h => by omega, fun h => by omega⟩
  · rw [if_neg (by rw [iz_lt h1 h2 h3 h4]; exact k1)]
    by_cases k2 : c < a
    · rw [if_pos (by rw [iz_lt h5 h6 h1 h2]; exact k2), z_1, iz_eq (by omega) (by omega) (by omega) (by omega)]; exact propext ⟨fun h => by omega, fun h => by omega⟩
    · rw [if_neg (by rw [iz_lt h5 h6 h1 h2]; exact k2), z_0]; exact propext ⟨fun h => by omega, fun h => rfl⟩
theorem isNoCell_0 (h1 : -2147483648 ≤ a) (h2 : a ≤ 2147483647) : (f_Sk_isNoCell (iz a) = iz 0) = (0 ≤ a ∧ a ≤ 99) := by
  unfold f_Sk_isNoCell; rw [z_0, z_99]; exact isOut_0 h1 h2 (by omega) (by omega) (by omega) (by omega)
theorem isGr_0 (h1 : -2147483648 ≤ a) (h2 : a ≤ 2147483647) : (f_Sk_isOnGround (iz a) = iz 0) = (100 ≤ a) := by
  unfold f_Sk_isOnGround
  by_cases k1 : a < 100
  · rw [if_pos (by rw [z_100, iz_lt h1 h2 (by omega) (by omega)]; exact k1), z_1, iz_eq (by omega) (by omega) (by omega) (by omega)]; exact propext ⟨fun h => by omega, fun h => by omega⟩
  · rw [if_neg (by rw [z_100, iz_lt h1 h2 (by omega) (by omega)]; exact k1), z_0]; exact propext ⟨fun h => by omega, fun h => rfl⟩
end LF
/-- a loop that gathers whether p holds somewhere -/
theorem lpA {L : Nat → Int → Int → Option Int32} {p : Int → Prop} {hi lo : Int} (q : Prop)
    (s1 : ∀ (n : Nat) (i : Int), lo ≤ i → i < hi → L (n + 1) i 1 = L n (i + 1) 1)
    (s2 : ∀ (n : Nat) (i : Int), lo ≤ i → i < hi → p i → L (n + 1) i 0 = L n (i + 1) 1)
    (s3 : ∀ (n : Nat) (i : Int), lo ≤ i → i < hi → ¬ p i → L (n + 1) i 0 = L n (i + 1) 0)
    (fin : ∀ (n : Nat) (z : Int), z = 0 ∨ z = 1 → L (n + 1) hi z = some (iz z)) (n : Nat) (h1 : lo ≤ hi) (h2 : hi < lo + n) :
    L n lo (cb q) = some (iz (cb (q ∨ ∃ i, lo ≤ i ∧ i < hi ∧ p i))) := by
  have := lpQ (L := L) (Q := fun i s => lo ≤ i ∧ s = cb (q ∨ ∃ j, lo ≤ j ∧ j < i ∧ p j)) (hi := hi) (R := fun v => v = iz (cb (q ∨ ∃ i, lo ≤ i ∧ i < hi ∧ p i)))
    (fun n i s h3 hq => by
      obtain ⟨h4, rfl⟩ := hq
      left
      refine ⟨_, ⟨by omega, rfl⟩, ?_⟩
      by_cases hx : q ∨ ∃ j, lo ≤ j ∧ j < i ∧ p j
      · have hy : q ∨ ∃ j, lo ≤ j ∧ j < i + 1 ∧ p j := hx.imp id (fun ⟨j, a, b, c⟩ => ⟨j, a, by omega, c⟩)
        rw [cb_t hx, cb_t hy]
        exact s1 n i h4 h3
      · rw [cb_f hx]
        by_cases hp : p i
        · rw [cb_t (Or.inr ⟨i, h4, by omega, hp⟩)]
          exact s2 n i h4 h3 hp
        · rw [cb_f (fun hy => hx (hy.imp id (fun ⟨j, a, b, c⟩ => ⟨j, a, (by
            by_cases e : j = i
            · subst e; exact absurd c hp
            · omega), c⟩)))]
          exact s3 n i h4 h3 hp)
    (fun n s hq => by
      obtain ⟨h4, rfl⟩ := hq
      exact ⟨_, fin n _ (cb_01 _), rfl⟩) n lo (cb q) h1 h2 ⟨Int.le_refl _, by
        congr 1
        exact propext ⟨fun h => Or.inl h, fun h => h.elim id (fun ⟨j, a, b, c⟩ => by omega)⟩⟩
  obtain ⟨v, hv, rfl⟩ := this
  exact hv
theorem cb_or0 (p : Prop) : cb (False ∨ p) = cb p := by rw [false_or]
theorem fst_c {lo hi hi' : Int} {p q : Int → Prop} (h : ∀ i, lo ≤ i → ((i < hi ∧ p i) ↔ (i < hi' ∧ q i))) : fst_ lo hi p = fst_ lo hi' q := by
  rcases fst_cases lo hi p with ⟨h1, h2, h3, h4⟩ | ⟨h1, h2⟩
  · have e := (h _ h1).1 ⟨h2, h3⟩
    exact (fst_i h1 e.1 e.2 (fun j j1 j2 j3 => h4 j j1 j2 ((h j j1).2 ⟨by omega, j3⟩).2)).symm
  · rw [h1, fst_n (fun j j1 j2 j3 => h2 j j1 ((h j j1).2 ⟨j2, j3⟩).1 ((h j j1).2 ⟨j2, j3⟩).2)]
theorem lpA2 {L : Nat → Int → Int → Option Int32} {p : Int → Prop} {hi lo : Int} (q : Prop)
    (st : ∀ (n : Nat) (i : Int) (q : Prop), lo ≤ i → i < hi → L (n + 1) i (cb q) = L n (i + 1) (cb (q ∨ p i)))
    (fin : ∀ (n : Nat) (q : Prop), L (n + 1) hi (cb q) = some (iz (cb q))) (n : Nat) (h1 : lo ≤ hi) (h2 : hi < lo + n) :
    L n lo (cb q) = some (iz (cb (q ∨ ∃ i, lo ≤ i ∧ i < hi ∧ p i))) := by
  have := lpQ (L := L) (Q := fun i s => lo ≤ i ∧ s = cb (q ∨ ∃ j, lo ≤ j ∧ j < i ∧ p j)) (hi := hi) (R := fun v => v = iz (cb (q ∨ ∃ i, lo ≤ i ∧ i < hi ∧ p i)))
    (fun n i s h3 hq => by
      obtain ⟨h4, rfl⟩ := hq
      left
      refine ⟨_, ⟨by omega, rfl⟩, ?_⟩
      rw [st n i _ h4 h3]
      congr 2
      refine propext ⟨fun h => ?_, fun h => ?_⟩
      · rcases h with (h | ⟨j, a, b, c⟩) | h
        · exact Or.inl h
        · exact Or.inr ⟨j, a, by omega, c⟩
        · exact Or.inr ⟨i, h4, by omega, h⟩
      · rcases h with h | ⟨j, a, b, c⟩
        · exact Or.inl (Or.inl h)
        · by_cases e : j = i
          · subst e; exact Or.inr c
          · exact Or.inl (Or.inr ⟨j, a, by omega, c⟩))
    (fun n s hq => by
      obtain ⟨h4, rfl⟩ := hq
      exact ⟨_, fin n _, rfl⟩) n lo (cb q) h1 h2 ⟨Int.le_refl _, by
        congr 1
        exact propext ⟨fun h => Or.inl h, fun h => h.elim id (fun ⟨j, a, b, c⟩ => by omega)⟩⟩
  obtain ⟨v, hv, rfl⟩ := this
  exact hv
