/-! the reference: laying, the battery on the way, sums; meeting time by time; counts -/
section T7
variable {a : AT} {r : Nat → Nat → Option Nat} {n : Nat → Nat} {nr nm np : Int}
theorem near_n {b : AT} (hC : CC b) (h0 : 0 < b 1 4 0) (c : Int) : Nr b c (near b c) := by
  have key : ∀ k : Nat, (k : Int) ≤ b 1 4 0 → 0 < k → ∃ z, (∃ i, 0 ≤ i ∧ i < (k : Int) ∧ b 3 i 0 = z) ∧ ∀ i, 0 ≤ i → i < (k : Int) → dst c z < dst c (b 3 i 0) ∨ (dst c z = dst c (b 3 i 0) ∧ z ≤ b 3 i 0) := by
    intro k
    induction k with
    | zero => intro _ h; omega
    | succ k ih =>
      intro h1 _
      by_cases hk : k = 0
      · subst hk
        exact ⟨b 3 0 0, ⟨0, by omega, by omega, rfl⟩, fun i i1 i2 => by
          have : i = 0 := by omega
          subst this; omega⟩
      · obtain ⟨z, ⟨i, i1, i2, i3⟩, h2⟩ := ih (by omega) (by omega)
        by_cases hc : dst c z < dst c (b 3 k 0) ∨ (dst c z = dst c (b 3 k 0) ∧ z ≤ b 3 k 0)
        · refine ⟨z, ⟨i, i1, by omega, i3⟩, fun j j1 j2 => ?_⟩
          by_cases e : j = k
          · subst e; exact hc
          · exact h2 j j1 (by omega)
        · refine ⟨b 3 k 0, ⟨k, by omega, by omega, rfl⟩, fun j j1 j2 => ?_⟩
          by_cases e : j = k
          · subst e; omega
          · have := h2 j j1 (by omega)
            omega
  have h1 := hC.1
  obtain ⟨z, ⟨i, i1, i2, i3⟩, h2⟩ := key (b 1 4 0).toNat (by omega) (by omega)
  have hz : Nr b c z := Or.inr ⟨⟨i, i1, by omega, i3⟩, by
    rintro d ⟨j, j1, j2, rfl⟩
    exact h2 j j1 (by omega)⟩
  rw [near_e hz]; exact hz
end T7
