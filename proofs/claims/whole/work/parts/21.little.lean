theorem ilt_t {a b : Int} (h : a < b) : (a < b) = True := eq_true h
theorem ilt_f {a b : Int} (h : ¬ a < b) : (a < b) = False := eq_false h
theorem ile_t {a b : Int} (h : a ≤ b) : (a ≤ b) = True := eq_true h
theorem ile_f {a b : Int} (h : ¬ a ≤ b) : (a ≤ b) = False := eq_false h
theorem ieq_t {a b : Int} (h : a = b) : (a = b) = True := eq_true h
theorem ieq_f {a b : Int} (h : ¬ a = b) : (a = b) = False := eq_false h
section LF
variable {a b c : Int}
theorem isOut_0 (h1 : -2147483648 ≤ a) (h2 : a ≤ 2147483647) (h3 : -2147483648 ≤ b) (h4 : b ≤ 2147483647) (h5 : -2147483648 ≤ c) (h6 : c ≤ 2147483647) : (f_Sk_isOut (iz a) (iz b) (iz c) = iz 0) = (b ≤ a ∧ a ≤ c) := by
  unfold f_Sk_isOut
  by_cases k1 : a < b
  · rw [if_pos (by rw [iz_lt h1 h2 h3 h4]; exact k1), z_1, iz_eq (by omega) (by omega) (by omega) (by omega)]; exact propext ⟨fun h => by omega, fun h => by omega⟩
  · rw [if_neg (by rw [iz_lt h1 h2 h3 h4]; exact k1)]
    by_cases k2 : c < a
    · rw [if_pos (by rw [iz_lt h5 h6 h1 h2]; exact k2), z_1, iz_eq (by omega) (by omega) (by omega) (by omega)]; exact propext ⟨fun h => by omega, fun h => by omega⟩
    · rw [if_neg (by rw [iz_lt h5 h6 h1 h2]; exact k2), z_0]; exact propext ⟨fun h => by omega, fun h => rfl⟩
theorem isNoCell_0 (h1 : -2147483648 ≤ a) (h2 : a ≤ 2147483647) : (f_Sk_isNoCell (iz a) = iz 0) = (0 ≤ a ∧ a ≤ 99) := by
  unfold f_Sk_isNoCell; rw [z_0, z_99]; exact isOut_0 h1 h2 (by omega) (by omega) (by omega) (by omega)
theorem within_e (h1 : -2147483648 ≤ a) (h2 : a ≤ 2147483647) (h3 : -2147483648 ≤ b) (h4 : b ≤ 2147483647) (h5 : -2147483648 ≤ c) (h6 : c ≤ 2147483647) : f_Mo_within (iz a) (iz b) (iz c) = iz (cb (b ≤ a ∧ a ≤ c)) := by
  unfold f_Mo_within
  by_cases k1 : a < b
  · rw [if_pos (by rw [iz_lt h1 h2 h3 h4]; exact k1), cb_f (by omega), z_0]
  · rw [if_neg (by rw [iz_lt h1 h2 h3 h4]; exact k1)]
    by_cases k2 : c < a
    · rw [if_pos (by rw [iz_lt h5 h6 h1 h2]; exact k2), cb_f (by omega), z_0]
    · rw [if_neg (by rw [iz_lt h5 h6 h1 h2]; exact k2), cb_t (by omega), z_1]
theorem isCell_e (h1 : -2147483648 ≤ a) (h2 : a ≤ 2147483647) : f_Mo_isCell (iz a) = iz (cb (0 ≤ a ∧ a ≤ 99)) := by
  unfold f_Mo_isCell; rw [z_0, z_99]; exact within_e h1 h2 (by omega) (by omega) (by omega) (by omega)
theorem isGr_0 (h1 : -2147483648 ≤ a) (h2 : a ≤ 2147483647) : (f_Sk_isOnGround (iz a) = iz 0) = (100 ≤ a) := by
  unfold f_Sk_isOnGround
  by_cases k1 : a < 100
  · rw [if_pos (by rw [z_100, iz_lt h1 h2 (by omega) (by omega)]; exact k1), z_1, iz_eq (by omega) (by omega) (by omega) (by omega)]; exact propext ⟨fun h => by omega, fun h => by omega⟩
  · rw [if_neg (by rw [z_100, iz_lt h1 h2 (by omega) (by omega)]; exact k1), z_0]; exact propext ⟨fun h => by omega, fun h => rfl⟩
end LF
