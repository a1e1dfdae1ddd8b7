def xnames : List String := ["java/lang/RuntimeException", "java/lang/Exception"]
theorem xf_names : ∀ n ∈ xnames, Bundle.fit n = true := by decide +kernel
theorem xf_IndexOutOfBoundsException : Bundle.fit "java/lang/IndexOutOfBoundsException" = true := by decide +kernel
theorem xa_IndexOutOfBoundsException : ∀ w ∈ vx_atS RX4 55 "java/lang/IndexOutOfBoundsException" xnames, w ∈ TT := fun w hw => List.mem_filter.mpr (by
  have h := List.all_eq_true.mp (show (vx_atS RX4 55 "java/lang/IndexOutOfBoundsException" xnames).all (fun w => decide (w ∈ lw_tbl) && okw w) = true by decide +kernel) w hw
  simp only [Bool.and_eq_true, decide_eq_true_eq] at h
  exact h)
theorem xg_IndexOutOfBoundsException : ∀ w ∈ Cond.classLink RX4 51 "java/lang/IndexOutOfBoundsException" :: Cond.initialized "java/lang/IndexOutOfBoundsException" :: vx_atS RX4 55 "java/lang/IndexOutOfBoundsException" xnames, vx_ot w = true := by decide +kernel
theorem xf_IllegalArgumentException : Bundle.fit "java/lang/IllegalArgumentException" = true := by decide +kernel
theorem xa_IllegalArgumentException : ∀ w ∈ vx_atS RX4 66 "java/lang/IllegalArgumentException" xnames, w ∈ TT := fun w hw => List.mem_filter.mpr (by
  have h := List.all_eq_true.mp (show (vx_atS RX4 66 "java/lang/IllegalArgumentException" xnames).all (fun w => decide (w ∈ lw_tbl) && okw w) = true by decide +kernel) w hw
  simp only [Bool.and_eq_true, decide_eq_true_eq] at h
  exact h)
theorem xg_IllegalArgumentException : ∀ w ∈ Cond.classLink RX4 62 "java/lang/IllegalArgumentException" :: Cond.initialized "java/lang/IllegalArgumentException" :: vx_atS RX4 66 "java/lang/IllegalArgumentException" xnames, vx_ot w = true := by decide +kernel
theorem xf_IllegalStateException : Bundle.fit "java/lang/IllegalStateException" = true := by decide +kernel
theorem xa_IllegalStateException : ∀ w ∈ vx_atS RX4 77 "java/lang/IllegalStateException" xnames, w ∈ TT := fun w hw => List.mem_filter.mpr (by
  have h := List.all_eq_true.mp (show (vx_atS RX4 77 "java/lang/IllegalStateException" xnames).all (fun w => decide (w ∈ lw_tbl) && okw w) = true by decide +kernel) w hw
  simp only [Bool.and_eq_true, decide_eq_true_eq] at h
  exact h)
theorem xg_IllegalStateException : ∀ w ∈ Cond.classLink RX4 73 "java/lang/IllegalStateException" :: Cond.initialized "java/lang/IllegalStateException" :: vx_atS RX4 77 "java/lang/IllegalStateException" xnames, vx_ot w = true := by decide +kernel
theorem hdfX0 : ∀ j, j < 5 → [true, true, true, true, false][j]? = some false ∧ defaultValue (tyX0 j) = .int 0 ∨ [true, true, true, true, false][j]? = some true ∧ defaultValue (tyX0 j) = .null := by
  intro j hj
  rcases (show j = 0 ∨ j = 1 ∨ j = 2 ∨ j = 3 ∨ j = 4 by omega) with rfl | rfl | rfl | rfl | rfl
  all_goals first | exact Or.inl ⟨rfl, rfl⟩ | exact Or.inr ⟨rfl, rfl⟩
theorem hdfX1 : ∀ j, j < 7 → [false, false, false, false, false, false, false][j]? = some false ∧ defaultValue (tyX1 j) = .int 0 ∨ [false, false, false, false, false, false, false][j]? = some true ∧ defaultValue (tyX1 j) = .null := by
  intro j hj
  rcases (show j = 0 ∨ j = 1 ∨ j = 2 ∨ j = 3 ∨ j = 4 ∨ j = 5 ∨ j = 6 by omega) with rfl | rfl | rfl | rfl | rfl | rfl | rfl
  all_goals first | exact Or.inl ⟨rfl, rfl⟩ | exact Or.inr ⟨rfl, rfl⟩
theorem hdfX2 : ∀ j, j < 7 → [true, false, false, false, false, false, false][j]? = some false ∧ defaultValue (tyX2 j) = .int 0 ∨ [true, false, false, false, false, false, false][j]? = some true ∧ defaultValue (tyX2 j) = .null := by
  intro j hj
  rcases (show j = 0 ∨ j = 1 ∨ j = 2 ∨ j = 3 ∨ j = 4 ∨ j = 5 ∨ j = 6 by omega) with rfl | rfl | rfl | rfl | rfl | rfl | rfl
  all_goals first | exact Or.inl ⟨rfl, rfl⟩ | exact Or.inr ⟨rfl, rfl⟩
theorem hdfX3 : ∀ j, j < 8 → [false, false, false, false, false, false, false, false][j]? = some false ∧ defaultValue (tyX3 j) = .int 0 ∨ [false, false, false, false, false, false, false, false][j]? = some true ∧ defaultValue (tyX3 j) = .null := by
  intro j hj
  rcases (show j = 0 ∨ j = 1 ∨ j = 2 ∨ j = 3 ∨ j = 4 ∨ j = 5 ∨ j = 6 ∨ j = 7 by omega) with rfl | rfl | rfl | rfl | rfl | rfl | rfl | rfl
  all_goals first | exact Or.inl ⟨rfl, rfl⟩ | exact Or.inr ⟨rfl, rfl⟩
theorem hdfX4 : ∀ j, j < 14 → [true, true, true, true, true, true, false, false, false, false, false, false, false, false][j]? = some false ∧ defaultValue (tyX4 j) = .int 0 ∨ [true, true, true, true, true, true, false, false, false, false, false, false, false, false][j]? = some true ∧ defaultValue (tyX4 j) = .null := by
  intro j hj
  rcases (show j = 0 ∨ j = 1 ∨ j = 2 ∨ j = 3 ∨ j = 4 ∨ j = 5 ∨ j = 6 ∨ j = 7 ∨ j = 8 ∨ j = 9 ∨ j = 10 ∨ j = 11 ∨ j = 12 ∨ j = 13 by omega) with rfl | rfl | rfl | rfl | rfl | rfl | rfl | rfl | rfl | rfl | rfl | rfl | rfl | rfl
  all_goals first | exact Or.inl ⟨rfl, rfl⟩ | exact Or.inr ⟨rfl, rfl⟩
