abbrev rm_Mo_init : Room := { frames := 1, cells := 19, slots := 3921, locals := 20 }
theorem cm_Mo_init : cfM yX5_init cX5_init 1 none 0 := ⟨tw_736, tw_4, by decide, by decide, by decide +kernel⟩
theorem ci_Mo_init : cfI yX5_init := ⟨rfl, tw_735⟩
theorem d_Mo_init_0 : decode cX5_init 0 = .ok (.aload_n 0, 1) := by decide +kernel
theorem d_Mo_init_1 : decode cX5_init 1 = .ok (.invokespecial 1, 3) := by decide +kernel
theorem d_Mo_init_4 : decode cX5_init 4 = .ok (.aload_n 0, 1) := by decide +kernel
theorem d_Mo_init_5 : decode cX5_init 5 = .ok (.bipush 100, 2) := by decide +kernel
theorem d_Mo_init_7 : decode cX5_init 7 = .ok (.newarray .int, 2) := by decide +kernel
theorem d_Mo_init_9 : decode cX5_init 9 = .ok (.putfield 7, 3) := by decide +kernel
theorem d_Mo_init_12 : decode cX5_init 12 = .ok (.aload_n 0, 1) := by decide +kernel
theorem d_Mo_init_13 : decode cX5_init 13 = .ok (.bipush 100, 2) := by decide +kernel
theorem d_Mo_init_15 : decode cX5_init 15 = .ok (.newarray .boolean, 2) := by decide +kernel
theorem d_Mo_init_17 : decode cX5_init 17 = .ok (.putfield 13, 3) := by decide +kernel
theorem d_Mo_init_20 : decode cX5_init 20 = .ok (.aload_n 0, 1) := by decide +kernel
theorem d_Mo_init_21 : decode cX5_init 21 = .ok (.iconst 5, 1) := by decide +kernel
theorem d_Mo_init_22 : decode cX5_init 22 = .ok (.newarray .int, 2) := by decide +kernel
theorem d_Mo_init_24 : decode cX5_init 24 = .ok (.putfield 17, 3) := by decide +kernel
theorem d_Mo_init_27 : decode cX5_init 27 = .ok (.aload_n 0, 1) := by decide +kernel
theorem d_Mo_init_28 : decode cX5_init 28 = .ok (.iconst 5, 1) := by decide +kernel
theorem d_Mo_init_29 : decode cX5_init 29 = .ok (.newarray .int, 2) := by decide +kernel
theorem d_Mo_init_31 : decode cX5_init 31 = .ok (.putfield 20, 3) := by decide +kernel
theorem d_Mo_init_34 : decode cX5_init 34 = .ok (.aload_n 0, 1) := by decide +kernel
theorem d_Mo_init_35 : decode cX5_init 35 = .ok (.bipush 10, 2) := by decide +kernel
theorem d_Mo_init_37 : decode cX5_init 37 = .ok (.newarray .int, 2) := by decide +kernel
theorem d_Mo_init_39 : decode cX5_init 39 = .ok (.putfield 23, 3) := by decide +kernel
theorem d_Mo_init_42 : decode cX5_init 42 = .ok (.aload_n 0, 1) := by decide +kernel
theorem d_Mo_init_43 : decode cX5_init 43 = .ok (.bipush 10, 2) := by decide +kernel
theorem d_Mo_init_45 : decode cX5_init 45 = .ok (.newarray .int, 2) := by decide +kernel
theorem d_Mo_init_47 : decode cX5_init 47 = .ok (.putfield 26, 3) := by decide +kernel
theorem d_Mo_init_50 : decode cX5_init 50 = .ok (.aload_n 0, 1) := by decide +kernel
theorem d_Mo_init_51 : decode cX5_init 51 = .ok (.bipush 10, 2) := by decide +kernel
theorem d_Mo_init_53 : decode cX5_init 53 = .ok (.newarray .int, 2) := by decide +kernel
theorem d_Mo_init_55 : decode cX5_init 55 = .ok (.putfield 29, 3) := by decide +kernel
theorem d_Mo_init_58 : decode cX5_init 58 = .ok (.aload_n 0, 1) := by decide +kernel
theorem d_Mo_init_59 : decode cX5_init 59 = .ok (.bipush 10, 2) := by decide +kernel
theorem d_Mo_init_61 : decode cX5_init 61 = .ok (.newarray .int, 2) := by decide +kernel
theorem d_Mo_init_63 : decode cX5_init 63 = .ok (.putfield 32, 3) := by decide +kernel
theorem d_Mo_init_66 : decode cX5_init 66 = .ok (.aload_n 0, 1) := by decide +kernel
theorem d_Mo_init_67 : decode cX5_init 67 = .ok (.bipush 10, 2) := by decide +kernel
theorem d_Mo_init_69 : decode cX5_init 69 = .ok (.newarray .int, 2) := by decide +kernel
theorem d_Mo_init_71 : decode cX5_init 71 = .ok (.putfield 35, 3) := by decide +kernel
theorem d_Mo_init_74 : decode cX5_init 74 = .ok (.aload_n 0, 1) := by decide +kernel
theorem d_Mo_init_75 : decode cX5_init 75 = .ok (.bipush 10, 2) := by decide +kernel
theorem d_Mo_init_77 : decode cX5_init 77 = .ok (.newarray .int, 2) := by decide +kernel
theorem d_Mo_init_79 : decode cX5_init 79 = .ok (.putfield 38, 3) := by decide +kernel
theorem d_Mo_init_82 : decode cX5_init 82 = .ok (.aload_n 0, 1) := by decide +kernel
theorem d_Mo_init_83 : decode cX5_init 83 = .ok (.bipush 10, 2) := by decide +kernel
theorem d_Mo_init_85 : decode cX5_init 85 = .ok (.newarray .int, 2) := by decide +kernel
theorem d_Mo_init_87 : decode cX5_init 87 = .ok (.putfield 41, 3) := by decide +kernel
theorem d_Mo_init_90 : decode cX5_init 90 = .ok (.aload_n 0, 1) := by decide +kernel
theorem d_Mo_init_91 : decode cX5_init 91 = .ok (.bipush 40, 2) := by decide +kernel
theorem d_Mo_init_93 : decode cX5_init 93 = .ok (.newarray .int, 2) := by decide +kernel
theorem d_Mo_init_95 : decode cX5_init 95 = .ok (.putfield 44, 3) := by decide +kernel
theorem d_Mo_init_98 : decode cX5_init 98 = .ok (.aload_n 0, 1) := by decide +kernel
theorem d_Mo_init_99 : decode cX5_init 99 = .ok (.bipush 40, 2) := by decide +kernel
theorem d_Mo_init_101 : decode cX5_init 101 = .ok (.newarray .int, 2) := by decide +kernel
theorem d_Mo_init_103 : decode cX5_init 103 = .ok (.putfield 47, 3) := by decide +kernel
theorem d_Mo_init_106 : decode cX5_init 106 = .ok (.aload_n 0, 1) := by decide +kernel
theorem d_Mo_init_107 : decode cX5_init 107 = .ok (.bipush 40, 2) := by decide +kernel
theorem d_Mo_init_109 : decode cX5_init 109 = .ok (.newarray .int, 2) := by decide +kernel
theorem d_Mo_init_111 : decode cX5_init 111 = .ok (.putfield 50, 3) := by decide +kernel
theorem d_Mo_init_114 : decode cX5_init 114 = .ok (.aload_n 0, 1) := by decide +kernel
theorem d_Mo_init_115 : decode cX5_init 115 = .ok (.bipush 40, 2) := by decide +kernel
theorem d_Mo_init_117 : decode cX5_init 117 = .ok (.newarray .int, 2) := by decide +kernel
theorem d_Mo_init_119 : decode cX5_init 119 = .ok (.putfield 53, 3) := by decide +kernel
theorem d_Mo_init_122 : decode cX5_init 122 = .ok (.aload_n 0, 1) := by decide +kernel
theorem d_Mo_init_123 : decode cX5_init 123 = .ok (.bipush 40, 2) := by decide +kernel
theorem d_Mo_init_125 : decode cX5_init 125 = .ok (.newarray .int, 2) := by decide +kernel
theorem d_Mo_init_127 : decode cX5_init 127 = .ok (.putfield 56, 3) := by decide +kernel
theorem d_Mo_init_130 : decode cX5_init 130 = .ok (.aload_n 0, 1) := by decide +kernel
theorem d_Mo_init_131 : decode cX5_init 131 = .ok (.bipush 40, 2) := by decide +kernel
theorem d_Mo_init_133 : decode cX5_init 133 = .ok (.newarray .int, 2) := by decide +kernel
theorem d_Mo_init_135 : decode cX5_init 135 = .ok (.putfield 59, 3) := by decide +kernel
theorem d_Mo_init_138 : decode cX5_init 138 = .ok (.aload_n 0, 1) := by decide +kernel
theorem d_Mo_init_139 : decode cX5_init 139 = .ok (.sipush 3321, 3) := by decide +kernel
theorem d_Mo_init_142 : decode cX5_init 142 = .ok (.newarray .int, 2) := by decide +kernel
theorem d_Mo_init_144 : decode cX5_init 144 = .ok (.putfield 62, 3) := by decide +kernel
theorem d_Mo_init_147 : decode cX5_init 147 = .ok (.aload_n 0, 1) := by decide +kernel
theorem d_Mo_init_148 : decode cX5_init 148 = .ok (.bipush 80, 2) := by decide +kernel
theorem d_Mo_init_150 : decode cX5_init 150 = .ok (.newarray .int, 2) := by decide +kernel
theorem d_Mo_init_152 : decode cX5_init 152 = .ok (.putfield 65, 3) := by decide +kernel
theorem d_Mo_init_155 : decode cX5_init 155 = .ok (.aload_n 0, 1) := by decide +kernel
theorem d_Mo_init_156 : decode cX5_init 156 = .ok (.iconst (-1), 1) := by decide +kernel
theorem d_Mo_init_157 : decode cX5_init 157 = .ok (.putfield 68, 3) := by decide +kernel
theorem d_Mo_init_160 : decode cX5_init 160 = .ok (.return_, 1) := by decide +kernel
set_option maxRecDepth 100000 in
set_option maxHeartbeats 4000000 in
theorem w_Mo_init {X : CX} {KX : MS → Prop} {k : Nat} {s : MS} (ok : Ok X cX5_init RX5 rm_Mo_init 1 true) (hret : ∀ r : MS, KX r → Fin X none 19 3921 true none r) (hI : X.1.2.2.2.2.2.2.2.2.1.name = "<init>")  (ht : rf s.2.2 20 (some k) = some k) {res : MS} (h : f_Mo_init k s = some res) (hk : KX res) : G X s 0 0 0 [(0, vR (some k))] [] := by
  unfold f_Mo_init at h
  refine g_aload_n (i := 0) 0 ok d_Mo_init_0 rfl rfl ?_
  refine g_objInit (s0 := 20) ok ht tw_737 tw_20 tw_21 rfl ⟨le_t rfl, le_t rfl⟩ d_Mo_init_1 ?_
  refine g_aload_n (i := 0) 0 ok d_Mo_init_4 rfl rfl ?_
  refine g_bipush (v := (100 : Int32)) ok d_Mo_init_5 (by decide) ?_
  obtain ⟨o1, e2⟩ : ∃ z, nid s 21 = z := ⟨_, rfl⟩
  replace h := lt_go h e2
  refine g_newa0 (s0 := 21) (n := 100) ok (by decide) lay_21 (by decide) (by decide) (by decide) tw_47 ⟨(rk_of ht), trivial⟩ ⟨(rk_of ht), trivial⟩ (by decide) (by decide) d_Mo_init_7 ?_
  rw [e2]
  obtain ⟨s3, e4⟩ : ∃ z, nw s 21 = z := ⟨_, rfl⟩
  replace h := lt_go h e4
  have m5 := mo_nw (by decide) e4
  rw [e4]
  have hk6 : rf s3.2.2 21 (some o1) = some o1 := by rw [← e2]; exact rf_new (by decide) e4
  refine g_putrF (s0 := 20) (j := 2) (ci := 5) (C := RX5) (T := TX5) (N := 29) ok (rf_mono m5 ht) lay_20 rfl inX5 (by decide) rfl tw_740 rfl tyX5_ok nmX5 rfl hI rfl (Or.inr ⟨_, rfl⟩) (rf_dm hk6) d_Mo_init_9 ?_
  obtain ⟨s7, e8⟩ : ∃ z, wr s3 k 2 (some o1) = z := ⟨_, rfl⟩
  replace h := lt_go h e8
  have m9 := mo_wr e8
  rw [e8]
  refine g_aload_n (i := 0) 0 ok d_Mo_init_12 rfl rfl ?_
  refine g_bipush (v := (100 : Int32)) ok d_Mo_init_13 (by decide) ?_
  obtain ⟨o10, e11⟩ : ∃ z, nid s7 22 = z := ⟨_, rfl⟩
  replace h := lt_go h e11
  refine g_newa1 (s0 := 22) (n := 100) ok (by decide) lay_22 (by decide) (by decide) (by decide) tw_826 ⟨(rk_of (rf_mono m9 (rf_mono m5 ht))), trivial⟩ ⟨(rk_of (rf_mono m9 (rf_mono m5 ht))), trivial⟩ (by decide) (by decide) d_Mo_init_15 ?_
  rw [e11]
  obtain ⟨s12, e13⟩ : ∃ z, nw s7 22 = z := ⟨_, rfl⟩
  replace h := lt_go h e13
  have m14 := mo_nw (by decide) e13
  rw [e13]
  have hk15 : rf s12.2.2 22 (some o10) = some o10 := by rw [← e11]; exact rf_new (by decide) e13
  refine g_putrF (s0 := 20) (j := 3) (ci := 5) (C := RX5) (T := TX5) (N := 29) ok (rf_mono m14 (rf_mono m9 (rf_mono m5 ht))) lay_20 rfl inX5 (by decide) rfl tw_741 rfl tyX5_ok nmX5 rfl hI rfl (Or.inr ⟨_, rfl⟩) (rf_dm hk15) d_Mo_init_17 ?_
  obtain ⟨s16, e17⟩ : ∃ z, wr s12 k 3 (some o10) = z := ⟨_, rfl⟩
  replace h := lt_go h e17
  have m18 := mo_wr e17
  rw [e17]
  refine g_aload_n (i := 0) 0 ok d_Mo_init_20 rfl rfl ?_
  refine g_iconst (v := (5 : Int32)) ok d_Mo_init_21 (by decide) ?_
  obtain ⟨o19, e20⟩ : ∃ z, nid s16 23 = z := ⟨_, rfl⟩
  replace h := lt_go h e20
  refine g_newa0 (s0 := 23) (n := 5) ok (by decide) lay_23 (by decide) (by decide) (by decide) tw_47 ⟨(rk_of (rf_mono m18 (rf_mono m14 (rf_mono m9 (rf_mono m5 ht))))), trivial⟩ ⟨(rk_of (rf_mono m18 (rf_mono m14 (rf_mono m9 (rf_mono m5 ht))))), trivial⟩ (by decide) (by decide) d_Mo_init_22 ?_
  rw [e20]
  obtain ⟨s21, e22⟩ : ∃ z, nw s16 23 = z := ⟨_, rfl⟩
  replace h := lt_go h e22
  have m23 := mo_nw (by decide) e22
  rw [e22]
  have hk24 : rf s21.2.2 23 (some o19) = some o19 := by rw [← e20]; exact rf_new (by decide) e22
  refine g_putrF (s0 := 20) (j := 5) (ci := 5) (C := RX5) (T := TX5) (N := 29) ok (rf_mono m23 (rf_mono m18 (rf_mono m14 (rf_mono m9 (rf_mono m5 ht))))) lay_20 rfl inX5 (by decide) rfl tw_743 rfl tyX5_ok nmX5 rfl hI rfl (Or.inr ⟨_, rfl⟩) (rf_dm hk24) d_Mo_init_24 ?_
  obtain ⟨s25, e26⟩ : ∃ z, wr s21 k 5 (some o19) = z := ⟨_, rfl⟩
  replace h := lt_go h e26
  have m27 := mo_wr e26
  rw [e26]
  refine g_aload_n (i := 0) 0 ok d_Mo_init_27 rfl rfl ?_
  refine g_iconst (v := (5 : Int32)) ok d_Mo_init_28 (by decide) ?_
  obtain ⟨o28, e29⟩ : ∃ z, nid s25 24 = z := ⟨_, rfl⟩
  replace h := lt_go h e29
  refine g_newa0 (s0 := 24) (n := 5) ok (by decide) lay_24 (by decide) (by decide) (by decide) tw_47 ⟨(rk_of (rf_mono m27 (rf_mono m23 (rf_mono m18 (rf_mono m14 (rf_mono m9 (rf_mono m5 ht))))))), trivial⟩ ⟨(rk_of (rf_mono m27 (rf_mono m23 (rf_mono m18 (rf_mono m14 (rf_mono m9 (rf_mono m5 ht))))))), trivial⟩ (by decide) (by decide) d_Mo_init_29 ?_
  rw [e29]
  obtain ⟨s30, e31⟩ : ∃ z, nw s25 24 = z := ⟨_, rfl⟩
  replace h := lt_go h e31
  have m32 := mo_nw (by decide) e31
  rw [e31]
  have hk33 : rf s30.2.2 24 (some o28) = some o28 := by rw [← e29]; exact rf_new (by decide) e31
  refine g_putrF (s0 := 20) (j := 6) (ci := 5) (C := RX5) (T := TX5) (N := 29) ok (rf_mono m32 (rf_mono m27 (rf_mono m23 (rf_mono m18 (rf_mono m14 (rf_mono m9 (rf_mono m5 ht))))))) lay_20 rfl inX5 (by decide) rfl tw_744 rfl tyX5_ok nmX5 rfl hI rfl (Or.inr ⟨_, rfl⟩) (rf_dm hk33) d_Mo_init_31 ?_
  obtain ⟨s34, e35⟩ : ∃ z, wr s30 k 6 (some o28) = z := ⟨_, rfl⟩
  replace h := lt_go h e35
  have m36 := mo_wr e35
  rw [e35]
  refine g_aload_n (i := 0) 0 ok d_Mo_init_34 rfl rfl ?_
  refine g_bipush (v := (10 : Int32)) ok d_Mo_init_35 (by decide) ?_
  obtain ⟨o37, e38⟩ : ∃ z, nid s34 25 = z := ⟨_, rfl⟩
  replace h := lt_go h e38
  refine g_newa0 (s0 := 25) (n := 10) ok (by decide) lay_25 (by decide) (by decide) (by decide) tw_47 ⟨(rk_of (rf_mono m36 (rf_mono m32 (rf_mono m27 (rf_mono m23 (rf_mono m18 (rf_mono m14 (rf_mono m9 (rf_mono m5 ht))))))))), trivial⟩ ⟨(rk_of (rf_mono m36 (rf_mono m32 (rf_mono m27 (rf_mono m23 (rf_mono m18 (rf_mono m14 (rf_mono m9 (rf_mono m5 ht))))))))), trivial⟩ (by decide) (by decide) d_Mo_init_37 ?_
  rw [e38]
  obtain ⟨s39, e40⟩ : ∃ z, nw s34 25 = z := ⟨_, rfl⟩
  replace h := lt_go h e40
  have m41 := mo_nw (by decide) e40
  rw [e40]
  have hk42 : rf s39.2.2 25 (some o37) = some o37 := by rw [← e38]; exact rf_new (by decide) e40
  refine g_putrF (s0 := 20) (j := 8) (ci := 5) (C := RX5) (T := TX5) (N := 29) ok (rf_mono m41 (rf_mono m36 (rf_mono m32 (rf_mono m27 (rf_mono m23 (rf_mono m18 (rf_mono m14 (rf_mono m9 (rf_mono m5 ht))))))))) lay_20 rfl inX5 (by decide) rfl tw_746 rfl tyX5_ok nmX5 rfl hI rfl (Or.inr ⟨_, rfl⟩) (rf_dm hk42) d_Mo_init_39 ?_
  obtain ⟨s43, e44⟩ : ∃ z, wr s39 k 8 (some o37) = z := ⟨_, rfl⟩
  replace h := lt_go h e44
  have m45 := mo_wr e44
  rw [e44]
  refine g_aload_n (i := 0) 0 ok d_Mo_init_42 rfl rfl ?_
  refine g_bipush (v := (10 : Int32)) ok d_Mo_init_43 (by decide) ?_
  obtain ⟨o46, e47⟩ : ∃ z, nid s43 26 = z := ⟨_, rfl⟩
  replace h := lt_go h e47
  refine g_newa0 (s0 := 26) (n := 10) ok (by decide) lay_26 (by decide) (by decide) (by decide) tw_47 ⟨(rk_of (rf_mono m45 (rf_mono m41 (rf_mono m36 (rf_mono m32 (rf_mono m27 (rf_mono m23 (rf_mono m18 (rf_mono m14 (rf_mono m9 (rf_mono m5 ht))))))))))), trivial⟩ ⟨(rk_of (rf_mono m45 (rf_mono m41 (rf_mono m36 (rf_mono m32 (rf_mono m27 (rf_mono m23 (rf_mono m18 (rf_mono m14 (rf_mono m9 (rf_mono m5 ht))))))))))), trivial⟩ (by decide) (by decide) d_Mo_init_45 ?_
  rw [e47]
  obtain ⟨s48, e49⟩ : ∃ z, nw s43 26 = z := ⟨_, rfl⟩
  replace h := lt_go h e49
  have m50 := mo_nw (by decide) e49
  rw [e49]
  have hk51 : rf s48.2.2 26 (some o46) = some o46 := by rw [← e47]; exact rf_new (by decide) e49
  refine g_putrF (s0 := 20) (j := 9) (ci := 5) (C := RX5) (T := TX5) (N := 29) ok (rf_mono m50 (rf_mono m45 (rf_mono m41 (rf_mono m36 (rf_mono m32 (rf_mono m27 (rf_mono m23 (rf_mono m18 (rf_mono m14 (rf_mono m9 (rf_mono m5 ht))))))))))) lay_20 rfl inX5 (by decide) rfl tw_747 rfl tyX5_ok nmX5 rfl hI rfl (Or.inr ⟨_, rfl⟩) (rf_dm hk51) d_Mo_init_47 ?_
  obtain ⟨s52, e53⟩ : ∃ z, wr s48 k 9 (some o46) = z := ⟨_, rfl⟩
  replace h := lt_go h e53
  have m54 := mo_wr e53
  rw [e53]
  refine g_aload_n (i := 0) 0 ok d_Mo_init_50 rfl rfl ?_
  refine g_bipush (v := (10 : Int32)) ok d_Mo_init_51 (by decide) ?_
  obtain ⟨o55, e56⟩ : ∃ z, nid s52 27 = z := ⟨_, rfl⟩
  replace h := lt_go h e56
  refine g_newa0 (s0 := 27) (n := 10) ok (by decide) lay_27 (by decide) (by decide) (by decide) tw_47 ⟨(rk_of (rf_mono m54 (rf_mono m50 (rf_mono m45 (rf_mono m41 (rf_mono m36 (rf_mono m32 (rf_mono m27 (rf_mono m23 (rf_mono m18 (rf_mono m14 (rf_mono m9 (rf_mono m5 ht))))))))))))), trivial⟩ ⟨(rk_of (rf_mono m54 (rf_mono m50 (rf_mono m45 (rf_mono m41 (rf_mono m36 (rf_mono m32 (rf_mono m27 (rf_mono m23 (rf_mono m18 (rf_mono m14 (rf_mono m9 (rf_mono m5 ht))))))))))))), trivial⟩ (by decide) (by decide) d_Mo_init_53 ?_
  rw [e56]
  obtain ⟨s57, e58⟩ : ∃ z, nw s52 27 = z := ⟨_, rfl⟩
  replace h := lt_go h e58
  have m59 := mo_nw (by decide) e58
  rw [e58]
  have hk60 : rf s57.2.2 27 (some o55) = some o55 := by rw [← e56]; exact rf_new (by decide) e58
  refine g_putrF (s0 := 20) (j := 10) (ci := 5) (C := RX5) (T := TX5) (N := 29) ok (rf_mono m59 (rf_mono m54 (rf_mono m50 (rf_mono m45 (rf_mono m41 (rf_mono m36 (rf_mono m32 (rf_mono m27 (rf_mono m23 (rf_mono m18 (rf_mono m14 (rf_mono m9 (rf_mono m5 ht))))))))))))) lay_20 rfl inX5 (by decide) rfl tw_748 rfl tyX5_ok nmX5 rfl hI rfl (Or.inr ⟨_, rfl⟩) (rf_dm hk60) d_Mo_init_55 ?_
  obtain ⟨s61, e62⟩ : ∃ z, wr s57 k 10 (some o55) = z := ⟨_, rfl⟩
  replace h := lt_go h e62
  have m63 := mo_wr e62
  rw [e62]
  refine g_aload_n (i := 0) 0 ok d_Mo_init_58 rfl rfl ?_
  refine g_bipush (v := (10 : Int32)) ok d_Mo_init_59 (by decide) ?_
  obtain ⟨o64, e65⟩ : ∃ z, nid s61 28 = z := ⟨_, rfl⟩
  replace h := lt_go h e65
  refine g_newa0 (s0 := 28) (n := 10) ok (by decide) lay_28 (by decide) (by decide) (by decide) tw_47 ⟨(rk_of (rf_mono m63 (rf_mono m59 (rf_mono m54 (rf_mono m50 (rf_mono m45 (rf_mono m41 (rf_mono m36 (rf_mono m32 (rf_mono m27 (rf_mono m23 (rf_mono m18 (rf_mono m14 (rf_mono m9 (rf_mono m5 ht))))))))))))))), trivial⟩ ⟨(rk_of (rf_mono m63 (rf_mono m59 (rf_mono m54 (rf_mono m50 (rf_mono m45 (rf_mono m41 (rf_mono m36 (rf_mono m32 (rf_mono m27 (rf_mono m23 (rf_mono m18 (rf_mono m14 (rf_mono m9 (rf_mono m5 ht))))))))))))))), trivial⟩ (by decide) (by decide) d_Mo_init_61 ?_
  rw [e65]
  obtain ⟨s66, e67⟩ : ∃ z, nw s61 28 = z := ⟨_, rfl⟩
  replace h := lt_go h e67
  have m68 := mo_nw (by decide) e67
  rw [e67]
  have hk69 : rf s66.2.2 28 (some o64) = some o64 := by rw [← e65]; exact rf_new (by decide) e67
  refine g_putrF (s0 := 20) (j := 11) (ci := 5) (C := RX5) (T := TX5) (N := 29) ok (rf_mono m68 (rf_mono m63 (rf_mono m59 (rf_mono m54 (rf_mono m50 (rf_mono m45 (rf_mono m41 (rf_mono m36 (rf_mono m32 (rf_mono m27 (rf_mono m23 (rf_mono m18 (rf_mono m14 (rf_mono m9 (rf_mono m5 ht))))))))))))))) lay_20 rfl inX5 (by decide) rfl tw_749 rfl tyX5_ok nmX5 rfl hI rfl (Or.inr ⟨_, rfl⟩) (rf_dm hk69) d_Mo_init_63 ?_
  obtain ⟨s70, e71⟩ : ∃ z, wr s66 k 11 (some o64) = z := ⟨_, rfl⟩
  replace h := lt_go h e71
  have m72 := mo_wr e71
  rw [e71]
  refine g_aload_n (i := 0) 0 ok d_Mo_init_66 rfl rfl ?_
  refine g_bipush (v := (10 : Int32)) ok d_Mo_init_67 (by decide) ?_
  obtain ⟨o73, e74⟩ : ∃ z, nid s70 29 = z := ⟨_, rfl⟩
  replace h := lt_go h e74
  refine g_newa0 (s0 := 29) (n := 10) ok (by decide) lay_29 (by decide) (by decide) (by decide) tw_47 ⟨(rk_of (rf_mono m72 (rf_mono m68 (rf_mono m63 (rf_mono m59 (rf_mono m54 (rf_mono m50 (rf_mono m45 (rf_mono m41 (rf_mono m36 (rf_mono m32 (rf_mono m27 (rf_mono m23 (rf_mono m18 (rf_mono m14 (rf_mono m9 (rf_mono m5 ht))))))))))))))))), trivial⟩ ⟨(rk_of (rf_mono m72 (rf_mono m68 (rf_mono m63 (rf_mono m59 (rf_mono m54 (rf_mono m50 (rf_mono m45 (rf_mono m41 (rf_mono m36 (rf_mono m32 (rf_mono m27 (rf_mono m23 (rf_mono m18 (rf_mono m14 (rf_mono m9 (rf_mono m5 ht))))))))))))))))), trivial⟩ (by decide) (by decide) d_Mo_init_69 ?_
  rw [e74]
  obtain ⟨s75, e76⟩ : ∃ z, nw s70 29 = z := ⟨_, rfl⟩
  replace h := lt_go h e76
  have m77 := mo_nw (by decide) e76
  rw [e76]
  have hk78 : rf s75.2.2 29 (some o73) = some o73 := by rw [← e74]; exact rf_new (by decide) e76
  refine g_putrF (s0 := 20) (j := 12) (ci := 5) (C := RX5) (T := TX5) (N := 29) ok (rf_mono m77 (rf_mono m72 (rf_mono m68 (rf_mono m63 (rf_mono m59 (rf_mono m54 (rf_mono m50 (rf_mono m45 (rf_mono m41 (rf_mono m36 (rf_mono m32 (rf_mono m27 (rf_mono m23 (rf_mono m18 (rf_mono m14 (rf_mono m9 (rf_mono m5 ht))))))))))))))))) lay_20 rfl inX5 (by decide) rfl tw_750 rfl tyX5_ok nmX5 rfl hI rfl (Or.inr ⟨_, rfl⟩) (rf_dm hk78) d_Mo_init_71 ?_
  obtain ⟨s79, e80⟩ : ∃ z, wr s75 k 12 (some o73) = z := ⟨_, rfl⟩
  replace h := lt_go h e80
  have m81 := mo_wr e80
  rw [e80]
  refine g_aload_n (i := 0) 0 ok d_Mo_init_74 rfl rfl ?_
  refine g_bipush (v := (10 : Int32)) ok d_Mo_init_75 (by decide) ?_
  obtain ⟨o82, e83⟩ : ∃ z, nid s79 30 = z := ⟨_, rfl⟩
  replace h := lt_go h e83
  refine g_newa0 (s0 := 30) (n := 10) ok (by decide) lay_30 (by decide) (by decide) (by decide) tw_47 ⟨(rk_of (rf_mono m81 (rf_mono m77 (rf_mono m72 (rf_mono m68 (rf_mono m63 (rf_mono m59 (rf_mono m54 (rf_mono m50 (rf_mono m45 (rf_mono m41 (rf_mono m36 (rf_mono m32 (rf_mono m27 (rf_mono m23 (rf_mono m18 (rf_mono m14 (rf_mono m9 (rf_mono m5 ht))))))))))))))))))), trivial⟩ ⟨(rk_of (rf_mono m81 (rf_mono m77 (rf_mono m72 (rf_mono m68 (rf_mono m63 (rf_mono m59 (rf_mono m54 (rf_mono m50 (rf_mono m45 (rf_mono m41 (rf_mono m36 (rf_mono m32 (rf_mono m27 (rf_mono m23 (rf_mono m18 (rf_mono m14 (rf_mono m9 (rf_mono m5 ht))))))))))))))))))), trivial⟩ (by decide) (by decide) d_Mo_init_77 ?_
  rw [e83]
  obtain ⟨s84, e85⟩ : ∃ z, nw s79 30 = z := ⟨_, rfl⟩
  replace h := lt_go h e85
  have m86 := mo_nw (by decide) e85
  rw [e85]
  have hk87 : rf s84.2.2 30 (some o82) = some o82 := by rw [← e83]; exact rf_new (by decide) e85
  refine g_putrF (s0 := 20) (j := 13) (ci := 5) (C := RX5) (T := TX5) (N := 29) ok (rf_mono m86 (rf_mono m81 (rf_mono m77 (rf_mono m72 (rf_mono m68 (rf_mono m63 (rf_mono m59 (rf_mono m54 (rf_mono m50 (rf_mono m45 (rf_mono m41 (rf_mono m36 (rf_mono m32 (rf_mono m27 (rf_mono m23 (rf_mono m18 (rf_mono m14 (rf_mono m9 (rf_mono m5 ht))))))))))))))))))) lay_20 rfl inX5 (by decide) rfl tw_751 rfl tyX5_ok nmX5 rfl hI rfl (Or.inr ⟨_, rfl⟩) (rf_dm hk87) d_Mo_init_79 ?_
  obtain ⟨s88, e89⟩ : ∃ z, wr s84 k 13 (some o82) = z := ⟨_, rfl⟩
  replace h := lt_go h e89
  have m90 := mo_wr e89
  rw [e89]
  refine g_aload_n (i := 0) 0 ok d_Mo_init_82 rfl rfl ?_
  refine g_bipush (v := (10 : Int32)) ok d_Mo_init_83 (by decide) ?_
  obtain ⟨o91, e92⟩ : ∃ z, nid s88 31 = z := ⟨_, rfl⟩
  replace h := lt_go h e92
  refine g_newa0 (s0 := 31) (n := 10) ok (by decide) lay_31 (by decide) (by decide) (by decide) tw_47 ⟨(rk_of (rf_mono m90 (rf_mono m86 (rf_mono m81 (rf_mono m77 (rf_mono m72 (rf_mono m68 (rf_mono m63 (rf_mono m59 (rf_mono m54 (rf_mono m50 (rf_mono m45 (rf_mono m41 (rf_mono m36 (rf_mono m32 (rf_mono m27 (rf_mono m23 (rf_mono m18 (rf_mono m14 (rf_mono m9 (rf_mono m5 ht))))))))))))))))))))), trivial⟩ ⟨(rk_of (rf_mono m90 (rf_mono m86 (rf_mono m81 (rf_mono m77 (rf_mono m72 (rf_mono m68 (rf_mono m63 (rf_mono m59 (rf_mono m54 (rf_mono m50 (rf_mono m45 (rf_mono m41 (rf_mono m36 (rf_mono m32 (rf_mono m27 (rf_mono m23 (rf_mono m18 (rf_mono m14 (rf_mono m9 (rf_mono m5 ht))))))))))))))))))))), trivial⟩ (by decide) (by decide) d_Mo_init_85 ?_
  rw [e92]
  obtain ⟨s93, e94⟩ : ∃ z, nw s88 31 = z := ⟨_, rfl⟩
  replace h := lt_go h e94
  have m95 := mo_nw (by decide) e94
  rw [e94]
  have hk96 : rf s93.2.2 31 (some o91) = some o91 := by rw [← e92]; exact rf_new (by decide) e94
  refine g_putrF (s0 := 20) (j := 14) (ci := 5) (C := RX5) (T := TX5) (N := 29) ok (rf_mono m95 (rf_mono m90 (rf_mono m86 (rf_mono m81 (rf_mono m77 (rf_mono m72 (rf_mono m68 (rf_mono m63 (rf_mono m59 (rf_mono m54 (rf_mono m50 (rf_mono m45 (rf_mono m41 (rf_mono m36 (rf_mono m32 (rf_mono m27 (rf_mono m23 (rf_mono m18 (rf_mono m14 (rf_mono m9 (rf_mono m5 ht))))))))))))))))))))) lay_20 rfl inX5 (by decide) rfl tw_752 rfl tyX5_ok nmX5 rfl hI rfl (Or.inr ⟨_, rfl⟩) (rf_dm hk96) d_Mo_init_87 ?_
  obtain ⟨s97, e98⟩ : ∃ z, wr s93 k 14 (some o91) = z := ⟨_, rfl⟩
  replace h := lt_go h e98
  have m99 := mo_wr e98
  rw [e98]
  refine g_aload_n (i := 0) 0 ok d_Mo_init_90 rfl rfl ?_
  refine g_bipush (v := (40 : Int32)) ok d_Mo_init_91 (by decide) ?_
  obtain ⟨o100, e101⟩ : ∃ z, nid s97 32 = z := ⟨_, rfl⟩
  replace h := lt_go h e101
  refine g_newa0 (s0 := 32) (n := 40) ok (by decide) lay_32 (by decide) (by decide) (by decide) tw_47 ⟨(rk_of (rf_mono m99 (rf_mono m95 (rf_mono m90 (rf_mono m86 (rf_mono m81 (rf_mono m77 (rf_mono m72 (rf_mono m68 (rf_mono m63 (rf_mono m59 (rf_mono m54 (rf_mono m50 (rf_mono m45 (rf_mono m41 (rf_mono m36 (rf_mono m32 (rf_mono m27 (rf_mono m23 (rf_mono m18 (rf_mono m14 (rf_mono m9 (rf_mono m5 ht))))))))))))))))))))))), trivial⟩ ⟨(rk_of (rf_mono m99 (rf_mono m95 (rf_mono m90 (rf_mono m86 (rf_mono m81 (rf_mono m77 (rf_mono m72 (rf_mono m68 (rf_mono m63 (rf_mono m59 (rf_mono m54 (rf_mono m50 (rf_mono m45 (rf_mono m41 (rf_mono m36 (rf_mono m32 (rf_mono m27 (rf_mono m23 (rf_mono m18 (rf_mono m14 (rf_mono m9 (rf_mono m5 ht))))))))))))))))))))))), trivial⟩ (by decide) (by decide) d_Mo_init_93 ?_
  rw [e101]
  obtain ⟨s102, e103⟩ : ∃ z, nw s97 32 = z := ⟨_, rfl⟩
  replace h := lt_go h e103
  have m104 := mo_nw (by decide) e103
  rw [e103]
  have hk105 : rf s102.2.2 32 (some o100) = some o100 := by rw [← e101]; exact rf_new (by decide) e103
  refine g_putrF (s0 := 20) (j := 16) (ci := 5) (C := RX5) (T := TX5) (N := 29) ok (rf_mono m104 (rf_mono m99 (rf_mono m95 (rf_mono m90 (rf_mono m86 (rf_mono m81 (rf_mono m77 (rf_mono m72 (rf_mono m68 (rf_mono m63 (rf_mono m59 (rf_mono m54 (rf_mono m50 (rf_mono m45 (rf_mono m41 (rf_mono m36 (rf_mono m32 (rf_mono m27 (rf_mono m23 (rf_mono m18 (rf_mono m14 (rf_mono m9 (rf_mono m5 ht))))))))))))))))))))))) lay_20 rfl inX5 (by decide) rfl tw_754 rfl tyX5_ok nmX5 rfl hI rfl (Or.inr ⟨_, rfl⟩) (rf_dm hk105) d_Mo_init_95 ?_
  obtain ⟨s106, e107⟩ : ∃ z, wr s102 k 16 (some o100) = z := ⟨_, rfl⟩
  replace h := lt_go h e107
  have m108 := mo_wr e107
  rw [e107]
  refine g_aload_n (i := 0) 0 ok d_Mo_init_98 rfl rfl ?_
  refine g_bipush (v := (40 : Int32)) ok d_Mo_init_99 (by decide) ?_
  obtain ⟨o109, e110⟩ : ∃ z, nid s106 33 = z := ⟨_, rfl⟩
  replace h := lt_go h e110
  refine g_newa0 (s0 := 33) (n := 40) ok (by decide) lay_33 (by decide) (by decide) (by decide) tw_47 ⟨(rk_of (rf_mono m108 (rf_mono m104 (rf_mono m99 (rf_mono m95 (rf_mono m90 (rf_mono m86 (rf_mono m81 (rf_mono m77 (rf_mono m72 (rf_mono m68 (rf_mono m63 (rf_mono m59 (rf_mono m54 (rf_mono m50 (rf_mono m45 (rf_mono m41 (rf_mono m36 (rf_mono m32 (rf_mono m27 (rf_mono m23 (rf_mono m18 (rf_mono m14 (rf_mono m9 (rf_mono m5 ht))))))))))))))))))))))))), trivial⟩ ⟨(rk_of (rf_mono m108 (rf_mono m104 (rf_mono m99 (rf_mono m95 (rf_mono m90 (rf_mono m86 (rf_mono m81 (rf_mono m77 (rf_mono m72 (rf_mono m68 (rf_mono m63 (rf_mono m59 (rf_mono m54 (rf_mono m50 (rf_mono m45 (rf_mono m41 (rf_mono m36 (rf_mono m32 (rf_mono m27 (rf_mono m23 (rf_mono m18 (rf_mono m14 (rf_mono m9 (rf_mono m5 ht))))))))))))))))))))))))), trivial⟩ (by decide) (by decide) d_Mo_init_101 ?_
  rw [e110]
  obtain ⟨s111, e112⟩ : ∃ z, nw s106 33 = z := ⟨_, rfl⟩
  replace h := lt_go h e112
  have m113 := mo_nw (by decide) e112
  rw [e112]
  have hk114 : rf s111.2.2 33 (some o109) = some o109 := by rw [← e110]; exact rf_new (by decide) e112
  refine g_putrF (s0 := 20) (j := 18) (ci := 5) (C := RX5) (T := TX5) (N := 29) ok (rf_mono m113 (rf_mono m108 (rf_mono m104 (rf_mono m99 (rf_mono m95 (rf_mono m90 (rf_mono m86 (rf_mono m81 (rf_mono m77 (rf_mono m72 (rf_mono m68 (rf_mono m63 (rf_mono m59 (rf_mono m54 (rf_mono m50 (rf_mono m45 (rf_mono m41 (rf_mono m36 (rf_mono m32 (rf_mono m27 (rf_mono m23 (rf_mono m18 (rf_mono m14 (rf_mono m9 (rf_mono m5 ht))))))))))))))))))))))))) lay_20 rfl inX5 (by decide) rfl tw_756 rfl tyX5_ok nmX5 rfl hI rfl (Or.inr ⟨_, rfl⟩) (rf_dm hk114) d_Mo_init_103 ?_
  obtain ⟨s115, e116⟩ : ∃ z, wr s111 k 18 (some o109) = z := ⟨_, rfl⟩
  replace h := lt_go h e116
  have m117 := mo_wr e116
  rw [e116]
  refine g_aload_n (i := 0) 0 ok d_Mo_init_106 rfl rfl ?_
  refine g_bipush (v := (40 : Int32)) ok d_Mo_init_107 (by decide) ?_
  obtain ⟨o118, e119⟩ : ∃ z, nid s115 34 = z := ⟨_, rfl⟩
  replace h := lt_go h e119
  refine g_newa0 (s0 := 34) (n := 40) ok (by decide) lay_34 (by decide) (by decide) (by decide) tw_47 ⟨(rk_of (rf_mono m117 (rf_mono m113 (rf_mono m108 (rf_mono m104 (rf_mono m99 (rf_mono m95 (rf_mono m90 (rf_mono m86 (rf_mono m81 (rf_mono m77 (rf_mono m72 (rf_mono m68 (rf_mono m63 (rf_mono m59 (rf_mono m54 (rf_mono m50 (rf_mono m45 (rf_mono m41 (rf_mono m36 (rf_mono m32 (rf_mono m27 (rf_mono m23 (rf_mono m18 (rf_mono m14 (rf_mono m9 (rf_mono m5 ht))))))))))))))))))))))))))), trivial⟩ ⟨(rk_of (rf_mono m117 (rf_mono m113 (rf_mono m108 (rf_mono m104 (rf_mono m99 (rf_mono m95 (rf_mono m90 (rf_mono m86 (rf_mono m81 (rf_mono m77 (rf_mono m72 (rf_mono m68 (rf_mono m63 (rf_mono m59 (rf_mono m54 (rf_mono m50 (rf_mono m45 (rf_mono m41 (rf_mono m36 (rf_mono m32 (rf_mono m27 (rf_mono m23 (rf_mono m18 (rf_mono m14 (rf_mono m9 (rf_mono m5 ht))))))))))))))))))))))))))), trivial⟩ (by decide) (by decide) d_Mo_init_109 ?_
  rw [e119]
  obtain ⟨s120, e121⟩ : ∃ z, nw s115 34 = z := ⟨_, rfl⟩
  replace h := lt_go h e121
  have m122 := mo_nw (by decide) e121
  rw [e121]
  have hk123 : rf s120.2.2 34 (some o118) = some o118 := by rw [← e119]; exact rf_new (by decide) e121
  refine g_putrF (s0 := 20) (j := 19) (ci := 5) (C := RX5) (T := TX5) (N := 29) ok (rf_mono m122 (rf_mono m117 (rf_mono m113 (rf_mono m108 (rf_mono m104 (rf_mono m99 (rf_mono m95 (rf_mono m90 (rf_mono m86 (rf_mono m81 (rf_mono m77 (rf_mono m72 (rf_mono m68 (rf_mono m63 (rf_mono m59 (rf_mono m54 (rf_mono m50 (rf_mono m45 (rf_mono m41 (rf_mono m36 (rf_mono m32 (rf_mono m27 (rf_mono m23 (rf_mono m18 (rf_mono m14 (rf_mono m9 (rf_mono m5 ht))))))))))))))))))))))))))) lay_20 rfl inX5 (by decide) rfl tw_757 rfl tyX5_ok nmX5 rfl hI rfl (Or.inr ⟨_, rfl⟩) (rf_dm hk123) d_Mo_init_111 ?_
  obtain ⟨s124, e125⟩ : ∃ z, wr s120 k 19 (some o118) = z := ⟨_, rfl⟩
  replace h := lt_go h e125
  have m126 := mo_wr e125
  rw [e125]
  refine g_aload_n (i := 0) 0 ok d_Mo_init_114 rfl rfl ?_
  refine g_bipush (v := (40 : Int32)) ok d_Mo_init_115 (by decide) ?_
  obtain ⟨o127, e128⟩ : ∃ z, nid s124 35 = z := ⟨_, rfl⟩
  replace h := lt_go h e128
  refine g_newa0 (s0 := 35) (n := 40) ok (by decide) lay_35 (by decide) (by decide) (by decide) tw_47 ⟨(rk_of (rf_mono m126 (rf_mono m122 (rf_mono m117 (rf_mono m113 (rf_mono m108 (rf_mono m104 (rf_mono m99 (rf_mono m95 (rf_mono m90 (rf_mono m86 (rf_mono m81 (rf_mono m77 (rf_mono m72 (rf_mono m68 (rf_mono m63 (rf_mono m59 (rf_mono m54 (rf_mono m50 (rf_mono m45 (rf_mono m41 (rf_mono m36 (rf_mono m32 (rf_mono m27 (rf_mono m23 (rf_mono m18 (rf_mono m14 (rf_mono m9 (rf_mono m5 ht))))))))))))))))))))))))))))), trivial⟩ ⟨(rk_of (rf_mono m126 (rf_mono m122 (rf_mono m117 (rf_mono m113 (rf_mono m108 (rf_mono m104 (rf_mono m99 (rf_mono m95 (rf_mono m90 (rf_mono m86 (rf_mono m81 (rf_mono m77 (rf_mono m72 (rf_mono m68 (rf_mono m63 (rf_mono m59 (rf_mono m54 (rf_mono m50 (rf_mono m45 (rf_mono m41 (rf_mono m36 (rf_mono m32 (rf_mono m27 (rf_mono m23 (rf_mono m18 (rf_mono m14 (rf_mono m9 (rf_mono m5 ht))))))))))))))))))))))))))))), trivial⟩ (by decide) (by decide) d_Mo_init_117 ?_
  rw [e128]
  obtain ⟨s129, e130⟩ : ∃ z, nw s124 35 = z := ⟨_, rfl⟩
  replace h := lt_go h e130
  have m131 := mo_nw (by decide) e130
  rw [e130]
  have hk132 : rf s129.2.2 35 (some o127) = some o127 := by rw [← e128]; exact rf_new (by decide) e130
  refine g_putrF (s0 := 20) (j := 20) (ci := 5) (C := RX5) (T := TX5) (N := 29) ok (rf_mono m131 (rf_mono m126 (rf_mono m122 (rf_mono m117 (rf_mono m113 (rf_mono m108 (rf_mono m104 (rf_mono m99 (rf_mono m95 (rf_mono m90 (rf_mono m86 (rf_mono m81 (rf_mono m77 (rf_mono m72 (rf_mono m68 (rf_mono m63 (rf_mono m59 (rf_mono m54 (rf_mono m50 (rf_mono m45 (rf_mono m41 (rf_mono m36 (rf_mono m32 (rf_mono m27 (rf_mono m23 (rf_mono m18 (rf_mono m14 (rf_mono m9 (rf_mono m5 ht))))))))))))))))))))))))))))) lay_20 rfl inX5 (by decide) rfl tw_758 rfl tyX5_ok nmX5 rfl hI rfl (Or.inr ⟨_, rfl⟩) (rf_dm hk132) d_Mo_init_119 ?_
  obtain ⟨s133, e134⟩ : ∃ z, wr s129 k 20 (some o127) = z := ⟨_, rfl⟩
  replace h := lt_go h e134
  have m135 := mo_wr e134
  rw [e134]
  refine g_aload_n (i := 0) 0 ok d_Mo_init_122 rfl rfl ?_
  refine g_bipush (v := (40 : Int32)) ok d_Mo_init_123 (by decide) ?_
  obtain ⟨o136, e137⟩ : ∃ z, nid s133 36 = z := ⟨_, rfl⟩
  replace h := lt_go h e137
  refine g_newa0 (s0 := 36) (n := 40) ok (by decide) lay_36 (by decide) (by decide) (by decide) tw_47 ⟨(rk_of (rf_mono m135 (rf_mono m131 (rf_mono m126 (rf_mono m122 (rf_mono m117 (rf_mono m113 (rf_mono m108 (rf_mono m104 (rf_mono m99 (rf_mono m95 (rf_mono m90 (rf_mono m86 (rf_mono m81 (rf_mono m77 (rf_mono m72 (rf_mono m68 (rf_mono m63 (rf_mono m59 (rf_mono m54 (rf_mono m50 (rf_mono m45 (rf_mono m41 (rf_mono m36 (rf_mono m32 (rf_mono m27 (rf_mono m23 (rf_mono m18 (rf_mono m14 (rf_mono m9 (rf_mono m5 ht))))))))))))))))))))))))))))))), trivial⟩ ⟨(rk_of (rf_mono m135 (rf_mono m131 (rf_mono m126 (rf_mono m122 (rf_mono m117 (rf_mono m113 (rf_mono m108 (rf_mono m104 (rf_mono m99 (rf_mono m95 (rf_mono m90 (rf_mono m86 (rf_mono m81 (rf_mono m77 (rf_mono m72 (rf_mono m68 (rf_mono m63 (rf_mono m59 (rf_mono m54 (rf_mono m50 (rf_mono m45 (rf_mono m41 (rf_mono m36 (rf_mono m32 (rf_mono m27 (rf_mono m23 (rf_mono m18 (rf_mono m14 (rf_mono m9 (rf_mono m5 ht))))))))))))))))))))))))))))))), trivial⟩ (by decide) (by decide) d_Mo_init_125 ?_
  rw [e137]
  obtain ⟨s138, e139⟩ : ∃ z, nw s133 36 = z := ⟨_, rfl⟩
  replace h := lt_go h e139
  have m140 := mo_nw (by decide) e139
  rw [e139]
  have hk141 : rf s138.2.2 36 (some o136) = some o136 := by rw [← e137]; exact rf_new (by decide) e139
  refine g_putrF (s0 := 20) (j := 21) (ci := 5) (C := RX5) (T := TX5) (N := 29) ok (rf_mono m140 (rf_mono m135 (rf_mono m131 (rf_mono m126 (rf_mono m122 (rf_mono m117 (rf_mono m113 (rf_mono m108 (rf_mono m104 (rf_mono m99 (rf_mono m95 (rf_mono m90 (rf_mono m86 (rf_mono m81 (rf_mono m77 (rf_mono m72 (rf_mono m68 (rf_mono m63 (rf_mono m59 (rf_mono m54 (rf_mono m50 (rf_mono m45 (rf_mono m41 (rf_mono m36 (rf_mono m32 (rf_mono m27 (rf_mono m23 (rf_mono m18 (rf_mono m14 (rf_mono m9 (rf_mono m5 ht))))))))))))))))))))))))))))))) lay_20 rfl inX5 (by decide) rfl tw_759 rfl tyX5_ok nmX5 rfl hI rfl (Or.inr ⟨_, rfl⟩) (rf_dm hk141) d_Mo_init_127 ?_
  obtain ⟨s142, e143⟩ : ∃ z, wr s138 k 21 (some o136) = z := ⟨_, rfl⟩
  replace h := lt_go h e143
  have m144 := mo_wr e143
  rw [e143]
  refine g_aload_n (i := 0) 0 ok d_Mo_init_130 rfl rfl ?_
  refine g_bipush (v := (40 : Int32)) ok d_Mo_init_131 (by decide) ?_
  obtain ⟨o145, e146⟩ : ∃ z, nid s142 37 = z := ⟨_, rfl⟩
  replace h := lt_go h e146
  refine g_newa0 (s0 := 37) (n := 40) ok (by decide) lay_37 (by decide) (by decide) (by decide) tw_47 ⟨(rk_of (rf_mono m144 (rf_mono m140 (rf_mono m135 (rf_mono m131 (rf_mono m126 (rf_mono m122 (rf_mono m117 (rf_mono m113 (rf_mono m108 (rf_mono m104 (rf_mono m99 (rf_mono m95 (rf_mono m90 (rf_mono m86 (rf_mono m81 (rf_mono m77 (rf_mono m72 (rf_mono m68 (rf_mono m63 (rf_mono m59 (rf_mono m54 (rf_mono m50 (rf_mono m45 (rf_mono m41 (rf_mono m36 (rf_mono m32 (rf_mono m27 (rf_mono m23 (rf_mono m18 (rf_mono m14 (rf_mono m9 (rf_mono m5 ht))))))))))))))))))))))))))))))))), trivial⟩ ⟨(rk_of (rf_mono m144 (rf_mono m140 (rf_mono m135 (rf_mono m131 (rf_mono m126 (rf_mono m122 (rf_mono m117 (rf_mono m113 (rf_mono m108 (rf_mono m104 (rf_mono m99 (rf_mono m95 (rf_mono m90 (rf_mono m86 (rf_mono m81 (rf_mono m77 (rf_mono m72 (rf_mono m68 (rf_mono m63 (rf_mono m59 (rf_mono m54 (rf_mono m50 (rf_mono m45 (rf_mono m41 (rf_mono m36 (rf_mono m32 (rf_mono m27 (rf_mono m23 (rf_mono m18 (rf_mono m14 (rf_mono m9 (rf_mono m5 ht))))))))))))))))))))))))))))))))), trivial⟩ (by decide) (by decide) d_Mo_init_133 ?_
  rw [e146]
  obtain ⟨s147, e148⟩ : ∃ z, nw s142 37 = z := ⟨_, rfl⟩
  replace h := lt_go h e148
  have m149 := mo_nw (by decide) e148
  rw [e148]
  have hk150 : rf s147.2.2 37 (some o145) = some o145 := by rw [← e146]; exact rf_new (by decide) e148
  refine g_putrF (s0 := 20) (j := 22) (ci := 5) (C := RX5) (T := TX5) (N := 29) ok (rf_mono m149 (rf_mono m144 (rf_mono m140 (rf_mono m135 (rf_mono m131 (rf_mono m126 (rf_mono m122 (rf_mono m117 (rf_mono m113 (rf_mono m108 (rf_mono m104 (rf_mono m99 (rf_mono m95 (rf_mono m90 (rf_mono m86 (rf_mono m81 (rf_mono m77 (rf_mono m72 (rf_mono m68 (rf_mono m63 (rf_mono m59 (rf_mono m54 (rf_mono m50 (rf_mono m45 (rf_mono m41 (rf_mono m36 (rf_mono m32 (rf_mono m27 (rf_mono m23 (rf_mono m18 (rf_mono m14 (rf_mono m9 (rf_mono m5 ht))))))))))))))))))))))))))))))))) lay_20 rfl inX5 (by decide) rfl tw_760 rfl tyX5_ok nmX5 rfl hI rfl (Or.inr ⟨_, rfl⟩) (rf_dm hk150) d_Mo_init_135 ?_
  obtain ⟨s151, e152⟩ : ∃ z, wr s147 k 22 (some o145) = z := ⟨_, rfl⟩
  replace h := lt_go h e152
  have m153 := mo_wr e152
  rw [e152]
  refine g_aload_n (i := 0) 0 ok d_Mo_init_138 rfl rfl ?_
  refine g_sipush (v := (3321 : Int32)) ok d_Mo_init_139 (by decide) ?_
  obtain ⟨o154, e155⟩ : ∃ z, nid s151 38 = z := ⟨_, rfl⟩
  replace h := lt_go h e155
  refine g_newa0 (s0 := 38) (n := 3321) ok (by decide) lay_38 (by decide) (by decide) (by decide) tw_47 ⟨(rk_of (rf_mono m153 (rf_mono m149 (rf_mono m144 (rf_mono m140 (rf_mono m135 (rf_mono m131 (rf_mono m126 (rf_mono m122 (rf_mono m117 (rf_mono m113 (rf_mono m108 (rf_mono m104 (rf_mono m99 (rf_mono m95 (rf_mono m90 (rf_mono m86 (rf_mono m81 (rf_mono m77 (rf_mono m72 (rf_mono m68 (rf_mono m63 (rf_mono m59 (rf_mono m54 (rf_mono m50 (rf_mono m45 (rf_mono m41 (rf_mono m36 (rf_mono m32 (rf_mono m27 (rf_mono m23 (rf_mono m18 (rf_mono m14 (rf_mono m9 (rf_mono m5 ht))))))))))))))))))))))))))))))))))), trivial⟩ ⟨(rk_of (rf_mono m153 (rf_mono m149 (rf_mono m144 (rf_mono m140 (rf_mono m135 (rf_mono m131 (rf_mono m126 (rf_mono m122 (rf_mono m117 (rf_mono m113 (rf_mono m108 (rf_mono m104 (rf_mono m99 (rf_mono m95 (rf_mono m90 (rf_mono m86 (rf_mono m81 (rf_mono m77 (rf_mono m72 (rf_mono m68 (rf_mono m63 (rf_mono m59 (rf_mono m54 (rf_mono m50 (rf_mono m45 (rf_mono m41 (rf_mono m36 (rf_mono m32 (rf_mono m27 (rf_mono m23 (rf_mono m18 (rf_mono m14 (rf_mono m9 (rf_mono m5 ht))))))))))))))))))))))))))))))))))), trivial⟩ (by decide) (by decide) d_Mo_init_142 ?_
  rw [e155]
  obtain ⟨s156, e157⟩ : ∃ z, nw s151 38 = z := ⟨_, rfl⟩
  replace h := lt_go h e157
  have m158 := mo_nw (by decide) e157
  rw [e157]
  have hk159 : rf s156.2.2 38 (some o154) = some o154 := by rw [← e155]; exact rf_new (by decide) e157
  refine g_putrF (s0 := 20) (j := 23) (ci := 5) (C := RX5) (T := TX5) (N := 29) ok (rf_mono m158 (rf_mono m153 (rf_mono m149 (rf_mono m144 (rf_mono m140 (rf_mono m135 (rf_mono m131 (rf_mono m126 (rf_mono m122 (rf_mono m117 (rf_mono m113 (rf_mono m108 (rf_mono m104 (rf_mono m99 (rf_mono m95 (rf_mono m90 (rf_mono m86 (rf_mono m81 (rf_mono m77 (rf_mono m72 (rf_mono m68 (rf_mono m63 (rf_mono m59 (rf_mono m54 (rf_mono m50 (rf_mono m45 (rf_mono m41 (rf_mono m36 (rf_mono m32 (rf_mono m27 (rf_mono m23 (rf_mono m18 (rf_mono m14 (rf_mono m9 (rf_mono m5 ht))))))))))))))))))))))))))))))))))) lay_20 rfl inX5 (by decide) rfl tw_761 rfl tyX5_ok nmX5 rfl hI rfl (Or.inr ⟨_, rfl⟩) (rf_dm hk159) d_Mo_init_144 ?_
  obtain ⟨s160, e161⟩ : ∃ z, wr s156 k 23 (some o154) = z := ⟨_, rfl⟩
  replace h := lt_go h e161
  have m162 := mo_wr e161
  rw [e161]
  refine g_aload_n (i := 0) 0 ok d_Mo_init_147 rfl rfl ?_
  refine g_bipush (v := (80 : Int32)) ok d_Mo_init_148 (by decide) ?_
  obtain ⟨o163, e164⟩ : ∃ z, nid s160 39 = z := ⟨_, rfl⟩
  replace h := lt_go h e164
  refine g_newa0 (s0 := 39) (n := 80) ok (by decide) lay_39 (by decide) (by decide) (by decide) tw_47 ⟨(rk_of (rf_mono m162 (rf_mono m158 (rf_mono m153 (rf_mono m149 (rf_mono m144 (rf_mono m140 (rf_mono m135 (rf_mono m131 (rf_mono m126 (rf_mono m122 (rf_mono m117 (rf_mono m113 (rf_mono m108 (rf_mono m104 (rf_mono m99 (rf_mono m95 (rf_mono m90 (rf_mono m86 (rf_mono m81 (rf_mono m77 (rf_mono m72 (rf_mono m68 (rf_mono m63 (rf_mono m59 (rf_mono m54 (rf_mono m50 (rf_mono m45 (rf_mono m41 (rf_mono m36 (rf_mono m32 (rf_mono m27 (rf_mono m23 (rf_mono m18 (rf_mono m14 (rf_mono m9 (rf_mono m5 ht))))))))))))))))))))))))))))))))))))), trivial⟩ ⟨(rk_of (rf_mono m162 (rf_mono m158 (rf_mono m153 (rf_mono m149 (rf_mono m144 (rf_mono m140 (rf_mono m135 (rf_mono m131 (rf_mono m126 (rf_mono m122 (rf_mono m117 (rf_mono m113 (rf_mono m108 (rf_mono m104 (rf_mono m99 (rf_mono m95 (rf_mono m90 (rf_mono m86 (rf_mono m81 (rf_mono m77 (rf_mono m72 (rf_mono m68 (rf_mono m63 (rf_mono m59 (rf_mono m54 (rf_mono m50 (rf_mono m45 (rf_mono m41 (rf_mono m36 (rf_mono m32 (rf_mono m27 (rf_mono m23 (rf_mono m18 (rf_mono m14 (rf_mono m9 (rf_mono m5 ht))))))))))))))))))))))))))))))))))))), trivial⟩ (by decide) (by decide) d_Mo_init_150 ?_
  rw [e164]
  obtain ⟨s165, e166⟩ : ∃ z, nw s160 39 = z := ⟨_, rfl⟩
  replace h := lt_go h e166
  have m167 := mo_nw (by decide) e166
  rw [e166]
  have hk168 : rf s165.2.2 39 (some o163) = some o163 := by rw [← e164]; exact rf_new (by decide) e166
  refine g_putrF (s0 := 20) (j := 25) (ci := 5) (C := RX5) (T := TX5) (N := 29) ok (rf_mono m167 (rf_mono m162 (rf_mono m158 (rf_mono m153 (rf_mono m149 (rf_mono m144 (rf_mono m140 (rf_mono m135 (rf_mono m131 (rf_mono m126 (rf_mono m122 (rf_mono m117 (rf_mono m113 (rf_mono m108 (rf_mono m104 (rf_mono m99 (rf_mono m95 (rf_mono m90 (rf_mono m86 (rf_mono m81 (rf_mono m77 (rf_mono m72 (rf_mono m68 (rf_mono m63 (rf_mono m59 (rf_mono m54 (rf_mono m50 (rf_mono m45 (rf_mono m41 (rf_mono m36 (rf_mono m32 (rf_mono m27 (rf_mono m23 (rf_mono m18 (rf_mono m14 (rf_mono m9 (rf_mono m5 ht))))))))))))))))))))))))))))))))))))) lay_20 rfl inX5 (by decide) rfl tw_763 rfl tyX5_ok nmX5 rfl hI rfl (Or.inr ⟨_, rfl⟩) (rf_dm hk168) d_Mo_init_152 ?_
  obtain ⟨s169, e170⟩ : ∃ z, wr s165 k 25 (some o163) = z := ⟨_, rfl⟩
  replace h := lt_go h e170
  have m171 := mo_wr e170
  rw [e170]
  refine g_aload_n (i := 0) 0 ok d_Mo_init_155 rfl rfl ?_
  refine g_iconst (v := (-1 : Int32)) ok d_Mo_init_156 (by decide) ?_
  refine g_puti (s0 := 20) (j := 26) (ci := 5) (C := RX5) (T := TX5) (N := 29) ok (rf_mono m171 (rf_mono m167 (rf_mono m162 (rf_mono m158 (rf_mono m153 (rf_mono m149 (rf_mono m144 (rf_mono m140 (rf_mono m135 (rf_mono m131 (rf_mono m126 (rf_mono m122 (rf_mono m117 (rf_mono m113 (rf_mono m108 (rf_mono m104 (rf_mono m99 (rf_mono m95 (rf_mono m90 (rf_mono m86 (rf_mono m81 (rf_mono m77 (rf_mono m72 (rf_mono m68 (rf_mono m63 (rf_mono m59 (rf_mono m54 (rf_mono m50 (rf_mono m45 (rf_mono m41 (rf_mono m36 (rf_mono m32 (rf_mono m27 (rf_mono m23 (rf_mono m18 (rf_mono m14 (rf_mono m9 (rf_mono m5 ht)))))))))))))))))))))))))))))))))))))) lay_20 rfl inX5 (by decide) rfl tw_764 rfl tyX5_ok nmX5 rfl (Or.inl rfl) d_Mo_init_157 ?_
  obtain ⟨s172, e173⟩ : ∃ z, wi s169 k 26 (-1 : Int32) = z := ⟨_, rfl⟩
  replace h := lt_go h e173
  have m174 := mo_wi e173
  rw [e173]
  cases h
  exact g_vret ok (hret _ hk) (by decide) (by decide) d_Mo_init_160
theorem c_Mo_init (l : Launch) {k : Nat} {s : MS} (ht : rf s.2.2 20 (some k) = some k) {z : MS} (h : f_Mo_init k s = some z) : Ct l yX5_init (.code yX5_init cX5_init 1 none) rm_Mo_init 19 3921 true [vR (some k)] s none z :=
  Ct.of rfl (by decide +kernel) ⟨rfl, le_t rfl⟩ (fun X ok fn _ hI hl => w_Mo_init (KX := fun y => y = z) ok (fun y hy => by subst hy; exact fn) hI ht h rfl)
abbrev rm_Mo_thrown : Room := { frames := 0, cells := 0, slots := 0, locals := 0 }
theorem cm_Mo_thrown : cfM yX5_thrown cX5_thrown 1 (some .int) 0 := ⟨tw_830, tw_4, by decide, by decide, by decide +kernel⟩
theorem cv_Mo_thrown : cfV yX5_thrown := ⟨tw_828, tw_829⟩
theorem d_Mo_thrown_0 : decode cX5_thrown 0 = .ok (.aload_n 0, 1) := by decide +kernel
theorem d_Mo_thrown_1 : decode cX5_thrown 1 = .ok (.getfield 72, 3) := by decide +kernel
theorem d_Mo_thrown_4 : decode cX5_thrown 4 = .ok (.ireturn, 1) := by decide +kernel
set_option maxRecDepth 100000 in
set_option maxHeartbeats 4000000 in
theorem w_Mo_thrown {X : CX} {KX : Int32 → Prop} {k : Nat} {s : MS} (ok : Ok X cX5_thrown RX5 rm_Mo_thrown 1 false) (hret : ∀ r : Int32, KX r → Fin X (some .int) 0 0 false (some (vI r)) s)   (ht : rf s.2.2 20 (some k) = some k) {res : Int32} (h : f_Mo_thrown k s = some res) (hk : KX res) : G X s 0 0 0 [(0, vR (some k))] [] := by
  unfold f_Mo_thrown at h
  refine g_aload_n (i := 0) 0 ok d_Mo_thrown_0 rfl rfl ?_
  refine g_geti (s0 := 20) (j := 0) (ci := 5) (C := RX5) (T := TX5) (N := 29) ok ht lay_20 rfl inX5 (by decide) rfl tw_738 rfl d_Mo_thrown_1 ?_
  cases h
  exact g_iret ok (hret _ hk) (by decide) (by decide) d_Mo_thrown_4
theorem c_Mo_thrown (l : Launch) {k : Nat} {s : MS} (ht : rf s.2.2 20 (some k) = some k) {r : Int32} (h : f_Mo_thrown k s = some r) : Ct l yX5_thrown (.code yX5_thrown cX5_thrown 1 (some .int)) rm_Mo_thrown 0 0 false [vR (some k)] s (some (vI r)) s :=
  Ct.of rfl (by decide +kernel) ⟨rfl, le_t rfl⟩ (fun X ok fn _ hI hl => w_Mo_thrown (KX := fun y => y = r) ok (fun y hy => by subst hy; exact fn) ht h rfl)
abbrev rm_Mo_refused : Room := { frames := 0, cells := 0, slots := 0, locals := 0 }
theorem cm_Mo_refused : cfM yX5_refused cX5_refused 2 (some .boolean) 1 := ⟨tw_844, tw_4, by decide, by decide, by decide +kernel⟩
theorem cv_Mo_refused : cfV yX5_refused := ⟨tw_843, ts_X5_refused⟩
theorem d_Mo_refused_0 : decode cX5_refused 0 = .ok (.aload_n 0, 1) := by decide +kernel
theorem d_Mo_refused_1 : decode cX5_refused 1 = .ok (.iload_n 1, 1) := by decide +kernel
theorem d_Mo_refused_2 : decode cX5_refused 2 = .ok (.putfield 72, 3) := by decide +kernel
theorem d_Mo_refused_5 : decode cX5_refused 5 = .ok (.iload_n 1, 1) := by decide +kernel
theorem d_Mo_refused_6 : decode cX5_refused 6 = .ok (.ifCond .eq 7, 3) := by decide +kernel
theorem d_Mo_refused_9 : decode cX5_refused 9 = .ok (.iconst 1, 1) := by decide +kernel
theorem d_Mo_refused_10 : decode cX5_refused 10 = .ok (.goto 4, 3) := by decide +kernel
theorem d_Mo_refused_13 : decode cX5_refused 13 = .ok (.iconst 0, 1) := by decide +kernel
theorem d_Mo_refused_14 : decode cX5_refused 14 = .ok (.ireturn, 1) := by decide +kernel
set_option maxRecDepth 100000 in
set_option maxHeartbeats 4000000 in
theorem w_Mo_refused {X : CX} {KX : Int32 × MS → Prop} {k : Nat} {a1 : Int32} {s : MS} (ok : Ok X cX5_refused RX5 rm_Mo_refused 2 false) (hret : ∀ r : Int32 × MS, KX r → Fin X (some .boolean) 0 0 false (some (vI r.1)) r.2)   (ht : rf s.2.2 20 (some k) = some k) {res : Int32 × MS} (h : f_Mo_refused k a1 s = some res) (hk : KX res) : G X s 0 0 0 [(0, vR (some k)), (1, vI a1)] [] := by
  unfold f_Mo_refused at h
  refine g_aload_n (i := 0) 0 ok d_Mo_refused_0 rfl rfl ?_
  refine g_iload_n (i := 1) 1 ok d_Mo_refused_1 rfl rfl ?_
  refine g_puti (s0 := 20) (j := 0) (ci := 5) (C := RX5) (T := TX5) (N := 29) ok ht lay_20 rfl inX5 (by decide) rfl tw_738 rfl tyX5_ok nmX5 rfl (Or.inl rfl) d_Mo_refused_2 ?_
  obtain ⟨s1, e2⟩ : ∃ z, wi s k 0 a1 = z := ⟨_, rfl⟩
  replace h := lt_go h e2
  have m3 := mo_wi e2
  rw [e2]
  refine g_iload_n (i := 1) 1 ok d_Mo_refused_5 rfl rfl ?_
  refine g_if_eq (tgt := 13) ok d_Mo_refused_6 (by decide) (fun c4 => ?_) (fun c4 => ?_)
  · replace h := (if_pos c4).symm.trans h
    refine g_iconst (v := (0 : Int32)) ok d_Mo_refused_13 (by decide) ?_
    cases h
    exact g_zret ok (hret _ hk) (Or.inl rfl) (by decide) (by decide) d_Mo_refused_14
  · replace h := (if_neg c4).symm.trans h
    refine g_iconst (v := (1 : Int32)) ok d_Mo_refused_9 (by decide) ?_
    refine g_goto (tgt := 14) ok d_Mo_refused_10 (by decide) ?_
    cases h
    exact g_zret ok (hret _ hk) (Or.inr rfl) (by decide) (by decide) d_Mo_refused_14
theorem c_Mo_refused (l : Launch) {k : Nat} {a1 : Int32} {s : MS} (ht : rf s.2.2 20 (some k) = some k) {r : Int32} {z : MS} (h : f_Mo_refused k a1 s = some (r, z)) : Ct l yX5_refused (.code yX5_refused cX5_refused 2 (some .boolean)) rm_Mo_refused 0 0 false [vR (some k), vI a1] s (some (vI r)) z :=
  Ct.of rfl (by decide +kernel) ⟨rfl, le_t rfl⟩ (fun X ok fn _ hI hl => w_Mo_refused (KX := fun y => y = (r, z)) ok (fun y hy => by subst hy; exact fn) ht h rfl)
abbrev rm_Mo_within : Room := { frames := 0, cells := 0, slots := 0, locals := 0 }
theorem cm_Mo_within : cfM yX5_within cX5_within 3 (some .boolean) 3 := ⟨tw_840, tw_4, by decide, by decide, by decide +kernel⟩
theorem cs_Mo_within : cfS yX5_within := tw_839
theorem d_Mo_within_0 : decode cX5_within 0 = .ok (.iload_n 0, 1) := by decide +kernel
theorem d_Mo_within_1 : decode cX5_within 1 = .ok (.iload_n 1, 1) := by decide +kernel
theorem d_Mo_within_2 : decode cX5_within 2 = .ok (.if_icmp .lt 12, 3) := by decide +kernel
theorem d_Mo_within_5 : decode cX5_within 5 = .ok (.iload_n 0, 1) := by decide +kernel
theorem d_Mo_within_6 : decode cX5_within 6 = .ok (.iload_n 2, 1) := by decide +kernel
theorem d_Mo_within_7 : decode cX5_within 7 = .ok (.if_icmp .gt 7, 3) := by decide +kernel
theorem d_Mo_within_10 : decode cX5_within 10 = .ok (.iconst 1, 1) := by decide +kernel
theorem d_Mo_within_11 : decode cX5_within 11 = .ok (.goto 4, 3) := by decide +kernel
theorem d_Mo_within_14 : decode cX5_within 14 = .ok (.iconst 0, 1) := by decide +kernel
theorem d_Mo_within_15 : decode cX5_within 15 = .ok (.ireturn, 1) := by decide +kernel
set_option maxRecDepth 100000 in
set_option maxHeartbeats 4000000 in
theorem w_Mo_within {X : CX} {KX : Int32 → Prop} {a0 : Int32} {a1 : Int32} {a2 : Int32} {s : MS} (ok : Ok X cX5_within RX5 rm_Mo_within 3 false) (hret : ∀ r : Int32, KX r → Fin X (some .boolean) 0 0 false (some (vI r)) s)    {res : Int32} (h : f_Mo_within a0 a1 a2 = res) (hk : KX res) : G X s 0 0 0 [(0, vI a0), (1, vI a1), (2, vI a2)] [] := by
  unfold f_Mo_within at h
  refine g_iload_n (i := 0) 0 ok d_Mo_within_0 rfl rfl ?_
  refine g_iload_n (i := 1) 1 ok d_Mo_within_1 rfl rfl ?_
  refine g_icmp_lt (tgt := 14) ok d_Mo_within_2 (by decide) (fun c1 => ?_) (fun c1 => ?_)
  · replace h := (if_pos c1).symm.trans h
    refine g_iconst (v := (0 : Int32)) ok d_Mo_within_14 (by decide) ?_
    subst h
    exact g_zret ok (hret _ hk) (Or.inl rfl) (by decide) (by decide) d_Mo_within_15
  · replace h := (if_neg c1).symm.trans h
    refine g_iload_n (i := 0) 0 ok d_Mo_within_5 rfl rfl ?_
    refine g_iload_n (i := 2) 2 ok d_Mo_within_6 rfl rfl ?_
    refine g_icmp_gt (tgt := 14) ok d_Mo_within_7 (by decide) (fun c2 => ?_) (fun c2 => ?_)
    · replace h := (if_pos c2).symm.trans h
      refine g_iconst (v := (0 : Int32)) ok d_Mo_within_14 (by decide) ?_
      subst h
      exact g_zret ok (hret _ hk) (Or.inl rfl) (by decide) (by decide) d_Mo_within_15
    · replace h := (if_neg c2).symm.trans h
      refine g_iconst (v := (1 : Int32)) ok d_Mo_within_10 (by decide) ?_
      refine g_goto (tgt := 15) ok d_Mo_within_11 (by decide) ?_
      subst h
      exact g_zret ok (hret _ hk) (Or.inr rfl) (by decide) (by decide) d_Mo_within_15
theorem c_Mo_within (l : Launch) {a0 : Int32} {a1 : Int32} {a2 : Int32} {s : MS} : Ct l yX5_within (.code yX5_within cX5_within 3 (some .boolean)) rm_Mo_within 0 0 false [vI a0, vI a1, vI a2] s (some (vI (f_Mo_within a0 a1 a2))) s :=
  Ct.of rfl (by decide +kernel) ⟨rfl, le_t rfl⟩ (fun X ok fn _ hI hl => w_Mo_within (KX := fun y => y = f_Mo_within a0 a1 a2) ok (fun y hy => by subst hy; exact fn) rfl rfl)
theorem zb_Mo_within {a0 : Int32} {a1 : Int32} {a2 : Int32} : f_Mo_within a0 a1 a2 = 0 ∨ f_Mo_within a0 a1 a2 = 1 := by
  unfold f_Mo_within
  repeat' split
  all_goals first | exact Or.inl rfl | exact Or.inr rfl
abbrev rm_Mo_isCell : Room := { frames := 1, cells := 0, slots := 0, locals := 22 }
theorem cm_Mo_isCell : cfM yX5_isCell cX5_isCell 1 (some .boolean) 1 := ⟨tw_837, tw_4, by decide, by decide, by decide +kernel⟩
theorem cs_Mo_isCell : cfS yX5_isCell := tw_836
theorem d_Mo_isCell_0 : decode cX5_isCell 0 = .ok (.iload_n 0, 1) := by decide +kernel
theorem d_Mo_isCell_1 : decode cX5_isCell 1 = .ok (.iconst 0, 1) := by decide +kernel
theorem d_Mo_isCell_2 : decode cX5_isCell 2 = .ok (.bipush 99, 2) := by decide +kernel
theorem d_Mo_isCell_4 : decode cX5_isCell 4 = .ok (.invokestatic 75, 3) := by decide +kernel
theorem d_Mo_isCell_7 : decode cX5_isCell 7 = .ok (.ireturn, 1) := by decide +kernel
set_option maxRecDepth 100000 in
set_option maxHeartbeats 4000000 in
theorem w_Mo_isCell {X : CX} {KX : Int32 → Prop} {a0 : Int32} {s : MS} (ok : Ok X cX5_isCell RX5 rm_Mo_isCell 1 false) (hret : ∀ r : Int32, KX r → Fin X (some .boolean) 0 0 false (some (vI r)) s)    {res : Int32} (h : f_Mo_isCell a0 = res) (hk : KX res) : G X s 0 0 0 [(0, vI a0)] [] := by
  unfold f_Mo_isCell at h
  refine g_iload_n (i := 0) 0 ok d_Mo_isCell_0 rfl rfl ?_
  refine g_iconst (v := (0 : Int32)) ok d_Mo_isCell_1 (by decide) ?_
  refine g_bipush (v := (99 : Int32)) ok d_Mo_isCell_2 (by decide) ?_
  refine g_invS (rm2 := rm_Mo_within) (As := [vI a0, vI (0 : Int32), vI (99 : Int32)]) (rest := []) ok (c_Mo_within X.1.2.1) cm_Mo_within cs_Mo_within tw_838 ⟨rfl, rfl⟩ ⟨le_t rfl, le_t rfl⟩ ⟨rfl, le_t rfl⟩ ⟨le_t rfl, le_t rfl⟩ d_Mo_isCell_4 rfl (fun m1 => ?_)
  show G X s 0 0 7 [(0, vI a0)] [vI (f_Mo_within a0 (0 : Int32) (99 : Int32))]
  subst h
  exact g_zret ok (hret _ hk) zb_Mo_within (by decide) (by decide) d_Mo_isCell_7
theorem c_Mo_isCell (l : Launch) {a0 : Int32} {s : MS} : Ct l yX5_isCell (.code yX5_isCell cX5_isCell 1 (some .boolean)) rm_Mo_isCell 0 0 false [vI a0] s (some (vI (f_Mo_isCell a0))) s :=
  Ct.of rfl (by decide +kernel) ⟨rfl, le_t rfl⟩ (fun X ok fn _ hI hl => w_Mo_isCell (KX := fun y => y = f_Mo_isCell a0) ok (fun y hy => by subst hy; exact fn) rfl rfl)
theorem zb_Mo_isCell {a0 : Int32} : f_Mo_isCell a0 = 0 ∨ f_Mo_isCell a0 = 1 := by
  unfold f_Mo_isCell
  repeat' split
  all_goals first | exact Or.inl rfl | exact Or.inr rfl | exact zb_Mo_within
abbrev rm_Mo_isMachine : Room := { frames := 1, cells := 0, slots := 0, locals := 22 }
theorem cm_Mo_isMachine : cfM yX5_isMachine cX5_isMachine 2 (some .boolean) 1 := ⟨tw_893, tw_4, by decide, by decide, by decide +kernel⟩
theorem cv_Mo_isMachine : cfV yX5_isMachine := ⟨tw_892, ts_X5_isMachine⟩
theorem d_Mo_isMachine_0 : decode cX5_isMachine 0 = .ok (.iload_n 1, 1) := by decide +kernel
theorem d_Mo_isMachine_1 : decode cX5_isMachine 1 = .ok (.iconst 0, 1) := by decide +kernel
theorem d_Mo_isMachine_2 : decode cX5_isMachine 2 = .ok (.aload_n 0, 1) := by decide +kernel
theorem d_Mo_isMachine_3 : decode cX5_isMachine 3 = .ok (.getfield 79, 3) := by decide +kernel
theorem d_Mo_isMachine_6 : decode cX5_isMachine 6 = .ok (.iconst 1, 1) := by decide +kernel
theorem d_Mo_isMachine_7 : decode cX5_isMachine 7 = .ok (.isub, 1) := by decide +kernel
theorem d_Mo_isMachine_8 : decode cX5_isMachine 8 = .ok (.invokestatic 75, 3) := by decide +kernel
theorem d_Mo_isMachine_11 : decode cX5_isMachine 11 = .ok (.ireturn, 1) := by decide +kernel
set_option maxRecDepth 100000 in
set_option maxHeartbeats 4000000 in
theorem w_Mo_isMachine {X : CX} {KX : Int32 → Prop} {k : Nat} {a1 : Int32} {s : MS} (ok : Ok X cX5_isMachine RX5 rm_Mo_isMachine 2 false) (hret : ∀ r : Int32, KX r → Fin X (some .boolean) 0 0 false (some (vI r)) s)   (ht : rf s.2.2 20 (some k) = some k) {res : Int32} (h : f_Mo_isMachine k a1 s = some res) (hk : KX res) : G X s 0 0 0 [(0, vR (some k)), (1, vI a1)] [] := by
  unfold f_Mo_isMachine at h
  refine g_iload_n (i := 1) 1 ok d_Mo_isMachine_0 rfl rfl ?_
  refine g_iconst (v := (0 : Int32)) ok d_Mo_isMachine_1 (by decide) ?_
  refine g_aload_n (i := 0) 0 ok d_Mo_isMachine_2 rfl rfl ?_
  refine g_geti (s0 := 20) (j := 7) (ci := 5) (C := RX5) (T := TX5) (N := 29) ok ht lay_20 rfl inX5 (by decide) rfl tw_745 rfl d_Mo_isMachine_3 ?_
  refine g_iconst (v := (1 : Int32)) ok d_Mo_isMachine_6 (by decide) ?_
  refine g_isub ok d_Mo_isMachine_7 ?_
  refine g_invS (rm2 := rm_Mo_within) (As := [vI a1, vI (0 : Int32), vI ((s.1 k 7) - (1 : Int32))]) (rest := []) ok (c_Mo_within X.1.2.1) cm_Mo_within cs_Mo_within tw_838 ⟨rfl, rfl⟩ ⟨le_t rfl, le_t rfl⟩ ⟨rfl, le_t rfl⟩ ⟨le_t rfl, le_t rfl⟩ d_Mo_isMachine_8 rfl (fun m1 => ?_)
  show G X s 0 0 11 [(0, vR (some k)), (1, vI a1)] [vI (f_Mo_within a1 (0 : Int32) ((s.1 k 7) - (1 : Int32)))]
  obtain ⟨g2, h⟩ := gd_go h
  cases h
  exact g_zret ok (hret _ hk) g2 (by decide) (by decide) d_Mo_isMachine_11
theorem c_Mo_isMachine (l : Launch) {k : Nat} {a1 : Int32} {s : MS} (ht : rf s.2.2 20 (some k) = some k) {r : Int32} (h : f_Mo_isMachine k a1 s = some r) : Ct l yX5_isMachine (.code yX5_isMachine cX5_isMachine 2 (some .boolean)) rm_Mo_isMachine 0 0 false [vR (some k), vI a1] s (some (vI r)) s :=
  Ct.of rfl (by decide +kernel) ⟨rfl, le_t rfl⟩ (fun X ok fn _ hI hl => w_Mo_isMachine (KX := fun y => y = r) ok (fun y hy => by subst hy; exact fn) ht h rfl)
abbrev rm_Mo_isPath : Room := { frames := 1, cells := 0, slots := 0, locals := 22 }
theorem cm_Mo_isPath : cfM yX5_isPath cX5_isPath 2 (some .boolean) 1 := ⟨tw_954, tw_4, by decide, by decide, by decide +kernel⟩
theorem cv_Mo_isPath : cfV yX5_isPath := ⟨tw_953, ts_X5_isPath⟩
theorem d_Mo_isPath_0 : decode cX5_isPath 0 = .ok (.iload_n 1, 1) := by decide +kernel
theorem d_Mo_isPath_1 : decode cX5_isPath 1 = .ok (.iconst 0, 1) := by decide +kernel
theorem d_Mo_isPath_2 : decode cX5_isPath 2 = .ok (.aload_n 0, 1) := by decide +kernel
theorem d_Mo_isPath_3 : decode cX5_isPath 3 = .ok (.getfield 82, 3) := by decide +kernel
theorem d_Mo_isPath_6 : decode cX5_isPath 6 = .ok (.iconst 1, 1) := by decide +kernel
theorem d_Mo_isPath_7 : decode cX5_isPath 7 = .ok (.isub, 1) := by decide +kernel
theorem d_Mo_isPath_8 : decode cX5_isPath 8 = .ok (.invokestatic 75, 3) := by decide +kernel
theorem d_Mo_isPath_11 : decode cX5_isPath 11 = .ok (.ireturn, 1) := by decide +kernel
set_option maxRecDepth 100000 in
set_option maxHeartbeats 4000000 in
theorem w_Mo_isPath {X : CX} {KX : Int32 → Prop} {k : Nat} {a1 : Int32} {s : MS} (ok : Ok X cX5_isPath RX5 rm_Mo_isPath 2 false) (hret : ∀ r : Int32, KX r → Fin X (some .boolean) 0 0 false (some (vI r)) s)   (ht : rf s.2.2 20 (some k) = some k) {res : Int32} (h : f_Mo_isPath k a1 s = some res) (hk : KX res) : G X s 0 0 0 [(0, vR (some k)), (1, vI a1)] [] := by
  unfold f_Mo_isPath at h
  refine g_iload_n (i := 1) 1 ok d_Mo_isPath_0 rfl rfl ?_
  refine g_iconst (v := (0 : Int32)) ok d_Mo_isPath_1 (by decide) ?_
  refine g_aload_n (i := 0) 0 ok d_Mo_isPath_2 rfl rfl ?_
  refine g_geti (s0 := 20) (j := 17) (ci := 5) (C := RX5) (T := TX5) (N := 29) ok ht lay_20 rfl inX5 (by decide) rfl tw_755 rfl d_Mo_isPath_3 ?_
  refine g_iconst (v := (1 : Int32)) ok d_Mo_isPath_6 (by decide) ?_
  refine g_isub ok d_Mo_isPath_7 ?_
  refine g_invS (rm2 := rm_Mo_within) (As := [vI a1, vI (0 : Int32), vI ((s.1 k 17) - (1 : Int32))]) (rest := []) ok (c_Mo_within X.1.2.1) cm_Mo_within cs_Mo_within tw_838 ⟨rfl, rfl⟩ ⟨le_t rfl, le_t rfl⟩ ⟨rfl, le_t rfl⟩ ⟨le_t rfl, le_t rfl⟩ d_Mo_isPath_8 rfl (fun m1 => ?_)
  show G X s 0 0 11 [(0, vR (some k)), (1, vI a1)] [vI (f_Mo_within a1 (0 : Int32) ((s.1 k 17) - (1 : Int32)))]
  obtain ⟨g2, h⟩ := gd_go h
  cases h
  exact g_zret ok (hret _ hk) g2 (by decide) (by decide) d_Mo_isPath_11
theorem c_Mo_isPath (l : Launch) {k : Nat} {a1 : Int32} {s : MS} (ht : rf s.2.2 20 (some k) = some k) {r : Int32} (h : f_Mo_isPath k a1 s = some r) : Ct l yX5_isPath (.code yX5_isPath cX5_isPath 2 (some .boolean)) rm_Mo_isPath 0 0 false [vR (some k), vI a1] s (some (vI r)) s :=
  Ct.of rfl (by decide +kernel) ⟨rfl, le_t rfl⟩ (fun X ok fn _ hI hl => w_Mo_isPath (KX := fun y => y = r) ok (fun y hy => by subst hy; exact fn) ht h rfl)
abbrev rm_Mo_size : Room := { frames := 0, cells := 0, slots := 0, locals := 0 }
theorem cm_Mo_size : cfM yX5_size cX5_size 1 (some .int) 1 := ⟨tw_934, tw_4, by decide, by decide, by decide +kernel⟩
theorem cs_Mo_size : cfS yX5_size := tw_933
theorem d_Mo_size_0 : decode cX5_size 0 = .ok (.iload_n 0, 1) := by decide +kernel
theorem d_Mo_size_1 : decode cX5_size 1 = .ok (.ifCond .ge 8, 3) := by decide +kernel
theorem d_Mo_size_4 : decode cX5_size 4 = .ok (.iload_n 0, 1) := by decide +kernel
theorem d_Mo_size_5 : decode cX5_size 5 = .ok (.ineg, 1) := by decide +kernel
theorem d_Mo_size_6 : decode cX5_size 6 = .ok (.goto 4, 3) := by decide +kernel
theorem d_Mo_size_9 : decode cX5_size 9 = .ok (.iload_n 0, 1) := by decide +kernel
theorem d_Mo_size_10 : decode cX5_size 10 = .ok (.ireturn, 1) := by decide +kernel
set_option maxRecDepth 100000 in
set_option maxHeartbeats 4000000 in
theorem w_Mo_size {X : CX} {KX : Int32 → Prop} {a0 : Int32} {s : MS} (ok : Ok X cX5_size RX5 rm_Mo_size 1 false) (hret : ∀ r : Int32, KX r → Fin X (some .int) 0 0 false (some (vI r)) s)    {res : Int32} (h : f_Mo_size a0 = res) (hk : KX res) : G X s 0 0 0 [(0, vI a0)] [] := by
  unfold f_Mo_size at h
  refine g_iload_n (i := 0) 0 ok d_Mo_size_0 rfl rfl ?_
  refine g_if_ge (tgt := 9) ok d_Mo_size_1 (by decide) (fun c1 => ?_) (fun c1 => ?_)
  · replace h := (if_pos c1).symm.trans h
    refine g_iload_n (i := 0) 0 ok d_Mo_size_4 rfl rfl ?_
    refine g_ineg ok d_Mo_size_5 ?_
    refine g_goto (tgt := 10) ok d_Mo_size_6 (by decide) ?_
    subst h
    exact g_iret ok (hret _ hk) (by decide) (by decide) d_Mo_size_10
  · replace h := (if_neg c1).symm.trans h
    refine g_iload_n (i := 0) 0 ok d_Mo_size_9 rfl rfl ?_
    subst h
    exact g_iret ok (hret _ hk) (by decide) (by decide) d_Mo_size_10
theorem c_Mo_size (l : Launch) {a0 : Int32} {s : MS} : Ct l yX5_size (.code yX5_size cX5_size 1 (some .int)) rm_Mo_size 0 0 false [vI a0] s (some (vI (f_Mo_size a0))) s :=
  Ct.of rfl (by decide +kernel) ⟨rfl, le_t rfl⟩ (fun X ok fn _ hI hl => w_Mo_size (KX := fun y => y = f_Mo_size a0) ok (fun y hy => by subst hy; exact fn) rfl rfl)
abbrev rm_Mo_tower : Room := { frames := 2, cells := 0, slots := 0, locals := 42 }
theorem cm_Mo_tower : cfM yX5_tower cX5_tower 4 (some .int) 2 := ⟨tw_834, tw_4, by decide, by decide, by decide +kernel⟩
theorem cv_Mo_tower : cfV yX5_tower := ⟨tw_832, tw_833⟩
theorem d_Mo_tower_0 : decode cX5_tower 0 = .ok (.aload_n 0, 1) := by decide +kernel
theorem d_Mo_tower_1 : decode cX5_tower 1 = .ok (.iload_n 1, 1) := by decide +kernel
theorem d_Mo_tower_2 : decode cX5_tower 2 = .ok (.invokestatic 85, 3) := by decide +kernel
theorem d_Mo_tower_5 : decode cX5_tower 5 = .ok (.ifCond .ne 7, 3) := by decide +kernel
theorem d_Mo_tower_8 : decode cX5_tower 8 = .ok (.iconst 1, 1) := by decide +kernel
theorem d_Mo_tower_9 : decode cX5_tower 9 = .ok (.goto 37, 3) := by decide +kernel
theorem d_Mo_tower_12 : decode cX5_tower 12 = .ok (.iload_n 2, 1) := by decide +kernel
theorem d_Mo_tower_13 : decode cX5_tower 13 = .ok (.iconst 0, 1) := by decide +kernel
theorem d_Mo_tower_14 : decode cX5_tower 14 = .ok (.iconst 3, 1) := by decide +kernel
theorem d_Mo_tower_15 : decode cX5_tower 15 = .ok (.invokestatic 75, 3) := by decide +kernel
theorem d_Mo_tower_18 : decode cX5_tower 18 = .ok (.ifCond .ne 7, 3) := by decide +kernel
theorem d_Mo_tower_21 : decode cX5_tower 21 = .ok (.iconst 2, 1) := by decide +kernel
theorem d_Mo_tower_22 : decode cX5_tower 22 = .ok (.goto 24, 3) := by decide +kernel
theorem d_Mo_tower_25 : decode cX5_tower 25 = .ok (.aload_n 0, 1) := by decide +kernel
theorem d_Mo_tower_26 : decode cX5_tower 26 = .ok (.getfield 13, 3) := by decide +kernel
theorem d_Mo_tower_29 : decode cX5_tower 29 = .ok (.iload_n 1, 1) := by decide +kernel
theorem d_Mo_tower_30 : decode cX5_tower 30 = .ok (.baload, 1) := by decide +kernel
theorem d_Mo_tower_31 : decode cX5_tower 31 = .ok (.ifCond .ne 10, 3) := by decide +kernel
theorem d_Mo_tower_34 : decode cX5_tower 34 = .ok (.aload_n 0, 1) := by decide +kernel
theorem d_Mo_tower_35 : decode cX5_tower 35 = .ok (.getfield 82, 3) := by decide +kernel
theorem d_Mo_tower_38 : decode cX5_tower 38 = .ok (.ifCond .le 7, 3) := by decide +kernel
theorem d_Mo_tower_41 : decode cX5_tower 41 = .ok (.iconst 3, 1) := by decide +kernel
theorem d_Mo_tower_42 : decode cX5_tower 42 = .ok (.goto 4, 3) := by decide +kernel
theorem d_Mo_tower_45 : decode cX5_tower 45 = .ok (.iconst 0, 1) := by decide +kernel
theorem d_Mo_tower_46 : decode cX5_tower 46 = .ok (.invokevirtual 89, 3) := by decide +kernel
theorem d_Mo_tower_49 : decode cX5_tower 49 = .ok (.ifCond .eq 5, 3) := by decide +kernel
theorem d_Mo_tower_52 : decode cX5_tower 52 = .ok (.iconst 0, 1) := by decide +kernel
theorem d_Mo_tower_53 : decode cX5_tower 53 = .ok (.ireturn, 1) := by decide +kernel
theorem d_Mo_tower_54 : decode cX5_tower 54 = .ok (.aload_n 0, 1) := by decide +kernel
theorem d_Mo_tower_55 : decode cX5_tower 55 = .ok (.getfield 7, 3) := by decide +kernel
theorem d_Mo_tower_58 : decode cX5_tower 58 = .ok (.iload_n 1, 1) := by decide +kernel
theorem d_Mo_tower_59 : decode cX5_tower 59 = .ok (.iaload, 1) := by decide +kernel
theorem d_Mo_tower_60 : decode cX5_tower 60 = .ok (.istore_n 3, 1) := by decide +kernel
theorem d_Mo_tower_61 : decode cX5_tower 61 = .ok (.aload_n 0, 1) := by decide +kernel
theorem d_Mo_tower_62 : decode cX5_tower 62 = .ok (.getfield 7, 3) := by decide +kernel
theorem d_Mo_tower_65 : decode cX5_tower 65 = .ok (.iload_n 1, 1) := by decide +kernel
theorem d_Mo_tower_66 : decode cX5_tower 66 = .ok (.iload_n 2, 1) := by decide +kernel
theorem d_Mo_tower_67 : decode cX5_tower 67 = .ok (.iastore, 1) := by decide +kernel
theorem d_Mo_tower_68 : decode cX5_tower 68 = .ok (.iload_n 3, 1) := by decide +kernel
theorem d_Mo_tower_69 : decode cX5_tower 69 = .ok (.ireturn, 1) := by decide +kernel
set_option maxRecDepth 100000 in
set_option maxHeartbeats 4000000 in
theorem w_j_Mo_tower_46 {X : CX} {KX : Int32 × MS → Prop} {k : Nat} {a1 : Int32} {a2 : Int32} {t0 : Int32} {t1 : Option Nat} {s : MS} (ok : Ok X cX5_tower RX5 rm_Mo_tower 4 false) (hret : ∀ r : Int32 × MS, KX r → Fin X (some .int) 0 0 false (some (vI r.1)) r.2) (ht : rf s.2.2 20 (some k) = some k) {res : Int32 × MS} (h : j_Mo_tower_46 k a1 a2 t0 t1 s = some res) (hk : KX res) : G X s 0 0 46 [(0, vR (some k)), (1, vI a1), (2, vI a2)] [vI t0, vR t1] := by
  unfold j_Mo_tower_46 at h
  obtain ⟨k3, hk4, h⟩ := bnd_go h
  obtain ⟨x8, s7, hc6, h⟩ := bnd2_go h
  refine g_invV (rm2 := rm_Mo_refused) (As := [vI t0]) (rest := []) ok hk4 lay_20 rfl (c_Mo_refused X.1.2.1 (rf_self hk4) hc6) cm_Mo_refused cv_Mo_refused tw_841 ⟨rfl, rfl⟩ ⟨le_t rfl, le_t rfl⟩ ⟨rfl, le_t rfl⟩ ⟨le_t rfl, le_t rfl⟩ d_Mo_tower_46 rfl (fun m5 => ?_)
  show G X s7 0 0 49 [(0, vR (some k)), (1, vI a1), (2, vI a2)] [vI x8]
  refine g_if_eq (tgt := 54) ok d_Mo_tower_49 (by decide) (fun c9 => ?_) (fun c9 => ?_)
  · replace h := (if_pos c9).symm.trans h
    refine g_aload_n (i := 0) 0 ok d_Mo_tower_54 rfl rfl ?_
    refine g_getr (s0 := 20) (j := 2) (ci := 5) (C := RX5) (T := TX5) (N := 29) ok (rf_mono m5 ht) lay_20 rfl inX5 (by decide) rfl tw_740 rfl d_Mo_tower_55 ?_
    refine g_iload_n (i := 1) 1 ok d_Mo_tower_58 rfl rfl ?_
    obtain ⟨k10, hk11, h⟩ := bnd_go h
    refine g_iald ok hk11 d_Mo_tower_59 ?_
    obtain ⟨x12, e13⟩ : ∃ z, (s7.1 k10 a1.toNatClampNeg) = z := ⟨_, rfl⟩
    replace h := lt_go h e13
    rw [e13]
    refine g_istore_n (i := 3) [(3, vI x12), (0, vR (some k)), (1, vI a1), (2, vI a2)] ok d_Mo_tower_60 rfl (by decide) rfl ?_
    refine g_aload_n (i := 0) 1 ok d_Mo_tower_61 rfl rfl ?_
    refine g_getr (s0 := 20) (j := 2) (ci := 5) (C := RX5) (T := TX5) (N := 29) ok (rf_mono m5 ht) lay_20 rfl inX5 (by decide) rfl tw_740 rfl d_Mo_tower_62 ?_
    refine g_iload_n (i := 1) 2 ok d_Mo_tower_65 rfl rfl ?_
    refine g_iload_n (i := 2) 3 ok d_Mo_tower_66 rfl rfl ?_
    obtain ⟨k14, hk15, h⟩ := bnd_go h
    refine g_iast ok hk15 d_Mo_tower_67 ?_
    obtain ⟨s16, e17⟩ : ∃ z, wi s7 k14 a1.toNatClampNeg a2 = z := ⟨_, rfl⟩
    replace h := lt_go h e17
    have m18 := mo_wi e17
    rw [e17]
    refine g_iload_n (i := 3) 0 ok d_Mo_tower_68 rfl rfl ?_
    cases h
    exact g_iret ok (hret _ hk) (by decide) (by decide) d_Mo_tower_69
  · replace h := (if_neg c9).symm.trans h
    refine g_iconst (v := (0 : Int32)) ok d_Mo_tower_52 (by decide) ?_
    cases h
    exact g_iret ok (hret _ hk) (by decide) (by decide) d_Mo_tower_53
set_option maxRecDepth 100000 in
set_option maxHeartbeats 4000000 in
theorem w_j_Mo_tower_41 {X : CX} {KX : Int32 × MS → Prop} {k : Nat} {a1 : Int32} {a2 : Int32} {t0 : Option Nat} {s : MS} (ok : Ok X cX5_tower RX5 rm_Mo_tower 4 false) (hret : ∀ r : Int32 × MS, KX r → Fin X (some .int) 0 0 false (some (vI r.1)) r.2) (ht : rf s.2.2 20 (some k) = some k) {res : Int32 × MS} (h : j_Mo_tower_41 k a1 a2 t0 s = some res) (hk : KX res) : G X s 0 0 41 [(0, vR (some k)), (1, vI a1), (2, vI a2)] [vR t0] := by
  unfold j_Mo_tower_41 at h
  refine g_iconst (v := (3 : Int32)) ok d_Mo_tower_41 (by decide) ?_
  refine g_goto (tgt := 46) ok d_Mo_tower_42 (by decide) ?_
  exact w_j_Mo_tower_46 ok hret ht h hk
set_option maxRecDepth 100000 in
set_option maxHeartbeats 4000000 in
theorem w_Mo_tower {X : CX} {KX : Int32 × MS → Prop} {k : Nat} {a1 : Int32} {a2 : Int32} {s : MS} (ok : Ok X cX5_tower RX5 rm_Mo_tower 4 false) (hret : ∀ r : Int32 × MS, KX r → Fin X (some .int) 0 0 false (some (vI r.1)) r.2)   (ht : rf s.2.2 20 (some k) = some k) {res : Int32 × MS} (h : f_Mo_tower k a1 a2 s = some res) (hk : KX res) : G X s 0 0 0 [(0, vR (some k)), (1, vI a1), (2, vI a2)] [] := by
  unfold f_Mo_tower at h
  refine g_aload_n (i := 0) 0 ok d_Mo_tower_0 rfl rfl ?_
  refine g_iload_n (i := 1) 1 ok d_Mo_tower_1 rfl rfl ?_
  refine g_invS (rm2 := rm_Mo_isCell) (As := [vI a1]) (rest := [vR (some k)]) ok (c_Mo_isCell X.1.2.1) cm_Mo_isCell cs_Mo_isCell tw_835 ⟨rfl, rfl⟩ ⟨le_t rfl, le_t rfl⟩ ⟨rfl, le_t rfl⟩ ⟨le_t rfl, le_t rfl⟩ d_Mo_tower_2 rfl (fun m1 => ?_)
  show G X s 0 0 5 [(0, vR (some k)), (1, vI a1), (2, vI a2)] [vI (f_Mo_isCell a1), vR (some k)]
  refine g_if_ne (tgt := 12) ok d_Mo_tower_5 (by decide) (fun c2 => ?_) (fun c2 => ?_)
  · replace h := (if_pos c2).symm.trans h
    refine g_iconst (v := (1 : Int32)) ok d_Mo_tower_8 (by decide) ?_
    refine g_goto (tgt := 46) ok d_Mo_tower_9 (by decide) ?_
    exact w_j_Mo_tower_46 ok hret ht h hk
  · replace h := (if_neg c2).symm.trans h
    refine g_iload_n (i := 2) 2 ok d_Mo_tower_12 rfl rfl ?_
    refine g_iconst (v := (0 : Int32)) ok d_Mo_tower_13 (by decide) ?_
    refine g_iconst (v := (3 : Int32)) ok d_Mo_tower_14 (by decide) ?_
    refine g_invS (rm2 := rm_Mo_within) (As := [vI a2, vI (0 : Int32), vI (3 : Int32)]) (rest := [vR (some k)]) ok (c_Mo_within X.1.2.1) cm_Mo_within cs_Mo_within tw_838 ⟨rfl, rfl⟩ ⟨le_t rfl, le_t rfl⟩ ⟨rfl, le_t rfl⟩ ⟨le_t rfl, le_t rfl⟩ d_Mo_tower_15 rfl (fun m19 => ?_)
    show G X s 0 0 18 [(0, vR (some k)), (1, vI a1), (2, vI a2)] [vI (f_Mo_within a2 (0 : Int32) (3 : Int32)), vR (some k)]
    refine g_if_ne (tgt := 25) ok d_Mo_tower_18 (by decide) (fun c20 => ?_) (fun c20 => ?_)
    · replace h := (if_pos c20).symm.trans h
      refine g_iconst (v := (2 : Int32)) ok d_Mo_tower_21 (by decide) ?_
      refine g_goto (tgt := 46) ok d_Mo_tower_22 (by decide) ?_
      exact w_j_Mo_tower_46 ok hret ht h hk
    · replace h := (if_neg c20).symm.trans h
      refine g_aload_n (i := 0) 0 ok d_Mo_tower_25 rfl rfl ?_
      refine g_getr (s0 := 20) (j := 3) (ci := 5) (C := RX5) (T := TX5) (N := 29) ok ht lay_20 rfl inX5 (by decide) rfl tw_741 rfl d_Mo_tower_26 ?_
      refine g_iload_n (i := 1) 1 ok d_Mo_tower_29 rfl rfl ?_
      obtain ⟨k21, hk22, h⟩ := bnd_go h
      refine g_zald ok hk22 d_Mo_tower_30 ?_
      refine g_if_ne (tgt := 41) ok d_Mo_tower_31 (by decide) (fun c23 => ?_) (fun c23 => ?_)
      · replace h := (if_pos c23).symm.trans h
        refine g_aload_n (i := 0) 0 ok d_Mo_tower_34 rfl rfl ?_
        refine g_geti (s0 := 20) (j := 17) (ci := 5) (C := RX5) (T := TX5) (N := 29) ok ht lay_20 rfl inX5 (by decide) rfl tw_755 rfl d_Mo_tower_35 ?_
        refine g_if_le (tgt := 45) ok d_Mo_tower_38 (by decide) (fun c24 => ?_) (fun c24 => ?_)
        · replace h := (if_pos c24).symm.trans h
          exact w_j_Mo_tower_41 ok hret ht h hk
        · replace h := (if_neg c24).symm.trans h
          refine g_iconst (v := (0 : Int32)) ok d_Mo_tower_45 (by decide) ?_
          exact w_j_Mo_tower_46 ok hret ht h hk
      · replace h := (if_neg c23).symm.trans h
        exact w_j_Mo_tower_41 ok hret ht h hk
theorem c_Mo_tower (l : Launch) {k : Nat} {a1 : Int32} {a2 : Int32} {s : MS} (ht : rf s.2.2 20 (some k) = some k) {r : Int32} {z : MS} (h : f_Mo_tower k a1 a2 s = some (r, z)) : Ct l yX5_tower (.code yX5_tower cX5_tower 4 (some .int)) rm_Mo_tower 0 0 false [vR (some k), vI a1, vI a2] s (some (vI r)) z :=
  Ct.of rfl (by decide +kernel) ⟨rfl, le_t rfl⟩ (fun X ok fn _ hI hl => w_Mo_tower (KX := fun y => y = (r, z)) ok (fun y hy => by subst hy; exact fn) ht h rfl)
abbrev rm_Mo_spot : Room := { frames := 2, cells := 0, slots := 0, locals := 42 }
theorem cm_Mo_spot : cfM yX5_spot cX5_spot 2 (some .int) 1 := ⟨tw_848, tw_4, by decide, by decide, by decide +kernel⟩
theorem cv_Mo_spot : cfV yX5_spot := ⟨tw_846, tw_847⟩
theorem d_Mo_spot_0 : decode cX5_spot 0 = .ok (.aload_n 0, 1) := by decide +kernel
theorem d_Mo_spot_1 : decode cX5_spot 1 = .ok (.iload_n 1, 1) := by decide +kernel
theorem d_Mo_spot_2 : decode cX5_spot 2 = .ok (.invokestatic 85, 3) := by decide +kernel
theorem d_Mo_spot_5 : decode cX5_spot 5 = .ok (.ifCond .ne 7, 3) := by decide +kernel
theorem d_Mo_spot_8 : decode cX5_spot 8 = .ok (.iconst 1, 1) := by decide +kernel
theorem d_Mo_spot_9 : decode cX5_spot 9 = .ok (.goto 35, 3) := by decide +kernel
theorem d_Mo_spot_12 : decode cX5_spot 12 = .ok (.aload_n 0, 1) := by decide +kernel
theorem d_Mo_spot_13 : decode cX5_spot 13 = .ok (.getfield 13, 3) := by decide +kernel
theorem d_Mo_spot_16 : decode cX5_spot 16 = .ok (.iload_n 1, 1) := by decide +kernel
theorem d_Mo_spot_17 : decode cX5_spot 17 = .ok (.baload, 1) := by decide +kernel
theorem d_Mo_spot_18 : decode cX5_spot 18 = .ok (.ifCond .ne 21, 3) := by decide +kernel
theorem d_Mo_spot_21 : decode cX5_spot 21 = .ok (.aload_n 0, 1) := by decide +kernel
theorem d_Mo_spot_22 : decode cX5_spot 22 = .ok (.getfield 7, 3) := by decide +kernel
theorem d_Mo_spot_25 : decode cX5_spot 25 = .ok (.iload_n 1, 1) := by decide +kernel
theorem d_Mo_spot_26 : decode cX5_spot 26 = .ok (.iaload, 1) := by decide +kernel
theorem d_Mo_spot_27 : decode cX5_spot 27 = .ok (.ifCond .gt 12, 3) := by decide +kernel
theorem d_Mo_spot_30 : decode cX5_spot 30 = .ok (.aload_n 0, 1) := by decide +kernel
theorem d_Mo_spot_31 : decode cX5_spot 31 = .ok (.getfield 92, 3) := by decide +kernel
theorem d_Mo_spot_34 : decode cX5_spot 34 = .ok (.bipush 8, 2) := by decide +kernel
theorem d_Mo_spot_36 : decode cX5_spot 36 = .ok (.if_icmp .ne 7, 3) := by decide +kernel
theorem d_Mo_spot_39 : decode cX5_spot 39 = .ok (.iconst 2, 1) := by decide +kernel
theorem d_Mo_spot_40 : decode cX5_spot 40 = .ok (.goto 4, 3) := by decide +kernel
theorem d_Mo_spot_43 : decode cX5_spot 43 = .ok (.iconst 0, 1) := by decide +kernel
theorem d_Mo_spot_44 : decode cX5_spot 44 = .ok (.invokevirtual 89, 3) := by decide +kernel
theorem d_Mo_spot_47 : decode cX5_spot 47 = .ok (.ifCond .eq 5, 3) := by decide +kernel
theorem d_Mo_spot_50 : decode cX5_spot 50 = .ok (.iconst 0, 1) := by decide +kernel
theorem d_Mo_spot_51 : decode cX5_spot 51 = .ok (.ireturn, 1) := by decide +kernel
theorem d_Mo_spot_52 : decode cX5_spot 52 = .ok (.aload_n 0, 1) := by decide +kernel
theorem d_Mo_spot_53 : decode cX5_spot 53 = .ok (.getfield 13, 3) := by decide +kernel
theorem d_Mo_spot_56 : decode cX5_spot 56 = .ok (.iload_n 1, 1) := by decide +kernel
theorem d_Mo_spot_57 : decode cX5_spot 57 = .ok (.iconst 1, 1) := by decide +kernel
theorem d_Mo_spot_58 : decode cX5_spot 58 = .ok (.bastore, 1) := by decide +kernel
theorem d_Mo_spot_59 : decode cX5_spot 59 = .ok (.aload_n 0, 1) := by decide +kernel
theorem d_Mo_spot_60 : decode cX5_spot 60 = .ok (.dup, 1) := by decide +kernel
theorem d_Mo_spot_61 : decode cX5_spot 61 = .ok (.getfield 92, 3) := by decide +kernel
theorem d_Mo_spot_64 : decode cX5_spot 64 = .ok (.iconst 1, 1) := by decide +kernel
theorem d_Mo_spot_65 : decode cX5_spot 65 = .ok (.iadd, 1) := by decide +kernel
theorem d_Mo_spot_66 : decode cX5_spot 66 = .ok (.putfield 92, 3) := by decide +kernel
theorem d_Mo_spot_69 : decode cX5_spot 69 = .ok (.aload_n 0, 1) := by decide +kernel
theorem d_Mo_spot_70 : decode cX5_spot 70 = .ok (.getfield 92, 3) := by decide +kernel
theorem d_Mo_spot_73 : decode cX5_spot 73 = .ok (.ireturn, 1) := by decide +kernel
set_option maxRecDepth 100000 in
set_option maxHeartbeats 4000000 in
theorem w_j_Mo_spot_44 {X : CX} {KX : Int32 × MS → Prop} {k : Nat} {a1 : Int32} {t0 : Int32} {t1 : Option Nat} {s : MS} (ok : Ok X cX5_spot RX5 rm_Mo_spot 2 false) (hret : ∀ r : Int32 × MS, KX r → Fin X (some .int) 0 0 false (some (vI r.1)) r.2) (ht : rf s.2.2 20 (some k) = some k) {res : Int32 × MS} (h : j_Mo_spot_44 k a1 t0 t1 s = some res) (hk : KX res) : G X s 0 0 44 [(0, vR (some k)), (1, vI a1)] [vI t0, vR t1] := by
  unfold j_Mo_spot_44 at h
  obtain ⟨k3, hk4, h⟩ := bnd_go h
  obtain ⟨x8, s7, hc6, h⟩ := bnd2_go h
  refine g_invV (rm2 := rm_Mo_refused) (As := [vI t0]) (rest := []) ok hk4 lay_20 rfl (c_Mo_refused X.1.2.1 (rf_self hk4) hc6) cm_Mo_refused cv_Mo_refused tw_841 ⟨rfl, rfl⟩ ⟨le_t rfl, le_t rfl⟩ ⟨rfl, le_t rfl⟩ ⟨le_t rfl, le_t rfl⟩ d_Mo_spot_44 rfl (fun m5 => ?_)
  show G X s7 0 0 47 [(0, vR (some k)), (1, vI a1)] [vI x8]
  refine g_if_eq (tgt := 52) ok d_Mo_spot_47 (by decide) (fun c9 => ?_) (fun c9 => ?_)
  · replace h := (if_pos c9).symm.trans h
    refine g_aload_n (i := 0) 0 ok d_Mo_spot_52 rfl rfl ?_
    refine g_getr (s0 := 20) (j := 3) (ci := 5) (C := RX5) (T := TX5) (N := 29) ok (rf_mono m5 ht) lay_20 rfl inX5 (by decide) rfl tw_741 rfl d_Mo_spot_53 ?_
    refine g_iload_n (i := 1) 1 ok d_Mo_spot_56 rfl rfl ?_
    refine g_iconst (v := (1 : Int32)) ok d_Mo_spot_57 (by decide) ?_
    obtain ⟨k10, hk11, h⟩ := bnd_go h
    refine g_zast ok hk11 (Or.inr rfl) d_Mo_spot_58 ?_
    obtain ⟨s12, e13⟩ : ∃ z, wi s7 k10 a1.toNatClampNeg (1 : Int32) = z := ⟨_, rfl⟩
    replace h := lt_go h e13
    have m14 := mo_wi e13
    rw [e13]
    refine g_aload_n (i := 0) 0 ok d_Mo_spot_59 rfl rfl ?_
    refine g_dup ok d_Mo_spot_60 rfl ?_
    refine g_geti (s0 := 20) (j := 4) (ci := 5) (C := RX5) (T := TX5) (N := 29) ok (rf_mono m14 (rf_mono m5 ht)) lay_20 rfl inX5 (by decide) rfl tw_742 rfl d_Mo_spot_61 ?_
    refine g_iconst (v := (1 : Int32)) ok d_Mo_spot_64 (by decide) ?_
    refine g_iadd ok d_Mo_spot_65 ?_
    refine g_puti (s0 := 20) (j := 4) (ci := 5) (C := RX5) (T := TX5) (N := 29) ok (rf_mono m14 (rf_mono m5 ht)) lay_20 rfl inX5 (by decide) rfl tw_742 rfl tyX5_ok nmX5 rfl (Or.inl rfl) d_Mo_spot_66 ?_
    obtain ⟨s15, e16⟩ : ∃ z, wi s12 k 4 ((s12.1 k 4) + (1 : Int32)) = z := ⟨_, rfl⟩
    replace h := lt_go h e16
    have m17 := mo_wi e16
    rw [e16]
    refine g_aload_n (i := 0) 0 ok d_Mo_spot_69 rfl rfl ?_
    refine g_geti (s0 := 20) (j := 4) (ci := 5) (C := RX5) (T := TX5) (N := 29) ok (rf_mono m17 (rf_mono m14 (rf_mono m5 ht))) lay_20 rfl inX5 (by decide) rfl tw_742 rfl d_Mo_spot_70 ?_
    cases h
    exact g_iret ok (hret _ hk) (by decide) (by decide) d_Mo_spot_73
  · replace h := (if_neg c9).symm.trans h
    refine g_iconst (v := (0 : Int32)) ok d_Mo_spot_50 (by decide) ?_
    cases h
    exact g_iret ok (hret _ hk) (by decide) (by decide) d_Mo_spot_51
set_option maxRecDepth 100000 in
set_option maxHeartbeats 4000000 in
theorem w_j_Mo_spot_39 {X : CX} {KX : Int32 × MS → Prop} {k : Nat} {a1 : Int32} {t0 : Option Nat} {s : MS} (ok : Ok X cX5_spot RX5 rm_Mo_spot 2 false) (hret : ∀ r : Int32 × MS, KX r → Fin X (some .int) 0 0 false (some (vI r.1)) r.2) (ht : rf s.2.2 20 (some k) = some k) {res : Int32 × MS} (h : j_Mo_spot_39 k a1 t0 s = some res) (hk : KX res) : G X s 0 0 39 [(0, vR (some k)), (1, vI a1)] [vR t0] := by
  unfold j_Mo_spot_39 at h
  refine g_iconst (v := (2 : Int32)) ok d_Mo_spot_39 (by decide) ?_
  refine g_goto (tgt := 44) ok d_Mo_spot_40 (by decide) ?_
  exact w_j_Mo_spot_44 ok hret ht h hk
set_option maxRecDepth 100000 in
set_option maxHeartbeats 4000000 in
theorem w_Mo_spot {X : CX} {KX : Int32 × MS → Prop} {k : Nat} {a1 : Int32} {s : MS} (ok : Ok X cX5_spot RX5 rm_Mo_spot 2 false) (hret : ∀ r : Int32 × MS, KX r → Fin X (some .int) 0 0 false (some (vI r.1)) r.2)   (ht : rf s.2.2 20 (some k) = some k) {res : Int32 × MS} (h : f_Mo_spot k a1 s = some res) (hk : KX res) : G X s 0 0 0 [(0, vR (some k)), (1, vI a1)] [] := by
  unfold f_Mo_spot at h
  refine g_aload_n (i := 0) 0 ok d_Mo_spot_0 rfl rfl ?_
  refine g_iload_n (i := 1) 1 ok d_Mo_spot_1 rfl rfl ?_
  refine g_invS (rm2 := rm_Mo_isCell) (As := [vI a1]) (rest := [vR (some k)]) ok (c_Mo_isCell X.1.2.1) cm_Mo_isCell cs_Mo_isCell tw_835 ⟨rfl, rfl⟩ ⟨le_t rfl, le_t rfl⟩ ⟨rfl, le_t rfl⟩ ⟨le_t rfl, le_t rfl⟩ d_Mo_spot_2 rfl (fun m1 => ?_)
  show G X s 0 0 5 [(0, vR (some k)), (1, vI a1)] [vI (f_Mo_isCell a1), vR (some k)]
  refine g_if_ne (tgt := 12) ok d_Mo_spot_5 (by decide) (fun c2 => ?_) (fun c2 => ?_)
  · replace h := (if_pos c2).symm.trans h
    refine g_iconst (v := (1 : Int32)) ok d_Mo_spot_8 (by decide) ?_
    refine g_goto (tgt := 44) ok d_Mo_spot_9 (by decide) ?_
    exact w_j_Mo_spot_44 ok hret ht h hk
  · replace h := (if_neg c2).symm.trans h
    refine g_aload_n (i := 0) 0 ok d_Mo_spot_12 rfl rfl ?_
    refine g_getr (s0 := 20) (j := 3) (ci := 5) (C := RX5) (T := TX5) (N := 29) ok ht lay_20 rfl inX5 (by decide) rfl tw_741 rfl d_Mo_spot_13 ?_
    refine g_iload_n (i := 1) 1 ok d_Mo_spot_16 rfl rfl ?_
    obtain ⟨k18, hk19, h⟩ := bnd_go h
    refine g_zald ok hk19 d_Mo_spot_17 ?_
    refine g_if_ne (tgt := 39) ok d_Mo_spot_18 (by decide) (fun c20 => ?_) (fun c20 => ?_)
    · replace h := (if_pos c20).symm.trans h
      refine g_aload_n (i := 0) 0 ok d_Mo_spot_21 rfl rfl ?_
      refine g_getr (s0 := 20) (j := 2) (ci := 5) (C := RX5) (T := TX5) (N := 29) ok ht lay_20 rfl inX5 (by decide) rfl tw_740 rfl d_Mo_spot_22 ?_
      refine g_iload_n (i := 1) 1 ok d_Mo_spot_25 rfl rfl ?_
      obtain ⟨k21, hk22, h⟩ := bnd_go h
      refine g_iald ok hk22 d_Mo_spot_26 ?_
      refine g_if_gt (tgt := 39) ok d_Mo_spot_27 (by decide) (fun c23 => ?_) (fun c23 => ?_)
      · replace h := (if_pos c23).symm.trans h
        exact w_j_Mo_spot_39 ok hret ht h hk
      · replace h := (if_neg c23).symm.trans h
        refine g_aload_n (i := 0) 0 ok d_Mo_spot_30 rfl rfl ?_
        refine g_geti (s0 := 20) (j := 4) (ci := 5) (C := RX5) (T := TX5) (N := 29) ok ht lay_20 rfl inX5 (by decide) rfl tw_742 rfl d_Mo_spot_31 ?_
        refine g_bipush (v := (8 : Int32)) ok d_Mo_spot_34 (by decide) ?_
        refine g_icmp_ne (tgt := 43) ok d_Mo_spot_36 (by decide) (fun c24 => ?_) (fun c24 => ?_)
        · replace h := (if_pos c24).symm.trans h
          exact w_j_Mo_spot_39 ok hret ht h hk
        · replace h := (if_neg c24).symm.trans h
          refine g_iconst (v := (0 : Int32)) ok d_Mo_spot_43 (by decide) ?_
          exact w_j_Mo_spot_44 ok hret ht h hk
    · replace h := (if_neg c20).symm.trans h
      exact w_j_Mo_spot_39 ok hret ht h hk
theorem c_Mo_spot (l : Launch) {k : Nat} {a1 : Int32} {s : MS} (ht : rf s.2.2 20 (some k) = some k) {r : Int32} {z : MS} (h : f_Mo_spot k a1 s = some (r, z)) : Ct l yX5_spot (.code yX5_spot cX5_spot 2 (some .int)) rm_Mo_spot 0 0 false [vR (some k), vI a1] s (some (vI r)) z :=
  Ct.of rfl (by decide +kernel) ⟨rfl, le_t rfl⟩ (fun X ok fn _ hI hl => w_Mo_spot (KX := fun y => y = (r, z)) ok (fun y hy => by subst hy; exact fn) ht h rfl)
abbrev rm_Mo_wind : Room := { frames := 1, cells := 0, slots := 0, locals := 22 }
theorem cm_Mo_wind : cfM yX5_wind cX5_wind 4 (some .int) 2 := ⟨tw_852, tw_4, by decide, by decide, by decide +kernel⟩
theorem cv_Mo_wind : cfV yX5_wind := ⟨tw_850, tw_851⟩
theorem d_Mo_wind_0 : decode cX5_wind 0 = .ok (.aload_n 0, 1) := by decide +kernel
theorem d_Mo_wind_1 : decode cX5_wind 1 = .ok (.iload_n 1, 1) := by decide +kernel
theorem d_Mo_wind_2 : decode cX5_wind 2 = .ok (.iconst 1, 1) := by decide +kernel
theorem d_Mo_wind_3 : decode cX5_wind 3 = .ok (.iconst 3, 1) := by decide +kernel
theorem d_Mo_wind_4 : decode cX5_wind 4 = .ok (.invokestatic 75, 3) := by decide +kernel
theorem d_Mo_wind_7 : decode cX5_wind 7 = .ok (.ifCond .eq 16, 3) := by decide +kernel
theorem d_Mo_wind_10 : decode cX5_wind 10 = .ok (.iload_n 2, 1) := by decide +kernel
theorem d_Mo_wind_11 : decode cX5_wind 11 = .ok (.iconst 0, 1) := by decide +kernel
theorem d_Mo_wind_12 : decode cX5_wind 12 = .ok (.iconst 3, 1) := by decide +kernel
theorem d_Mo_wind_13 : decode cX5_wind 13 = .ok (.invokestatic 75, 3) := by decide +kernel
theorem d_Mo_wind_16 : decode cX5_wind 16 = .ok (.ifCond .eq 7, 3) := by decide +kernel
theorem d_Mo_wind_19 : decode cX5_wind 19 = .ok (.iconst 0, 1) := by decide +kernel
theorem d_Mo_wind_20 : decode cX5_wind 20 = .ok (.goto 4, 3) := by decide +kernel
theorem d_Mo_wind_23 : decode cX5_wind 23 = .ok (.iconst 1, 1) := by decide +kernel
theorem d_Mo_wind_24 : decode cX5_wind 24 = .ok (.invokevirtual 89, 3) := by decide +kernel
theorem d_Mo_wind_27 : decode cX5_wind 27 = .ok (.ifCond .eq 5, 3) := by decide +kernel
theorem d_Mo_wind_30 : decode cX5_wind 30 = .ok (.iconst 0, 1) := by decide +kernel
theorem d_Mo_wind_31 : decode cX5_wind 31 = .ok (.ireturn, 1) := by decide +kernel
theorem d_Mo_wind_32 : decode cX5_wind 32 = .ok (.aload_n 0, 1) := by decide +kernel
theorem d_Mo_wind_33 : decode cX5_wind 33 = .ok (.getfield 17, 3) := by decide +kernel
theorem d_Mo_wind_36 : decode cX5_wind 36 = .ok (.iload_n 1, 1) := by decide +kernel
theorem d_Mo_wind_37 : decode cX5_wind 37 = .ok (.iaload, 1) := by decide +kernel
theorem d_Mo_wind_38 : decode cX5_wind 38 = .ok (.istore_n 3, 1) := by decide +kernel
theorem d_Mo_wind_39 : decode cX5_wind 39 = .ok (.aload_n 0, 1) := by decide +kernel
theorem d_Mo_wind_40 : decode cX5_wind 40 = .ok (.getfield 17, 3) := by decide +kernel
theorem d_Mo_wind_43 : decode cX5_wind 43 = .ok (.iload_n 1, 1) := by decide +kernel
theorem d_Mo_wind_44 : decode cX5_wind 44 = .ok (.iload_n 2, 1) := by decide +kernel
theorem d_Mo_wind_45 : decode cX5_wind 45 = .ok (.iastore, 1) := by decide +kernel
theorem d_Mo_wind_46 : decode cX5_wind 46 = .ok (.aload_n 0, 1) := by decide +kernel
theorem d_Mo_wind_47 : decode cX5_wind 47 = .ok (.getfield 17, 3) := by decide +kernel
theorem d_Mo_wind_50 : decode cX5_wind 50 = .ok (.iconst 4, 1) := by decide +kernel
theorem d_Mo_wind_51 : decode cX5_wind 51 = .ok (.aload_n 0, 1) := by decide +kernel
theorem d_Mo_wind_52 : decode cX5_wind 52 = .ok (.getfield 17, 3) := by decide +kernel
theorem d_Mo_wind_55 : decode cX5_wind 55 = .ok (.iconst 3, 1) := by decide +kernel
theorem d_Mo_wind_56 : decode cX5_wind 56 = .ok (.iaload, 1) := by decide +kernel
theorem d_Mo_wind_57 : decode cX5_wind 57 = .ok (.iastore, 1) := by decide +kernel
theorem d_Mo_wind_58 : decode cX5_wind 58 = .ok (.iload_n 3, 1) := by decide +kernel
theorem d_Mo_wind_59 : decode cX5_wind 59 = .ok (.ireturn, 1) := by decide +kernel
set_option maxRecDepth 100000 in
set_option maxHeartbeats 4000000 in
theorem w_j_Mo_wind_24 {X : CX} {KX : Int32 × MS → Prop} {k : Nat} {a1 : Int32} {a2 : Int32} {t0 : Int32} {t1 : Option Nat} {s : MS} (ok : Ok X cX5_wind RX5 rm_Mo_wind 4 false) (hret : ∀ r : Int32 × MS, KX r → Fin X (some .int) 0 0 false (some (vI r.1)) r.2) (ht : rf s.2.2 20 (some k) = some k) {res : Int32 × MS} (h : j_Mo_wind_24 k a1 a2 t0 t1 s = some res) (hk : KX res) : G X s 0 0 24 [(0, vR (some k)), (1, vI a1), (2, vI a2)] [vI t0, vR t1] := by
  unfold j_Mo_wind_24 at h
  obtain ⟨k3, hk4, h⟩ := bnd_go h
  obtain ⟨x8, s7, hc6, h⟩ := bnd2_go h
  refine g_invV (rm2 := rm_Mo_refused) (As := [vI t0]) (rest := []) ok hk4 lay_20 rfl (c_Mo_refused X.1.2.1 (rf_self hk4) hc6) cm_Mo_refused cv_Mo_refused tw_841 ⟨rfl, rfl⟩ ⟨le_t rfl, le_t rfl⟩ ⟨rfl, le_t rfl⟩ ⟨le_t rfl, le_t rfl⟩ d_Mo_wind_24 rfl (fun m5 => ?_)
  show G X s7 0 0 27 [(0, vR (some k)), (1, vI a1), (2, vI a2)] [vI x8]
  refine g_if_eq (tgt := 32) ok d_Mo_wind_27 (by decide) (fun c9 => ?_) (fun c9 => ?_)
  · replace h := (if_pos c9).symm.trans h
    refine g_aload_n (i := 0) 0 ok d_Mo_wind_32 rfl rfl ?_
    refine g_getr (s0 := 20) (j := 5) (ci := 5) (C := RX5) (T := TX5) (N := 29) ok (rf_mono m5 ht) lay_20 rfl inX5 (by decide) rfl tw_743 rfl d_Mo_wind_33 ?_
    refine g_iload_n (i := 1) 1 ok d_Mo_wind_36 rfl rfl ?_
    obtain ⟨k10, hk11, h⟩ := bnd_go h
    refine g_iald ok hk11 d_Mo_wind_37 ?_
    obtain ⟨x12, e13⟩ : ∃ z, (s7.1 k10 a1.toNatClampNeg) = z := ⟨_, rfl⟩
    replace h := lt_go h e13
    rw [e13]
    refine g_istore_n (i := 3) [(3, vI x12), (0, vR (some k)), (1, vI a1), (2, vI a2)] ok d_Mo_wind_38 rfl (by decide) rfl ?_
    refine g_aload_n (i := 0) 1 ok d_Mo_wind_39 rfl rfl ?_
    refine g_getr (s0 := 20) (j := 5) (ci := 5) (C := RX5) (T := TX5) (N := 29) ok (rf_mono m5 ht) lay_20 rfl inX5 (by decide) rfl tw_743 rfl d_Mo_wind_40 ?_
    refine g_iload_n (i := 1) 2 ok d_Mo_wind_43 rfl rfl ?_
    refine g_iload_n (i := 2) 3 ok d_Mo_wind_44 rfl rfl ?_
    obtain ⟨k14, hk15, h⟩ := bnd_go h
    refine g_iast ok hk15 d_Mo_wind_45 ?_
    obtain ⟨s16, e17⟩ : ∃ z, wi s7 k14 a1.toNatClampNeg a2 = z := ⟨_, rfl⟩
    replace h := lt_go h e17
    have m18 := mo_wi e17
    rw [e17]
    refine g_aload_n (i := 0) 1 ok d_Mo_wind_46 rfl rfl ?_
    refine g_getr (s0 := 20) (j := 5) (ci := 5) (C := RX5) (T := TX5) (N := 29) ok (rf_mono m18 (rf_mono m5 ht)) lay_20 rfl inX5 (by decide) rfl tw_743 rfl d_Mo_wind_47 ?_
    refine g_iconst (v := (4 : Int32)) ok d_Mo_wind_50 (by decide) ?_
    refine g_aload_n (i := 0) 1 ok d_Mo_wind_51 rfl rfl ?_
    refine g_getr (s0 := 20) (j := 5) (ci := 5) (C := RX5) (T := TX5) (N := 29) ok (rf_mono m18 (rf_mono m5 ht)) lay_20 rfl inX5 (by decide) rfl tw_743 rfl d_Mo_wind_52 ?_
    refine g_iconst (v := (3 : Int32)) ok d_Mo_wind_55 (by decide) ?_
    obtain ⟨k19, hk20, h⟩ := bnd_go h
    refine g_iald ok hk20 d_Mo_wind_56 ?_
    obtain ⟨k21, hk22, h⟩ := bnd_go h
    refine g_iast ok hk22 d_Mo_wind_57 ?_
    obtain ⟨s23, e24⟩ : ∃ z, wi s16 k21 (4 : Int32).toNatClampNeg (s16.1 k19 (3 : Int32).toNatClampNeg) = z := ⟨_, rfl⟩
    replace h := lt_go h e24
    have m25 := mo_wi e24
    rw [e24]
    refine g_iload_n (i := 3) 0 ok d_Mo_wind_58 rfl rfl ?_
    cases h
    exact g_iret ok (hret _ hk) (by decide) (by decide) d_Mo_wind_59
  · replace h := (if_neg c9).symm.trans h
    refine g_iconst (v := (0 : Int32)) ok d_Mo_wind_30 (by decide) ?_
    cases h
    exact g_iret ok (hret _ hk) (by decide) (by decide) d_Mo_wind_31
set_option maxRecDepth 100000 in
set_option maxHeartbeats 4000000 in
theorem w_j_Mo_wind_23 {X : CX} {KX : Int32 × MS → Prop} {k : Nat} {a1 : Int32} {a2 : Int32} {t0 : Option Nat} {s : MS} (ok : Ok X cX5_wind RX5 rm_Mo_wind 4 false) (hret : ∀ r : Int32 × MS, KX r → Fin X (some .int) 0 0 false (some (vI r.1)) r.2) (ht : rf s.2.2 20 (some k) = some k) {res : Int32 × MS} (h : j_Mo_wind_23 k a1 a2 t0 s = some res) (hk : KX res) : G X s 0 0 23 [(0, vR (some k)), (1, vI a1), (2, vI a2)] [vR t0] := by
  unfold j_Mo_wind_23 at h
  refine g_iconst (v := (1 : Int32)) ok d_Mo_wind_23 (by decide) ?_
  exact w_j_Mo_wind_24 ok hret ht h hk
set_option maxRecDepth 100000 in
set_option maxHeartbeats 4000000 in
theorem w_Mo_wind {X : CX} {KX : Int32 × MS → Prop} {k : Nat} {a1 : Int32} {a2 : Int32} {s : MS} (ok : Ok X cX5_wind RX5 rm_Mo_wind 4 false) (hret : ∀ r : Int32 × MS, KX r → Fin X (some .int) 0 0 false (some (vI r.1)) r.2)   (ht : rf s.2.2 20 (some k) = some k) {res : Int32 × MS} (h : f_Mo_wind k a1 a2 s = some res) (hk : KX res) : G X s 0 0 0 [(0, vR (some k)), (1, vI a1), (2, vI a2)] [] := by
  unfold f_Mo_wind at h
  refine g_aload_n (i := 0) 0 ok d_Mo_wind_0 rfl rfl ?_
  refine g_iload_n (i := 1) 1 ok d_Mo_wind_1 rfl rfl ?_
  refine g_iconst (v := (1 : Int32)) ok d_Mo_wind_2 (by decide) ?_
  refine g_iconst (v := (3 : Int32)) ok d_Mo_wind_3 (by decide) ?_
  refine g_invS (rm2 := rm_Mo_within) (As := [vI a1, vI (1 : Int32), vI (3 : Int32)]) (rest := [vR (some k)]) ok (c_Mo_within X.1.2.1) cm_Mo_within cs_Mo_within tw_838 ⟨rfl, rfl⟩ ⟨le_t rfl, le_t rfl⟩ ⟨rfl, le_t rfl⟩ ⟨le_t rfl, le_t rfl⟩ d_Mo_wind_4 rfl (fun m1 => ?_)
  show G X s 0 0 7 [(0, vR (some k)), (1, vI a1), (2, vI a2)] [vI (f_Mo_within a1 (1 : Int32) (3 : Int32)), vR (some k)]
  refine g_if_eq (tgt := 23) ok d_Mo_wind_7 (by decide) (fun c2 => ?_) (fun c2 => ?_)
  · replace h := (if_pos c2).symm.trans h
    exact w_j_Mo_wind_23 ok hret ht h hk
  · replace h := (if_neg c2).symm.trans h
    refine g_iload_n (i := 2) 2 ok d_Mo_wind_10 rfl rfl ?_
    refine g_iconst (v := (0 : Int32)) ok d_Mo_wind_11 (by decide) ?_
    refine g_iconst (v := (3 : Int32)) ok d_Mo_wind_12 (by decide) ?_
    refine g_invS (rm2 := rm_Mo_within) (As := [vI a2, vI (0 : Int32), vI (3 : Int32)]) (rest := [vR (some k)]) ok (c_Mo_within X.1.2.1) cm_Mo_within cs_Mo_within tw_838 ⟨rfl, rfl⟩ ⟨le_t rfl, le_t rfl⟩ ⟨rfl, le_t rfl⟩ ⟨le_t rfl, le_t rfl⟩ d_Mo_wind_13 rfl (fun m26 => ?_)
    show G X s 0 0 16 [(0, vR (some k)), (1, vI a1), (2, vI a2)] [vI (f_Mo_within a2 (0 : Int32) (3 : Int32)), vR (some k)]
    refine g_if_eq (tgt := 23) ok d_Mo_wind_16 (by decide) (fun c27 => ?_) (fun c27 => ?_)
    · replace h := (if_pos c27).symm.trans h
      exact w_j_Mo_wind_23 ok hret ht h hk
    · replace h := (if_neg c27).symm.trans h
      refine g_iconst (v := (0 : Int32)) ok d_Mo_wind_19 (by decide) ?_
      refine g_goto (tgt := 24) ok d_Mo_wind_20 (by decide) ?_
      exact w_j_Mo_wind_24 ok hret ht h hk
theorem c_Mo_wind (l : Launch) {k : Nat} {a1 : Int32} {a2 : Int32} {s : MS} (ht : rf s.2.2 20 (some k) = some k) {r : Int32} {z : MS} (h : f_Mo_wind k a1 a2 s = some (r, z)) : Ct l yX5_wind (.code yX5_wind cX5_wind 4 (some .int)) rm_Mo_wind 0 0 false [vR (some k), vI a1, vI a2] s (some (vI r)) z :=
  Ct.of rfl (by decide +kernel) ⟨rfl, le_t rfl⟩ (fun X ok fn _ hI hl => w_Mo_wind (KX := fun y => y = (r, z)) ok (fun y hy => by subst hy; exact fn) ht h rfl)
abbrev rm_Mo_gust : Room := { frames := 1, cells := 0, slots := 0, locals := 22 }
theorem cm_Mo_gust : cfM yX5_gust cX5_gust 4 (some .int) 2 := ⟨tw_856, tw_4, by decide, by decide, by decide +kernel⟩
theorem cv_Mo_gust : cfV yX5_gust := ⟨tw_854, tw_855⟩
theorem d_Mo_gust_0 : decode cX5_gust 0 = .ok (.aload_n 0, 1) := by decide +kernel
theorem d_Mo_gust_1 : decode cX5_gust 1 = .ok (.iload_n 1, 1) := by decide +kernel
theorem d_Mo_gust_2 : decode cX5_gust 2 = .ok (.iconst 1, 1) := by decide +kernel
theorem d_Mo_gust_3 : decode cX5_gust 3 = .ok (.iconst 3, 1) := by decide +kernel
theorem d_Mo_gust_4 : decode cX5_gust 4 = .ok (.invokestatic 75, 3) := by decide +kernel
theorem d_Mo_gust_7 : decode cX5_gust 7 = .ok (.ifCond .eq 16, 3) := by decide +kernel
theorem d_Mo_gust_10 : decode cX5_gust 10 = .ok (.iload_n 2, 1) := by decide +kernel
theorem d_Mo_gust_11 : decode cX5_gust 11 = .ok (.iconst 0, 1) := by decide +kernel
theorem d_Mo_gust_12 : decode cX5_gust 12 = .ok (.iconst 5, 1) := by decide +kernel
theorem d_Mo_gust_13 : decode cX5_gust 13 = .ok (.invokestatic 75, 3) := by decide +kernel
theorem d_Mo_gust_16 : decode cX5_gust 16 = .ok (.ifCond .eq 7, 3) := by decide +kernel
theorem d_Mo_gust_19 : decode cX5_gust 19 = .ok (.iconst 0, 1) := by decide +kernel
theorem d_Mo_gust_20 : decode cX5_gust 20 = .ok (.goto 4, 3) := by decide +kernel
theorem d_Mo_gust_23 : decode cX5_gust 23 = .ok (.iconst 1, 1) := by decide +kernel
theorem d_Mo_gust_24 : decode cX5_gust 24 = .ok (.invokevirtual 89, 3) := by decide +kernel
theorem d_Mo_gust_27 : decode cX5_gust 27 = .ok (.ifCond .eq 5, 3) := by decide +kernel
theorem d_Mo_gust_30 : decode cX5_gust 30 = .ok (.iconst 0, 1) := by decide +kernel
theorem d_Mo_gust_31 : decode cX5_gust 31 = .ok (.ireturn, 1) := by decide +kernel
theorem d_Mo_gust_32 : decode cX5_gust 32 = .ok (.aload_n 0, 1) := by decide +kernel
theorem d_Mo_gust_33 : decode cX5_gust 33 = .ok (.getfield 20, 3) := by decide +kernel
theorem d_Mo_gust_36 : decode cX5_gust 36 = .ok (.iload_n 1, 1) := by decide +kernel
theorem d_Mo_gust_37 : decode cX5_gust 37 = .ok (.iaload, 1) := by decide +kernel
theorem d_Mo_gust_38 : decode cX5_gust 38 = .ok (.istore_n 3, 1) := by decide +kernel
theorem d_Mo_gust_39 : decode cX5_gust 39 = .ok (.aload_n 0, 1) := by decide +kernel
theorem d_Mo_gust_40 : decode cX5_gust 40 = .ok (.getfield 20, 3) := by decide +kernel
theorem d_Mo_gust_43 : decode cX5_gust 43 = .ok (.iload_n 1, 1) := by decide +kernel
theorem d_Mo_gust_44 : decode cX5_gust 44 = .ok (.iload_n 2, 1) := by decide +kernel
theorem d_Mo_gust_45 : decode cX5_gust 45 = .ok (.iastore, 1) := by decide +kernel
theorem d_Mo_gust_46 : decode cX5_gust 46 = .ok (.aload_n 0, 1) := by decide +kernel
theorem d_Mo_gust_47 : decode cX5_gust 47 = .ok (.getfield 20, 3) := by decide +kernel
theorem d_Mo_gust_50 : decode cX5_gust 50 = .ok (.iconst 4, 1) := by decide +kernel
theorem d_Mo_gust_51 : decode cX5_gust 51 = .ok (.aload_n 0, 1) := by decide +kernel
theorem d_Mo_gust_52 : decode cX5_gust 52 = .ok (.getfield 20, 3) := by decide +kernel
theorem d_Mo_gust_55 : decode cX5_gust 55 = .ok (.iconst 3, 1) := by decide +kernel
theorem d_Mo_gust_56 : decode cX5_gust 56 = .ok (.iaload, 1) := by decide +kernel
theorem d_Mo_gust_57 : decode cX5_gust 57 = .ok (.iastore, 1) := by decide +kernel
theorem d_Mo_gust_58 : decode cX5_gust 58 = .ok (.iload_n 3, 1) := by decide +kernel
theorem d_Mo_gust_59 : decode cX5_gust 59 = .ok (.ireturn, 1) := by decide +kernel
set_option maxRecDepth 100000 in
set_option maxHeartbeats 4000000 in
theorem w_j_Mo_gust_24 {X : CX} {KX : Int32 × MS → Prop} {k : Nat} {a1 : Int32} {a2 : Int32} {t0 : Int32} {t1 : Option Nat} {s : MS} (ok : Ok X cX5_gust RX5 rm_Mo_gust 4 false) (hret : ∀ r : Int32 × MS, KX r → Fin X (some .int) 0 0 false (some (vI r.1)) r.2) (ht : rf s.2.2 20 (some k) = some k) {res : Int32 × MS} (h : j_Mo_gust_24 k a1 a2 t0 t1 s = some res) (hk : KX res) : G X s 0 0 24 [(0, vR (some k)), (1, vI a1), (2, vI a2)] [vI t0, vR t1] := by
  unfold j_Mo_gust_24 at h
  obtain ⟨k3, hk4, h⟩ := bnd_go h
  obtain ⟨x8, s7, hc6, h⟩ := bnd2_go h
  refine g_invV (rm2 := rm_Mo_refused) (As := [vI t0]) (rest := []) ok hk4 lay_20 rfl (c_Mo_refused X.1.2.1 (rf_self hk4) hc6) cm_Mo_refused cv_Mo_refused tw_841 ⟨rfl, rfl⟩ ⟨le_t rfl, le_t rfl⟩ ⟨rfl, le_t rfl⟩ ⟨le_t rfl, le_t rfl⟩ d_Mo_gust_24 rfl (fun m5 => ?_)
  show G X s7 0 0 27 [(0, vR (some k)), (1, vI a1), (2, vI a2)] [vI x8]
  refine g_if_eq (tgt := 32) ok d_Mo_gust_27 (by decide) (fun c9 => ?_) (fun c9 => ?_)
  · replace h := (if_pos c9).symm.trans h
    refine g_aload_n (i := 0) 0 ok d_Mo_gust_32 rfl rfl ?_
    refine g_getr (s0 := 20) (j := 6) (ci := 5) (C := RX5) (T := TX5) (N := 29) ok (rf_mono m5 ht) lay_20 rfl inX5 (by decide) rfl tw_744 rfl d_Mo_gust_33 ?_
    refine g_iload_n (i := 1) 1 ok d_Mo_gust_36 rfl rfl ?_
    obtain ⟨k10, hk11, h⟩ := bnd_go h
    refine g_iald ok hk11 d_Mo_gust_37 ?_
    obtain ⟨x12, e13⟩ : ∃ z, (s7.1 k10 a1.toNatClampNeg) = z := ⟨_, rfl⟩
    replace h := lt_go h e13
    rw [e13]
    refine g_istore_n (i := 3) [(3, vI x12), (0, vR (some k)), (1, vI a1), (2, vI a2)] ok d_Mo_gust_38 rfl (by decide) rfl ?_
    refine g_aload_n (i := 0) 1 ok d_Mo_gust_39 rfl rfl ?_
    refine g_getr (s0 := 20) (j := 6) (ci := 5) (C := RX5) (T := TX5) (N := 29) ok (rf_mono m5 ht) lay_20 rfl inX5 (by decide) rfl tw_744 rfl d_Mo_gust_40 ?_
    refine g_iload_n (i := 1) 2 ok d_Mo_gust_43 rfl rfl ?_
    refine g_iload_n (i := 2) 3 ok d_Mo_gust_44 rfl rfl ?_
    obtain ⟨k14, hk15, h⟩ := bnd_go h
    refine g_iast ok hk15 d_Mo_gust_45 ?_
    obtain ⟨s16, e17⟩ : ∃ z, wi s7 k14 a1.toNatClampNeg a2 = z := ⟨_, rfl⟩
    replace h := lt_go h e17
    have m18 := mo_wi e17
    rw [e17]
    refine g_aload_n (i := 0) 1 ok d_Mo_gust_46 rfl rfl ?_
    refine g_getr (s0 := 20) (j := 6) (ci := 5) (C := RX5) (T := TX5) (N := 29) ok (rf_mono m18 (rf_mono m5 ht)) lay_20 rfl inX5 (by decide) rfl tw_744 rfl d_Mo_gust_47 ?_
    refine g_iconst (v := (4 : Int32)) ok d_Mo_gust_50 (by decide) ?_
    refine g_aload_n (i := 0) 1 ok d_Mo_gust_51 rfl rfl ?_
    refine g_getr (s0 := 20) (j := 6) (ci := 5) (C := RX5) (T := TX5) (N := 29) ok (rf_mono m18 (rf_mono m5 ht)) lay_20 rfl inX5 (by decide) rfl tw_744 rfl d_Mo_gust_52 ?_
    refine g_iconst (v := (3 : Int32)) ok d_Mo_gust_55 (by decide) ?_
    obtain ⟨k19, hk20, h⟩ := bnd_go h
    refine g_iald ok hk20 d_Mo_gust_56 ?_
    obtain ⟨k21, hk22, h⟩ := bnd_go h
    refine g_iast ok hk22 d_Mo_gust_57 ?_
    obtain ⟨s23, e24⟩ : ∃ z, wi s16 k21 (4 : Int32).toNatClampNeg (s16.1 k19 (3 : Int32).toNatClampNeg) = z := ⟨_, rfl⟩
    replace h := lt_go h e24
    have m25 := mo_wi e24
    rw [e24]
    refine g_iload_n (i := 3) 0 ok d_Mo_gust_58 rfl rfl ?_
    cases h
    exact g_iret ok (hret _ hk) (by decide) (by decide) d_Mo_gust_59
  · replace h := (if_neg c9).symm.trans h
    refine g_iconst (v := (0 : Int32)) ok d_Mo_gust_30 (by decide) ?_
    cases h
    exact g_iret ok (hret _ hk) (by decide) (by decide) d_Mo_gust_31
set_option maxRecDepth 100000 in
set_option maxHeartbeats 4000000 in
theorem w_j_Mo_gust_23 {X : CX} {KX : Int32 × MS → Prop} {k : Nat} {a1 : Int32} {a2 : Int32} {t0 : Option Nat} {s : MS} (ok : Ok X cX5_gust RX5 rm_Mo_gust 4 false) (hret : ∀ r : Int32 × MS, KX r → Fin X (some .int) 0 0 false (some (vI r.1)) r.2) (ht : rf s.2.2 20 (some k) = some k) {res : Int32 × MS} (h : j_Mo_gust_23 k a1 a2 t0 s = some res) (hk : KX res) : G X s 0 0 23 [(0, vR (some k)), (1, vI a1), (2, vI a2)] [vR t0] := by
  unfold j_Mo_gust_23 at h
  refine g_iconst (v := (1 : Int32)) ok d_Mo_gust_23 (by decide) ?_
  exact w_j_Mo_gust_24 ok hret ht h hk
set_option maxRecDepth 100000 in
set_option maxHeartbeats 4000000 in
theorem w_Mo_gust {X : CX} {KX : Int32 × MS → Prop} {k : Nat} {a1 : Int32} {a2 : Int32} {s : MS} (ok : Ok X cX5_gust RX5 rm_Mo_gust 4 false) (hret : ∀ r : Int32 × MS, KX r → Fin X (some .int) 0 0 false (some (vI r.1)) r.2)   (ht : rf s.2.2 20 (some k) = some k) {res : Int32 × MS} (h : f_Mo_gust k a1 a2 s = some res) (hk : KX res) : G X s 0 0 0 [(0, vR (some k)), (1, vI a1), (2, vI a2)] [] := by
  unfold f_Mo_gust at h
  refine g_aload_n (i := 0) 0 ok d_Mo_gust_0 rfl rfl ?_
  refine g_iload_n (i := 1) 1 ok d_Mo_gust_1 rfl rfl ?_
  refine g_iconst (v := (1 : Int32)) ok d_Mo_gust_2 (by decide) ?_
  refine g_iconst (v := (3 : Int32)) ok d_Mo_gust_3 (by decide) ?_
  refine g_invS (rm2 := rm_Mo_within) (As := [vI a1, vI (1 : Int32), vI (3 : Int32)]) (rest := [vR (some k)]) ok (c_Mo_within X.1.2.1) cm_Mo_within cs_Mo_within tw_838 ⟨rfl, rfl⟩ ⟨le_t rfl, le_t rfl⟩ ⟨rfl, le_t rfl⟩ ⟨le_t rfl, le_t rfl⟩ d_Mo_gust_4 rfl (fun m1 => ?_)
  show G X s 0 0 7 [(0, vR (some k)), (1, vI a1), (2, vI a2)] [vI (f_Mo_within a1 (1 : Int32) (3 : Int32)), vR (some k)]
  refine g_if_eq (tgt := 23) ok d_Mo_gust_7 (by decide) (fun c2 => ?_) (fun c2 => ?_)
  · replace h := (if_pos c2).symm.trans h
    exact w_j_Mo_gust_23 ok hret ht h hk
  · replace h := (if_neg c2).symm.trans h
    refine g_iload_n (i := 2) 2 ok d_Mo_gust_10 rfl rfl ?_
    refine g_iconst (v := (0 : Int32)) ok d_Mo_gust_11 (by decide) ?_
    refine g_iconst (v := (5 : Int32)) ok d_Mo_gust_12 (by decide) ?_
    refine g_invS (rm2 := rm_Mo_within) (As := [vI a2, vI (0 : Int32), vI (5 : Int32)]) (rest := [vR (some k)]) ok (c_Mo_within X.1.2.1) cm_Mo_within cs_Mo_within tw_838 ⟨rfl, rfl⟩ ⟨le_t rfl, le_t rfl⟩ ⟨rfl, le_t rfl⟩ ⟨le_t rfl, le_t rfl⟩ d_Mo_gust_13 rfl (fun m26 => ?_)
    show G X s 0 0 16 [(0, vR (some k)), (1, vI a1), (2, vI a2)] [vI (f_Mo_within a2 (0 : Int32) (5 : Int32)), vR (some k)]
    refine g_if_eq (tgt := 23) ok d_Mo_gust_16 (by decide) (fun c27 => ?_) (fun c27 => ?_)
    · replace h := (if_pos c27).symm.trans h
      exact w_j_Mo_gust_23 ok hret ht h hk
    · replace h := (if_neg c27).symm.trans h
      refine g_iconst (v := (0 : Int32)) ok d_Mo_gust_19 (by decide) ?_
      refine g_goto (tgt := 24) ok d_Mo_gust_20 (by decide) ?_
      exact w_j_Mo_gust_24 ok hret ht h hk
theorem c_Mo_gust (l : Launch) {k : Nat} {a1 : Int32} {a2 : Int32} {s : MS} (ht : rf s.2.2 20 (some k) = some k) {r : Int32} {z : MS} (h : f_Mo_gust k a1 a2 s = some (r, z)) : Ct l yX5_gust (.code yX5_gust cX5_gust 4 (some .int)) rm_Mo_gust 0 0 false [vR (some k), vI a1, vI a2] s (some (vI r)) z :=
  Ct.of rfl (by decide +kernel) ⟨rfl, le_t rfl⟩ (fun X ok fn _ hI hl => w_Mo_gust (KX := fun y => y = (r, z)) ok (fun y hy => by subst hy; exact fn) ht h rfl)
abbrev rm_Mo_way : Room := { frames := 1, cells := 0, slots := 0, locals := 20 }
theorem cm_Mo_way : cfM yX5_way cX5_way 2 (some .int) 2 := ⟨tw_931, tw_4, by decide, by decide, by decide +kernel⟩
theorem cs_Mo_way : cfS yX5_way := tw_930
theorem d_Mo_way_0 : decode cX5_way 0 = .ok (.iload_n 0, 1) := by decide +kernel
theorem d_Mo_way_1 : decode cX5_way 1 = .ok (.bipush 10, 2) := by decide +kernel
theorem d_Mo_way_3 : decode cX5_way 3 = .ok (.irem, 1) := by decide +kernel
theorem d_Mo_way_4 : decode cX5_way 4 = .ok (.iload_n 1, 1) := by decide +kernel
theorem d_Mo_way_5 : decode cX5_way 5 = .ok (.bipush 10, 2) := by decide +kernel
theorem d_Mo_way_7 : decode cX5_way 7 = .ok (.irem, 1) := by decide +kernel
theorem d_Mo_way_8 : decode cX5_way 8 = .ok (.isub, 1) := by decide +kernel
theorem d_Mo_way_9 : decode cX5_way 9 = .ok (.invokestatic 95, 3) := by decide +kernel
theorem d_Mo_way_12 : decode cX5_way 12 = .ok (.iload_n 0, 1) := by decide +kernel
theorem d_Mo_way_13 : decode cX5_way 13 = .ok (.bipush 10, 2) := by decide +kernel
theorem d_Mo_way_15 : decode cX5_way 15 = .ok (.idiv, 1) := by decide +kernel
theorem d_Mo_way_16 : decode cX5_way 16 = .ok (.iload_n 1, 1) := by decide +kernel
theorem d_Mo_way_17 : decode cX5_way 17 = .ok (.bipush 10, 2) := by decide +kernel
theorem d_Mo_way_19 : decode cX5_way 19 = .ok (.idiv, 1) := by decide +kernel
theorem d_Mo_way_20 : decode cX5_way 20 = .ok (.isub, 1) := by decide +kernel
theorem d_Mo_way_21 : decode cX5_way 21 = .ok (.invokestatic 95, 3) := by decide +kernel
theorem d_Mo_way_24 : decode cX5_way 24 = .ok (.iadd, 1) := by decide +kernel
theorem d_Mo_way_25 : decode cX5_way 25 = .ok (.ireturn, 1) := by decide +kernel
set_option maxRecDepth 100000 in
set_option maxHeartbeats 4000000 in
theorem w_Mo_way {X : CX} {KX : Int32 → Prop} {a0 : Int32} {a1 : Int32} {s : MS} (ok : Ok X cX5_way RX5 rm_Mo_way 2 false) (hret : ∀ r : Int32, KX r → Fin X (some .int) 0 0 false (some (vI r)) s)    {res : Int32} (h : f_Mo_way a0 a1 = res) (hk : KX res) : G X s 0 0 0 [(0, vI a0), (1, vI a1)] [] := by
  unfold f_Mo_way at h
  refine g_iload_n (i := 0) 0 ok d_Mo_way_0 rfl rfl ?_
  refine g_bipush (v := (10 : Int32)) ok d_Mo_way_1 (by decide) ?_
  refine g_irem ok d_Mo_way_3 (by decide) ?_
  refine g_iload_n (i := 1) 1 ok d_Mo_way_4 rfl rfl ?_
  refine g_bipush (v := (10 : Int32)) ok d_Mo_way_5 (by decide) ?_
  refine g_irem ok d_Mo_way_7 (by decide) ?_
  refine g_isub ok d_Mo_way_8 ?_
  refine g_invS (rm2 := rm_Mo_size) (As := [vI ((a0 - a0 / (10 : Int32) * (10 : Int32)) - (a1 - a1 / (10 : Int32) * (10 : Int32)))]) (rest := []) ok (c_Mo_size X.1.2.1) cm_Mo_size cs_Mo_size tw_932 ⟨rfl, rfl⟩ ⟨le_t rfl, le_t rfl⟩ ⟨rfl, le_t rfl⟩ ⟨le_t rfl, le_t rfl⟩ d_Mo_way_9 rfl (fun m1 => ?_)
  show G X s 0 0 12 [(0, vI a0), (1, vI a1)] [vI (f_Mo_size ((a0 - a0 / (10 : Int32) * (10 : Int32)) - (a1 - a1 / (10 : Int32) * (10 : Int32))))]
  refine g_iload_n (i := 0) 0 ok d_Mo_way_12 rfl rfl ?_
  refine g_bipush (v := (10 : Int32)) ok d_Mo_way_13 (by decide) ?_
  refine g_idiv ok d_Mo_way_15 (by decide) ?_
  refine g_iload_n (i := 1) 1 ok d_Mo_way_16 rfl rfl ?_
  refine g_bipush (v := (10 : Int32)) ok d_Mo_way_17 (by decide) ?_
  refine g_idiv ok d_Mo_way_19 (by decide) ?_
  refine g_isub ok d_Mo_way_20 ?_
  refine g_invS (rm2 := rm_Mo_size) (As := [vI ((a0 / (10 : Int32)) - (a1 / (10 : Int32)))]) (rest := [vI (f_Mo_size ((a0 - a0 / (10 : Int32) * (10 : Int32)) - (a1 - a1 / (10 : Int32) * (10 : Int32))))]) ok (c_Mo_size X.1.2.1) cm_Mo_size cs_Mo_size tw_932 ⟨rfl, rfl⟩ ⟨le_t rfl, le_t rfl⟩ ⟨rfl, le_t rfl⟩ ⟨le_t rfl, le_t rfl⟩ d_Mo_way_21 rfl (fun m2 => ?_)
  show G X s 0 0 24 [(0, vI a0), (1, vI a1)] [vI (f_Mo_size ((a0 / (10 : Int32)) - (a1 / (10 : Int32)))), vI (f_Mo_size ((a0 - a0 / (10 : Int32) * (10 : Int32)) - (a1 - a1 / (10 : Int32) * (10 : Int32))))]
  refine g_iadd ok d_Mo_way_24 ?_
  subst h
  exact g_iret ok (hret _ hk) (by decide) (by decide) d_Mo_way_25
theorem c_Mo_way (l : Launch) {a0 : Int32} {a1 : Int32} {s : MS} : Ct l yX5_way (.code yX5_way cX5_way 2 (some .int)) rm_Mo_way 0 0 false [vI a0, vI a1] s (some (vI (f_Mo_way a0 a1))) s :=
  Ct.of rfl (by decide +kernel) ⟨rfl, le_t rfl⟩ (fun X ok fn _ hI hl => w_Mo_way (KX := fun y => y = f_Mo_way a0 a1) ok (fun y hy => by subst hy; exact fn) rfl rfl)
abbrev rm_Mo_nearest : Room := { frames := 2, cells := 0, slots := 0, locals := 41 }
theorem cm_Mo_nearest : cfM yX5_nearest cX5_nearest 4 (some .int) 1 := ⟨tw_928, tw_4, by decide, by decide, by decide +kernel⟩
theorem cv_Mo_nearest : cfV yX5_nearest := ⟨tw_927, ts_X5_nearest⟩
theorem d_Mo_nearest_0 : decode cX5_nearest 0 = .ok (.iconst (-1), 1) := by decide +kernel
theorem d_Mo_nearest_1 : decode cX5_nearest 1 = .ok (.istore_n 2, 1) := by decide +kernel
theorem d_Mo_nearest_2 : decode cX5_nearest 2 = .ok (.iconst 0, 1) := by decide +kernel
theorem d_Mo_nearest_3 : decode cX5_nearest 3 = .ok (.istore_n 3, 1) := by decide +kernel
theorem d_Mo_nearest_4 : decode cX5_nearest 4 = .ok (.iload_n 3, 1) := by decide +kernel
theorem d_Mo_nearest_5 : decode cX5_nearest 5 = .ok (.bipush 100, 2) := by decide +kernel
theorem d_Mo_nearest_7 : decode cX5_nearest 7 = .ok (.if_icmp .ge 42, 3) := by decide +kernel
theorem d_Mo_nearest_10 : decode cX5_nearest 10 = .ok (.aload_n 0, 1) := by decide +kernel
theorem d_Mo_nearest_11 : decode cX5_nearest 11 = .ok (.getfield 13, 3) := by decide +kernel
theorem d_Mo_nearest_14 : decode cX5_nearest 14 = .ok (.iload_n 3, 1) := by decide +kernel
theorem d_Mo_nearest_15 : decode cX5_nearest 15 = .ok (.baload, 1) := by decide +kernel
theorem d_Mo_nearest_16 : decode cX5_nearest 16 = .ok (.ifCond .eq 25, 3) := by decide +kernel
theorem d_Mo_nearest_19 : decode cX5_nearest 19 = .ok (.iload_n 2, 1) := by decide +kernel
theorem d_Mo_nearest_20 : decode cX5_nearest 20 = .ok (.iconst (-1), 1) := by decide +kernel
theorem d_Mo_nearest_21 : decode cX5_nearest 21 = .ok (.if_icmp .eq 16, 3) := by decide +kernel
theorem d_Mo_nearest_24 : decode cX5_nearest 24 = .ok (.iload_n 1, 1) := by decide +kernel
theorem d_Mo_nearest_25 : decode cX5_nearest 25 = .ok (.iload_n 3, 1) := by decide +kernel
theorem d_Mo_nearest_26 : decode cX5_nearest 26 = .ok (.invokestatic 99, 3) := by decide +kernel
theorem d_Mo_nearest_29 : decode cX5_nearest 29 = .ok (.iload_n 1, 1) := by decide +kernel
theorem d_Mo_nearest_30 : decode cX5_nearest 30 = .ok (.iload_n 2, 1) := by decide +kernel
theorem d_Mo_nearest_31 : decode cX5_nearest 31 = .ok (.invokestatic 99, 3) := by decide +kernel
theorem d_Mo_nearest_34 : decode cX5_nearest 34 = .ok (.if_icmp .ge 7, 3) := by decide +kernel
theorem d_Mo_nearest_37 : decode cX5_nearest 37 = .ok (.iload_n 3, 1) := by decide +kernel
theorem d_Mo_nearest_38 : decode cX5_nearest 38 = .ok (.goto 4, 3) := by decide +kernel
theorem d_Mo_nearest_41 : decode cX5_nearest 41 = .ok (.iload_n 2, 1) := by decide +kernel
theorem d_Mo_nearest_42 : decode cX5_nearest 42 = .ok (.istore_n 2, 1) := by decide +kernel
theorem d_Mo_nearest_43 : decode cX5_nearest 43 = .ok (.iinc 3 1, 3) := by decide +kernel
theorem d_Mo_nearest_46 : decode cX5_nearest 46 = .ok (.goto (-42), 3) := by decide +kernel
theorem d_Mo_nearest_49 : decode cX5_nearest 49 = .ok (.iload_n 2, 1) := by decide +kernel
theorem d_Mo_nearest_50 : decode cX5_nearest 50 = .ok (.ireturn, 1) := by decide +kernel
set_option maxRecDepth 100000 in
set_option maxHeartbeats 4000000 in
theorem w_b_Mo_nearest_4 {X : CX} {KX : Int32 → Prop} {k : Nat} {a1 : Int32} {a2 : Int32} {a3 : Int32} {s : MS} {rec : Int32 → Int32 → Option (Int32)} (ok : Ok X cX5_nearest RX5 rm_Mo_nearest 4 false) (hexit : ∀ (e2 : Int32), KX e2 → G X s 0 0 49 [(0, vR (some k)), (2, vI e2)] []) (hrec : ∀ (v2 : Int32) (v3 : Int32), ∀ y, rec v2 v3 = some y → KX y → G X s 0 0 4 [(0, vR (some k)), (1, vI a1), (2, vI v2), (3, vI v3)] []) (ht : rf s.2.2 20 (some k) = some k) {res : Int32} (h : b_Mo_nearest_4 k a1 a2 a3 s rec = some res) (hk : KX res) : G X s 0 0 4 [(0, vR (some k)), (1, vI a1), (2, vI a2), (3, vI a3)] [] := by
  unfold b_Mo_nearest_4 at h
  refine g_iload_n (i := 3) 3 ok d_Mo_nearest_4 rfl rfl ?_
  refine g_bipush (v := (100 : Int32)) ok d_Mo_nearest_5 (by decide) ?_
  refine g_icmp_ge (tgt := 49) ok d_Mo_nearest_7 (by decide) (fun c1 => ?_) (fun c1 => ?_)
  · replace h := (if_pos c1).symm.trans h
    refine g_aload_n (i := 0) 0 ok d_Mo_nearest_10 rfl rfl ?_
    refine g_getr (s0 := 20) (j := 3) (ci := 5) (C := RX5) (T := TX5) (N := 29) ok ht lay_20 rfl inX5 (by decide) rfl tw_741 rfl d_Mo_nearest_11 ?_
    refine g_iload_n (i := 3) 3 ok d_Mo_nearest_14 rfl rfl ?_
    obtain ⟨k2, hk3, h⟩ := bnd_go h
    refine g_zald ok hk3 d_Mo_nearest_15 ?_
    refine g_if_eq (tgt := 41) ok d_Mo_nearest_16 (by decide) (fun c4 => ?_) (fun c4 => ?_)
    · replace h := (if_pos c4).symm.trans h
      refine g_iload_n (i := 2) 2 ok d_Mo_nearest_41 rfl rfl ?_
      refine g_istore_n (i := 2) [(2, vI a2), (0, vR (some k)), (1, vI a1), (3, vI a3)] ok d_Mo_nearest_42 rfl (by decide) rfl ?_
      obtain ⟨x5, e6⟩ : ∃ z, a3 + (1 : Int32) = z := ⟨_, rfl⟩
      replace h := lt_go h e6
      refine g_iinc (i := 3) (v := x5) 3 [(3, vI x5), (2, vI a2), (0, vR (some k)), (1, vI a1)] ok d_Mo_nearest_43 rfl (by rw [← e6]; rfl) (by decide) rfl ?_
      refine g_goto (tgt := 4) ok d_Mo_nearest_46 (by decide) ?_
      refine g_sub [2, 3, 1, 0] rfl ?_
      exact hrec a2 x5 _ h hk
    · replace h := (if_neg c4).symm.trans h
      refine g_iload_n (i := 2) 2 ok d_Mo_nearest_19 rfl rfl ?_
      refine g_iconst (v := (-1 : Int32)) ok d_Mo_nearest_20 (by decide) ?_
      refine g_icmp_eq (tgt := 37) ok d_Mo_nearest_21 (by decide) (fun c7 => ?_) (fun c7 => ?_)
      · replace h := (if_pos c7).symm.trans h
        refine g_iload_n (i := 3) 3 ok d_Mo_nearest_37 rfl rfl ?_
        refine g_goto (tgt := 42) ok d_Mo_nearest_38 (by decide) ?_
        refine g_istore_n (i := 2) [(2, vI a3), (0, vR (some k)), (1, vI a1), (3, vI a3)] ok d_Mo_nearest_42 rfl (by decide) rfl ?_
        obtain ⟨x8, e9⟩ : ∃ z, a3 + (1 : Int32) = z := ⟨_, rfl⟩
        replace h := lt_go h e9
        refine g_iinc (i := 3) (v := x8) 3 [(3, vI x8), (2, vI a3), (0, vR (some k)), (1, vI a1)] ok d_Mo_nearest_43 rfl (by rw [← e9]; rfl) (by decide) rfl ?_
        refine g_goto (tgt := 4) ok d_Mo_nearest_46 (by decide) ?_
        refine g_sub [2, 3, 1, 0] rfl ?_
        exact hrec a3 x8 _ h hk
      · replace h := (if_neg c7).symm.trans h
        refine g_iload_n (i := 1) 1 ok d_Mo_nearest_24 rfl rfl ?_
        refine g_iload_n (i := 3) 3 ok d_Mo_nearest_25 rfl rfl ?_
        refine g_invS (rm2 := rm_Mo_way) (As := [vI a1, vI a3]) (rest := []) ok (c_Mo_way X.1.2.1) cm_Mo_way cs_Mo_way tw_929 ⟨rfl, rfl⟩ ⟨le_t rfl, le_t rfl⟩ ⟨rfl, le_t rfl⟩ ⟨le_t rfl, le_t rfl⟩ d_Mo_nearest_26 rfl (fun m10 => ?_)
        show G X s 0 0 29 [(0, vR (some k)), (1, vI a1), (2, vI a2), (3, vI a3)] [vI (f_Mo_way a1 a3)]
        refine g_iload_n (i := 1) 1 ok d_Mo_nearest_29 rfl rfl ?_
        refine g_iload_n (i := 2) 2 ok d_Mo_nearest_30 rfl rfl ?_
        refine g_invS (rm2 := rm_Mo_way) (As := [vI a1, vI a2]) (rest := [vI (f_Mo_way a1 a3)]) ok (c_Mo_way X.1.2.1) cm_Mo_way cs_Mo_way tw_929 ⟨rfl, rfl⟩ ⟨le_t rfl, le_t rfl⟩ ⟨rfl, le_t rfl⟩ ⟨le_t rfl, le_t rfl⟩ d_Mo_nearest_31 rfl (fun m11 => ?_)
        show G X s 0 0 34 [(0, vR (some k)), (1, vI a1), (2, vI a2), (3, vI a3)] [vI (f_Mo_way a1 a2), vI (f_Mo_way a1 a3)]
        refine g_icmp_ge (tgt := 41) ok d_Mo_nearest_34 (by decide) (fun c12 => ?_) (fun c12 => ?_)
        · replace h := (if_pos c12).symm.trans h
          refine g_iload_n (i := 3) 3 ok d_Mo_nearest_37 rfl rfl ?_
          refine g_goto (tgt := 42) ok d_Mo_nearest_38 (by decide) ?_
          refine g_istore_n (i := 2) [(2, vI a3), (0, vR (some k)), (1, vI a1), (3, vI a3)] ok d_Mo_nearest_42 rfl (by decide) rfl ?_
          obtain ⟨x13, e14⟩ : ∃ z, a3 + (1 : Int32) = z := ⟨_, rfl⟩
          replace h := lt_go h e14
          refine g_iinc (i := 3) (v := x13) 3 [(3, vI x13), (2, vI a3), (0, vR (some k)), (1, vI a1)] ok d_Mo_nearest_43 rfl (by rw [← e14]; rfl) (by decide) rfl ?_
          refine g_goto (tgt := 4) ok d_Mo_nearest_46 (by decide) ?_
          refine g_sub [2, 3, 1, 0] rfl ?_
          exact hrec a3 x13 _ h hk
        · replace h := (if_neg c12).symm.trans h
          refine g_iload_n (i := 2) 2 ok d_Mo_nearest_41 rfl rfl ?_
          refine g_istore_n (i := 2) [(2, vI a2), (0, vR (some k)), (1, vI a1), (3, vI a3)] ok d_Mo_nearest_42 rfl (by decide) rfl ?_
          obtain ⟨x15, e16⟩ : ∃ z, a3 + (1 : Int32) = z := ⟨_, rfl⟩
          replace h := lt_go h e16
          refine g_iinc (i := 3) (v := x15) 3 [(3, vI x15), (2, vI a2), (0, vR (some k)), (1, vI a1)] ok d_Mo_nearest_43 rfl (by rw [← e16]; rfl) (by decide) rfl ?_
          refine g_goto (tgt := 4) ok d_Mo_nearest_46 (by decide) ?_
          refine g_sub [2, 3, 1, 0] rfl ?_
          exact hrec a2 x15 _ h hk
  · replace h := (if_neg c1).symm.trans h
    refine g_sub [0, 2] rfl ?_
    cases h
    exact hexit a2 hk
theorem w_l_Mo_nearest_4 {X : CX} {KX : Int32 → Prop} {k : Nat} {a1 : Int32} {s : MS} (ok : Ok X cX5_nearest RX5 rm_Mo_nearest 4 false) (hexit : ∀ (e2 : Int32), KX e2 → G X s 0 0 49 [(0, vR (some k)), (2, vI e2)] []) (ht : rf s.2.2 20 (some k) = some k) : ∀ (n : Nat) (a2 : Int32) (a3 : Int32) {res : Int32}, l_Mo_nearest_4 k a1 s n a2 a3 = some res → KX res → G X s 0 0 4 [(0, vR (some k)), (1, vI a1), (2, vI a2), (3, vI a3)] [] := by
  intro n
  induction n with
  | zero => intro _ _ res h; cases h
  | succ n ih =>
    intro a2 a3 res h hk
    exact w_b_Mo_nearest_4 ok hexit (fun v2 v3 y h2 hk2 => ih v2 v3 h2 hk2) ht h hk
set_option maxRecDepth 100000 in
set_option maxHeartbeats 4000000 in
theorem w_Mo_nearest {X : CX} {KX : Int32 → Prop} {k : Nat} {a1 : Int32} {s : MS} (ok : Ok X cX5_nearest RX5 rm_Mo_nearest 4 false) (hret : ∀ r : Int32, KX r → Fin X (some .int) 0 0 false (some (vI r)) s)   (ht : rf s.2.2 20 (some k) = some k) {res : Int32} (h : f_Mo_nearest k a1 s = some res) (hk : KX res) : G X s 0 0 0 [(0, vR (some k)), (1, vI a1)] [] := by
  unfold f_Mo_nearest at h
  refine g_iconst (v := (-1 : Int32)) ok d_Mo_nearest_0 (by decide) ?_
  refine g_istore_n (i := 2) [(2, vI (-1 : Int32)), (0, vR (some k)), (1, vI a1)] ok d_Mo_nearest_1 rfl (by decide) rfl ?_
  refine g_iconst (v := (0 : Int32)) ok d_Mo_nearest_2 (by decide) ?_
  refine g_istore_n (i := 3) [(3, vI (0 : Int32)), (2, vI (-1 : Int32)), (0, vR (some k)), (1, vI a1)] ok d_Mo_nearest_3 rfl (by decide) rfl ?_
  refine g_sub [2, 3, 1, 0] rfl ?_
  obtain ⟨e17, hx, h⟩ := bnd_go h
  refine w_l_Mo_nearest_4 (KX := fun y => y = e17) ok (fun y0 he => ?_) ht _ _ _ hx rfl
  cases he
  refine g_iload_n (i := 2) 1 ok d_Mo_nearest_49 rfl rfl ?_
  cases h
  exact g_iret ok (hret _ hk) (by decide) (by decide) d_Mo_nearest_50
theorem c_Mo_nearest (l : Launch) {k : Nat} {a1 : Int32} {s : MS} (ht : rf s.2.2 20 (some k) = some k) {r : Int32} (h : f_Mo_nearest k a1 s = some r) : Ct l yX5_nearest (.code yX5_nearest cX5_nearest 4 (some .int)) rm_Mo_nearest 0 0 false [vR (some k), vI a1] s (some (vI r)) s :=
  Ct.of rfl (by decide +kernel) ⟨rfl, le_t rfl⟩ (fun X ok fn _ hI hl => w_Mo_nearest (KX := fun y => y = r) ok (fun y hy => by subst hy; exact fn) ht h rfl)
abbrev rm_Mo_homeOf : Room := { frames := 3, cells := 0, slots := 0, locals := 64 }
theorem cm_Mo_homeOf : cfM yX5_homeOf cX5_homeOf 2 (some .int) 1 := ⟨tw_924, tw_4, by decide, by decide, by decide +kernel⟩
theorem cv_Mo_homeOf : cfV yX5_homeOf := ⟨tw_923, ts_X5_homeOf⟩
theorem d_Mo_homeOf_0 : decode cX5_homeOf 0 = .ok (.iload_n 1, 1) := by decide +kernel
theorem d_Mo_homeOf_1 : decode cX5_homeOf 1 = .ok (.aload_n 0, 1) := by decide +kernel
theorem d_Mo_homeOf_2 : decode cX5_homeOf 2 = .ok (.iload_n 1, 1) := by decide +kernel
theorem d_Mo_homeOf_3 : decode cX5_homeOf 3 = .ok (.invokevirtual 103, 3) := by decide +kernel
theorem d_Mo_homeOf_6 : decode cX5_homeOf 6 = .ok (.invokestatic 99, 3) := by decide +kernel
theorem d_Mo_homeOf_9 : decode cX5_homeOf 9 = .ok (.ireturn, 1) := by decide +kernel
set_option maxRecDepth 100000 in
set_option maxHeartbeats 4000000 in
theorem w_Mo_homeOf {X : CX} {KX : Int32 → Prop} {k : Nat} {a1 : Int32} {s : MS} (ok : Ok X cX5_homeOf RX5 rm_Mo_homeOf 2 false) (hret : ∀ r : Int32, KX r → Fin X (some .int) 0 0 false (some (vI r)) s)   (ht : rf s.2.2 20 (some k) = some k) {res : Int32} (h : f_Mo_homeOf k a1 s = some res) (hk : KX res) : G X s 0 0 0 [(0, vR (some k)), (1, vI a1)] [] := by
  unfold f_Mo_homeOf at h
  refine g_iload_n (i := 1) 1 ok d_Mo_homeOf_0 rfl rfl ?_
  refine g_aload_n (i := 0) 0 ok d_Mo_homeOf_1 rfl rfl ?_
  refine g_iload_n (i := 1) 1 ok d_Mo_homeOf_2 rfl rfl ?_
  obtain ⟨x2, hc3, h⟩ := bnd_go h
  refine g_invV (rm2 := rm_Mo_nearest) (As := [vI a1]) (rest := [vI a1]) ok ht lay_20 rfl (c_Mo_nearest X.1.2.1 (rf_self ht) hc3) cm_Mo_nearest cv_Mo_nearest tw_925 ⟨rfl, rfl⟩ ⟨le_t rfl, le_t rfl⟩ ⟨rfl, le_t rfl⟩ ⟨le_t rfl, le_t rfl⟩ d_Mo_homeOf_3 rfl (fun m1 => ?_)
  show G X s 0 0 6 [(0, vR (some k)), (1, vI a1)] [vI x2, vI a1]
  refine g_invS (rm2 := rm_Mo_way) (As := [vI a1, vI x2]) (rest := []) ok (c_Mo_way X.1.2.1) cm_Mo_way cs_Mo_way tw_929 ⟨rfl, rfl⟩ ⟨le_t rfl, le_t rfl⟩ ⟨rfl, le_t rfl⟩ ⟨le_t rfl, le_t rfl⟩ d_Mo_homeOf_6 rfl (fun m4 => ?_)
  show G X s 0 0 9 [(0, vR (some k)), (1, vI a1)] [vI (f_Mo_way a1 x2)]
  cases h
  exact g_iret ok (hret _ hk) (by decide) (by decide) d_Mo_homeOf_9
theorem c_Mo_homeOf (l : Launch) {k : Nat} {a1 : Int32} {s : MS} (ht : rf s.2.2 20 (some k) = some k) {r : Int32} (h : f_Mo_homeOf k a1 s = some r) : Ct l yX5_homeOf (.code yX5_homeOf cX5_homeOf 2 (some .int)) rm_Mo_homeOf 0 0 false [vR (some k), vI a1] s (some (vI r)) s :=
  Ct.of rfl (by decide +kernel) ⟨rfl, le_t rfl⟩ (fun X ok fn _ hI hl => w_Mo_homeOf (KX := fun y => y = r) ok (fun y hy => by subst hy; exact fn) ht h rfl)
abbrev rm_Mo_isIn : Room := { frames := 1, cells := 0, slots := 0, locals := 22 }
theorem cm_Mo_isIn : cfM yX5_isIn cX5_isIn 6 (some .boolean) 3 := ⟨tw_865, tw_4, by decide, by decide, by decide +kernel⟩
theorem cv_Mo_isIn : cfV yX5_isIn := ⟨tw_864, ts_X5_isIn⟩
theorem d_Mo_isIn_0 : decode cX5_isIn 0 = .ok (.bipush 8, 2) := by decide +kernel
theorem d_Mo_isIn_2 : decode cX5_isIn 2 = .ok (.iload_n 1, 1) := by decide +kernel
theorem d_Mo_isIn_3 : decode cX5_isIn 3 = .ok (.imul, 1) := by decide +kernel
theorem d_Mo_isIn_4 : decode cX5_isIn 4 = .ok (.istore 4, 2) := by decide +kernel
theorem d_Mo_isIn_6 : decode cX5_isIn 6 = .ok (.iload_n 2, 1) := by decide +kernel
theorem d_Mo_isIn_7 : decode cX5_isIn 7 = .ok (.bipush 10, 2) := by decide +kernel
theorem d_Mo_isIn_9 : decode cX5_isIn 9 = .ok (.irem, 1) := by decide +kernel
theorem d_Mo_isIn_10 : decode cX5_isIn 10 = .ok (.aload_n 0, 1) := by decide +kernel
theorem d_Mo_isIn_11 : decode cX5_isIn 11 = .ok (.getfield 65, 3) := by decide +kernel
theorem d_Mo_isIn_14 : decode cX5_isIn 14 = .ok (.iload 4, 2) := by decide +kernel
theorem d_Mo_isIn_16 : decode cX5_isIn 16 = .ok (.iaload, 1) := by decide +kernel
theorem d_Mo_isIn_17 : decode cX5_isIn 17 = .ok (.aload_n 0, 1) := by decide +kernel
theorem d_Mo_isIn_18 : decode cX5_isIn 18 = .ok (.getfield 65, 3) := by decide +kernel
theorem d_Mo_isIn_21 : decode cX5_isIn 21 = .ok (.iload 4, 2) := by decide +kernel
theorem d_Mo_isIn_23 : decode cX5_isIn 23 = .ok (.iconst 1, 1) := by decide +kernel
theorem d_Mo_isIn_24 : decode cX5_isIn 24 = .ok (.iadd, 1) := by decide +kernel
theorem d_Mo_isIn_25 : decode cX5_isIn 25 = .ok (.iaload, 1) := by decide +kernel
theorem d_Mo_isIn_26 : decode cX5_isIn 26 = .ok (.invokestatic 75, 3) := by decide +kernel
theorem d_Mo_isIn_29 : decode cX5_isIn 29 = .ok (.ifCond .eq 58, 3) := by decide +kernel
theorem d_Mo_isIn_32 : decode cX5_isIn 32 = .ok (.iload_n 2, 1) := by decide +kernel
theorem d_Mo_isIn_33 : decode cX5_isIn 33 = .ok (.bipush 10, 2) := by decide +kernel
theorem d_Mo_isIn_35 : decode cX5_isIn 35 = .ok (.idiv, 1) := by decide +kernel
theorem d_Mo_isIn_36 : decode cX5_isIn 36 = .ok (.bipush 10, 2) := by decide +kernel
theorem d_Mo_isIn_38 : decode cX5_isIn 38 = .ok (.irem, 1) := by decide +kernel
theorem d_Mo_isIn_39 : decode cX5_isIn 39 = .ok (.aload_n 0, 1) := by decide +kernel
theorem d_Mo_isIn_40 : decode cX5_isIn 40 = .ok (.getfield 65, 3) := by decide +kernel
theorem d_Mo_isIn_43 : decode cX5_isIn 43 = .ok (.iload 4, 2) := by decide +kernel
theorem d_Mo_isIn_45 : decode cX5_isIn 45 = .ok (.iconst 2, 1) := by decide +kernel
theorem d_Mo_isIn_46 : decode cX5_isIn 46 = .ok (.iadd, 1) := by decide +kernel
theorem d_Mo_isIn_47 : decode cX5_isIn 47 = .ok (.iaload, 1) := by decide +kernel
theorem d_Mo_isIn_48 : decode cX5_isIn 48 = .ok (.aload_n 0, 1) := by decide +kernel
theorem d_Mo_isIn_49 : decode cX5_isIn 49 = .ok (.getfield 65, 3) := by decide +kernel
theorem d_Mo_isIn_52 : decode cX5_isIn 52 = .ok (.iload 4, 2) := by decide +kernel
theorem d_Mo_isIn_54 : decode cX5_isIn 54 = .ok (.iconst 3, 1) := by decide +kernel
theorem d_Mo_isIn_55 : decode cX5_isIn 55 = .ok (.iadd, 1) := by decide +kernel
theorem d_Mo_isIn_56 : decode cX5_isIn 56 = .ok (.iaload, 1) := by decide +kernel
theorem d_Mo_isIn_57 : decode cX5_isIn 57 = .ok (.invokestatic 75, 3) := by decide +kernel
theorem d_Mo_isIn_60 : decode cX5_isIn 60 = .ok (.ifCond .eq 27, 3) := by decide +kernel
theorem d_Mo_isIn_63 : decode cX5_isIn 63 = .ok (.iload_n 2, 1) := by decide +kernel
theorem d_Mo_isIn_64 : decode cX5_isIn 64 = .ok (.bipush 100, 2) := by decide +kernel
theorem d_Mo_isIn_66 : decode cX5_isIn 66 = .ok (.idiv, 1) := by decide +kernel
theorem d_Mo_isIn_67 : decode cX5_isIn 67 = .ok (.iconst 1, 1) := by decide +kernel
theorem d_Mo_isIn_68 : decode cX5_isIn 68 = .ok (.aload_n 0, 1) := by decide +kernel
theorem d_Mo_isIn_69 : decode cX5_isIn 69 = .ok (.getfield 65, 3) := by decide +kernel
theorem d_Mo_isIn_72 : decode cX5_isIn 72 = .ok (.iload 4, 2) := by decide +kernel
theorem d_Mo_isIn_74 : decode cX5_isIn 74 = .ok (.iconst 4, 1) := by decide +kernel
theorem d_Mo_isIn_75 : decode cX5_isIn 75 = .ok (.iadd, 1) := by decide +kernel
theorem d_Mo_isIn_76 : decode cX5_isIn 76 = .ok (.iaload, 1) := by decide +kernel
theorem d_Mo_isIn_77 : decode cX5_isIn 77 = .ok (.invokestatic 75, 3) := by decide +kernel
theorem d_Mo_isIn_80 : decode cX5_isIn 80 = .ok (.ifCond .eq 7, 3) := by decide +kernel
theorem d_Mo_isIn_83 : decode cX5_isIn 83 = .ok (.iconst 1, 1) := by decide +kernel
theorem d_Mo_isIn_84 : decode cX5_isIn 84 = .ok (.goto 4, 3) := by decide +kernel
theorem d_Mo_isIn_87 : decode cX5_isIn 87 = .ok (.iconst 0, 1) := by decide +kernel
theorem d_Mo_isIn_88 : decode cX5_isIn 88 = .ok (.istore 5, 2) := by decide +kernel
theorem d_Mo_isIn_90 : decode cX5_isIn 90 = .ok (.aload_n 0, 1) := by decide +kernel
theorem d_Mo_isIn_91 : decode cX5_isIn 91 = .ok (.getfield 65, 3) := by decide +kernel
theorem d_Mo_isIn_94 : decode cX5_isIn 94 = .ok (.iload 4, 2) := by decide +kernel
theorem d_Mo_isIn_96 : decode cX5_isIn 96 = .ok (.bipush 7, 2) := by decide +kernel
theorem d_Mo_isIn_98 : decode cX5_isIn 98 = .ok (.iadd, 1) := by decide +kernel
theorem d_Mo_isIn_99 : decode cX5_isIn 99 = .ok (.iaload, 1) := by decide +kernel
theorem d_Mo_isIn_100 : decode cX5_isIn 100 = .ok (.ifCond .ne 38, 3) := by decide +kernel
theorem d_Mo_isIn_103 : decode cX5_isIn 103 = .ok (.iload 5, 2) := by decide +kernel
theorem d_Mo_isIn_105 : decode cX5_isIn 105 = .ok (.ifCond .eq 33, 3) := by decide +kernel
theorem d_Mo_isIn_108 : decode cX5_isIn 108 = .ok (.iload_n 3, 1) := by decide +kernel
theorem d_Mo_isIn_109 : decode cX5_isIn 109 = .ok (.aload_n 0, 1) := by decide +kernel
theorem d_Mo_isIn_110 : decode cX5_isIn 110 = .ok (.getfield 65, 3) := by decide +kernel
theorem d_Mo_isIn_113 : decode cX5_isIn 113 = .ok (.iload 4, 2) := by decide +kernel
theorem d_Mo_isIn_115 : decode cX5_isIn 115 = .ok (.iconst 5, 1) := by decide +kernel
theorem d_Mo_isIn_116 : decode cX5_isIn 116 = .ok (.iadd, 1) := by decide +kernel
theorem d_Mo_isIn_117 : decode cX5_isIn 117 = .ok (.iaload, 1) := by decide +kernel
theorem d_Mo_isIn_118 : decode cX5_isIn 118 = .ok (.aload_n 0, 1) := by decide +kernel
theorem d_Mo_isIn_119 : decode cX5_isIn 119 = .ok (.getfield 65, 3) := by decide +kernel
theorem d_Mo_isIn_122 : decode cX5_isIn 122 = .ok (.iload 4, 2) := by decide +kernel
theorem d_Mo_isIn_124 : decode cX5_isIn 124 = .ok (.bipush 6, 2) := by decide +kernel
theorem d_Mo_isIn_126 : decode cX5_isIn 126 = .ok (.iadd, 1) := by decide +kernel
theorem d_Mo_isIn_127 : decode cX5_isIn 127 = .ok (.iaload, 1) := by decide +kernel
theorem d_Mo_isIn_128 : decode cX5_isIn 128 = .ok (.invokestatic 75, 3) := by decide +kernel
theorem d_Mo_isIn_131 : decode cX5_isIn 131 = .ok (.ifCond .eq 7, 3) := by decide +kernel
theorem d_Mo_isIn_134 : decode cX5_isIn 134 = .ok (.iconst 1, 1) := by decide +kernel
theorem d_Mo_isIn_135 : decode cX5_isIn 135 = .ok (.goto 4, 3) := by decide +kernel
theorem d_Mo_isIn_138 : decode cX5_isIn 138 = .ok (.iconst 0, 1) := by decide +kernel
theorem d_Mo_isIn_139 : decode cX5_isIn 139 = .ok (.ireturn, 1) := by decide +kernel
set_option maxRecDepth 100000 in
set_option maxHeartbeats 4000000 in
theorem w_j_Mo_isIn_88 {X : CX} {KX : Int32 → Prop} {k : Nat} {a3 : Int32} {a4 : Int32} {t0 : Int32} {s : MS} (ok : Ok X cX5_isIn RX5 rm_Mo_isIn 6 false) (hret : ∀ r : Int32, KX r → Fin X (some .boolean) 0 0 false (some (vI r)) s) (ht : rf s.2.2 20 (some k) = some k) {res : Int32} (h : j_Mo_isIn_88 k a3 a4 t0 s = some res) (hk : KX res) : G X s 0 0 88 [(0, vR (some k)), (3, vI a3), (4, vI a4)] [vI t0] := by
  unfold j_Mo_isIn_88 at h
  refine g_istore (i := 5) [(5, vI t0), (0, vR (some k)), (3, vI a3), (4, vI a4)] ok d_Mo_isIn_88 (by decide) rfl ?_
  refine g_aload_n (i := 0) 1 ok d_Mo_isIn_90 rfl rfl ?_
  refine g_getr (s0 := 20) (j := 25) (ci := 5) (C := RX5) (T := TX5) (N := 29) ok ht lay_20 rfl inX5 (by decide) rfl tw_763 rfl d_Mo_isIn_91 ?_
  refine g_iload (i := 4) 3 ok d_Mo_isIn_94 rfl ?_
  refine g_bipush (v := (7 : Int32)) ok d_Mo_isIn_96 (by decide) ?_
  refine g_iadd ok d_Mo_isIn_98 ?_
  obtain ⟨k9, hk10, h⟩ := bnd_go h
  refine g_iald ok hk10 d_Mo_isIn_99 ?_
  refine g_if_ne (tgt := 138) ok d_Mo_isIn_100 (by decide) (fun c11 => ?_) (fun c11 => ?_)
  · replace h := (if_pos c11).symm.trans h
    refine g_iload (i := 5) 0 ok d_Mo_isIn_103 rfl ?_
    refine g_if_eq (tgt := 138) ok d_Mo_isIn_105 (by decide) (fun c12 => ?_) (fun c12 => ?_)
    · replace h := (if_pos c12).symm.trans h
      refine g_iconst (v := (0 : Int32)) ok d_Mo_isIn_138 (by decide) ?_
      cases h
      exact g_zret ok (hret _ hk) (Or.inl rfl) (by decide) (by decide) d_Mo_isIn_139
    · replace h := (if_neg c12).symm.trans h
      refine g_iload_n (i := 3) 2 ok d_Mo_isIn_108 rfl rfl ?_
      refine g_aload_n (i := 0) 1 ok d_Mo_isIn_109 rfl rfl ?_
      refine g_getr (s0 := 20) (j := 25) (ci := 5) (C := RX5) (T := TX5) (N := 29) ok ht lay_20 rfl inX5 (by decide) rfl tw_763 rfl d_Mo_isIn_110 ?_
      refine g_iload (i := 4) 3 ok d_Mo_isIn_113 rfl ?_
      refine g_iconst (v := (5 : Int32)) ok d_Mo_isIn_115 (by decide) ?_
      refine g_iadd ok d_Mo_isIn_116 ?_
      obtain ⟨k13, hk14, h⟩ := bnd_go h
      refine g_iald ok hk14 d_Mo_isIn_117 ?_
      refine g_aload_n (i := 0) 1 ok d_Mo_isIn_118 rfl rfl ?_
      refine g_getr (s0 := 20) (j := 25) (ci := 5) (C := RX5) (T := TX5) (N := 29) ok ht lay_20 rfl inX5 (by decide) rfl tw_763 rfl d_Mo_isIn_119 ?_
      refine g_iload (i := 4) 3 ok d_Mo_isIn_122 rfl ?_
      refine g_bipush (v := (6 : Int32)) ok d_Mo_isIn_124 (by decide) ?_
      refine g_iadd ok d_Mo_isIn_126 ?_
      obtain ⟨k15, hk16, h⟩ := bnd_go h
      refine g_iald ok hk16 d_Mo_isIn_127 ?_
      refine g_invS (rm2 := rm_Mo_within) (As := [vI a3, vI (s.1 k13 (a4 + (5 : Int32)).toNatClampNeg), vI (s.1 k15 (a4 + (6 : Int32)).toNatClampNeg)]) (rest := []) ok (c_Mo_within X.1.2.1) cm_Mo_within cs_Mo_within tw_838 ⟨rfl, rfl⟩ ⟨le_t rfl, le_t rfl⟩ ⟨rfl, le_t rfl⟩ ⟨le_t rfl, le_t rfl⟩ d_Mo_isIn_128 rfl (fun m17 => ?_)
      show G X s 0 0 131 [(5, vI t0), (0, vR (some k)), (3, vI a3), (4, vI a4)] [vI (f_Mo_within a3 (s.1 k13 (a4 + (5 : Int32)).toNatClampNeg) (s.1 k15 (a4 + (6 : Int32)).toNatClampNeg))]
      refine g_if_eq (tgt := 138) ok d_Mo_isIn_131 (by decide) (fun c18 => ?_) (fun c18 => ?_)
      · replace h := (if_pos c18).symm.trans h
        refine g_iconst (v := (0 : Int32)) ok d_Mo_isIn_138 (by decide) ?_
        cases h
        exact g_zret ok (hret _ hk) (Or.inl rfl) (by decide) (by decide) d_Mo_isIn_139
      · replace h := (if_neg c18).symm.trans h
        refine g_iconst (v := (1 : Int32)) ok d_Mo_isIn_134 (by decide) ?_
        refine g_goto (tgt := 139) ok d_Mo_isIn_135 (by decide) ?_
        cases h
        exact g_zret ok (hret _ hk) (Or.inr rfl) (by decide) (by decide) d_Mo_isIn_139
  · replace h := (if_neg c11).symm.trans h
    refine g_iconst (v := (0 : Int32)) ok d_Mo_isIn_138 (by decide) ?_
    cases h
    exact g_zret ok (hret _ hk) (Or.inl rfl) (by decide) (by decide) d_Mo_isIn_139
set_option maxRecDepth 100000 in
set_option maxHeartbeats 4000000 in
theorem w_j_Mo_isIn_87 {X : CX} {KX : Int32 → Prop} {k : Nat} {a3 : Int32} {a4 : Int32} {s : MS} (ok : Ok X cX5_isIn RX5 rm_Mo_isIn 6 false) (hret : ∀ r : Int32, KX r → Fin X (some .boolean) 0 0 false (some (vI r)) s) (ht : rf s.2.2 20 (some k) = some k) {res : Int32} (h : j_Mo_isIn_87 k a3 a4 s = some res) (hk : KX res) : G X s 0 0 87 [(0, vR (some k)), (3, vI a3), (4, vI a4)] [] := by
  unfold j_Mo_isIn_87 at h
  refine g_iconst (v := (0 : Int32)) ok d_Mo_isIn_87 (by decide) ?_
  exact w_j_Mo_isIn_88 ok hret ht h hk
set_option maxRecDepth 100000 in
set_option maxHeartbeats 4000000 in
theorem w_Mo_isIn {X : CX} {KX : Int32 → Prop} {k : Nat} {a1 : Int32} {a2 : Int32} {a3 : Int32} {s : MS} (ok : Ok X cX5_isIn RX5 rm_Mo_isIn 6 false) (hret : ∀ r : Int32, KX r → Fin X (some .boolean) 0 0 false (some (vI r)) s)   (ht : rf s.2.2 20 (some k) = some k) {res : Int32} (h : f_Mo_isIn k a1 a2 a3 s = some res) (hk : KX res) : G X s 0 0 0 [(0, vR (some k)), (1, vI a1), (2, vI a2), (3, vI a3)] [] := by
  unfold f_Mo_isIn at h
  refine g_bipush (v := (8 : Int32)) ok d_Mo_isIn_0 (by decide) ?_
  refine g_iload_n (i := 1) 1 ok d_Mo_isIn_2 rfl rfl ?_
  refine g_imul ok d_Mo_isIn_3 ?_
  obtain ⟨x1, e2⟩ : ∃ z, ((8 : Int32) * a1) = z := ⟨_, rfl⟩
  replace h := lt_go h e2
  rw [e2]
  refine g_istore (i := 4) [(4, vI x1), (0, vR (some k)), (1, vI a1), (2, vI a2), (3, vI a3)] ok d_Mo_isIn_4 (by decide) rfl ?_
  refine g_iload_n (i := 2) 3 ok d_Mo_isIn_6 rfl rfl ?_
  refine g_bipush (v := (10 : Int32)) ok d_Mo_isIn_7 (by decide) ?_
  refine g_irem ok d_Mo_isIn_9 (by decide) ?_
  refine g_aload_n (i := 0) 1 ok d_Mo_isIn_10 rfl rfl ?_
  refine g_getr (s0 := 20) (j := 25) (ci := 5) (C := RX5) (T := TX5) (N := 29) ok ht lay_20 rfl inX5 (by decide) rfl tw_763 rfl d_Mo_isIn_11 ?_
  refine g_iload (i := 4) 0 ok d_Mo_isIn_14 rfl ?_
  obtain ⟨k3, hk4, h⟩ := bnd_go h
  refine g_iald ok hk4 d_Mo_isIn_16 ?_
  refine g_aload_n (i := 0) 1 ok d_Mo_isIn_17 rfl rfl ?_
  refine g_getr (s0 := 20) (j := 25) (ci := 5) (C := RX5) (T := TX5) (N := 29) ok ht lay_20 rfl inX5 (by decide) rfl tw_763 rfl d_Mo_isIn_18 ?_
  refine g_iload (i := 4) 0 ok d_Mo_isIn_21 rfl ?_
  refine g_iconst (v := (1 : Int32)) ok d_Mo_isIn_23 (by decide) ?_
  refine g_iadd ok d_Mo_isIn_24 ?_
  obtain ⟨k5, hk6, h⟩ := bnd_go h
  refine g_iald ok hk6 d_Mo_isIn_25 ?_
  refine g_invS (rm2 := rm_Mo_within) (As := [vI (a2 - a2 / (10 : Int32) * (10 : Int32)), vI (s.1 k3 x1.toNatClampNeg), vI (s.1 k5 (x1 + (1 : Int32)).toNatClampNeg)]) (rest := []) ok (c_Mo_within X.1.2.1) cm_Mo_within cs_Mo_within tw_838 ⟨rfl, rfl⟩ ⟨le_t rfl, le_t rfl⟩ ⟨rfl, le_t rfl⟩ ⟨le_t rfl, le_t rfl⟩ d_Mo_isIn_26 rfl (fun m7 => ?_)
  show G X s 0 0 29 [(4, vI x1), (0, vR (some k)), (1, vI a1), (2, vI a2), (3, vI a3)] [vI (f_Mo_within (a2 - a2 / (10 : Int32) * (10 : Int32)) (s.1 k3 x1.toNatClampNeg) (s.1 k5 (x1 + (1 : Int32)).toNatClampNeg))]
  refine g_if_eq (tgt := 87) ok d_Mo_isIn_29 (by decide) (fun c8 => ?_) (fun c8 => ?_)
  · replace h := (if_pos c8).symm.trans h
    refine g_sub [1, 4, 0] rfl ?_
    exact w_j_Mo_isIn_87 ok hret ht h hk
  · replace h := (if_neg c8).symm.trans h
    refine g_iload_n (i := 2) 3 ok d_Mo_isIn_32 rfl rfl ?_
    refine g_bipush (v := (10 : Int32)) ok d_Mo_isIn_33 (by decide) ?_
    refine g_idiv ok d_Mo_isIn_35 (by decide) ?_
    refine g_bipush (v := (10 : Int32)) ok d_Mo_isIn_36 (by decide) ?_
    refine g_irem ok d_Mo_isIn_38 (by decide) ?_
    refine g_aload_n (i := 0) 1 ok d_Mo_isIn_39 rfl rfl ?_
    refine g_getr (s0 := 20) (j := 25) (ci := 5) (C := RX5) (T := TX5) (N := 29) ok ht lay_20 rfl inX5 (by decide) rfl tw_763 rfl d_Mo_isIn_40 ?_
    refine g_iload (i := 4) 0 ok d_Mo_isIn_43 rfl ?_
    refine g_iconst (v := (2 : Int32)) ok d_Mo_isIn_45 (by decide) ?_
    refine g_iadd ok d_Mo_isIn_46 ?_
    obtain ⟨k19, hk20, h⟩ := bnd_go h
    refine g_iald ok hk20 d_Mo_isIn_47 ?_
    refine g_aload_n (i := 0) 1 ok d_Mo_isIn_48 rfl rfl ?_
    refine g_getr (s0 := 20) (j := 25) (ci := 5) (C := RX5) (T := TX5) (N := 29) ok ht lay_20 rfl inX5 (by decide) rfl tw_763 rfl d_Mo_isIn_49 ?_
    refine g_iload (i := 4) 0 ok d_Mo_isIn_52 rfl ?_
    refine g_iconst (v := (3 : Int32)) ok d_Mo_isIn_54 (by decide) ?_
    refine g_iadd ok d_Mo_isIn_55 ?_
    obtain ⟨k21, hk22, h⟩ := bnd_go h
    refine g_iald ok hk22 d_Mo_isIn_56 ?_
    refine g_invS (rm2 := rm_Mo_within) (As := [vI ((a2 / (10 : Int32)) - (a2 / (10 : Int32)) / (10 : Int32) * (10 : Int32)), vI (s.1 k19 (x1 + (2 : Int32)).toNatClampNeg), vI (s.1 k21 (x1 + (3 : Int32)).toNatClampNeg)]) (rest := []) ok (c_Mo_within X.1.2.1) cm_Mo_within cs_Mo_within tw_838 ⟨rfl, rfl⟩ ⟨le_t rfl, le_t rfl⟩ ⟨rfl, le_t rfl⟩ ⟨le_t rfl, le_t rfl⟩ d_Mo_isIn_57 rfl (fun m23 => ?_)
    show G X s 0 0 60 [(4, vI x1), (0, vR (some k)), (1, vI a1), (2, vI a2), (3, vI a3)] [vI (f_Mo_within ((a2 / (10 : Int32)) - (a2 / (10 : Int32)) / (10 : Int32) * (10 : Int32)) (s.1 k19 (x1 + (2 : Int32)).toNatClampNeg) (s.1 k21 (x1 + (3 : Int32)).toNatClampNeg))]
    refine g_if_eq (tgt := 87) ok d_Mo_isIn_60 (by decide) (fun c24 => ?_) (fun c24 => ?_)
    · replace h := (if_pos c24).symm.trans h
      refine g_sub [1, 4, 0] rfl ?_
      exact w_j_Mo_isIn_87 ok hret ht h hk
    · replace h := (if_neg c24).symm.trans h
      refine g_iload_n (i := 2) 3 ok d_Mo_isIn_63 rfl rfl ?_
      refine g_bipush (v := (100 : Int32)) ok d_Mo_isIn_64 (by decide) ?_
      refine g_idiv ok d_Mo_isIn_66 (by decide) ?_
      refine g_iconst (v := (1 : Int32)) ok d_Mo_isIn_67 (by decide) ?_
      refine g_aload_n (i := 0) 1 ok d_Mo_isIn_68 rfl rfl ?_
      refine g_getr (s0 := 20) (j := 25) (ci := 5) (C := RX5) (T := TX5) (N := 29) ok ht lay_20 rfl inX5 (by decide) rfl tw_763 rfl d_Mo_isIn_69 ?_
      refine g_iload (i := 4) 0 ok d_Mo_isIn_72 rfl ?_
      refine g_iconst (v := (4 : Int32)) ok d_Mo_isIn_74 (by decide) ?_
      refine g_iadd ok d_Mo_isIn_75 ?_
      obtain ⟨k25, hk26, h⟩ := bnd_go h
      refine g_iald ok hk26 d_Mo_isIn_76 ?_
      refine g_invS (rm2 := rm_Mo_within) (As := [vI (a2 / (100 : Int32)), vI (1 : Int32), vI (s.1 k25 (x1 + (4 : Int32)).toNatClampNeg)]) (rest := []) ok (c_Mo_within X.1.2.1) cm_Mo_within cs_Mo_within tw_838 ⟨rfl, rfl⟩ ⟨le_t rfl, le_t rfl⟩ ⟨rfl, le_t rfl⟩ ⟨le_t rfl, le_t rfl⟩ d_Mo_isIn_77 rfl (fun m27 => ?_)
      show G X s 0 0 80 [(4, vI x1), (0, vR (some k)), (1, vI a1), (2, vI a2), (3, vI a3)] [vI (f_Mo_within (a2 / (100 : Int32)) (1 : Int32) (s.1 k25 (x1 + (4 : Int32)).toNatClampNeg))]
      refine g_if_eq (tgt := 87) ok d_Mo_isIn_80 (by decide) (fun c28 => ?_) (fun c28 => ?_)
      · replace h := (if_pos c28).symm.trans h
        refine g_sub [1, 4, 0] rfl ?_
        exact w_j_Mo_isIn_87 ok hret ht h hk
      · replace h := (if_neg c28).symm.trans h
        refine g_iconst (v := (1 : Int32)) ok d_Mo_isIn_83 (by decide) ?_
        refine g_goto (tgt := 88) ok d_Mo_isIn_84 (by decide) ?_
        refine g_sub [1, 4, 0] rfl ?_
        exact w_j_Mo_isIn_88 ok hret ht h hk
theorem c_Mo_isIn (l : Launch) {k : Nat} {a1 : Int32} {a2 : Int32} {a3 : Int32} {s : MS} (ht : rf s.2.2 20 (some k) = some k) {r : Int32} (h : f_Mo_isIn k a1 a2 a3 s = some r) : Ct l yX5_isIn (.code yX5_isIn cX5_isIn 6 (some .boolean)) rm_Mo_isIn 0 0 false [vR (some k), vI a1, vI a2, vI a3] s (some (vI r)) s :=
  Ct.of rfl (by decide +kernel) ⟨rfl, le_t rfl⟩ (fun X ok fn _ hI hl => w_Mo_isIn (KX := fun y => y = r) ok (fun y hy => by subst hy; exact fn) ht h rfl)
abbrev rm_Mo_roomOf : Room := { frames := 2, cells := 0, slots := 0, locals := 47 }
theorem cm_Mo_roomOf : cfM yX5_roomOf cX5_roomOf 7 (some .int) 2 := ⟨tw_938, tw_4, by decide, by decide, by decide +kernel⟩
theorem cv_Mo_roomOf : cfV yX5_roomOf := ⟨tw_937, ts_X5_roomOf⟩
theorem d_Mo_roomOf_0 : decode cX5_roomOf 0 = .ok (.iconst (-1), 1) := by decide +kernel
theorem d_Mo_roomOf_1 : decode cX5_roomOf 1 = .ok (.istore_n 3, 1) := by decide +kernel
theorem d_Mo_roomOf_2 : decode cX5_roomOf 2 = .ok (.aload_n 0, 1) := by decide +kernel
theorem d_Mo_roomOf_3 : decode cX5_roomOf 3 = .ok (.getfield 106, 3) := by decide +kernel
theorem d_Mo_roomOf_6 : decode cX5_roomOf 6 = .ok (.iconst 1, 1) := by decide +kernel
theorem d_Mo_roomOf_7 : decode cX5_roomOf 7 = .ok (.isub, 1) := by decide +kernel
theorem d_Mo_roomOf_8 : decode cX5_roomOf 8 = .ok (.istore 4, 2) := by decide +kernel
theorem d_Mo_roomOf_10 : decode cX5_roomOf 10 = .ok (.iload 4, 2) := by decide +kernel
theorem d_Mo_roomOf_12 : decode cX5_roomOf 12 = .ok (.ifCond .lt 86, 3) := by decide +kernel
theorem d_Mo_roomOf_15 : decode cX5_roomOf 15 = .ok (.iconst 0, 1) := by decide +kernel
theorem d_Mo_roomOf_16 : decode cX5_roomOf 16 = .ok (.istore 5, 2) := by decide +kernel
theorem d_Mo_roomOf_18 : decode cX5_roomOf 18 = .ok (.iload_n 2, 1) := by decide +kernel
theorem d_Mo_roomOf_19 : decode cX5_roomOf 19 = .ok (.istore 6, 2) := by decide +kernel
theorem d_Mo_roomOf_21 : decode cX5_roomOf 21 = .ok (.iload 6, 2) := by decide +kernel
theorem d_Mo_roomOf_23 : decode cX5_roomOf 23 = .ok (.aload_n 0, 1) := by decide +kernel
theorem d_Mo_roomOf_24 : decode cX5_roomOf 24 = .ok (.getfield 53, 3) := by decide +kernel
theorem d_Mo_roomOf_27 : decode cX5_roomOf 27 = .ok (.iload_n 1, 1) := by decide +kernel
theorem d_Mo_roomOf_28 : decode cX5_roomOf 28 = .ok (.iaload, 1) := by decide +kernel
theorem d_Mo_roomOf_29 : decode cX5_roomOf 29 = .ok (.if_icmp .gt 51, 3) := by decide +kernel
theorem d_Mo_roomOf_32 : decode cX5_roomOf 32 = .ok (.iload 5, 2) := by decide +kernel
theorem d_Mo_roomOf_34 : decode cX5_roomOf 34 = .ok (.ifCond .ne 33, 3) := by decide +kernel
theorem d_Mo_roomOf_37 : decode cX5_roomOf 37 = .ok (.aload_n 0, 1) := by decide +kernel
theorem d_Mo_roomOf_38 : decode cX5_roomOf 38 = .ok (.iload 4, 2) := by decide +kernel
theorem d_Mo_roomOf_40 : decode cX5_roomOf 40 = .ok (.aload_n 0, 1) := by decide +kernel
theorem d_Mo_roomOf_41 : decode cX5_roomOf 41 = .ok (.getfield 62, 3) := by decide +kernel
theorem d_Mo_roomOf_44 : decode cX5_roomOf 44 = .ok (.bipush 81, 2) := by decide +kernel
theorem d_Mo_roomOf_46 : decode cX5_roomOf 46 = .ok (.iload_n 1, 1) := by decide +kernel
theorem d_Mo_roomOf_47 : decode cX5_roomOf 47 = .ok (.imul, 1) := by decide +kernel
theorem d_Mo_roomOf_48 : decode cX5_roomOf 48 = .ok (.iload 6, 2) := by decide +kernel
theorem d_Mo_roomOf_50 : decode cX5_roomOf 50 = .ok (.iadd, 1) := by decide +kernel
theorem d_Mo_roomOf_51 : decode cX5_roomOf 51 = .ok (.iaload, 1) := by decide +kernel
theorem d_Mo_roomOf_52 : decode cX5_roomOf 52 = .ok (.aload_n 0, 1) := by decide +kernel
theorem d_Mo_roomOf_53 : decode cX5_roomOf 53 = .ok (.getfield 50, 3) := by decide +kernel
theorem d_Mo_roomOf_56 : decode cX5_roomOf 56 = .ok (.iload_n 1, 1) := by decide +kernel
theorem d_Mo_roomOf_57 : decode cX5_roomOf 57 = .ok (.iaload, 1) := by decide +kernel
theorem d_Mo_roomOf_58 : decode cX5_roomOf 58 = .ok (.iload 6, 2) := by decide +kernel
theorem d_Mo_roomOf_60 : decode cX5_roomOf 60 = .ok (.iadd, 1) := by decide +kernel
theorem d_Mo_roomOf_61 : decode cX5_roomOf 61 = .ok (.invokevirtual 109, 3) := by decide +kernel
theorem d_Mo_roomOf_64 : decode cX5_roomOf 64 = .ok (.ifCond .eq 7, 3) := by decide +kernel
theorem d_Mo_roomOf_67 : decode cX5_roomOf 67 = .ok (.iconst 1, 1) := by decide +kernel
theorem d_Mo_roomOf_68 : decode cX5_roomOf 68 = .ok (.goto 4, 3) := by decide +kernel
theorem d_Mo_roomOf_71 : decode cX5_roomOf 71 = .ok (.iconst 0, 1) := by decide +kernel
theorem d_Mo_roomOf_72 : decode cX5_roomOf 72 = .ok (.istore 5, 2) := by decide +kernel
theorem d_Mo_roomOf_74 : decode cX5_roomOf 74 = .ok (.iinc 6 1, 3) := by decide +kernel
theorem d_Mo_roomOf_77 : decode cX5_roomOf 77 = .ok (.goto (-56), 3) := by decide +kernel
theorem d_Mo_roomOf_80 : decode cX5_roomOf 80 = .ok (.iload 5, 2) := by decide +kernel
theorem d_Mo_roomOf_82 : decode cX5_roomOf 82 = .ok (.ifCond .eq 8, 3) := by decide +kernel
theorem d_Mo_roomOf_85 : decode cX5_roomOf 85 = .ok (.iload 4, 2) := by decide +kernel
theorem d_Mo_roomOf_87 : decode cX5_roomOf 87 = .ok (.goto 4, 3) := by decide +kernel
theorem d_Mo_roomOf_90 : decode cX5_roomOf 90 = .ok (.iload_n 3, 1) := by decide +kernel
theorem d_Mo_roomOf_91 : decode cX5_roomOf 91 = .ok (.istore_n 3, 1) := by decide +kernel
theorem d_Mo_roomOf_92 : decode cX5_roomOf 92 = .ok (.iinc 4 (-1), 3) := by decide +kernel
theorem d_Mo_roomOf_95 : decode cX5_roomOf 95 = .ok (.goto (-85), 3) := by decide +kernel
theorem d_Mo_roomOf_98 : decode cX5_roomOf 98 = .ok (.iload_n 3, 1) := by decide +kernel
theorem d_Mo_roomOf_99 : decode cX5_roomOf 99 = .ok (.ireturn, 1) := by decide +kernel
set_option maxRecDepth 100000 in
set_option maxHeartbeats 4000000 in
theorem w_b_Mo_roomOf_21 {X : CX} {KX : Int32 → Prop} {k : Nat} {a1 : Int32} {a2 : Int32} {a3 : Int32} {a4 : Int32} {a5 : Int32} {a6 : Int32} {s : MS} {rec : Int32 → Int32 → Option (Int32)} (ok : Ok X cX5_roomOf RX5 rm_Mo_roomOf 7 false) (hexit : ∀ (e5 : Int32), KX e5 → G X s 0 0 80 [(0, vR (some k)), (1, vI a1), (2, vI a2), (3, vI a3), (4, vI a4), (5, vI e5)] []) (hrec : ∀ (v5 : Int32) (v6 : Int32), ∀ y, rec v5 v6 = some y → KX y → G X s 0 0 21 [(0, vR (some k)), (1, vI a1), (2, vI a2), (3, vI a3), (4, vI a4), (5, vI v5), (6, vI v6)] []) (ht : rf s.2.2 20 (some k) = some k) {res : Int32} (h : b_Mo_roomOf_21 k a1 a2 a3 a4 a5 a6 s rec = some res) (hk : KX res) : G X s 0 0 21 [(0, vR (some k)), (1, vI a1), (2, vI a2), (3, vI a3), (4, vI a4), (5, vI a5), (6, vI a6)] [] := by
  unfold b_Mo_roomOf_21 at h
  refine g_iload (i := 6) 6 ok d_Mo_roomOf_21 rfl ?_
  refine g_aload_n (i := 0) 0 ok d_Mo_roomOf_23 rfl rfl ?_
  refine g_getr (s0 := 20) (j := 20) (ci := 5) (C := RX5) (T := TX5) (N := 29) ok ht lay_20 rfl inX5 (by decide) rfl tw_758 rfl d_Mo_roomOf_24 ?_
  refine g_iload_n (i := 1) 1 ok d_Mo_roomOf_27 rfl rfl ?_
  obtain ⟨k4, hk5, h⟩ := bnd_go h
  refine g_iald ok hk5 d_Mo_roomOf_28 ?_
  refine g_icmp_gt (tgt := 80) ok d_Mo_roomOf_29 (by decide) (fun c6 => ?_) (fun c6 => ?_)
  · replace h := (if_pos c6).symm.trans h
    refine g_sub [0, 1, 2, 3, 4, 5] rfl ?_
    cases h
    exact hexit a5 hk
  · replace h := (if_neg c6).symm.trans h
    refine g_iload (i := 5) 5 ok d_Mo_roomOf_32 rfl ?_
    refine g_if_ne (tgt := 67) ok d_Mo_roomOf_34 (by decide) (fun c7 => ?_) (fun c7 => ?_)
    · replace h := (if_pos c7).symm.trans h
      refine g_aload_n (i := 0) 0 ok d_Mo_roomOf_37 rfl rfl ?_
      refine g_iload (i := 4) 4 ok d_Mo_roomOf_38 rfl ?_
      refine g_aload_n (i := 0) 0 ok d_Mo_roomOf_40 rfl rfl ?_
      refine g_getr (s0 := 20) (j := 23) (ci := 5) (C := RX5) (T := TX5) (N := 29) ok ht lay_20 rfl inX5 (by decide) rfl tw_761 rfl d_Mo_roomOf_41 ?_
      refine g_bipush (v := (81 : Int32)) ok d_Mo_roomOf_44 (by decide) ?_
      refine g_iload_n (i := 1) 1 ok d_Mo_roomOf_46 rfl rfl ?_
      refine g_imul ok d_Mo_roomOf_47 ?_
      refine g_iload (i := 6) 6 ok d_Mo_roomOf_48 rfl ?_
      refine g_iadd ok d_Mo_roomOf_50 ?_
      obtain ⟨k8, hk9, h⟩ := bnd_go h
      refine g_iald ok hk9 d_Mo_roomOf_51 ?_
      refine g_aload_n (i := 0) 0 ok d_Mo_roomOf_52 rfl rfl ?_
      refine g_getr (s0 := 20) (j := 19) (ci := 5) (C := RX5) (T := TX5) (N := 29) ok ht lay_20 rfl inX5 (by decide) rfl tw_757 rfl d_Mo_roomOf_53 ?_
      refine g_iload_n (i := 1) 1 ok d_Mo_roomOf_56 rfl rfl ?_
      obtain ⟨k10, hk11, h⟩ := bnd_go h
      refine g_iald ok hk11 d_Mo_roomOf_57 ?_
      refine g_iload (i := 6) 6 ok d_Mo_roomOf_58 rfl ?_
      refine g_iadd ok d_Mo_roomOf_60 ?_
      obtain ⟨x13, hc14, h⟩ := bnd_go h
      refine g_invV (rm2 := rm_Mo_isIn) (As := [vI a4, vI (s.1 k8 (((81 : Int32) * a1) + a6).toNatClampNeg), vI ((s.1 k10 a1.toNatClampNeg) + a6)]) (rest := []) ok ht lay_20 rfl (c_Mo_isIn X.1.2.1 (rf_self ht) hc14) cm_Mo_isIn cv_Mo_isIn tw_862 ⟨rfl, rfl⟩ ⟨le_t rfl, le_t rfl⟩ ⟨rfl, le_t rfl⟩ ⟨le_t rfl, le_t rfl⟩ d_Mo_roomOf_61 rfl (fun m12 => ?_)
      show G X s 0 0 64 [(0, vR (some k)), (1, vI a1), (2, vI a2), (3, vI a3), (4, vI a4), (5, vI a5), (6, vI a6)] [vI x13]
      refine g_if_eq (tgt := 71) ok d_Mo_roomOf_64 (by decide) (fun c15 => ?_) (fun c15 => ?_)
      · replace h := (if_pos c15).symm.trans h
        refine g_iconst (v := (0 : Int32)) ok d_Mo_roomOf_71 (by decide) ?_
        refine g_istore (i := 5) [(5, vI (0 : Int32)), (0, vR (some k)), (1, vI a1), (2, vI a2), (3, vI a3), (4, vI a4), (6, vI a6)] ok d_Mo_roomOf_72 (by decide) rfl ?_
        obtain ⟨x16, e17⟩ : ∃ z, a6 + (1 : Int32) = z := ⟨_, rfl⟩
        replace h := lt_go h e17
        refine g_iinc (i := 6) (v := x16) 6 [(6, vI x16), (5, vI (0 : Int32)), (0, vR (some k)), (1, vI a1), (2, vI a2), (3, vI a3), (4, vI a4)] ok d_Mo_roomOf_74 rfl (by rw [← e17]; rfl) (by decide) rfl ?_
        refine g_goto (tgt := 21) ok d_Mo_roomOf_77 (by decide) ?_
        refine g_sub [2, 3, 4, 5, 6, 1, 0] rfl ?_
        exact hrec (0 : Int32) x16 _ h hk
      · replace h := (if_neg c15).symm.trans h
        refine g_iconst (v := (1 : Int32)) ok d_Mo_roomOf_67 (by decide) ?_
        refine g_goto (tgt := 72) ok d_Mo_roomOf_68 (by decide) ?_
        refine g_istore (i := 5) [(5, vI (1 : Int32)), (0, vR (some k)), (1, vI a1), (2, vI a2), (3, vI a3), (4, vI a4), (6, vI a6)] ok d_Mo_roomOf_72 (by decide) rfl ?_
        obtain ⟨x18, e19⟩ : ∃ z, a6 + (1 : Int32) = z := ⟨_, rfl⟩
        replace h := lt_go h e19
        refine g_iinc (i := 6) (v := x18) 6 [(6, vI x18), (5, vI (1 : Int32)), (0, vR (some k)), (1, vI a1), (2, vI a2), (3, vI a3), (4, vI a4)] ok d_Mo_roomOf_74 rfl (by rw [← e19]; rfl) (by decide) rfl ?_
        refine g_goto (tgt := 21) ok d_Mo_roomOf_77 (by decide) ?_
        refine g_sub [2, 3, 4, 5, 6, 1, 0] rfl ?_
        exact hrec (1 : Int32) x18 _ h hk
    · replace h := (if_neg c7).symm.trans h
      refine g_iconst (v := (1 : Int32)) ok d_Mo_roomOf_67 (by decide) ?_
      refine g_goto (tgt := 72) ok d_Mo_roomOf_68 (by decide) ?_
      refine g_istore (i := 5) [(5, vI (1 : Int32)), (0, vR (some k)), (1, vI a1), (2, vI a2), (3, vI a3), (4, vI a4), (6, vI a6)] ok d_Mo_roomOf_72 (by decide) rfl ?_
      obtain ⟨x20, e21⟩ : ∃ z, a6 + (1 : Int32) = z := ⟨_, rfl⟩
      replace h := lt_go h e21
      refine g_iinc (i := 6) (v := x20) 6 [(6, vI x20), (5, vI (1 : Int32)), (0, vR (some k)), (1, vI a1), (2, vI a2), (3, vI a3), (4, vI a4)] ok d_Mo_roomOf_74 rfl (by rw [← e21]; rfl) (by decide) rfl ?_
      refine g_goto (tgt := 21) ok d_Mo_roomOf_77 (by decide) ?_
      refine g_sub [2, 3, 4, 5, 6, 1, 0] rfl ?_
      exact hrec (1 : Int32) x20 _ h hk
theorem w_l_Mo_roomOf_21 {X : CX} {KX : Int32 → Prop} {k : Nat} {a1 : Int32} {a2 : Int32} {a3 : Int32} {a4 : Int32} {s : MS} (ok : Ok X cX5_roomOf RX5 rm_Mo_roomOf 7 false) (hexit : ∀ (e5 : Int32), KX e5 → G X s 0 0 80 [(0, vR (some k)), (1, vI a1), (2, vI a2), (3, vI a3), (4, vI a4), (5, vI e5)] []) (ht : rf s.2.2 20 (some k) = some k) : ∀ (n : Nat) (a5 : Int32) (a6 : Int32) {res : Int32}, l_Mo_roomOf_21 k a1 a2 a3 a4 s n a5 a6 = some res → KX res → G X s 0 0 21 [(0, vR (some k)), (1, vI a1), (2, vI a2), (3, vI a3), (4, vI a4), (5, vI a5), (6, vI a6)] [] := by
  intro n
  induction n with
  | zero => intro _ _ res h; cases h
  | succ n ih =>
    intro a5 a6 res h hk
    exact w_b_Mo_roomOf_21 ok hexit (fun v5 v6 y h2 hk2 => ih v5 v6 h2 hk2) ht h hk
set_option maxRecDepth 100000 in
set_option maxHeartbeats 4000000 in
theorem w_b_Mo_roomOf_10 {X : CX} {KX : Int32 → Prop} {k : Nat} {a1 : Int32} {a2 : Int32} {a3 : Int32} {a4 : Int32} {s : MS} {rec : Int32 → Int32 → Option (Int32)} (ok : Ok X cX5_roomOf RX5 rm_Mo_roomOf 7 false) (hexit : ∀ (e3 : Int32), KX e3 → G X s 0 0 98 [(0, vR (some k)), (3, vI e3)] []) (hrec : ∀ (v3 : Int32) (v4 : Int32), ∀ y, rec v3 v4 = some y → KX y → G X s 0 0 10 [(0, vR (some k)), (1, vI a1), (2, vI a2), (3, vI v3), (4, vI v4)] []) (ht : rf s.2.2 20 (some k) = some k) {res : Int32} (h : b_Mo_roomOf_10 k a1 a2 a3 a4 s rec = some res) (hk : KX res) : G X s 0 0 10 [(0, vR (some k)), (1, vI a1), (2, vI a2), (3, vI a3), (4, vI a4)] [] := by
  unfold b_Mo_roomOf_10 at h
  refine g_iload (i := 4) 4 ok d_Mo_roomOf_10 rfl ?_
  refine g_if_lt (tgt := 98) ok d_Mo_roomOf_12 (by decide) (fun c3 => ?_) (fun c3 => ?_)
  · replace h := (if_pos c3).symm.trans h
    refine g_sub [0, 3] rfl ?_
    cases h
    exact hexit a3 hk
  · replace h := (if_neg c3).symm.trans h
    refine g_iconst (v := (0 : Int32)) ok d_Mo_roomOf_15 (by decide) ?_
    refine g_istore (i := 5) [(5, vI (0 : Int32)), (0, vR (some k)), (1, vI a1), (2, vI a2), (3, vI a3), (4, vI a4)] ok d_Mo_roomOf_16 (by decide) rfl ?_
    refine g_iload_n (i := 2) 3 ok d_Mo_roomOf_18 rfl rfl ?_
    refine g_istore (i := 6) [(6, vI a2), (5, vI (0 : Int32)), (0, vR (some k)), (1, vI a1), (2, vI a2), (3, vI a3), (4, vI a4)] ok d_Mo_roomOf_19 (by decide) rfl ?_
    refine g_sub [2, 3, 4, 5, 6, 1, 0] rfl ?_
    obtain ⟨e22, hx, h⟩ := bnd_go h
    refine w_l_Mo_roomOf_21 (KX := fun y => y = e22) ok (fun y0 he => ?_) ht _ _ _ hx rfl
    cases he
    refine g_iload (i := 5) 5 ok d_Mo_roomOf_80 rfl ?_
    refine g_if_eq (tgt := 90) ok d_Mo_roomOf_82 (by decide) (fun c23 => ?_) (fun c23 => ?_)
    · replace h := (if_pos c23).symm.trans h
      refine g_iload_n (i := 3) 3 ok d_Mo_roomOf_90 rfl rfl ?_
      refine g_istore_n (i := 3) [(3, vI a3), (0, vR (some k)), (1, vI a1), (2, vI a2), (4, vI a4), (5, vI e22)] ok d_Mo_roomOf_91 rfl (by decide) rfl ?_
      obtain ⟨x24, e25⟩ : ∃ z, a4 + (-1 : Int32) = z := ⟨_, rfl⟩
      replace h := lt_go h e25
      refine g_iinc (i := 4) (v := x24) 4 [(4, vI x24), (3, vI a3), (0, vR (some k)), (1, vI a1), (2, vI a2), (5, vI e22)] ok d_Mo_roomOf_92 rfl (by rw [← e25]; rfl) (by decide) rfl ?_
      refine g_goto (tgt := 10) ok d_Mo_roomOf_95 (by decide) ?_
      refine g_sub [2, 3, 4, 1, 0] rfl ?_
      exact hrec a3 x24 _ h hk
    · replace h := (if_neg c23).symm.trans h
      refine g_iload (i := 4) 4 ok d_Mo_roomOf_85 rfl ?_
      refine g_goto (tgt := 91) ok d_Mo_roomOf_87 (by decide) ?_
      refine g_istore_n (i := 3) [(3, vI a4), (0, vR (some k)), (1, vI a1), (2, vI a2), (4, vI a4), (5, vI e22)] ok d_Mo_roomOf_91 rfl (by decide) rfl ?_
      obtain ⟨x26, e27⟩ : ∃ z, a4 + (-1 : Int32) = z := ⟨_, rfl⟩
      replace h := lt_go h e27
      refine g_iinc (i := 4) (v := x26) 4 [(4, vI x26), (3, vI a4), (0, vR (some k)), (1, vI a1), (2, vI a2), (5, vI e22)] ok d_Mo_roomOf_92 rfl (by rw [← e27]; rfl) (by decide) rfl ?_
      refine g_goto (tgt := 10) ok d_Mo_roomOf_95 (by decide) ?_
      refine g_sub [2, 3, 4, 1, 0] rfl ?_
      exact hrec a4 x26 _ h hk
theorem w_l_Mo_roomOf_10 {X : CX} {KX : Int32 → Prop} {k : Nat} {a1 : Int32} {a2 : Int32} {s : MS} (ok : Ok X cX5_roomOf RX5 rm_Mo_roomOf 7 false) (hexit : ∀ (e3 : Int32), KX e3 → G X s 0 0 98 [(0, vR (some k)), (3, vI e3)] []) (ht : rf s.2.2 20 (some k) = some k) : ∀ (n : Nat) (a3 : Int32) (a4 : Int32) {res : Int32}, l_Mo_roomOf_10 k a1 a2 s n a3 a4 = some res → KX res → G X s 0 0 10 [(0, vR (some k)), (1, vI a1), (2, vI a2), (3, vI a3), (4, vI a4)] [] := by
  intro n
  induction n with
  | zero => intro _ _ res h; cases h
  | succ n ih =>
    intro a3 a4 res h hk
    exact w_b_Mo_roomOf_10 ok hexit (fun v3 v4 y h2 hk2 => ih v3 v4 h2 hk2) ht h hk
set_option maxRecDepth 100000 in
set_option maxHeartbeats 4000000 in
theorem w_Mo_roomOf {X : CX} {KX : Int32 → Prop} {k : Nat} {a1 : Int32} {a2 : Int32} {s : MS} (ok : Ok X cX5_roomOf RX5 rm_Mo_roomOf 7 false) (hret : ∀ r : Int32, KX r → Fin X (some .int) 0 0 false (some (vI r)) s)   (ht : rf s.2.2 20 (some k) = some k) {res : Int32} (h : f_Mo_roomOf k a1 a2 s = some res) (hk : KX res) : G X s 0 0 0 [(0, vR (some k)), (1, vI a1), (2, vI a2)] [] := by
  unfold f_Mo_roomOf at h
  refine g_iconst (v := (-1 : Int32)) ok d_Mo_roomOf_0 (by decide) ?_
  refine g_istore_n (i := 3) [(3, vI (-1 : Int32)), (0, vR (some k)), (1, vI a1), (2, vI a2)] ok d_Mo_roomOf_1 rfl (by decide) rfl ?_
  refine g_aload_n (i := 0) 1 ok d_Mo_roomOf_2 rfl rfl ?_
  refine g_geti (s0 := 20) (j := 24) (ci := 5) (C := RX5) (T := TX5) (N := 29) ok ht lay_20 rfl inX5 (by decide) rfl tw_762 rfl d_Mo_roomOf_3 ?_
  refine g_iconst (v := (1 : Int32)) ok d_Mo_roomOf_6 (by decide) ?_
  refine g_isub ok d_Mo_roomOf_7 ?_
  obtain ⟨x1, e2⟩ : ∃ z, ((s.1 k 24) - (1 : Int32)) = z := ⟨_, rfl⟩
  replace h := lt_go h e2
  rw [e2]
  refine g_istore (i := 4) [(4, vI x1), (3, vI (-1 : Int32)), (0, vR (some k)), (1, vI a1), (2, vI a2)] ok d_Mo_roomOf_8 (by decide) rfl ?_
  refine g_sub [2, 3, 4, 1, 0] rfl ?_
  obtain ⟨e28, hx, h⟩ := bnd_go h
  refine w_l_Mo_roomOf_10 (KX := fun y => y = e28) ok (fun y0 he => ?_) ht _ _ _ hx rfl
  cases he
  refine g_iload_n (i := 3) 1 ok d_Mo_roomOf_98 rfl rfl ?_
  cases h
  exact g_iret ok (hret _ hk) (by decide) (by decide) d_Mo_roomOf_99
theorem c_Mo_roomOf (l : Launch) {k : Nat} {a1 : Int32} {a2 : Int32} {s : MS} (ht : rf s.2.2 20 (some k) = some k) {r : Int32} (h : f_Mo_roomOf k a1 a2 s = some r) : Ct l yX5_roomOf (.code yX5_roomOf cX5_roomOf 7 (some .int)) rm_Mo_roomOf 0 0 false [vR (some k), vI a1, vI a2] s (some (vI r)) s :=
  Ct.of rfl (by decide +kernel) ⟨rfl, le_t rfl⟩ (fun X ok fn _ hI hl => w_Mo_roomOf (KX := fun y => y = r) ok (fun y hy => by subst hy; exact fn) ht h rfl)
abbrev rm_Mo_takeBack : Room := { frames := 0, cells := 0, slots := 0, locals := 0 }
theorem cm_Mo_takeBack : cfM yX5_takeBack cX5_takeBack 3 none 2 := ⟨tw_869, tw_4, by decide, by decide, by decide +kernel⟩
theorem cv_Mo_takeBack : cfV yX5_takeBack := ⟨tw_868, ts_X5_takeBack⟩
theorem d_Mo_takeBack_0 : decode cX5_takeBack 0 = .ok (.aload_n 0, 1) := by decide +kernel
theorem d_Mo_takeBack_1 : decode cX5_takeBack 1 = .ok (.getfield 59, 3) := by decide +kernel
theorem d_Mo_takeBack_4 : decode cX5_takeBack 4 = .ok (.iload_n 1, 1) := by decide +kernel
theorem d_Mo_takeBack_5 : decode cX5_takeBack 5 = .ok (.iload_n 2, 1) := by decide +kernel
theorem d_Mo_takeBack_6 : decode cX5_takeBack 6 = .ok (.iastore, 1) := by decide +kernel
theorem d_Mo_takeBack_7 : decode cX5_takeBack 7 = .ok (.aload_n 0, 1) := by decide +kernel
theorem d_Mo_takeBack_8 : decode cX5_takeBack 8 = .ok (.getfield 38, 3) := by decide +kernel
theorem d_Mo_takeBack_11 : decode cX5_takeBack 11 = .ok (.aload_n 0, 1) := by decide +kernel
theorem d_Mo_takeBack_12 : decode cX5_takeBack 12 = .ok (.getfield 47, 3) := by decide +kernel
theorem d_Mo_takeBack_15 : decode cX5_takeBack 15 = .ok (.iload_n 1, 1) := by decide +kernel
theorem d_Mo_takeBack_16 : decode cX5_takeBack 16 = .ok (.iaload, 1) := by decide +kernel
theorem d_Mo_takeBack_17 : decode cX5_takeBack 17 = .ok (.iconst (-1), 1) := by decide +kernel
theorem d_Mo_takeBack_18 : decode cX5_takeBack 18 = .ok (.iastore, 1) := by decide +kernel
theorem d_Mo_takeBack_19 : decode cX5_takeBack 19 = .ok (.return_, 1) := by decide +kernel
set_option maxRecDepth 100000 in
set_option maxHeartbeats 4000000 in
theorem w_Mo_takeBack {X : CX} {KX : MS → Prop} {k : Nat} {a1 : Int32} {a2 : Int32} {s : MS} (ok : Ok X cX5_takeBack RX5 rm_Mo_takeBack 3 false) (hret : ∀ r : MS, KX r → Fin X none 0 0 false none r)   (ht : rf s.2.2 20 (some k) = some k) {res : MS} (h : f_Mo_takeBack k a1 a2 s = some res) (hk : KX res) : G X s 0 0 0 [(0, vR (some k)), (1, vI a1), (2, vI a2)] [] := by
  unfold f_Mo_takeBack at h
  refine g_aload_n (i := 0) 0 ok d_Mo_takeBack_0 rfl rfl ?_
  refine g_getr (s0 := 20) (j := 22) (ci := 5) (C := RX5) (T := TX5) (N := 29) ok ht lay_20 rfl inX5 (by decide) rfl tw_760 rfl d_Mo_takeBack_1 ?_
  refine g_iload_n (i := 1) 1 ok d_Mo_takeBack_4 rfl rfl ?_
  refine g_iload_n (i := 2) 2 ok d_Mo_takeBack_5 rfl rfl ?_
  obtain ⟨k1, hk2, h⟩ := bnd_go h
  refine g_iast ok hk2 d_Mo_takeBack_6 ?_
  obtain ⟨s3, e4⟩ : ∃ z, wi s k1 a1.toNatClampNeg a2 = z := ⟨_, rfl⟩
  replace h := lt_go h e4
  have m5 := mo_wi e4
  rw [e4]
  refine g_aload_n (i := 0) 0 ok d_Mo_takeBack_7 rfl rfl ?_
  refine g_getr (s0 := 20) (j := 13) (ci := 5) (C := RX5) (T := TX5) (N := 29) ok (rf_mono m5 ht) lay_20 rfl inX5 (by decide) rfl tw_751 rfl d_Mo_takeBack_8 ?_
  refine g_aload_n (i := 0) 0 ok d_Mo_takeBack_11 rfl rfl ?_
  refine g_getr (s0 := 20) (j := 18) (ci := 5) (C := RX5) (T := TX5) (N := 29) ok (rf_mono m5 ht) lay_20 rfl inX5 (by decide) rfl tw_756 rfl d_Mo_takeBack_12 ?_
  refine g_iload_n (i := 1) 1 ok d_Mo_takeBack_15 rfl rfl ?_
  obtain ⟨k6, hk7, h⟩ := bnd_go h
  refine g_iald ok hk7 d_Mo_takeBack_16 ?_
  refine g_iconst (v := (-1 : Int32)) ok d_Mo_takeBack_17 (by decide) ?_
  obtain ⟨k8, hk9, h⟩ := bnd_go h
  refine g_iast ok hk9 d_Mo_takeBack_18 ?_
  obtain ⟨s10, e11⟩ : ∃ z, wi s3 k8 (s3.1 k6 a1.toNatClampNeg).toNatClampNeg (-1 : Int32) = z := ⟨_, rfl⟩
  replace h := lt_go h e11
  have m12 := mo_wi e11
  rw [e11]
  cases h
  exact g_vret ok (hret _ hk) (by decide) (by decide) d_Mo_takeBack_19
theorem c_Mo_takeBack (l : Launch) {k : Nat} {a1 : Int32} {a2 : Int32} {s : MS} (ht : rf s.2.2 20 (some k) = some k) {z : MS} (h : f_Mo_takeBack k a1 a2 s = some z) : Ct l yX5_takeBack (.code yX5_takeBack cX5_takeBack 3 none) rm_Mo_takeBack 0 0 false [vR (some k), vI a1, vI a2] s none z :=
  Ct.of rfl (by decide +kernel) ⟨rfl, le_t rfl⟩ (fun X ok fn _ hI hl => w_Mo_takeBack (KX := fun y => y = z) ok (fun y hy => by subst hy; exact fn) ht h rfl)
abbrev rm_Mo_close : Room := { frames := 2, cells := 0, slots := 0, locals := 47 }
theorem cm_Mo_close : cfM yX5_close cX5_close 11 (some .int) 5 := ⟨tw_860, tw_4, by decide, by decide, by decide +kernel⟩
theorem cv_Mo_close : cfV yX5_close := ⟨tw_858, tw_859⟩
theorem d_Mo_close_0 : decode cX5_close 0 = .ok (.iload_n 3, 1) := by decide +kernel
theorem d_Mo_close_1 : decode cX5_close 1 = .ok (.iconst 1, 1) := by decide +kernel
theorem d_Mo_close_2 : decode cX5_close 2 = .ok (.iconst 3, 1) := by decide +kernel
theorem d_Mo_close_3 : decode cX5_close 3 = .ok (.invokestatic 75, 3) := by decide +kernel
theorem d_Mo_close_6 : decode cX5_close 6 = .ok (.ifCond .eq 30, 3) := by decide +kernel
theorem d_Mo_close_9 : decode cX5_close 9 = .ok (.iload 4, 2) := by decide +kernel
theorem d_Mo_close_11 : decode cX5_close 11 = .ok (.iconst 0, 1) := by decide +kernel
theorem d_Mo_close_12 : decode cX5_close 12 = .ok (.ldc 112, 2) := by decide +kernel
theorem d_Mo_close_14 : decode cX5_close 14 = .ok (.invokestatic 75, 3) := by decide +kernel
theorem d_Mo_close_17 : decode cX5_close 17 = .ok (.ifCond .eq 19, 3) := by decide +kernel
theorem d_Mo_close_20 : decode cX5_close 20 = .ok (.iload 5, 2) := by decide +kernel
theorem d_Mo_close_22 : decode cX5_close 22 = .ok (.iload 4, 2) := by decide +kernel
theorem d_Mo_close_24 : decode cX5_close 24 = .ok (.ldc 112, 2) := by decide +kernel
theorem d_Mo_close_26 : decode cX5_close 26 = .ok (.invokestatic 75, 3) := by decide +kernel
theorem d_Mo_close_29 : decode cX5_close 29 = .ok (.ifCond .eq 7, 3) := by decide +kernel
theorem d_Mo_close_32 : decode cX5_close 32 = .ok (.iconst 1, 1) := by decide +kernel
theorem d_Mo_close_33 : decode cX5_close 33 = .ok (.goto 4, 3) := by decide +kernel
theorem d_Mo_close_36 : decode cX5_close 36 = .ok (.iconst 0, 1) := by decide +kernel
theorem d_Mo_close_37 : decode cX5_close 37 = .ok (.istore 6, 2) := by decide +kernel
theorem d_Mo_close_39 : decode cX5_close 39 = .ok (.aload_n 0, 1) := by decide +kernel
theorem d_Mo_close_40 : decode cX5_close 40 = .ok (.iload_n 1, 1) := by decide +kernel
theorem d_Mo_close_41 : decode cX5_close 41 = .ok (.invokestatic 85, 3) := by decide +kernel
theorem d_Mo_close_44 : decode cX5_close 44 = .ok (.ifCond .eq 10, 3) := by decide +kernel
theorem d_Mo_close_47 : decode cX5_close 47 = .ok (.iload_n 2, 1) := by decide +kernel
theorem d_Mo_close_48 : decode cX5_close 48 = .ok (.invokestatic 85, 3) := by decide +kernel
theorem d_Mo_close_51 : decode cX5_close 51 = .ok (.ifCond .ne 7, 3) := by decide +kernel
theorem d_Mo_close_54 : decode cX5_close 54 = .ok (.iconst 1, 1) := by decide +kernel
theorem d_Mo_close_55 : decode cX5_close 55 = .ok (.goto 26, 3) := by decide +kernel
theorem d_Mo_close_58 : decode cX5_close 58 = .ok (.iload 6, 2) := by decide +kernel
theorem d_Mo_close_60 : decode cX5_close 60 = .ok (.ifCond .ne 7, 3) := by decide +kernel
theorem d_Mo_close_63 : decode cX5_close 63 = .ok (.iconst 2, 1) := by decide +kernel
theorem d_Mo_close_64 : decode cX5_close 64 = .ok (.goto 17, 3) := by decide +kernel
theorem d_Mo_close_67 : decode cX5_close 67 = .ok (.aload_n 0, 1) := by decide +kernel
theorem d_Mo_close_68 : decode cX5_close 68 = .ok (.getfield 106, 3) := by decide +kernel
theorem d_Mo_close_71 : decode cX5_close 71 = .ok (.bipush 10, 2) := by decide +kernel
theorem d_Mo_close_73 : decode cX5_close 73 = .ok (.if_icmp .ne 7, 3) := by decide +kernel
theorem d_Mo_close_76 : decode cX5_close 76 = .ok (.iconst 3, 1) := by decide +kernel
theorem d_Mo_close_77 : decode cX5_close 77 = .ok (.goto 4, 3) := by decide +kernel
theorem d_Mo_close_80 : decode cX5_close 80 = .ok (.iconst 0, 1) := by decide +kernel
theorem d_Mo_close_81 : decode cX5_close 81 = .ok (.invokevirtual 89, 3) := by decide +kernel
theorem d_Mo_close_84 : decode cX5_close 84 = .ok (.ifCond .eq 5, 3) := by decide +kernel
theorem d_Mo_close_87 : decode cX5_close 87 = .ok (.iconst 0, 1) := by decide +kernel
theorem d_Mo_close_88 : decode cX5_close 88 = .ok (.ireturn, 1) := by decide +kernel
theorem d_Mo_close_89 : decode cX5_close 89 = .ok (.bipush 8, 2) := by decide +kernel
theorem d_Mo_close_91 : decode cX5_close 91 = .ok (.aload_n 0, 1) := by decide +kernel
theorem d_Mo_close_92 : decode cX5_close 92 = .ok (.getfield 106, 3) := by decide +kernel
theorem d_Mo_close_95 : decode cX5_close 95 = .ok (.imul, 1) := by decide +kernel
theorem d_Mo_close_96 : decode cX5_close 96 = .ok (.istore 7, 2) := by decide +kernel
theorem d_Mo_close_98 : decode cX5_close 98 = .ok (.aload_n 0, 1) := by decide +kernel
theorem d_Mo_close_99 : decode cX5_close 99 = .ok (.getfield 65, 3) := by decide +kernel
theorem d_Mo_close_102 : decode cX5_close 102 = .ok (.iload 7, 2) := by decide +kernel
theorem d_Mo_close_104 : decode cX5_close 104 = .ok (.iload_n 1, 1) := by decide +kernel
theorem d_Mo_close_105 : decode cX5_close 105 = .ok (.bipush 10, 2) := by decide +kernel
theorem d_Mo_close_107 : decode cX5_close 107 = .ok (.irem, 1) := by decide +kernel
theorem d_Mo_close_108 : decode cX5_close 108 = .ok (.iload_n 2, 1) := by decide +kernel
theorem d_Mo_close_109 : decode cX5_close 109 = .ok (.bipush 10, 2) := by decide +kernel
theorem d_Mo_close_111 : decode cX5_close 111 = .ok (.irem, 1) := by decide +kernel
theorem d_Mo_close_112 : decode cX5_close 112 = .ok (.if_icmp .ge 10, 3) := by decide +kernel
theorem d_Mo_close_115 : decode cX5_close 115 = .ok (.iload_n 1, 1) := by decide +kernel
theorem d_Mo_close_116 : decode cX5_close 116 = .ok (.bipush 10, 2) := by decide +kernel
theorem d_Mo_close_118 : decode cX5_close 118 = .ok (.irem, 1) := by decide +kernel
theorem d_Mo_close_119 : decode cX5_close 119 = .ok (.goto 7, 3) := by decide +kernel
theorem d_Mo_close_122 : decode cX5_close 122 = .ok (.iload_n 2, 1) := by decide +kernel
theorem d_Mo_close_123 : decode cX5_close 123 = .ok (.bipush 10, 2) := by decide +kernel
theorem d_Mo_close_125 : decode cX5_close 125 = .ok (.irem, 1) := by decide +kernel
theorem d_Mo_close_126 : decode cX5_close 126 = .ok (.iastore, 1) := by decide +kernel
theorem d_Mo_close_127 : decode cX5_close 127 = .ok (.aload_n 0, 1) := by decide +kernel
theorem d_Mo_close_128 : decode cX5_close 128 = .ok (.getfield 65, 3) := by decide +kernel
theorem d_Mo_close_131 : decode cX5_close 131 = .ok (.iload 7, 2) := by decide +kernel
theorem d_Mo_close_133 : decode cX5_close 133 = .ok (.iconst 1, 1) := by decide +kernel
theorem d_Mo_close_134 : decode cX5_close 134 = .ok (.iadd, 1) := by decide +kernel
theorem d_Mo_close_135 : decode cX5_close 135 = .ok (.iload_n 1, 1) := by decide +kernel
theorem d_Mo_close_136 : decode cX5_close 136 = .ok (.bipush 10, 2) := by decide +kernel
theorem d_Mo_close_138 : decode cX5_close 138 = .ok (.irem, 1) := by decide +kernel
theorem d_Mo_close_139 : decode cX5_close 139 = .ok (.iload_n 2, 1) := by decide +kernel
theorem d_Mo_close_140 : decode cX5_close 140 = .ok (.bipush 10, 2) := by decide +kernel
theorem d_Mo_close_142 : decode cX5_close 142 = .ok (.irem, 1) := by decide +kernel
theorem d_Mo_close_143 : decode cX5_close 143 = .ok (.iadd, 1) := by decide +kernel
theorem d_Mo_close_144 : decode cX5_close 144 = .ok (.aload_n 0, 1) := by decide +kernel
theorem d_Mo_close_145 : decode cX5_close 145 = .ok (.getfield 65, 3) := by decide +kernel
theorem d_Mo_close_148 : decode cX5_close 148 = .ok (.iload 7, 2) := by decide +kernel
theorem d_Mo_close_150 : decode cX5_close 150 = .ok (.iaload, 1) := by decide +kernel
theorem d_Mo_close_151 : decode cX5_close 151 = .ok (.isub, 1) := by decide +kernel
theorem d_Mo_close_152 : decode cX5_close 152 = .ok (.iastore, 1) := by decide +kernel
theorem d_Mo_close_153 : decode cX5_close 153 = .ok (.aload_n 0, 1) := by decide +kernel
theorem d_Mo_close_154 : decode cX5_close 154 = .ok (.getfield 65, 3) := by decide +kernel
theorem d_Mo_close_157 : decode cX5_close 157 = .ok (.iload 7, 2) := by decide +kernel
theorem d_Mo_close_159 : decode cX5_close 159 = .ok (.iconst 2, 1) := by decide +kernel
theorem d_Mo_close_160 : decode cX5_close 160 = .ok (.iadd, 1) := by decide +kernel
theorem d_Mo_close_161 : decode cX5_close 161 = .ok (.iload_n 1, 1) := by decide +kernel
theorem d_Mo_close_162 : decode cX5_close 162 = .ok (.bipush 10, 2) := by decide +kernel
theorem d_Mo_close_164 : decode cX5_close 164 = .ok (.idiv, 1) := by decide +kernel
theorem d_Mo_close_165 : decode cX5_close 165 = .ok (.iload_n 2, 1) := by decide +kernel
theorem d_Mo_close_166 : decode cX5_close 166 = .ok (.bipush 10, 2) := by decide +kernel
theorem d_Mo_close_168 : decode cX5_close 168 = .ok (.idiv, 1) := by decide +kernel
theorem d_Mo_close_169 : decode cX5_close 169 = .ok (.if_icmp .ge 10, 3) := by decide +kernel
theorem d_Mo_close_172 : decode cX5_close 172 = .ok (.iload_n 1, 1) := by decide +kernel
theorem d_Mo_close_173 : decode cX5_close 173 = .ok (.bipush 10, 2) := by decide +kernel
theorem d_Mo_close_175 : decode cX5_close 175 = .ok (.idiv, 1) := by decide +kernel
theorem d_Mo_close_176 : decode cX5_close 176 = .ok (.goto 7, 3) := by decide +kernel
theorem d_Mo_close_179 : decode cX5_close 179 = .ok (.iload_n 2, 1) := by decide +kernel
theorem d_Mo_close_180 : decode cX5_close 180 = .ok (.bipush 10, 2) := by decide +kernel
theorem d_Mo_close_182 : decode cX5_close 182 = .ok (.idiv, 1) := by decide +kernel
theorem d_Mo_close_183 : decode cX5_close 183 = .ok (.iastore, 1) := by decide +kernel
theorem d_Mo_close_184 : decode cX5_close 184 = .ok (.aload_n 0, 1) := by decide +kernel
theorem d_Mo_close_185 : decode cX5_close 185 = .ok (.getfield 65, 3) := by decide +kernel
theorem d_Mo_close_188 : decode cX5_close 188 = .ok (.iload 7, 2) := by decide +kernel
theorem d_Mo_close_190 : decode cX5_close 190 = .ok (.iconst 3, 1) := by decide +kernel
theorem d_Mo_close_191 : decode cX5_close 191 = .ok (.iadd, 1) := by decide +kernel
theorem d_Mo_close_192 : decode cX5_close 192 = .ok (.iload_n 1, 1) := by decide +kernel
theorem d_Mo_close_193 : decode cX5_close 193 = .ok (.bipush 10, 2) := by decide +kernel
theorem d_Mo_close_195 : decode cX5_close 195 = .ok (.idiv, 1) := by decide +kernel
theorem d_Mo_close_196 : decode cX5_close 196 = .ok (.iload_n 2, 1) := by decide +kernel
theorem d_Mo_close_197 : decode cX5_close 197 = .ok (.bipush 10, 2) := by decide +kernel
theorem d_Mo_close_199 : decode cX5_close 199 = .ok (.idiv, 1) := by decide +kernel
theorem d_Mo_close_200 : decode cX5_close 200 = .ok (.iadd, 1) := by decide +kernel
theorem d_Mo_close_201 : decode cX5_close 201 = .ok (.aload_n 0, 1) := by decide +kernel
theorem d_Mo_close_202 : decode cX5_close 202 = .ok (.getfield 65, 3) := by decide +kernel
theorem d_Mo_close_205 : decode cX5_close 205 = .ok (.iload 7, 2) := by decide +kernel
theorem d_Mo_close_207 : decode cX5_close 207 = .ok (.iconst 2, 1) := by decide +kernel
theorem d_Mo_close_208 : decode cX5_close 208 = .ok (.iadd, 1) := by decide +kernel
theorem d_Mo_close_209 : decode cX5_close 209 = .ok (.iaload, 1) := by decide +kernel
theorem d_Mo_close_210 : decode cX5_close 210 = .ok (.isub, 1) := by decide +kernel
theorem d_Mo_close_211 : decode cX5_close 211 = .ok (.iastore, 1) := by decide +kernel
theorem d_Mo_close_212 : decode cX5_close 212 = .ok (.aload_n 0, 1) := by decide +kernel
theorem d_Mo_close_213 : decode cX5_close 213 = .ok (.getfield 65, 3) := by decide +kernel
theorem d_Mo_close_216 : decode cX5_close 216 = .ok (.iload 7, 2) := by decide +kernel
theorem d_Mo_close_218 : decode cX5_close 218 = .ok (.iconst 4, 1) := by decide +kernel
theorem d_Mo_close_219 : decode cX5_close 219 = .ok (.iadd, 1) := by decide +kernel
theorem d_Mo_close_220 : decode cX5_close 220 = .ok (.iload_n 3, 1) := by decide +kernel
theorem d_Mo_close_221 : decode cX5_close 221 = .ok (.iastore, 1) := by decide +kernel
theorem d_Mo_close_222 : decode cX5_close 222 = .ok (.aload_n 0, 1) := by decide +kernel
theorem d_Mo_close_223 : decode cX5_close 223 = .ok (.getfield 65, 3) := by decide +kernel
theorem d_Mo_close_226 : decode cX5_close 226 = .ok (.iload 7, 2) := by decide +kernel
theorem d_Mo_close_228 : decode cX5_close 228 = .ok (.iconst 5, 1) := by decide +kernel
theorem d_Mo_close_229 : decode cX5_close 229 = .ok (.iadd, 1) := by decide +kernel
theorem d_Mo_close_230 : decode cX5_close 230 = .ok (.iload 4, 2) := by decide +kernel
theorem d_Mo_close_232 : decode cX5_close 232 = .ok (.iastore, 1) := by decide +kernel
theorem d_Mo_close_233 : decode cX5_close 233 = .ok (.aload_n 0, 1) := by decide +kernel
theorem d_Mo_close_234 : decode cX5_close 234 = .ok (.getfield 65, 3) := by decide +kernel
theorem d_Mo_close_237 : decode cX5_close 237 = .ok (.iload 7, 2) := by decide +kernel
theorem d_Mo_close_239 : decode cX5_close 239 = .ok (.bipush 6, 2) := by decide +kernel
theorem d_Mo_close_241 : decode cX5_close 241 = .ok (.iadd, 1) := by decide +kernel
theorem d_Mo_close_242 : decode cX5_close 242 = .ok (.iload 5, 2) := by decide +kernel
theorem d_Mo_close_244 : decode cX5_close 244 = .ok (.iastore, 1) := by decide +kernel
theorem d_Mo_close_245 : decode cX5_close 245 = .ok (.aload_n 0, 1) := by decide +kernel
theorem d_Mo_close_246 : decode cX5_close 246 = .ok (.dup, 1) := by decide +kernel
theorem d_Mo_close_247 : decode cX5_close 247 = .ok (.getfield 106, 3) := by decide +kernel
theorem d_Mo_close_250 : decode cX5_close 250 = .ok (.iconst 1, 1) := by decide +kernel
theorem d_Mo_close_251 : decode cX5_close 251 = .ok (.iadd, 1) := by decide +kernel
theorem d_Mo_close_252 : decode cX5_close 252 = .ok (.putfield 106, 3) := by decide +kernel
theorem d_Mo_close_255 : decode cX5_close 255 = .ok (.iconst 0, 1) := by decide +kernel
theorem d_Mo_close_256 : decode cX5_close 256 = .ok (.istore 8, 2) := by decide +kernel
theorem d_Mo_close_258 : decode cX5_close 258 = .ok (.iload 8, 2) := by decide +kernel
theorem d_Mo_close_260 : decode cX5_close 260 = .ok (.aload_n 0, 1) := by decide +kernel
theorem d_Mo_close_261 : decode cX5_close 261 = .ok (.getfield 82, 3) := by decide +kernel
theorem d_Mo_close_264 : decode cX5_close 264 = .ok (.if_icmp .ge 103, 3) := by decide +kernel
theorem d_Mo_close_267 : decode cX5_close 267 = .ok (.aload_n 0, 1) := by decide +kernel
theorem d_Mo_close_268 : decode cX5_close 268 = .ok (.getfield 59, 3) := by decide +kernel
theorem d_Mo_close_271 : decode cX5_close 271 = .ok (.iload 8, 2) := by decide +kernel
theorem d_Mo_close_273 : decode cX5_close 273 = .ok (.iaload, 1) := by decide +kernel
theorem d_Mo_close_274 : decode cX5_close 274 = .ok (.ifCond .ne 87, 3) := by decide +kernel
theorem d_Mo_close_277 : decode cX5_close 277 = .ok (.iconst 0, 1) := by decide +kernel
theorem d_Mo_close_278 : decode cX5_close 278 = .ok (.istore 9, 2) := by decide +kernel
theorem d_Mo_close_280 : decode cX5_close 280 = .ok (.iconst 0, 1) := by decide +kernel
theorem d_Mo_close_281 : decode cX5_close 281 = .ok (.istore 10, 2) := by decide +kernel
theorem d_Mo_close_283 : decode cX5_close 283 = .ok (.iload 10, 2) := by decide +kernel
theorem d_Mo_close_285 : decode cX5_close 285 = .ok (.aload_n 0, 1) := by decide +kernel
theorem d_Mo_close_286 : decode cX5_close 286 = .ok (.getfield 53, 3) := by decide +kernel
theorem d_Mo_close_289 : decode cX5_close 289 = .ok (.iload 8, 2) := by decide +kernel
theorem d_Mo_close_291 : decode cX5_close 291 = .ok (.iaload, 1) := by decide +kernel
theorem d_Mo_close_292 : decode cX5_close 292 = .ok (.if_icmp .gt 57, 3) := by decide +kernel
theorem d_Mo_close_295 : decode cX5_close 295 = .ok (.iload 9, 2) := by decide +kernel
theorem d_Mo_close_297 : decode cX5_close 297 = .ok (.ifCond .ne 39, 3) := by decide +kernel
theorem d_Mo_close_300 : decode cX5_close 300 = .ok (.aload_n 0, 1) := by decide +kernel
theorem d_Mo_close_301 : decode cX5_close 301 = .ok (.aload_n 0, 1) := by decide +kernel
theorem d_Mo_close_302 : decode cX5_close 302 = .ok (.getfield 106, 3) := by decide +kernel
theorem d_Mo_close_305 : decode cX5_close 305 = .ok (.iconst 1, 1) := by decide +kernel
theorem d_Mo_close_306 : decode cX5_close 306 = .ok (.isub, 1) := by decide +kernel
theorem d_Mo_close_307 : decode cX5_close 307 = .ok (.aload_n 0, 1) := by decide +kernel
theorem d_Mo_close_308 : decode cX5_close 308 = .ok (.getfield 62, 3) := by decide +kernel
theorem d_Mo_close_311 : decode cX5_close 311 = .ok (.bipush 81, 2) := by decide +kernel
theorem d_Mo_close_313 : decode cX5_close 313 = .ok (.iload 8, 2) := by decide +kernel
theorem d_Mo_close_315 : decode cX5_close 315 = .ok (.imul, 1) := by decide +kernel
theorem d_Mo_close_316 : decode cX5_close 316 = .ok (.iload 10, 2) := by decide +kernel
theorem d_Mo_close_318 : decode cX5_close 318 = .ok (.iadd, 1) := by decide +kernel
theorem d_Mo_close_319 : decode cX5_close 319 = .ok (.iaload, 1) := by decide +kernel
theorem d_Mo_close_320 : decode cX5_close 320 = .ok (.aload_n 0, 1) := by decide +kernel
theorem d_Mo_close_321 : decode cX5_close 321 = .ok (.getfield 50, 3) := by decide +kernel
theorem d_Mo_close_324 : decode cX5_close 324 = .ok (.iload 8, 2) := by decide +kernel
theorem d_Mo_close_326 : decode cX5_close 326 = .ok (.iaload, 1) := by decide +kernel
theorem d_Mo_close_327 : decode cX5_close 327 = .ok (.iload 10, 2) := by decide +kernel
theorem d_Mo_close_329 : decode cX5_close 329 = .ok (.iadd, 1) := by decide +kernel
theorem d_Mo_close_330 : decode cX5_close 330 = .ok (.invokevirtual 109, 3) := by decide +kernel
theorem d_Mo_close_333 : decode cX5_close 333 = .ok (.ifCond .eq 7, 3) := by decide +kernel
theorem d_Mo_close_336 : decode cX5_close 336 = .ok (.iconst 1, 1) := by decide +kernel
theorem d_Mo_close_337 : decode cX5_close 337 = .ok (.goto 4, 3) := by decide +kernel
theorem d_Mo_close_340 : decode cX5_close 340 = .ok (.iconst 0, 1) := by decide +kernel
theorem d_Mo_close_341 : decode cX5_close 341 = .ok (.istore 9, 2) := by decide +kernel
theorem d_Mo_close_343 : decode cX5_close 343 = .ok (.iinc 10 1, 3) := by decide +kernel
theorem d_Mo_close_346 : decode cX5_close 346 = .ok (.goto (-63), 3) := by decide +kernel
theorem d_Mo_close_349 : decode cX5_close 349 = .ok (.iload 9, 2) := by decide +kernel
theorem d_Mo_close_351 : decode cX5_close 351 = .ok (.ifCond .eq 10, 3) := by decide +kernel
theorem d_Mo_close_354 : decode cX5_close 354 = .ok (.aload_n 0, 1) := by decide +kernel
theorem d_Mo_close_355 : decode cX5_close 355 = .ok (.iload 8, 2) := by decide +kernel
theorem d_Mo_close_357 : decode cX5_close 357 = .ok (.iconst 3, 1) := by decide +kernel
theorem d_Mo_close_358 : decode cX5_close 358 = .ok (.invokevirtual 113, 3) := by decide +kernel
theorem d_Mo_close_361 : decode cX5_close 361 = .ok (.iinc 8 1, 3) := by decide +kernel
theorem d_Mo_close_364 : decode cX5_close 364 = .ok (.goto (-106), 3) := by decide +kernel
theorem d_Mo_close_367 : decode cX5_close 367 = .ok (.aload_n 0, 1) := by decide +kernel
theorem d_Mo_close_368 : decode cX5_close 368 = .ok (.getfield 106, 3) := by decide +kernel
theorem d_Mo_close_371 : decode cX5_close 371 = .ok (.iconst 1, 1) := by decide +kernel
theorem d_Mo_close_372 : decode cX5_close 372 = .ok (.isub, 1) := by decide +kernel
theorem d_Mo_close_373 : decode cX5_close 373 = .ok (.ireturn, 1) := by decide +kernel
set_option maxRecDepth 100000 in
set_option maxHeartbeats 4000000 in
theorem w_b_Mo_close_283 {X : CX} {KX : Int32 → Prop} {k : Nat} {a8 : Int32} {a9 : Int32} {a10 : Int32} {s : MS} {rec : Int32 → Int32 → Option (Int32)} (ok : Ok X cX5_close RX5 rm_Mo_close 11 false) (hexit : ∀ (e9 : Int32), KX e9 → G X s 0 0 349 [(0, vR (some k)), (8, vI a8), (9, vI e9)] []) (hrec : ∀ (v9 : Int32) (v10 : Int32), ∀ y, rec v9 v10 = some y → KX y → G X s 0 0 283 [(0, vR (some k)), (8, vI a8), (9, vI v9), (10, vI v10)] []) (ht : rf s.2.2 20 (some k) = some k) {res : Int32} (h : b_Mo_close_283 k a8 a9 a10 s rec = some res) (hk : KX res) : G X s 0 0 283 [(0, vR (some k)), (8, vI a8), (9, vI a9), (10, vI a10)] [] := by
  unfold b_Mo_close_283 at h
  refine g_iload (i := 10) 3 ok d_Mo_close_283 rfl ?_
  refine g_aload_n (i := 0) 0 ok d_Mo_close_285 rfl rfl ?_
  refine g_getr (s0 := 20) (j := 20) (ci := 5) (C := RX5) (T := TX5) (N := 29) ok ht lay_20 rfl inX5 (by decide) rfl tw_758 rfl d_Mo_close_286 ?_
  refine g_iload (i := 8) 1 ok d_Mo_close_289 rfl ?_
  obtain ⟨k62, hk63, h⟩ := bnd_go h
  refine g_iald ok hk63 d_Mo_close_291 ?_
  refine g_icmp_gt (tgt := 349) ok d_Mo_close_292 (by decide) (fun c64 => ?_) (fun c64 => ?_)
  · replace h := (if_pos c64).symm.trans h
    refine g_sub [0, 1, 2] rfl ?_
    cases h
    exact hexit a9 hk
  · replace h := (if_neg c64).symm.trans h
    refine g_iload (i := 9) 2 ok d_Mo_close_295 rfl ?_
    refine g_if_ne (tgt := 336) ok d_Mo_close_297 (by decide) (fun c65 => ?_) (fun c65 => ?_)
    · replace h := (if_pos c65).symm.trans h
      refine g_aload_n (i := 0) 0 ok d_Mo_close_300 rfl rfl ?_
      refine g_aload_n (i := 0) 0 ok d_Mo_close_301 rfl rfl ?_
      refine g_geti (s0 := 20) (j := 24) (ci := 5) (C := RX5) (T := TX5) (N := 29) ok ht lay_20 rfl inX5 (by decide) rfl tw_762 rfl d_Mo_close_302 ?_
      refine g_iconst (v := (1 : Int32)) ok d_Mo_close_305 (by decide) ?_
      refine g_isub ok d_Mo_close_306 ?_
      refine g_aload_n (i := 0) 0 ok d_Mo_close_307 rfl rfl ?_
      refine g_getr (s0 := 20) (j := 23) (ci := 5) (C := RX5) (T := TX5) (N := 29) ok ht lay_20 rfl inX5 (by decide) rfl tw_761 rfl d_Mo_close_308 ?_
      refine g_bipush (v := (81 : Int32)) ok d_Mo_close_311 (by decide) ?_
      refine g_iload (i := 8) 1 ok d_Mo_close_313 rfl ?_
      refine g_imul ok d_Mo_close_315 ?_
      refine g_iload (i := 10) 3 ok d_Mo_close_316 rfl ?_
      refine g_iadd ok d_Mo_close_318 ?_
      obtain ⟨k66, hk67, h⟩ := bnd_go h
      refine g_iald ok hk67 d_Mo_close_319 ?_
      refine g_aload_n (i := 0) 0 ok d_Mo_close_320 rfl rfl ?_
      refine g_getr (s0 := 20) (j := 19) (ci := 5) (C := RX5) (T := TX5) (N := 29) ok ht lay_20 rfl inX5 (by decide) rfl tw_757 rfl d_Mo_close_321 ?_
      refine g_iload (i := 8) 1 ok d_Mo_close_324 rfl ?_
      obtain ⟨k68, hk69, h⟩ := bnd_go h
      refine g_iald ok hk69 d_Mo_close_326 ?_
      refine g_iload (i := 10) 3 ok d_Mo_close_327 rfl ?_
      refine g_iadd ok d_Mo_close_329 ?_
      obtain ⟨x71, hc72, h⟩ := bnd_go h
      refine g_invV (rm2 := rm_Mo_isIn) (As := [vI ((s.1 k 24) - (1 : Int32)), vI (s.1 k66 (((81 : Int32) * a8) + a10).toNatClampNeg), vI ((s.1 k68 a8.toNatClampNeg) + a10)]) (rest := []) ok ht lay_20 rfl (c_Mo_isIn X.1.2.1 (rf_self ht) hc72) cm_Mo_isIn cv_Mo_isIn tw_862 ⟨rfl, rfl⟩ ⟨le_t rfl, le_t rfl⟩ ⟨rfl, le_t rfl⟩ ⟨le_t rfl, le_t rfl⟩ d_Mo_close_330 rfl (fun m70 => ?_)
      show G X s 0 0 333 [(0, vR (some k)), (8, vI a8), (9, vI a9), (10, vI a10)] [vI x71]
      refine g_if_eq (tgt := 340) ok d_Mo_close_333 (by decide) (fun c73 => ?_) (fun c73 => ?_)
      · replace h := (if_pos c73).symm.trans h
        refine g_iconst (v := (0 : Int32)) ok d_Mo_close_340 (by decide) ?_
        refine g_istore (i := 9) [(9, vI (0 : Int32)), (0, vR (some k)), (8, vI a8), (10, vI a10)] ok d_Mo_close_341 (by decide) rfl ?_
        obtain ⟨x74, e75⟩ : ∃ z, a10 + (1 : Int32) = z := ⟨_, rfl⟩
        replace h := lt_go h e75
        refine g_iinc (i := 10) (v := x74) 3 [(10, vI x74), (9, vI (0 : Int32)), (0, vR (some k)), (8, vI a8)] ok d_Mo_close_343 rfl (by rw [← e75]; rfl) (by decide) rfl ?_
        refine g_goto (tgt := 283) ok d_Mo_close_346 (by decide) ?_
        refine g_sub [2, 3, 1, 0] rfl ?_
        exact hrec (0 : Int32) x74 _ h hk
      · replace h := (if_neg c73).symm.trans h
        refine g_iconst (v := (1 : Int32)) ok d_Mo_close_336 (by decide) ?_
        refine g_goto (tgt := 341) ok d_Mo_close_337 (by decide) ?_
        refine g_istore (i := 9) [(9, vI (1 : Int32)), (0, vR (some k)), (8, vI a8), (10, vI a10)] ok d_Mo_close_341 (by decide) rfl ?_
        obtain ⟨x76, e77⟩ : ∃ z, a10 + (1 : Int32) = z := ⟨_, rfl⟩
        replace h := lt_go h e77
        refine g_iinc (i := 10) (v := x76) 3 [(10, vI x76), (9, vI (1 : Int32)), (0, vR (some k)), (8, vI a8)] ok d_Mo_close_343 rfl (by rw [← e77]; rfl) (by decide) rfl ?_
        refine g_goto (tgt := 283) ok d_Mo_close_346 (by decide) ?_
        refine g_sub [2, 3, 1, 0] rfl ?_
        exact hrec (1 : Int32) x76 _ h hk
    · replace h := (if_neg c65).symm.trans h
      refine g_iconst (v := (1 : Int32)) ok d_Mo_close_336 (by decide) ?_
      refine g_goto (tgt := 341) ok d_Mo_close_337 (by decide) ?_
      refine g_istore (i := 9) [(9, vI (1 : Int32)), (0, vR (some k)), (8, vI a8), (10, vI a10)] ok d_Mo_close_341 (by decide) rfl ?_
      obtain ⟨x78, e79⟩ : ∃ z, a10 + (1 : Int32) = z := ⟨_, rfl⟩
      replace h := lt_go h e79
      refine g_iinc (i := 10) (v := x78) 3 [(10, vI x78), (9, vI (1 : Int32)), (0, vR (some k)), (8, vI a8)] ok d_Mo_close_343 rfl (by rw [← e79]; rfl) (by decide) rfl ?_
      refine g_goto (tgt := 283) ok d_Mo_close_346 (by decide) ?_
      refine g_sub [2, 3, 1, 0] rfl ?_
      exact hrec (1 : Int32) x78 _ h hk
theorem w_l_Mo_close_283 {X : CX} {KX : Int32 → Prop} {k : Nat} {a8 : Int32} {s : MS} (ok : Ok X cX5_close RX5 rm_Mo_close 11 false) (hexit : ∀ (e9 : Int32), KX e9 → G X s 0 0 349 [(0, vR (some k)), (8, vI a8), (9, vI e9)] []) (ht : rf s.2.2 20 (some k) = some k) : ∀ (n : Nat) (a9 : Int32) (a10 : Int32) {res : Int32}, l_Mo_close_283 k a8 s n a9 a10 = some res → KX res → G X s 0 0 283 [(0, vR (some k)), (8, vI a8), (9, vI a9), (10, vI a10)] [] := by
  intro n
  induction n with
  | zero => intro _ _ res h; cases h
  | succ n ih =>
    intro a9 a10 res h hk
    exact w_b_Mo_close_283 ok hexit (fun v9 v10 y h2 hk2 => ih v9 v10 h2 hk2) ht h hk
set_option maxRecDepth 100000 in
set_option maxHeartbeats 4000000 in
theorem w_b_Mo_close_258 {X : CX} {KX : MS → Prop} {k : Nat} {a8 : Int32} {s : MS} {rec : Int32 → MS → Option (MS)} {sb : MS} (ok : Ok X cX5_close RX5 rm_Mo_close 11 false) (hexit : ∀ (z : MS), KX z → (∀ q, dm sb q → dm z q) → G X z 0 0 367 [(0, vR (some k))] []) (hrec : ∀ (v8 : Int32) (z : MS), (∀ q, dm sb q → dm z q) → ∀ y, rec v8 z = some y → KX y → G X z 0 0 258 [(0, vR (some k)), (8, vI v8)] []) (mb : ∀ q, dm sb q → dm s q) (ht : rf s.2.2 20 (some k) = some k) {res : MS} (h : b_Mo_close_258 k a8 s rec = some res) (hk : KX res) : G X s 0 0 258 [(0, vR (some k)), (8, vI a8)] [] := by
  unfold b_Mo_close_258 at h
  refine g_iload (i := 8) 1 ok d_Mo_close_258 rfl ?_
  refine g_aload_n (i := 0) 0 ok d_Mo_close_260 rfl rfl ?_
  refine g_geti (s0 := 20) (j := 17) (ci := 5) (C := RX5) (T := TX5) (N := 29) ok ht lay_20 rfl inX5 (by decide) rfl tw_755 rfl d_Mo_close_261 ?_
  refine g_icmp_ge (tgt := 367) ok d_Mo_close_264 (by decide) (fun c58 => ?_) (fun c58 => ?_)
  · replace h := (if_pos c58).symm.trans h
    refine g_aload_n (i := 0) 0 ok d_Mo_close_267 rfl rfl ?_
    refine g_getr (s0 := 20) (j := 22) (ci := 5) (C := RX5) (T := TX5) (N := 29) ok ht lay_20 rfl inX5 (by decide) rfl tw_760 rfl d_Mo_close_268 ?_
    refine g_iload (i := 8) 1 ok d_Mo_close_271 rfl ?_
    obtain ⟨k59, hk60, h⟩ := bnd_go h
    refine g_iald ok hk60 d_Mo_close_273 ?_
    refine g_if_ne (tgt := 361) ok d_Mo_close_274 (by decide) (fun c61 => ?_) (fun c61 => ?_)
    · replace h := (if_pos c61).symm.trans h
      refine g_iconst (v := (0 : Int32)) ok d_Mo_close_277 (by decide) ?_
      refine g_istore (i := 9) [(9, vI (0 : Int32)), (0, vR (some k)), (8, vI a8)] ok d_Mo_close_278 (by decide) rfl ?_
      refine g_iconst (v := (0 : Int32)) ok d_Mo_close_280 (by decide) ?_
      refine g_istore (i := 10) [(10, vI (0 : Int32)), (9, vI (0 : Int32)), (0, vR (some k)), (8, vI a8)] ok d_Mo_close_281 (by decide) rfl ?_
      refine g_sub [2, 3, 1, 0] rfl ?_
      obtain ⟨e80, hx, h⟩ := bnd_go h
      refine w_l_Mo_close_283 (KX := fun y => y = e80) ok (fun y0 he => ?_) ht _ _ _ hx rfl
      cases he
      refine g_iload (i := 9) 2 ok d_Mo_close_349 rfl ?_
      refine g_if_eq (tgt := 361) ok d_Mo_close_351 (by decide) (fun c81 => ?_) (fun c81 => ?_)
      · replace h := (if_pos c81).symm.trans h
        obtain ⟨x82, e83⟩ : ∃ z, a8 + (1 : Int32) = z := ⟨_, rfl⟩
        replace h := lt_go h e83
        refine g_iinc (i := 8) (v := x82) 1 [(8, vI x82), (0, vR (some k)), (9, vI e80)] ok d_Mo_close_361 rfl (by rw [← e83]; rfl) (by decide) rfl ?_
        refine g_goto (tgt := 258) ok d_Mo_close_364 (by decide) ?_
        refine g_sub [1, 0] rfl ?_
        exact hrec x82 s mb _ h hk
      · replace h := (if_neg c81).symm.trans h
        refine g_aload_n (i := 0) 0 ok d_Mo_close_354 rfl rfl ?_
        refine g_iload (i := 8) 1 ok d_Mo_close_355 rfl ?_
        refine g_iconst (v := (3 : Int32)) ok d_Mo_close_357 (by decide) ?_
        obtain ⟨s86, hc85, h⟩ := bnd_go h
        refine g_invV (rm2 := rm_Mo_takeBack) (As := [vI a8, vI (3 : Int32)]) (rest := []) ok ht lay_20 rfl (c_Mo_takeBack X.1.2.1 (rf_self ht) hc85) cm_Mo_takeBack cv_Mo_takeBack tw_866 ⟨rfl, rfl⟩ ⟨le_t rfl, le_t rfl⟩ ⟨rfl, le_t rfl⟩ ⟨le_t rfl, le_t rfl⟩ d_Mo_close_358 rfl (fun m84 => ?_)
        show G X s86 0 0 361 [(0, vR (some k)), (8, vI a8), (9, vI e80)] []
        obtain ⟨x87, e88⟩ : ∃ z, a8 + (1 : Int32) = z := ⟨_, rfl⟩
        replace h := lt_go h e88
        refine g_iinc (i := 8) (v := x87) 1 [(8, vI x87), (0, vR (some k)), (9, vI e80)] ok d_Mo_close_361 rfl (by rw [← e88]; rfl) (by decide) rfl ?_
        refine g_goto (tgt := 258) ok d_Mo_close_364 (by decide) ?_
        refine g_sub [1, 0] rfl ?_
        exact hrec x87 s86 (fun z hz => m84 z (mb z hz)) _ h hk
    · replace h := (if_neg c61).symm.trans h
      obtain ⟨x89, e90⟩ : ∃ z, a8 + (1 : Int32) = z := ⟨_, rfl⟩
      replace h := lt_go h e90
      refine g_iinc (i := 8) (v := x89) 1 [(8, vI x89), (0, vR (some k))] ok d_Mo_close_361 rfl (by rw [← e90]; rfl) (by decide) rfl ?_
      refine g_goto (tgt := 258) ok d_Mo_close_364 (by decide) ?_
      refine g_sub [1, 0] rfl ?_
      exact hrec x89 s mb _ h hk
  · replace h := (if_neg c58).symm.trans h
    refine g_sub [0] rfl ?_
    cases h
    exact hexit s hk mb
theorem wx_l_Mo_close_258 {X : CX} {KX : MS → Prop} {k : Nat} {sb : MS} (ok : Ok X cX5_close RX5 rm_Mo_close 11 false) (hexit : ∀ (z : MS), KX z → (∀ q, dm sb q → dm z q) → G X z 0 0 367 [(0, vR (some k))] []) (htb : rf sb.2.2 20 (some k) = some k) : ∀ (n : Nat) (a8 : Int32) (s : MS), (∀ q, dm sb q → dm s q) → ∀ (res : MS), l_Mo_close_258 k n a8 s = some res → KX res → G X s 0 0 258 [(0, vR (some k)), (8, vI a8)] [] := by
  intro n
  induction n with
  | zero => intro _ s _ res h; cases h
  | succ n ih =>
    intro a8 s mb res h hk
    exact w_b_Mo_close_258 ok hexit (fun v8 z hz y h2 hk2 => ih v8 z hz y h2 hk2) mb (rf_mono mb htb) h hk
theorem w_l_Mo_close_258 {X : CX} {KX : MS → Prop} {k : Nat} {sb : MS} (ok : Ok X cX5_close RX5 rm_Mo_close 11 false) (hexit : ∀ (z : MS), KX z → (∀ q, dm sb q → dm z q) → G X z 0 0 367 [(0, vR (some k))] []) (mb : ∀ q, dm sb q → dm sb q) (htb : rf sb.2.2 20 (some k) = some k) (n : Nat) (a8 : Int32) {res : MS} (h : l_Mo_close_258 k n a8 sb = some res) (hk : KX res) : G X sb 0 0 258 [(0, vR (some k)), (8, vI a8)] [] := wx_l_Mo_close_258 ok hexit htb n a8 sb mb res h hk
set_option maxRecDepth 100000 in
set_option maxHeartbeats 4000000 in
theorem w_j_Mo_close_183 {X : CX} {KX : Int32 × MS → Prop} {k : Nat} {a1 : Int32} {a2 : Int32} {a3 : Int32} {a4 : Int32} {a5 : Int32} {a7 : Int32} {t0 : Int32} {t1 : Int32} {t2 : Option Nat} {s : MS} (ok : Ok X cX5_close RX5 rm_Mo_close 11 false) (hret : ∀ r : Int32 × MS, KX r → Fin X (some .int) 0 0 false (some (vI r.1)) r.2) (ht : rf s.2.2 20 (some k) = some k) {res : Int32 × MS} (h : j_Mo_close_183 k a1 a2 a3 a4 a5 a7 t0 t1 t2 s = some res) (hk : KX res) : G X s 0 0 183 [(0, vR (some k)), (1, vI a1), (2, vI a2), (3, vI a3), (4, vI a4), (5, vI a5), (7, vI a7)] [vI t0, vI t1, vR t2] := by
  unfold j_Mo_close_183 at h
  obtain ⟨k28, hk29, h⟩ := bnd_go h
  refine g_iast ok hk29 d_Mo_close_183 ?_
  obtain ⟨s30, e31⟩ : ∃ z, wi s k28 t1.toNatClampNeg t0 = z := ⟨_, rfl⟩
  replace h := lt_go h e31
  have m32 := mo_wi e31
  rw [e31]
  refine g_aload_n (i := 0) 0 ok d_Mo_close_184 rfl rfl ?_
  refine g_getr (s0 := 20) (j := 25) (ci := 5) (C := RX5) (T := TX5) (N := 29) ok (rf_mono m32 ht) lay_20 rfl inX5 (by decide) rfl tw_763 rfl d_Mo_close_185 ?_
  refine g_iload (i := 7) 6 ok d_Mo_close_188 rfl ?_
  refine g_iconst (v := (3 : Int32)) ok d_Mo_close_190 (by decide) ?_
  refine g_iadd ok d_Mo_close_191 ?_
  refine g_iload_n (i := 1) 1 ok d_Mo_close_192 rfl rfl ?_
  refine g_bipush (v := (10 : Int32)) ok d_Mo_close_193 (by decide) ?_
  refine g_idiv ok d_Mo_close_195 (by decide) ?_
  refine g_iload_n (i := 2) 2 ok d_Mo_close_196 rfl rfl ?_
  refine g_bipush (v := (10 : Int32)) ok d_Mo_close_197 (by decide) ?_
  refine g_idiv ok d_Mo_close_199 (by decide) ?_
  refine g_iadd ok d_Mo_close_200 ?_
  refine g_aload_n (i := 0) 0 ok d_Mo_close_201 rfl rfl ?_
  refine g_getr (s0 := 20) (j := 25) (ci := 5) (C := RX5) (T := TX5) (N := 29) ok (rf_mono m32 ht) lay_20 rfl inX5 (by decide) rfl tw_763 rfl d_Mo_close_202 ?_
  refine g_iload (i := 7) 6 ok d_Mo_close_205 rfl ?_
  refine g_iconst (v := (2 : Int32)) ok d_Mo_close_207 (by decide) ?_
  refine g_iadd ok d_Mo_close_208 ?_
  obtain ⟨k33, hk34, h⟩ := bnd_go h
  refine g_iald ok hk34 d_Mo_close_209 ?_
  refine g_isub ok d_Mo_close_210 ?_
  obtain ⟨k35, hk36, h⟩ := bnd_go h
  refine g_iast ok hk36 d_Mo_close_211 ?_
  obtain ⟨s37, e38⟩ : ∃ z, wi s30 k35 (a7 + (3 : Int32)).toNatClampNeg (((a1 / (10 : Int32)) + (a2 / (10 : Int32))) - (s30.1 k33 (a7 + (2 : Int32)).toNatClampNeg)) = z := ⟨_, rfl⟩
  replace h := lt_go h e38
  have m39 := mo_wi e38
  rw [e38]
  refine g_aload_n (i := 0) 0 ok d_Mo_close_212 rfl rfl ?_
  refine g_getr (s0 := 20) (j := 25) (ci := 5) (C := RX5) (T := TX5) (N := 29) ok (rf_mono m39 (rf_mono m32 ht)) lay_20 rfl inX5 (by decide) rfl tw_763 rfl d_Mo_close_213 ?_
  refine g_iload (i := 7) 6 ok d_Mo_close_216 rfl ?_
  refine g_iconst (v := (4 : Int32)) ok d_Mo_close_218 (by decide) ?_
  refine g_iadd ok d_Mo_close_219 ?_
  refine g_iload_n (i := 3) 3 ok d_Mo_close_220 rfl rfl ?_
  obtain ⟨k40, hk41, h⟩ := bnd_go h
  refine g_iast ok hk41 d_Mo_close_221 ?_
  obtain ⟨s42, e43⟩ : ∃ z, wi s37 k40 (a7 + (4 : Int32)).toNatClampNeg a3 = z := ⟨_, rfl⟩
  replace h := lt_go h e43
  have m44 := mo_wi e43
  rw [e43]
  refine g_aload_n (i := 0) 0 ok d_Mo_close_222 rfl rfl ?_
  refine g_getr (s0 := 20) (j := 25) (ci := 5) (C := RX5) (T := TX5) (N := 29) ok (rf_mono m44 (rf_mono m39 (rf_mono m32 ht))) lay_20 rfl inX5 (by decide) rfl tw_763 rfl d_Mo_close_223 ?_
  refine g_iload (i := 7) 6 ok d_Mo_close_226 rfl ?_
  refine g_iconst (v := (5 : Int32)) ok d_Mo_close_228 (by decide) ?_
  refine g_iadd ok d_Mo_close_229 ?_
  refine g_iload (i := 4) 4 ok d_Mo_close_230 rfl ?_
  obtain ⟨k45, hk46, h⟩ := bnd_go h
  refine g_iast ok hk46 d_Mo_close_232 ?_
  obtain ⟨s47, e48⟩ : ∃ z, wi s42 k45 (a7 + (5 : Int32)).toNatClampNeg a4 = z := ⟨_, rfl⟩
  replace h := lt_go h e48
  have m49 := mo_wi e48
  rw [e48]
  refine g_aload_n (i := 0) 0 ok d_Mo_close_233 rfl rfl ?_
  refine g_getr (s0 := 20) (j := 25) (ci := 5) (C := RX5) (T := TX5) (N := 29) ok (rf_mono m49 (rf_mono m44 (rf_mono m39 (rf_mono m32 ht)))) lay_20 rfl inX5 (by decide) rfl tw_763 rfl d_Mo_close_234 ?_
  refine g_iload (i := 7) 6 ok d_Mo_close_237 rfl ?_
  refine g_bipush (v := (6 : Int32)) ok d_Mo_close_239 (by decide) ?_
  refine g_iadd ok d_Mo_close_241 ?_
  refine g_iload (i := 5) 5 ok d_Mo_close_242 rfl ?_
  obtain ⟨k50, hk51, h⟩ := bnd_go h
  refine g_iast ok hk51 d_Mo_close_244 ?_
  obtain ⟨s52, e53⟩ : ∃ z, wi s47 k50 (a7 + (6 : Int32)).toNatClampNeg a5 = z := ⟨_, rfl⟩
  replace h := lt_go h e53
  have m54 := mo_wi e53
  rw [e53]
  refine g_aload_n (i := 0) 0 ok d_Mo_close_245 rfl rfl ?_
  refine g_dup ok d_Mo_close_246 rfl ?_
  refine g_geti (s0 := 20) (j := 24) (ci := 5) (C := RX5) (T := TX5) (N := 29) ok (rf_mono m54 (rf_mono m49 (rf_mono m44 (rf_mono m39 (rf_mono m32 ht))))) lay_20 rfl inX5 (by decide) rfl tw_762 rfl d_Mo_close_247 ?_
  refine g_iconst (v := (1 : Int32)) ok d_Mo_close_250 (by decide) ?_
  refine g_iadd ok d_Mo_close_251 ?_
  refine g_puti (s0 := 20) (j := 24) (ci := 5) (C := RX5) (T := TX5) (N := 29) ok (rf_mono m54 (rf_mono m49 (rf_mono m44 (rf_mono m39 (rf_mono m32 ht))))) lay_20 rfl inX5 (by decide) rfl tw_762 rfl tyX5_ok nmX5 rfl (Or.inl rfl) d_Mo_close_252 ?_
  obtain ⟨s55, e56⟩ : ∃ z, wi s52 k 24 ((s52.1 k 24) + (1 : Int32)) = z := ⟨_, rfl⟩
  replace h := lt_go h e56
  have m57 := mo_wi e56
  rw [e56]
  refine g_iconst (v := (0 : Int32)) ok d_Mo_close_255 (by decide) ?_
  refine g_istore (i := 8) [(8, vI (0 : Int32)), (0, vR (some k)), (1, vI a1), (2, vI a2), (3, vI a3), (4, vI a4), (5, vI a5), (7, vI a7)] ok d_Mo_close_256 (by decide) rfl ?_
  refine g_sub [1, 0] rfl ?_
  obtain ⟨s92, hx, h⟩ := bnd_go h
  refine w_l_Mo_close_258 (KX := fun y => y = s92) ok (fun y0 he m91 => ?_) (fun _ hz => hz) (rf_mono m57 (rf_mono m54 (rf_mono m49 (rf_mono m44 (rf_mono m39 (rf_mono m32 ht)))))) _ _ hx rfl
  cases he
  refine g_aload_n (i := 0) 0 ok d_Mo_close_367 rfl rfl ?_
  refine g_geti (s0 := 20) (j := 24) (ci := 5) (C := RX5) (T := TX5) (N := 29) ok (rf_mono m91 (rf_mono m57 (rf_mono m54 (rf_mono m49 (rf_mono m44 (rf_mono m39 (rf_mono m32 ht))))))) lay_20 rfl inX5 (by decide) rfl tw_762 rfl d_Mo_close_368 ?_
  refine g_iconst (v := (1 : Int32)) ok d_Mo_close_371 (by decide) ?_
  refine g_isub ok d_Mo_close_372 ?_
  cases h
  exact g_iret ok (hret _ hk) (by decide) (by decide) d_Mo_close_373
set_option maxRecDepth 100000 in
set_option maxHeartbeats 4000000 in
theorem w_j_Mo_close_126 {X : CX} {KX : Int32 × MS → Prop} {k : Nat} {a1 : Int32} {a2 : Int32} {a3 : Int32} {a4 : Int32} {a5 : Int32} {a7 : Int32} {t0 : Int32} {t1 : Int32} {t2 : Option Nat} {s : MS} (ok : Ok X cX5_close RX5 rm_Mo_close 11 false) (hret : ∀ r : Int32 × MS, KX r → Fin X (some .int) 0 0 false (some (vI r.1)) r.2) (ht : rf s.2.2 20 (some k) = some k) {res : Int32 × MS} (h : j_Mo_close_126 k a1 a2 a3 a4 a5 a7 t0 t1 t2 s = some res) (hk : KX res) : G X s 0 0 126 [(0, vR (some k)), (1, vI a1), (2, vI a2), (3, vI a3), (4, vI a4), (5, vI a5), (7, vI a7)] [vI t0, vI t1, vR t2] := by
  unfold j_Mo_close_126 at h
  obtain ⟨k15, hk16, h⟩ := bnd_go h
  refine g_iast ok hk16 d_Mo_close_126 ?_
  obtain ⟨s17, e18⟩ : ∃ z, wi s k15 t1.toNatClampNeg t0 = z := ⟨_, rfl⟩
  replace h := lt_go h e18
  have m19 := mo_wi e18
  rw [e18]
  refine g_aload_n (i := 0) 0 ok d_Mo_close_127 rfl rfl ?_
  refine g_getr (s0 := 20) (j := 25) (ci := 5) (C := RX5) (T := TX5) (N := 29) ok (rf_mono m19 ht) lay_20 rfl inX5 (by decide) rfl tw_763 rfl d_Mo_close_128 ?_
  refine g_iload (i := 7) 6 ok d_Mo_close_131 rfl ?_
  refine g_iconst (v := (1 : Int32)) ok d_Mo_close_133 (by decide) ?_
  refine g_iadd ok d_Mo_close_134 ?_
  refine g_iload_n (i := 1) 1 ok d_Mo_close_135 rfl rfl ?_
  refine g_bipush (v := (10 : Int32)) ok d_Mo_close_136 (by decide) ?_
  refine g_irem ok d_Mo_close_138 (by decide) ?_
  refine g_iload_n (i := 2) 2 ok d_Mo_close_139 rfl rfl ?_
  refine g_bipush (v := (10 : Int32)) ok d_Mo_close_140 (by decide) ?_
  refine g_irem ok d_Mo_close_142 (by decide) ?_
  refine g_iadd ok d_Mo_close_143 ?_
  refine g_aload_n (i := 0) 0 ok d_Mo_close_144 rfl rfl ?_
  refine g_getr (s0 := 20) (j := 25) (ci := 5) (C := RX5) (T := TX5) (N := 29) ok (rf_mono m19 ht) lay_20 rfl inX5 (by decide) rfl tw_763 rfl d_Mo_close_145 ?_
  refine g_iload (i := 7) 6 ok d_Mo_close_148 rfl ?_
  obtain ⟨k20, hk21, h⟩ := bnd_go h
  refine g_iald ok hk21 d_Mo_close_150 ?_
  refine g_isub ok d_Mo_close_151 ?_
  obtain ⟨k22, hk23, h⟩ := bnd_go h
  refine g_iast ok hk23 d_Mo_close_152 ?_
  obtain ⟨s24, e25⟩ : ∃ z, wi s17 k22 (a7 + (1 : Int32)).toNatClampNeg (((a1 - a1 / (10 : Int32) * (10 : Int32)) + (a2 - a2 / (10 : Int32) * (10 : Int32))) - (s17.1 k20 a7.toNatClampNeg)) = z := ⟨_, rfl⟩
  replace h := lt_go h e25
  have m26 := mo_wi e25
  rw [e25]
  refine g_aload_n (i := 0) 0 ok d_Mo_close_153 rfl rfl ?_
  refine g_getr (s0 := 20) (j := 25) (ci := 5) (C := RX5) (T := TX5) (N := 29) ok (rf_mono m26 (rf_mono m19 ht)) lay_20 rfl inX5 (by decide) rfl tw_763 rfl d_Mo_close_154 ?_
  refine g_iload (i := 7) 6 ok d_Mo_close_157 rfl ?_
  refine g_iconst (v := (2 : Int32)) ok d_Mo_close_159 (by decide) ?_
  refine g_iadd ok d_Mo_close_160 ?_
  refine g_iload_n (i := 1) 1 ok d_Mo_close_161 rfl rfl ?_
  refine g_bipush (v := (10 : Int32)) ok d_Mo_close_162 (by decide) ?_
  refine g_idiv ok d_Mo_close_164 (by decide) ?_
  refine g_iload_n (i := 2) 2 ok d_Mo_close_165 rfl rfl ?_
  refine g_bipush (v := (10 : Int32)) ok d_Mo_close_166 (by decide) ?_
  refine g_idiv ok d_Mo_close_168 (by decide) ?_
  refine g_icmp_ge (tgt := 179) ok d_Mo_close_169 (by decide) (fun c27 => ?_) (fun c27 => ?_)
  · replace h := (if_pos c27).symm.trans h
    refine g_iload_n (i := 1) 1 ok d_Mo_close_172 rfl rfl ?_
    refine g_bipush (v := (10 : Int32)) ok d_Mo_close_173 (by decide) ?_
    refine g_idiv ok d_Mo_close_175 (by decide) ?_
    refine g_goto (tgt := 183) ok d_Mo_close_176 (by decide) ?_
    exact w_j_Mo_close_183 ok hret (rf_mono m26 (rf_mono m19 ht)) h hk
  · replace h := (if_neg c27).symm.trans h
    refine g_iload_n (i := 2) 2 ok d_Mo_close_179 rfl rfl ?_
    refine g_bipush (v := (10 : Int32)) ok d_Mo_close_180 (by decide) ?_
    refine g_idiv ok d_Mo_close_182 (by decide) ?_
    exact w_j_Mo_close_183 ok hret (rf_mono m26 (rf_mono m19 ht)) h hk
set_option maxRecDepth 100000 in
set_option maxHeartbeats 4000000 in
theorem w_j_Mo_close_81 {X : CX} {KX : Int32 × MS → Prop} {k : Nat} {a1 : Int32} {a2 : Int32} {a3 : Int32} {a4 : Int32} {a5 : Int32} {t0 : Int32} {t1 : Option Nat} {s : MS} (ok : Ok X cX5_close RX5 rm_Mo_close 11 false) (hret : ∀ r : Int32 × MS, KX r → Fin X (some .int) 0 0 false (some (vI r.1)) r.2) (ht : rf s.2.2 20 (some k) = some k) {res : Int32 × MS} (h : j_Mo_close_81 k a1 a2 a3 a4 a5 t0 t1 s = some res) (hk : KX res) : G X s 0 0 81 [(0, vR (some k)), (1, vI a1), (2, vI a2), (3, vI a3), (4, vI a4), (5, vI a5)] [vI t0, vR t1] := by
  unfold j_Mo_close_81 at h
  obtain ⟨k5, hk6, h⟩ := bnd_go h
  obtain ⟨x10, s9, hc8, h⟩ := bnd2_go h
  refine g_invV (rm2 := rm_Mo_refused) (As := [vI t0]) (rest := []) ok hk6 lay_20 rfl (c_Mo_refused X.1.2.1 (rf_self hk6) hc8) cm_Mo_refused cv_Mo_refused tw_841 ⟨rfl, rfl⟩ ⟨le_t rfl, le_t rfl⟩ ⟨rfl, le_t rfl⟩ ⟨le_t rfl, le_t rfl⟩ d_Mo_close_81 rfl (fun m7 => ?_)
  show G X s9 0 0 84 [(0, vR (some k)), (1, vI a1), (2, vI a2), (3, vI a3), (4, vI a4), (5, vI a5)] [vI x10]
  refine g_if_eq (tgt := 89) ok d_Mo_close_84 (by decide) (fun c11 => ?_) (fun c11 => ?_)
  · replace h := (if_pos c11).symm.trans h
    refine g_bipush (v := (8 : Int32)) ok d_Mo_close_89 (by decide) ?_
    refine g_aload_n (i := 0) 0 ok d_Mo_close_91 rfl rfl ?_
    refine g_geti (s0 := 20) (j := 24) (ci := 5) (C := RX5) (T := TX5) (N := 29) ok (rf_mono m7 ht) lay_20 rfl inX5 (by decide) rfl tw_762 rfl d_Mo_close_92 ?_
    refine g_imul ok d_Mo_close_95 ?_
    obtain ⟨x12, e13⟩ : ∃ z, ((8 : Int32) * (s9.1 k 24)) = z := ⟨_, rfl⟩
    replace h := lt_go h e13
    rw [e13]
    refine g_istore (i := 7) [(7, vI x12), (0, vR (some k)), (1, vI a1), (2, vI a2), (3, vI a3), (4, vI a4), (5, vI a5)] ok d_Mo_close_96 (by decide) rfl ?_
    refine g_aload_n (i := 0) 1 ok d_Mo_close_98 rfl rfl ?_
    refine g_getr (s0 := 20) (j := 25) (ci := 5) (C := RX5) (T := TX5) (N := 29) ok (rf_mono m7 ht) lay_20 rfl inX5 (by decide) rfl tw_763 rfl d_Mo_close_99 ?_
    refine g_iload (i := 7) 0 ok d_Mo_close_102 rfl ?_
    refine g_iload_n (i := 1) 2 ok d_Mo_close_104 rfl rfl ?_
    refine g_bipush (v := (10 : Int32)) ok d_Mo_close_105 (by decide) ?_
    refine g_irem ok d_Mo_close_107 (by decide) ?_
    refine g_iload_n (i := 2) 3 ok d_Mo_close_108 rfl rfl ?_
    refine g_bipush (v := (10 : Int32)) ok d_Mo_close_109 (by decide) ?_
    refine g_irem ok d_Mo_close_111 (by decide) ?_
    refine g_icmp_ge (tgt := 122) ok d_Mo_close_112 (by decide) (fun c14 => ?_) (fun c14 => ?_)
    · replace h := (if_pos c14).symm.trans h
      refine g_iload_n (i := 1) 2 ok d_Mo_close_115 rfl rfl ?_
      refine g_bipush (v := (10 : Int32)) ok d_Mo_close_116 (by decide) ?_
      refine g_irem ok d_Mo_close_118 (by decide) ?_
      refine g_goto (tgt := 126) ok d_Mo_close_119 (by decide) ?_
      refine g_sub [1, 2, 3, 4, 5, 6, 0] rfl ?_
      exact w_j_Mo_close_126 ok hret (rf_mono m7 ht) h hk
    · replace h := (if_neg c14).symm.trans h
      refine g_iload_n (i := 2) 3 ok d_Mo_close_122 rfl rfl ?_
      refine g_bipush (v := (10 : Int32)) ok d_Mo_close_123 (by decide) ?_
      refine g_irem ok d_Mo_close_125 (by decide) ?_
      refine g_sub [1, 2, 3, 4, 5, 6, 0] rfl ?_
      exact w_j_Mo_close_126 ok hret (rf_mono m7 ht) h hk
  · replace h := (if_neg c11).symm.trans h
    refine g_iconst (v := (0 : Int32)) ok d_Mo_close_87 (by decide) ?_
    cases h
    exact g_iret ok (hret _ hk) (by decide) (by decide) d_Mo_close_88
set_option maxRecDepth 100000 in
set_option maxHeartbeats 4000000 in
theorem w_j_Mo_close_54 {X : CX} {KX : Int32 × MS → Prop} {k : Nat} {a1 : Int32} {a2 : Int32} {a3 : Int32} {a4 : Int32} {a5 : Int32} {t0 : Option Nat} {s : MS} (ok : Ok X cX5_close RX5 rm_Mo_close 11 false) (hret : ∀ r : Int32 × MS, KX r → Fin X (some .int) 0 0 false (some (vI r.1)) r.2) (ht : rf s.2.2 20 (some k) = some k) {res : Int32 × MS} (h : j_Mo_close_54 k a1 a2 a3 a4 a5 t0 s = some res) (hk : KX res) : G X s 0 0 54 [(0, vR (some k)), (1, vI a1), (2, vI a2), (3, vI a3), (4, vI a4), (5, vI a5)] [vR t0] := by
  unfold j_Mo_close_54 at h
  refine g_iconst (v := (1 : Int32)) ok d_Mo_close_54 (by decide) ?_
  refine g_goto (tgt := 81) ok d_Mo_close_55 (by decide) ?_
  exact w_j_Mo_close_81 ok hret ht h hk
set_option maxRecDepth 100000 in
set_option maxHeartbeats 4000000 in
theorem w_j_Mo_close_37 {X : CX} {KX : Int32 × MS → Prop} {k : Nat} {a1 : Int32} {a2 : Int32} {a3 : Int32} {a4 : Int32} {a5 : Int32} {t0 : Int32} {s : MS} (ok : Ok X cX5_close RX5 rm_Mo_close 11 false) (hret : ∀ r : Int32 × MS, KX r → Fin X (some .int) 0 0 false (some (vI r.1)) r.2) (ht : rf s.2.2 20 (some k) = some k) {res : Int32 × MS} (h : j_Mo_close_37 k a1 a2 a3 a4 a5 t0 s = some res) (hk : KX res) : G X s 0 0 37 [(0, vR (some k)), (1, vI a1), (2, vI a2), (3, vI a3), (4, vI a4), (5, vI a5)] [vI t0] := by
  unfold j_Mo_close_37 at h
  refine g_istore (i := 6) [(6, vI t0), (0, vR (some k)), (1, vI a1), (2, vI a2), (3, vI a3), (4, vI a4), (5, vI a5)] ok d_Mo_close_37 (by decide) rfl ?_
  refine g_aload_n (i := 0) 1 ok d_Mo_close_39 rfl rfl ?_
  refine g_iload_n (i := 1) 2 ok d_Mo_close_40 rfl rfl ?_
  refine g_invS (rm2 := rm_Mo_isCell) (As := [vI a1]) (rest := [vR (some k)]) ok (c_Mo_isCell X.1.2.1) cm_Mo_isCell cs_Mo_isCell tw_835 ⟨rfl, rfl⟩ ⟨le_t rfl, le_t rfl⟩ ⟨rfl, le_t rfl⟩ ⟨le_t rfl, le_t rfl⟩ d_Mo_close_41 rfl (fun m3 => ?_)
  show G X s 0 0 44 [(6, vI t0), (0, vR (some k)), (1, vI a1), (2, vI a2), (3, vI a3), (4, vI a4), (5, vI a5)] [vI (f_Mo_isCell a1), vR (some k)]
  refine g_if_eq (tgt := 54) ok d_Mo_close_44 (by decide) (fun c4 => ?_) (fun c4 => ?_)
  · replace h := (if_pos c4).symm.trans h
    refine g_sub [1, 2, 3, 4, 5, 6] rfl ?_
    exact w_j_Mo_close_54 ok hret ht h hk
  · replace h := (if_neg c4).symm.trans h
    refine g_iload_n (i := 2) 3 ok d_Mo_close_47 rfl rfl ?_
    refine g_invS (rm2 := rm_Mo_isCell) (As := [vI a2]) (rest := [vR (some k)]) ok (c_Mo_isCell X.1.2.1) cm_Mo_isCell cs_Mo_isCell tw_835 ⟨rfl, rfl⟩ ⟨le_t rfl, le_t rfl⟩ ⟨rfl, le_t rfl⟩ ⟨le_t rfl, le_t rfl⟩ d_Mo_close_48 rfl (fun m93 => ?_)
    show G X s 0 0 51 [(6, vI t0), (0, vR (some k)), (1, vI a1), (2, vI a2), (3, vI a3), (4, vI a4), (5, vI a5)] [vI (f_Mo_isCell a2), vR (some k)]
    refine g_if_ne (tgt := 58) ok d_Mo_close_51 (by decide) (fun c94 => ?_) (fun c94 => ?_)
    · replace h := (if_pos c94).symm.trans h
      refine g_sub [1, 2, 3, 4, 5, 6] rfl ?_
      exact w_j_Mo_close_54 ok hret ht h hk
    · replace h := (if_neg c94).symm.trans h
      refine g_iload (i := 6) 0 ok d_Mo_close_58 rfl ?_
      refine g_if_ne (tgt := 67) ok d_Mo_close_60 (by decide) (fun c95 => ?_) (fun c95 => ?_)
      · replace h := (if_pos c95).symm.trans h
        refine g_iconst (v := (2 : Int32)) ok d_Mo_close_63 (by decide) ?_
        refine g_goto (tgt := 81) ok d_Mo_close_64 (by decide) ?_
        refine g_sub [1, 2, 3, 4, 5, 6] rfl ?_
        exact w_j_Mo_close_81 ok hret ht h hk
      · replace h := (if_neg c95).symm.trans h
        refine g_aload_n (i := 0) 1 ok d_Mo_close_67 rfl rfl ?_
        refine g_geti (s0 := 20) (j := 24) (ci := 5) (C := RX5) (T := TX5) (N := 29) ok ht lay_20 rfl inX5 (by decide) rfl tw_762 rfl d_Mo_close_68 ?_
        refine g_bipush (v := (10 : Int32)) ok d_Mo_close_71 (by decide) ?_
        refine g_icmp_ne (tgt := 80) ok d_Mo_close_73 (by decide) (fun c96 => ?_) (fun c96 => ?_)
        · replace h := (if_pos c96).symm.trans h
          refine g_iconst (v := (3 : Int32)) ok d_Mo_close_76 (by decide) ?_
          refine g_goto (tgt := 81) ok d_Mo_close_77 (by decide) ?_
          refine g_sub [1, 2, 3, 4, 5, 6] rfl ?_
          exact w_j_Mo_close_81 ok hret ht h hk
        · replace h := (if_neg c96).symm.trans h
          refine g_iconst (v := (0 : Int32)) ok d_Mo_close_80 (by decide) ?_
          refine g_sub [1, 2, 3, 4, 5, 6] rfl ?_
          exact w_j_Mo_close_81 ok hret ht h hk
set_option maxRecDepth 100000 in
set_option maxHeartbeats 4000000 in
theorem w_j_Mo_close_36 {X : CX} {KX : Int32 × MS → Prop} {k : Nat} {a1 : Int32} {a2 : Int32} {a3 : Int32} {a4 : Int32} {a5 : Int32} {s : MS} (ok : Ok X cX5_close RX5 rm_Mo_close 11 false) (hret : ∀ r : Int32 × MS, KX r → Fin X (some .int) 0 0 false (some (vI r.1)) r.2) (ht : rf s.2.2 20 (some k) = some k) {res : Int32 × MS} (h : j_Mo_close_36 k a1 a2 a3 a4 a5 s = some res) (hk : KX res) : G X s 0 0 36 [(0, vR (some k)), (1, vI a1), (2, vI a2), (3, vI a3), (4, vI a4), (5, vI a5)] [] := by
  unfold j_Mo_close_36 at h
  refine g_iconst (v := (0 : Int32)) ok d_Mo_close_36 (by decide) ?_
  exact w_j_Mo_close_37 ok hret ht h hk
set_option maxRecDepth 100000 in
set_option maxHeartbeats 4000000 in
theorem w_Mo_close {X : CX} {KX : Int32 × MS → Prop} {k : Nat} {a1 : Int32} {a2 : Int32} {a3 : Int32} {a4 : Int32} {a5 : Int32} {s : MS} (ok : Ok X cX5_close RX5 rm_Mo_close 11 false) (hret : ∀ r : Int32 × MS, KX r → Fin X (some .int) 0 0 false (some (vI r.1)) r.2)   (ht : rf s.2.2 20 (some k) = some k) {res : Int32 × MS} (h : f_Mo_close k a1 a2 a3 a4 a5 s = some res) (hk : KX res) : G X s 0 0 0 [(0, vR (some k)), (1, vI a1), (2, vI a2), (3, vI a3), (4, vI a4), (5, vI a5)] [] := by
  unfold f_Mo_close at h
  refine g_iload_n (i := 3) 3 ok d_Mo_close_0 rfl rfl ?_
  refine g_iconst (v := (1 : Int32)) ok d_Mo_close_1 (by decide) ?_
  refine g_iconst (v := (3 : Int32)) ok d_Mo_close_2 (by decide) ?_
  refine g_invS (rm2 := rm_Mo_within) (As := [vI a3, vI (1 : Int32), vI (3 : Int32)]) (rest := []) ok (c_Mo_within X.1.2.1) cm_Mo_within cs_Mo_within tw_838 ⟨rfl, rfl⟩ ⟨le_t rfl, le_t rfl⟩ ⟨rfl, le_t rfl⟩ ⟨le_t rfl, le_t rfl⟩ d_Mo_close_3 rfl (fun m1 => ?_)
  show G X s 0 0 6 [(0, vR (some k)), (1, vI a1), (2, vI a2), (3, vI a3), (4, vI a4), (5, vI a5)] [vI (f_Mo_within a3 (1 : Int32) (3 : Int32))]
  refine g_if_eq (tgt := 36) ok d_Mo_close_6 (by decide) (fun c2 => ?_) (fun c2 => ?_)
  · replace h := (if_pos c2).symm.trans h
    exact w_j_Mo_close_36 ok hret ht h hk
  · replace h := (if_neg c2).symm.trans h
    refine g_iload (i := 4) 4 ok d_Mo_close_9 rfl ?_
    refine g_iconst (v := (0 : Int32)) ok d_Mo_close_11 (by decide) ?_
    refine g_ldc (v := (100000 : Int32)) ok d_Mo_close_12 tw_861 ?_
    refine g_invS (rm2 := rm_Mo_within) (As := [vI a4, vI (0 : Int32), vI (100000 : Int32)]) (rest := []) ok (c_Mo_within X.1.2.1) cm_Mo_within cs_Mo_within tw_838 ⟨rfl, rfl⟩ ⟨le_t rfl, le_t rfl⟩ ⟨rfl, le_t rfl⟩ ⟨le_t rfl, le_t rfl⟩ d_Mo_close_14 rfl (fun m97 => ?_)
    show G X s 0 0 17 [(0, vR (some k)), (1, vI a1), (2, vI a2), (3, vI a3), (4, vI a4), (5, vI a5)] [vI (f_Mo_within a4 (0 : Int32) (100000 : Int32))]
    refine g_if_eq (tgt := 36) ok d_Mo_close_17 (by decide) (fun c98 => ?_) (fun c98 => ?_)
    · replace h := (if_pos c98).symm.trans h
      exact w_j_Mo_close_36 ok hret ht h hk
    · replace h := (if_neg c98).symm.trans h
      refine g_iload (i := 5) 5 ok d_Mo_close_20 rfl ?_
      refine g_iload (i := 4) 4 ok d_Mo_close_22 rfl ?_
      refine g_ldc (v := (100000 : Int32)) ok d_Mo_close_24 tw_861 ?_
      refine g_invS (rm2 := rm_Mo_within) (As := [vI a5, vI a4, vI (100000 : Int32)]) (rest := []) ok (c_Mo_within X.1.2.1) cm_Mo_within cs_Mo_within tw_838 ⟨rfl, rfl⟩ ⟨le_t rfl, le_t rfl⟩ ⟨rfl, le_t rfl⟩ ⟨le_t rfl, le_t rfl⟩ d_Mo_close_26 rfl (fun m99 => ?_)
      show G X s 0 0 29 [(0, vR (some k)), (1, vI a1), (2, vI a2), (3, vI a3), (4, vI a4), (5, vI a5)] [vI (f_Mo_within a5 a4 (100000 : Int32))]
      refine g_if_eq (tgt := 36) ok d_Mo_close_29 (by decide) (fun c100 => ?_) (fun c100 => ?_)
      · replace h := (if_pos c100).symm.trans h
        exact w_j_Mo_close_36 ok hret ht h hk
      · replace h := (if_neg c100).symm.trans h
        refine g_iconst (v := (1 : Int32)) ok d_Mo_close_32 (by decide) ?_
        refine g_goto (tgt := 37) ok d_Mo_close_33 (by decide) ?_
        exact w_j_Mo_close_37 ok hret ht h hk
theorem c_Mo_close (l : Launch) {k : Nat} {a1 : Int32} {a2 : Int32} {a3 : Int32} {a4 : Int32} {a5 : Int32} {s : MS} (ht : rf s.2.2 20 (some k) = some k) {r : Int32} {z : MS} (h : f_Mo_close k a1 a2 a3 a4 a5 s = some (r, z)) : Ct l yX5_close (.code yX5_close cX5_close 11 (some .int)) rm_Mo_close 0 0 false [vR (some k), vI a1, vI a2, vI a3, vI a4, vI a5] s (some (vI r)) z :=
  Ct.of rfl (by decide +kernel) ⟨rfl, le_t rfl⟩ (fun X ok fn _ hI hl => w_Mo_close (KX := fun y => y = (r, z)) ok (fun y hy => by subst hy; exact fn) ht h rfl)
abbrev rm_Mo_open : Room := { frames := 1, cells := 0, slots := 0, locals := 22 }
theorem cm_Mo_open : cfM yX5_open cX5_open 3 none 1 := ⟨tw_873, tw_4, by decide, by decide, by decide +kernel⟩
theorem cv_Mo_open : cfV yX5_open := ⟨tw_871, tw_872⟩
theorem d_Mo_open_0 : decode cX5_open 0 = .ok (.iload_n 1, 1) := by decide +kernel
theorem d_Mo_open_1 : decode cX5_open 1 = .ok (.iconst 0, 1) := by decide +kernel
theorem d_Mo_open_2 : decode cX5_open 2 = .ok (.aload_n 0, 1) := by decide +kernel
theorem d_Mo_open_3 : decode cX5_open 3 = .ok (.getfield 106, 3) := by decide +kernel
theorem d_Mo_open_6 : decode cX5_open 6 = .ok (.iconst 1, 1) := by decide +kernel
theorem d_Mo_open_7 : decode cX5_open 7 = .ok (.isub, 1) := by decide +kernel
theorem d_Mo_open_8 : decode cX5_open 8 = .ok (.invokestatic 75, 3) := by decide +kernel
theorem d_Mo_open_11 : decode cX5_open 11 = .ok (.istore_n 2, 1) := by decide +kernel
theorem d_Mo_open_12 : decode cX5_open 12 = .ok (.aload_n 0, 1) := by decide +kernel
theorem d_Mo_open_13 : decode cX5_open 13 = .ok (.iload_n 2, 1) := by decide +kernel
theorem d_Mo_open_14 : decode cX5_open 14 = .ok (.ifCond .ne 7, 3) := by decide +kernel
theorem d_Mo_open_17 : decode cX5_open 17 = .ok (.iconst 1, 1) := by decide +kernel
theorem d_Mo_open_18 : decode cX5_open 18 = .ok (.goto 24, 3) := by decide +kernel
theorem d_Mo_open_21 : decode cX5_open 21 = .ok (.aload_n 0, 1) := by decide +kernel
theorem d_Mo_open_22 : decode cX5_open 22 = .ok (.getfield 65, 3) := by decide +kernel
theorem d_Mo_open_25 : decode cX5_open 25 = .ok (.bipush 8, 2) := by decide +kernel
theorem d_Mo_open_27 : decode cX5_open 27 = .ok (.iload_n 1, 1) := by decide +kernel
theorem d_Mo_open_28 : decode cX5_open 28 = .ok (.imul, 1) := by decide +kernel
theorem d_Mo_open_29 : decode cX5_open 29 = .ok (.bipush 7, 2) := by decide +kernel
theorem d_Mo_open_31 : decode cX5_open 31 = .ok (.iadd, 1) := by decide +kernel
theorem d_Mo_open_32 : decode cX5_open 32 = .ok (.iaload, 1) := by decide +kernel
theorem d_Mo_open_33 : decode cX5_open 33 = .ok (.iconst 1, 1) := by decide +kernel
theorem d_Mo_open_34 : decode cX5_open 34 = .ok (.if_icmp .ne 7, 3) := by decide +kernel
theorem d_Mo_open_37 : decode cX5_open 37 = .ok (.iconst 2, 1) := by decide +kernel
theorem d_Mo_open_38 : decode cX5_open 38 = .ok (.goto 4, 3) := by decide +kernel
theorem d_Mo_open_41 : decode cX5_open 41 = .ok (.iconst 0, 1) := by decide +kernel
theorem d_Mo_open_42 : decode cX5_open 42 = .ok (.invokevirtual 89, 3) := by decide +kernel
theorem d_Mo_open_45 : decode cX5_open 45 = .ok (.ifCond .ne 16, 3) := by decide +kernel
theorem d_Mo_open_48 : decode cX5_open 48 = .ok (.aload_n 0, 1) := by decide +kernel
theorem d_Mo_open_49 : decode cX5_open 49 = .ok (.getfield 65, 3) := by decide +kernel
theorem d_Mo_open_52 : decode cX5_open 52 = .ok (.bipush 8, 2) := by decide +kernel
theorem d_Mo_open_54 : decode cX5_open 54 = .ok (.iload_n 1, 1) := by decide +kernel
theorem d_Mo_open_55 : decode cX5_open 55 = .ok (.imul, 1) := by decide +kernel
theorem d_Mo_open_56 : decode cX5_open 56 = .ok (.bipush 7, 2) := by decide +kernel
theorem d_Mo_open_58 : decode cX5_open 58 = .ok (.iadd, 1) := by decide +kernel
theorem d_Mo_open_59 : decode cX5_open 59 = .ok (.iconst 1, 1) := by decide +kernel
theorem d_Mo_open_60 : decode cX5_open 60 = .ok (.iastore, 1) := by decide +kernel
theorem d_Mo_open_61 : decode cX5_open 61 = .ok (.return_, 1) := by decide +kernel
set_option maxRecDepth 100000 in
set_option maxHeartbeats 4000000 in
theorem w_j_Mo_open_42 {X : CX} {KX : MS → Prop} {k : Nat} {a1 : Int32} {t0 : Int32} {t1 : Option Nat} {s : MS} (ok : Ok X cX5_open RX5 rm_Mo_open 3 false) (hret : ∀ r : MS, KX r → Fin X none 0 0 false none r) (ht : rf s.2.2 20 (some k) = some k) {res : MS} (h : j_Mo_open_42 k a1 t0 t1 s = some res) (hk : KX res) : G X s 0 0 42 [(0, vR (some k)), (1, vI a1)] [vI t0, vR t1] := by
  unfold j_Mo_open_42 at h
  obtain ⟨k5, hk6, h⟩ := bnd_go h
  obtain ⟨x10, s9, hc8, h⟩ := bnd2_go h
  refine g_invV (rm2 := rm_Mo_refused) (As := [vI t0]) (rest := []) ok hk6 lay_20 rfl (c_Mo_refused X.1.2.1 (rf_self hk6) hc8) cm_Mo_refused cv_Mo_refused tw_841 ⟨rfl, rfl⟩ ⟨le_t rfl, le_t rfl⟩ ⟨rfl, le_t rfl⟩ ⟨le_t rfl, le_t rfl⟩ d_Mo_open_42 rfl (fun m7 => ?_)
  show G X s9 0 0 45 [(0, vR (some k)), (1, vI a1)] [vI x10]
  refine g_if_ne (tgt := 61) ok d_Mo_open_45 (by decide) (fun c11 => ?_) (fun c11 => ?_)
  · replace h := (if_pos c11).symm.trans h
    refine g_aload_n (i := 0) 0 ok d_Mo_open_48 rfl rfl ?_
    refine g_getr (s0 := 20) (j := 25) (ci := 5) (C := RX5) (T := TX5) (N := 29) ok (rf_mono m7 ht) lay_20 rfl inX5 (by decide) rfl tw_763 rfl d_Mo_open_49 ?_
    refine g_bipush (v := (8 : Int32)) ok d_Mo_open_52 (by decide) ?_
    refine g_iload_n (i := 1) 1 ok d_Mo_open_54 rfl rfl ?_
    refine g_imul ok d_Mo_open_55 ?_
    refine g_bipush (v := (7 : Int32)) ok d_Mo_open_56 (by decide) ?_
    refine g_iadd ok d_Mo_open_58 ?_
    refine g_iconst (v := (1 : Int32)) ok d_Mo_open_59 (by decide) ?_
    obtain ⟨k12, hk13, h⟩ := bnd_go h
    refine g_iast ok hk13 d_Mo_open_60 ?_
    obtain ⟨s14, e15⟩ : ∃ z, wi s9 k12 (((8 : Int32) * a1) + (7 : Int32)).toNatClampNeg (1 : Int32) = z := ⟨_, rfl⟩
    replace h := lt_go h e15
    have m16 := mo_wi e15
    rw [e15]
    cases h
    exact g_vret ok (hret _ hk) (by decide) (by decide) d_Mo_open_61
  · replace h := (if_neg c11).symm.trans h
    cases h
    exact g_vret ok (hret _ hk) (by decide) (by decide) d_Mo_open_61
set_option maxRecDepth 100000 in
set_option maxHeartbeats 4000000 in
theorem w_Mo_open {X : CX} {KX : MS → Prop} {k : Nat} {a1 : Int32} {s : MS} (ok : Ok X cX5_open RX5 rm_Mo_open 3 false) (hret : ∀ r : MS, KX r → Fin X none 0 0 false none r)   (ht : rf s.2.2 20 (some k) = some k) {res : MS} (h : f_Mo_open k a1 s = some res) (hk : KX res) : G X s 0 0 0 [(0, vR (some k)), (1, vI a1)] [] := by
  unfold f_Mo_open at h
  refine g_iload_n (i := 1) 1 ok d_Mo_open_0 rfl rfl ?_
  refine g_iconst (v := (0 : Int32)) ok d_Mo_open_1 (by decide) ?_
  refine g_aload_n (i := 0) 0 ok d_Mo_open_2 rfl rfl ?_
  refine g_geti (s0 := 20) (j := 24) (ci := 5) (C := RX5) (T := TX5) (N := 29) ok ht lay_20 rfl inX5 (by decide) rfl tw_762 rfl d_Mo_open_3 ?_
  refine g_iconst (v := (1 : Int32)) ok d_Mo_open_6 (by decide) ?_
  refine g_isub ok d_Mo_open_7 ?_
  refine g_invS (rm2 := rm_Mo_within) (As := [vI a1, vI (0 : Int32), vI ((s.1 k 24) - (1 : Int32))]) (rest := []) ok (c_Mo_within X.1.2.1) cm_Mo_within cs_Mo_within tw_838 ⟨rfl, rfl⟩ ⟨le_t rfl, le_t rfl⟩ ⟨rfl, le_t rfl⟩ ⟨le_t rfl, le_t rfl⟩ d_Mo_open_8 rfl (fun m1 => ?_)
  show G X s 0 0 11 [(0, vR (some k)), (1, vI a1)] [vI (f_Mo_within a1 (0 : Int32) ((s.1 k 24) - (1 : Int32)))]
  obtain ⟨x2, e3⟩ : ∃ z, (f_Mo_within a1 (0 : Int32) ((s.1 k 24) - (1 : Int32))) = z := ⟨_, rfl⟩
  replace h := lt_go h e3
  rw [e3]
  refine g_istore_n (i := 2) [(2, vI x2), (0, vR (some k)), (1, vI a1)] ok d_Mo_open_11 rfl (by decide) rfl ?_
  refine g_aload_n (i := 0) 1 ok d_Mo_open_12 rfl rfl ?_
  refine g_iload_n (i := 2) 0 ok d_Mo_open_13 rfl rfl ?_
  refine g_if_ne (tgt := 21) ok d_Mo_open_14 (by decide) (fun c4 => ?_) (fun c4 => ?_)
  · replace h := (if_pos c4).symm.trans h
    refine g_iconst (v := (1 : Int32)) ok d_Mo_open_17 (by decide) ?_
    refine g_goto (tgt := 42) ok d_Mo_open_18 (by decide) ?_
    refine g_sub [1, 2] rfl ?_
    exact w_j_Mo_open_42 ok hret ht h hk
  · replace h := (if_neg c4).symm.trans h
    refine g_aload_n (i := 0) 1 ok d_Mo_open_21 rfl rfl ?_
    refine g_getr (s0 := 20) (j := 25) (ci := 5) (C := RX5) (T := TX5) (N := 29) ok ht lay_20 rfl inX5 (by decide) rfl tw_763 rfl d_Mo_open_22 ?_
    refine g_bipush (v := (8 : Int32)) ok d_Mo_open_25 (by decide) ?_
    refine g_iload_n (i := 1) 2 ok d_Mo_open_27 rfl rfl ?_
    refine g_imul ok d_Mo_open_28 ?_
    refine g_bipush (v := (7 : Int32)) ok d_Mo_open_29 (by decide) ?_
    refine g_iadd ok d_Mo_open_31 ?_
    obtain ⟨k17, hk18, h⟩ := bnd_go h
    refine g_iald ok hk18 d_Mo_open_32 ?_
    refine g_iconst (v := (1 : Int32)) ok d_Mo_open_33 (by decide) ?_
    refine g_icmp_ne (tgt := 41) ok d_Mo_open_34 (by decide) (fun c19 => ?_) (fun c19 => ?_)
    · replace h := (if_pos c19).symm.trans h
      refine g_iconst (v := (2 : Int32)) ok d_Mo_open_37 (by decide) ?_
      refine g_goto (tgt := 42) ok d_Mo_open_38 (by decide) ?_
      refine g_sub [1, 2] rfl ?_
      exact w_j_Mo_open_42 ok hret ht h hk
    · replace h := (if_neg c19).symm.trans h
      refine g_iconst (v := (0 : Int32)) ok d_Mo_open_41 (by decide) ?_
      refine g_sub [1, 2] rfl ?_
      exact w_j_Mo_open_42 ok hret ht h hk
theorem c_Mo_open (l : Launch) {k : Nat} {a1 : Int32} {s : MS} (ht : rf s.2.2 20 (some k) = some k) {z : MS} (h : f_Mo_open k a1 s = some z) : Ct l yX5_open (.code yX5_open cX5_open 3 none) rm_Mo_open 0 0 false [vR (some k), vI a1] s none z :=
  Ct.of rfl (by decide +kernel) ⟨rfl, le_t rfl⟩ (fun X ok fn _ hI hl => w_Mo_open (KX := fun y => y = z) ok (fun y hy => by subst hy; exact fn) ht h rfl)
abbrev rm_Mo_machine : Room := { frames := 2, cells := 0, slots := 0, locals := 42 }
theorem cm_Mo_machine : cfM yX5_machine cX5_machine 5 (some .int) 3 := ⟨tw_877, tw_4, by decide, by decide, by decide +kernel⟩
theorem cv_Mo_machine : cfV yX5_machine := ⟨tw_875, tw_876⟩
theorem d_Mo_machine_0 : decode cX5_machine 0 = .ok (.iload_n 1, 1) := by decide +kernel
theorem d_Mo_machine_1 : decode cX5_machine 1 = .ok (.iconst 0, 1) := by decide +kernel
theorem d_Mo_machine_2 : decode cX5_machine 2 = .ok (.iconst 3, 1) := by decide +kernel
theorem d_Mo_machine_3 : decode cX5_machine 3 = .ok (.invokestatic 75, 3) := by decide +kernel
theorem d_Mo_machine_6 : decode cX5_machine 6 = .ok (.ifCond .eq 19, 3) := by decide +kernel
theorem d_Mo_machine_9 : decode cX5_machine 9 = .ok (.iload_n 3, 1) := by decide +kernel
theorem d_Mo_machine_10 : decode cX5_machine 10 = .ok (.bipush 20, 2) := by decide +kernel
theorem d_Mo_machine_12 : decode cX5_machine 12 = .ok (.sipush 200, 3) := by decide +kernel
theorem d_Mo_machine_15 : decode cX5_machine 15 = .ok (.invokestatic 75, 3) := by decide +kernel
theorem d_Mo_machine_18 : decode cX5_machine 18 = .ok (.ifCond .eq 7, 3) := by decide +kernel
theorem d_Mo_machine_21 : decode cX5_machine 21 = .ok (.iconst 1, 1) := by decide +kernel
theorem d_Mo_machine_22 : decode cX5_machine 22 = .ok (.goto 4, 3) := by decide +kernel
theorem d_Mo_machine_25 : decode cX5_machine 25 = .ok (.iconst 0, 1) := by decide +kernel
theorem d_Mo_machine_26 : decode cX5_machine 26 = .ok (.istore 4, 2) := by decide +kernel
theorem d_Mo_machine_28 : decode cX5_machine 28 = .ok (.aload_n 0, 1) := by decide +kernel
theorem d_Mo_machine_29 : decode cX5_machine 29 = .ok (.iload_n 2, 1) := by decide +kernel
theorem d_Mo_machine_30 : decode cX5_machine 30 = .ok (.invokestatic 85, 3) := by decide +kernel
theorem d_Mo_machine_33 : decode cX5_machine 33 = .ok (.ifCond .ne 7, 3) := by decide +kernel
theorem d_Mo_machine_36 : decode cX5_machine 36 = .ok (.iconst 1, 1) := by decide +kernel
theorem d_Mo_machine_37 : decode cX5_machine 37 = .ok (.goto 35, 3) := by decide +kernel
theorem d_Mo_machine_40 : decode cX5_machine 40 = .ok (.iload 4, 2) := by decide +kernel
theorem d_Mo_machine_42 : decode cX5_machine 42 = .ok (.ifCond .ne 7, 3) := by decide +kernel
theorem d_Mo_machine_45 : decode cX5_machine 45 = .ok (.iconst 2, 1) := by decide +kernel
theorem d_Mo_machine_46 : decode cX5_machine 46 = .ok (.goto 26, 3) := by decide +kernel
theorem d_Mo_machine_49 : decode cX5_machine 49 = .ok (.aload_n 0, 1) := by decide +kernel
theorem d_Mo_machine_50 : decode cX5_machine 50 = .ok (.getfield 13, 3) := by decide +kernel
theorem d_Mo_machine_53 : decode cX5_machine 53 = .ok (.iload_n 2, 1) := by decide +kernel
theorem d_Mo_machine_54 : decode cX5_machine 54 = .ok (.baload, 1) := by decide +kernel
theorem d_Mo_machine_55 : decode cX5_machine 55 = .ok (.ifCond .eq 12, 3) := by decide +kernel
theorem d_Mo_machine_58 : decode cX5_machine 58 = .ok (.aload_n 0, 1) := by decide +kernel
theorem d_Mo_machine_59 : decode cX5_machine 59 = .ok (.getfield 79, 3) := by decide +kernel
theorem d_Mo_machine_62 : decode cX5_machine 62 = .ok (.bipush 10, 2) := by decide +kernel
theorem d_Mo_machine_64 : decode cX5_machine 64 = .ok (.if_icmp .ne 7, 3) := by decide +kernel
theorem d_Mo_machine_67 : decode cX5_machine 67 = .ok (.iconst 3, 1) := by decide +kernel
theorem d_Mo_machine_68 : decode cX5_machine 68 = .ok (.goto 4, 3) := by decide +kernel
theorem d_Mo_machine_71 : decode cX5_machine 71 = .ok (.iconst 0, 1) := by decide +kernel
theorem d_Mo_machine_72 : decode cX5_machine 72 = .ok (.invokevirtual 89, 3) := by decide +kernel
theorem d_Mo_machine_75 : decode cX5_machine 75 = .ok (.ifCond .eq 5, 3) := by decide +kernel
theorem d_Mo_machine_78 : decode cX5_machine 78 = .ok (.iconst 0, 1) := by decide +kernel
theorem d_Mo_machine_79 : decode cX5_machine 79 = .ok (.ireturn, 1) := by decide +kernel
theorem d_Mo_machine_80 : decode cX5_machine 80 = .ok (.aload_n 0, 1) := by decide +kernel
theorem d_Mo_machine_81 : decode cX5_machine 81 = .ok (.getfield 23, 3) := by decide +kernel
theorem d_Mo_machine_84 : decode cX5_machine 84 = .ok (.aload_n 0, 1) := by decide +kernel
theorem d_Mo_machine_85 : decode cX5_machine 85 = .ok (.getfield 79, 3) := by decide +kernel
theorem d_Mo_machine_88 : decode cX5_machine 88 = .ok (.iload_n 1, 1) := by decide +kernel
theorem d_Mo_machine_89 : decode cX5_machine 89 = .ok (.iastore, 1) := by decide +kernel
theorem d_Mo_machine_90 : decode cX5_machine 90 = .ok (.aload_n 0, 1) := by decide +kernel
theorem d_Mo_machine_91 : decode cX5_machine 91 = .ok (.getfield 26, 3) := by decide +kernel
theorem d_Mo_machine_94 : decode cX5_machine 94 = .ok (.aload_n 0, 1) := by decide +kernel
theorem d_Mo_machine_95 : decode cX5_machine 95 = .ok (.getfield 79, 3) := by decide +kernel
theorem d_Mo_machine_98 : decode cX5_machine 98 = .ok (.iload_n 3, 1) := by decide +kernel
theorem d_Mo_machine_99 : decode cX5_machine 99 = .ok (.iastore, 1) := by decide +kernel
theorem d_Mo_machine_100 : decode cX5_machine 100 = .ok (.aload_n 0, 1) := by decide +kernel
theorem d_Mo_machine_101 : decode cX5_machine 101 = .ok (.getfield 29, 3) := by decide +kernel
theorem d_Mo_machine_104 : decode cX5_machine 104 = .ok (.aload_n 0, 1) := by decide +kernel
theorem d_Mo_machine_105 : decode cX5_machine 105 = .ok (.getfield 79, 3) := by decide +kernel
theorem d_Mo_machine_108 : decode cX5_machine 108 = .ok (.iload_n 3, 1) := by decide +kernel
theorem d_Mo_machine_109 : decode cX5_machine 109 = .ok (.iastore, 1) := by decide +kernel
theorem d_Mo_machine_110 : decode cX5_machine 110 = .ok (.aload_n 0, 1) := by decide +kernel
theorem d_Mo_machine_111 : decode cX5_machine 111 = .ok (.getfield 32, 3) := by decide +kernel
theorem d_Mo_machine_114 : decode cX5_machine 114 = .ok (.aload_n 0, 1) := by decide +kernel
theorem d_Mo_machine_115 : decode cX5_machine 115 = .ok (.getfield 79, 3) := by decide +kernel
theorem d_Mo_machine_118 : decode cX5_machine 118 = .ok (.iload_n 2, 1) := by decide +kernel
theorem d_Mo_machine_119 : decode cX5_machine 119 = .ok (.iastore, 1) := by decide +kernel
theorem d_Mo_machine_120 : decode cX5_machine 120 = .ok (.aload_n 0, 1) := by decide +kernel
theorem d_Mo_machine_121 : decode cX5_machine 121 = .ok (.getfield 38, 3) := by decide +kernel
theorem d_Mo_machine_124 : decode cX5_machine 124 = .ok (.aload_n 0, 1) := by decide +kernel
theorem d_Mo_machine_125 : decode cX5_machine 125 = .ok (.getfield 79, 3) := by decide +kernel
theorem d_Mo_machine_128 : decode cX5_machine 128 = .ok (.iconst (-1), 1) := by decide +kernel
theorem d_Mo_machine_129 : decode cX5_machine 129 = .ok (.iastore, 1) := by decide +kernel
theorem d_Mo_machine_130 : decode cX5_machine 130 = .ok (.aload_n 0, 1) := by decide +kernel
theorem d_Mo_machine_131 : decode cX5_machine 131 = .ok (.dup, 1) := by decide +kernel
theorem d_Mo_machine_132 : decode cX5_machine 132 = .ok (.getfield 79, 3) := by decide +kernel
theorem d_Mo_machine_135 : decode cX5_machine 135 = .ok (.iconst 1, 1) := by decide +kernel
theorem d_Mo_machine_136 : decode cX5_machine 136 = .ok (.iadd, 1) := by decide +kernel
theorem d_Mo_machine_137 : decode cX5_machine 137 = .ok (.putfield 79, 3) := by decide +kernel
theorem d_Mo_machine_140 : decode cX5_machine 140 = .ok (.aload_n 0, 1) := by decide +kernel
theorem d_Mo_machine_141 : decode cX5_machine 141 = .ok (.getfield 79, 3) := by decide +kernel
theorem d_Mo_machine_144 : decode cX5_machine 144 = .ok (.iconst 1, 1) := by decide +kernel
theorem d_Mo_machine_145 : decode cX5_machine 145 = .ok (.isub, 1) := by decide +kernel
theorem d_Mo_machine_146 : decode cX5_machine 146 = .ok (.ireturn, 1) := by decide +kernel
set_option maxRecDepth 100000 in
set_option maxHeartbeats 4000000 in
theorem w_j_Mo_machine_72 {X : CX} {KX : Int32 × MS → Prop} {k : Nat} {a1 : Int32} {a2 : Int32} {a3 : Int32} {t0 : Int32} {t1 : Option Nat} {s : MS} (ok : Ok X cX5_machine RX5 rm_Mo_machine 5 false) (hret : ∀ r : Int32 × MS, KX r → Fin X (some .int) 0 0 false (some (vI r.1)) r.2) (ht : rf s.2.2 20 (some k) = some k) {res : Int32 × MS} (h : j_Mo_machine_72 k a1 a2 a3 t0 t1 s = some res) (hk : KX res) : G X s 0 0 72 [(0, vR (some k)), (1, vI a1), (2, vI a2), (3, vI a3)] [vI t0, vR t1] := by
  unfold j_Mo_machine_72 at h
  obtain ⟨k5, hk6, h⟩ := bnd_go h
  obtain ⟨x10, s9, hc8, h⟩ := bnd2_go h
  refine g_invV (rm2 := rm_Mo_refused) (As := [vI t0]) (rest := []) ok hk6 lay_20 rfl (c_Mo_refused X.1.2.1 (rf_self hk6) hc8) cm_Mo_refused cv_Mo_refused tw_841 ⟨rfl, rfl⟩ ⟨le_t rfl, le_t rfl⟩ ⟨rfl, le_t rfl⟩ ⟨le_t rfl, le_t rfl⟩ d_Mo_machine_72 rfl (fun m7 => ?_)
  show G X s9 0 0 75 [(0, vR (some k)), (1, vI a1), (2, vI a2), (3, vI a3)] [vI x10]
  refine g_if_eq (tgt := 80) ok d_Mo_machine_75 (by decide) (fun c11 => ?_) (fun c11 => ?_)
  · replace h := (if_pos c11).symm.trans h
    refine g_aload_n (i := 0) 0 ok d_Mo_machine_80 rfl rfl ?_
    refine g_getr (s0 := 20) (j := 8) (ci := 5) (C := RX5) (T := TX5) (N := 29) ok (rf_mono m7 ht) lay_20 rfl inX5 (by decide) rfl tw_746 rfl d_Mo_machine_81 ?_
    refine g_aload_n (i := 0) 0 ok d_Mo_machine_84 rfl rfl ?_
    refine g_geti (s0 := 20) (j := 7) (ci := 5) (C := RX5) (T := TX5) (N := 29) ok (rf_mono m7 ht) lay_20 rfl inX5 (by decide) rfl tw_745 rfl d_Mo_machine_85 ?_
    refine g_iload_n (i := 1) 1 ok d_Mo_machine_88 rfl rfl ?_
    obtain ⟨k12, hk13, h⟩ := bnd_go h
    refine g_iast ok hk13 d_Mo_machine_89 ?_
    obtain ⟨s14, e15⟩ : ∃ z, wi s9 k12 (s9.1 k 7).toNatClampNeg a1 = z := ⟨_, rfl⟩
    replace h := lt_go h e15
    have m16 := mo_wi e15
    rw [e15]
    refine g_aload_n (i := 0) 0 ok d_Mo_machine_90 rfl rfl ?_
    refine g_getr (s0 := 20) (j := 9) (ci := 5) (C := RX5) (T := TX5) (N := 29) ok (rf_mono m16 (rf_mono m7 ht)) lay_20 rfl inX5 (by decide) rfl tw_747 rfl d_Mo_machine_91 ?_
    refine g_aload_n (i := 0) 0 ok d_Mo_machine_94 rfl rfl ?_
    refine g_geti (s0 := 20) (j := 7) (ci := 5) (C := RX5) (T := TX5) (N := 29) ok (rf_mono m16 (rf_mono m7 ht)) lay_20 rfl inX5 (by decide) rfl tw_745 rfl d_Mo_machine_95 ?_
    refine g_iload_n (i := 3) 3 ok d_Mo_machine_98 rfl rfl ?_
    obtain ⟨k17, hk18, h⟩ := bnd_go h
    refine g_iast ok hk18 d_Mo_machine_99 ?_
    obtain ⟨s19, e20⟩ : ∃ z, wi s14 k17 (s14.1 k 7).toNatClampNeg a3 = z := ⟨_, rfl⟩
    replace h := lt_go h e20
    have m21 := mo_wi e20
    rw [e20]
    refine g_aload_n (i := 0) 0 ok d_Mo_machine_100 rfl rfl ?_
    refine g_getr (s0 := 20) (j := 10) (ci := 5) (C := RX5) (T := TX5) (N := 29) ok (rf_mono m21 (rf_mono m16 (rf_mono m7 ht))) lay_20 rfl inX5 (by decide) rfl tw_748 rfl d_Mo_machine_101 ?_
    refine g_aload_n (i := 0) 0 ok d_Mo_machine_104 rfl rfl ?_
    refine g_geti (s0 := 20) (j := 7) (ci := 5) (C := RX5) (T := TX5) (N := 29) ok (rf_mono m21 (rf_mono m16 (rf_mono m7 ht))) lay_20 rfl inX5 (by decide) rfl tw_745 rfl d_Mo_machine_105 ?_
    refine g_iload_n (i := 3) 3 ok d_Mo_machine_108 rfl rfl ?_
    obtain ⟨k22, hk23, h⟩ := bnd_go h
    refine g_iast ok hk23 d_Mo_machine_109 ?_
    obtain ⟨s24, e25⟩ : ∃ z, wi s19 k22 (s19.1 k 7).toNatClampNeg a3 = z := ⟨_, rfl⟩
    replace h := lt_go h e25
    have m26 := mo_wi e25
    rw [e25]
    refine g_aload_n (i := 0) 0 ok d_Mo_machine_110 rfl rfl ?_
    refine g_getr (s0 := 20) (j := 11) (ci := 5) (C := RX5) (T := TX5) (N := 29) ok (rf_mono m26 (rf_mono m21 (rf_mono m16 (rf_mono m7 ht)))) lay_20 rfl inX5 (by decide) rfl tw_749 rfl d_Mo_machine_111 ?_
    refine g_aload_n (i := 0) 0 ok d_Mo_machine_114 rfl rfl ?_
    refine g_geti (s0 := 20) (j := 7) (ci := 5) (C := RX5) (T := TX5) (N := 29) ok (rf_mono m26 (rf_mono m21 (rf_mono m16 (rf_mono m7 ht)))) lay_20 rfl inX5 (by decide) rfl tw_745 rfl d_Mo_machine_115 ?_
    refine g_iload_n (i := 2) 2 ok d_Mo_machine_118 rfl rfl ?_
    obtain ⟨k27, hk28, h⟩ := bnd_go h
    refine g_iast ok hk28 d_Mo_machine_119 ?_
    obtain ⟨s29, e30⟩ : ∃ z, wi s24 k27 (s24.1 k 7).toNatClampNeg a2 = z := ⟨_, rfl⟩
    replace h := lt_go h e30
    have m31 := mo_wi e30
    rw [e30]
    refine g_aload_n (i := 0) 0 ok d_Mo_machine_120 rfl rfl ?_
    refine g_getr (s0 := 20) (j := 13) (ci := 5) (C := RX5) (T := TX5) (N := 29) ok (rf_mono m31 (rf_mono m26 (rf_mono m21 (rf_mono m16 (rf_mono m7 ht))))) lay_20 rfl inX5 (by decide) rfl tw_751 rfl d_Mo_machine_121 ?_
    refine g_aload_n (i := 0) 0 ok d_Mo_machine_124 rfl rfl ?_
    refine g_geti (s0 := 20) (j := 7) (ci := 5) (C := RX5) (T := TX5) (N := 29) ok (rf_mono m31 (rf_mono m26 (rf_mono m21 (rf_mono m16 (rf_mono m7 ht))))) lay_20 rfl inX5 (by decide) rfl tw_745 rfl d_Mo_machine_125 ?_
    refine g_iconst (v := (-1 : Int32)) ok d_Mo_machine_128 (by decide) ?_
    obtain ⟨k32, hk33, h⟩ := bnd_go h
    refine g_iast ok hk33 d_Mo_machine_129 ?_
    obtain ⟨s34, e35⟩ : ∃ z, wi s29 k32 (s29.1 k 7).toNatClampNeg (-1 : Int32) = z := ⟨_, rfl⟩
    replace h := lt_go h e35
    have m36 := mo_wi e35
    rw [e35]
    refine g_aload_n (i := 0) 0 ok d_Mo_machine_130 rfl rfl ?_
    refine g_dup ok d_Mo_machine_131 rfl ?_
    refine g_geti (s0 := 20) (j := 7) (ci := 5) (C := RX5) (T := TX5) (N := 29) ok (rf_mono m36 (rf_mono m31 (rf_mono m26 (rf_mono m21 (rf_mono m16 (rf_mono m7 ht)))))) lay_20 rfl inX5 (by decide) rfl tw_745 rfl d_Mo_machine_132 ?_
    refine g_iconst (v := (1 : Int32)) ok d_Mo_machine_135 (by decide) ?_
    refine g_iadd ok d_Mo_machine_136 ?_
    refine g_puti (s0 := 20) (j := 7) (ci := 5) (C := RX5) (T := TX5) (N := 29) ok (rf_mono m36 (rf_mono m31 (rf_mono m26 (rf_mono m21 (rf_mono m16 (rf_mono m7 ht)))))) lay_20 rfl inX5 (by decide) rfl tw_745 rfl tyX5_ok nmX5 rfl (Or.inl rfl) d_Mo_machine_137 ?_
    obtain ⟨s37, e38⟩ : ∃ z, wi s34 k 7 ((s34.1 k 7) + (1 : Int32)) = z := ⟨_, rfl⟩
    replace h := lt_go h e38
    have m39 := mo_wi e38
    rw [e38]
    refine g_aload_n (i := 0) 0 ok d_Mo_machine_140 rfl rfl ?_
    refine g_geti (s0 := 20) (j := 7) (ci := 5) (C := RX5) (T := TX5) (N := 29) ok (rf_mono m39 (rf_mono m36 (rf_mono m31 (rf_mono m26 (rf_mono m21 (rf_mono m16 (rf_mono m7 ht))))))) lay_20 rfl inX5 (by decide) rfl tw_745 rfl d_Mo_machine_141 ?_
    refine g_iconst (v := (1 : Int32)) ok d_Mo_machine_144 (by decide) ?_
    refine g_isub ok d_Mo_machine_145 ?_
    cases h
    exact g_iret ok (hret _ hk) (by decide) (by decide) d_Mo_machine_146
  · replace h := (if_neg c11).symm.trans h
    refine g_iconst (v := (0 : Int32)) ok d_Mo_machine_78 (by decide) ?_
    cases h
    exact g_iret ok (hret _ hk) (by decide) (by decide) d_Mo_machine_79
set_option maxRecDepth 100000 in
set_option maxHeartbeats 4000000 in
theorem w_j_Mo_machine_67 {X : CX} {KX : Int32 × MS → Prop} {k : Nat} {a1 : Int32} {a2 : Int32} {a3 : Int32} {t0 : Option Nat} {s : MS} (ok : Ok X cX5_machine RX5 rm_Mo_machine 5 false) (hret : ∀ r : Int32 × MS, KX r → Fin X (some .int) 0 0 false (some (vI r.1)) r.2) (ht : rf s.2.2 20 (some k) = some k) {res : Int32 × MS} (h : j_Mo_machine_67 k a1 a2 a3 t0 s = some res) (hk : KX res) : G X s 0 0 67 [(0, vR (some k)), (1, vI a1), (2, vI a2), (3, vI a3)] [vR t0] := by
  unfold j_Mo_machine_67 at h
  refine g_iconst (v := (3 : Int32)) ok d_Mo_machine_67 (by decide) ?_
  refine g_goto (tgt := 72) ok d_Mo_machine_68 (by decide) ?_
  exact w_j_Mo_machine_72 ok hret ht h hk
set_option maxRecDepth 100000 in
set_option maxHeartbeats 4000000 in
theorem w_j_Mo_machine_26 {X : CX} {KX : Int32 × MS → Prop} {k : Nat} {a1 : Int32} {a2 : Int32} {a3 : Int32} {t0 : Int32} {s : MS} (ok : Ok X cX5_machine RX5 rm_Mo_machine 5 false) (hret : ∀ r : Int32 × MS, KX r → Fin X (some .int) 0 0 false (some (vI r.1)) r.2) (ht : rf s.2.2 20 (some k) = some k) {res : Int32 × MS} (h : j_Mo_machine_26 k a1 a2 a3 t0 s = some res) (hk : KX res) : G X s 0 0 26 [(0, vR (some k)), (1, vI a1), (2, vI a2), (3, vI a3)] [vI t0] := by
  unfold j_Mo_machine_26 at h
  refine g_istore (i := 4) [(4, vI t0), (0, vR (some k)), (1, vI a1), (2, vI a2), (3, vI a3)] ok d_Mo_machine_26 (by decide) rfl ?_
  refine g_aload_n (i := 0) 1 ok d_Mo_machine_28 rfl rfl ?_
  refine g_iload_n (i := 2) 3 ok d_Mo_machine_29 rfl rfl ?_
  refine g_invS (rm2 := rm_Mo_isCell) (As := [vI a2]) (rest := [vR (some k)]) ok (c_Mo_isCell X.1.2.1) cm_Mo_isCell cs_Mo_isCell tw_835 ⟨rfl, rfl⟩ ⟨le_t rfl, le_t rfl⟩ ⟨rfl, le_t rfl⟩ ⟨le_t rfl, le_t rfl⟩ d_Mo_machine_30 rfl (fun m3 => ?_)
  show G X s 0 0 33 [(4, vI t0), (0, vR (some k)), (1, vI a1), (2, vI a2), (3, vI a3)] [vI (f_Mo_isCell a2), vR (some k)]
  refine g_if_ne (tgt := 40) ok d_Mo_machine_33 (by decide) (fun c4 => ?_) (fun c4 => ?_)
  · replace h := (if_pos c4).symm.trans h
    refine g_iconst (v := (1 : Int32)) ok d_Mo_machine_36 (by decide) ?_
    refine g_goto (tgt := 72) ok d_Mo_machine_37 (by decide) ?_
    refine g_sub [1, 2, 3, 4] rfl ?_
    exact w_j_Mo_machine_72 ok hret ht h hk
  · replace h := (if_neg c4).symm.trans h
    refine g_iload (i := 4) 0 ok d_Mo_machine_40 rfl ?_
    refine g_if_ne (tgt := 49) ok d_Mo_machine_42 (by decide) (fun c40 => ?_) (fun c40 => ?_)
    · replace h := (if_pos c40).symm.trans h
      refine g_iconst (v := (2 : Int32)) ok d_Mo_machine_45 (by decide) ?_
      refine g_goto (tgt := 72) ok d_Mo_machine_46 (by decide) ?_
      refine g_sub [1, 2, 3, 4] rfl ?_
      exact w_j_Mo_machine_72 ok hret ht h hk
    · replace h := (if_neg c40).symm.trans h
      refine g_aload_n (i := 0) 1 ok d_Mo_machine_49 rfl rfl ?_
      refine g_getr (s0 := 20) (j := 3) (ci := 5) (C := RX5) (T := TX5) (N := 29) ok ht lay_20 rfl inX5 (by decide) rfl tw_741 rfl d_Mo_machine_50 ?_
      refine g_iload_n (i := 2) 3 ok d_Mo_machine_53 rfl rfl ?_
      obtain ⟨k41, hk42, h⟩ := bnd_go h
      refine g_zald ok hk42 d_Mo_machine_54 ?_
      refine g_if_eq (tgt := 67) ok d_Mo_machine_55 (by decide) (fun c43 => ?_) (fun c43 => ?_)
      · replace h := (if_pos c43).symm.trans h
        refine g_sub [1, 2, 3, 4] rfl ?_
        exact w_j_Mo_machine_67 ok hret ht h hk
      · replace h := (if_neg c43).symm.trans h
        refine g_aload_n (i := 0) 1 ok d_Mo_machine_58 rfl rfl ?_
        refine g_geti (s0 := 20) (j := 7) (ci := 5) (C := RX5) (T := TX5) (N := 29) ok ht lay_20 rfl inX5 (by decide) rfl tw_745 rfl d_Mo_machine_59 ?_
        refine g_bipush (v := (10 : Int32)) ok d_Mo_machine_62 (by decide) ?_
        refine g_icmp_ne (tgt := 71) ok d_Mo_machine_64 (by decide) (fun c44 => ?_) (fun c44 => ?_)
        · replace h := (if_pos c44).symm.trans h
          refine g_sub [1, 2, 3, 4] rfl ?_
          exact w_j_Mo_machine_67 ok hret ht h hk
        · replace h := (if_neg c44).symm.trans h
          refine g_iconst (v := (0 : Int32)) ok d_Mo_machine_71 (by decide) ?_
          refine g_sub [1, 2, 3, 4] rfl ?_
          exact w_j_Mo_machine_72 ok hret ht h hk
set_option maxRecDepth 100000 in
set_option maxHeartbeats 4000000 in
theorem w_j_Mo_machine_25 {X : CX} {KX : Int32 × MS → Prop} {k : Nat} {a1 : Int32} {a2 : Int32} {a3 : Int32} {s : MS} (ok : Ok X cX5_machine RX5 rm_Mo_machine 5 false) (hret : ∀ r : Int32 × MS, KX r → Fin X (some .int) 0 0 false (some (vI r.1)) r.2) (ht : rf s.2.2 20 (some k) = some k) {res : Int32 × MS} (h : j_Mo_machine_25 k a1 a2 a3 s = some res) (hk : KX res) : G X s 0 0 25 [(0, vR (some k)), (1, vI a1), (2, vI a2), (3, vI a3)] [] := by
  unfold j_Mo_machine_25 at h
  refine g_iconst (v := (0 : Int32)) ok d_Mo_machine_25 (by decide) ?_
  exact w_j_Mo_machine_26 ok hret ht h hk
set_option maxRecDepth 100000 in
set_option maxHeartbeats 4000000 in
theorem w_Mo_machine {X : CX} {KX : Int32 × MS → Prop} {k : Nat} {a1 : Int32} {a2 : Int32} {a3 : Int32} {s : MS} (ok : Ok X cX5_machine RX5 rm_Mo_machine 5 false) (hret : ∀ r : Int32 × MS, KX r → Fin X (some .int) 0 0 false (some (vI r.1)) r.2)   (ht : rf s.2.2 20 (some k) = some k) {res : Int32 × MS} (h : f_Mo_machine k a1 a2 a3 s = some res) (hk : KX res) : G X s 0 0 0 [(0, vR (some k)), (1, vI a1), (2, vI a2), (3, vI a3)] [] := by
  unfold f_Mo_machine at h
  refine g_iload_n (i := 1) 1 ok d_Mo_machine_0 rfl rfl ?_
  refine g_iconst (v := (0 : Int32)) ok d_Mo_machine_1 (by decide) ?_
  refine g_iconst (v := (3 : Int32)) ok d_Mo_machine_2 (by decide) ?_
  refine g_invS (rm2 := rm_Mo_within) (As := [vI a1, vI (0 : Int32), vI (3 : Int32)]) (rest := []) ok (c_Mo_within X.1.2.1) cm_Mo_within cs_Mo_within tw_838 ⟨rfl, rfl⟩ ⟨le_t rfl, le_t rfl⟩ ⟨rfl, le_t rfl⟩ ⟨le_t rfl, le_t rfl⟩ d_Mo_machine_3 rfl (fun m1 => ?_)
  show G X s 0 0 6 [(0, vR (some k)), (1, vI a1), (2, vI a2), (3, vI a3)] [vI (f_Mo_within a1 (0 : Int32) (3 : Int32))]
  refine g_if_eq (tgt := 25) ok d_Mo_machine_6 (by decide) (fun c2 => ?_) (fun c2 => ?_)
  · replace h := (if_pos c2).symm.trans h
    exact w_j_Mo_machine_25 ok hret ht h hk
  · replace h := (if_neg c2).symm.trans h
    refine g_iload_n (i := 3) 3 ok d_Mo_machine_9 rfl rfl ?_
    refine g_bipush (v := (20 : Int32)) ok d_Mo_machine_10 (by decide) ?_
    refine g_sipush (v := (200 : Int32)) ok d_Mo_machine_12 (by decide) ?_
    refine g_invS (rm2 := rm_Mo_within) (As := [vI a3, vI (20 : Int32), vI (200 : Int32)]) (rest := []) ok (c_Mo_within X.1.2.1) cm_Mo_within cs_Mo_within tw_838 ⟨rfl, rfl⟩ ⟨le_t rfl, le_t rfl⟩ ⟨rfl, le_t rfl⟩ ⟨le_t rfl, le_t rfl⟩ d_Mo_machine_15 rfl (fun m45 => ?_)
    show G X s 0 0 18 [(0, vR (some k)), (1, vI a1), (2, vI a2), (3, vI a3)] [vI (f_Mo_within a3 (20 : Int32) (200 : Int32))]
    refine g_if_eq (tgt := 25) ok d_Mo_machine_18 (by decide) (fun c46 => ?_) (fun c46 => ?_)
    · replace h := (if_pos c46).symm.trans h
      exact w_j_Mo_machine_25 ok hret ht h hk
    · replace h := (if_neg c46).symm.trans h
      refine g_iconst (v := (1 : Int32)) ok d_Mo_machine_21 (by decide) ?_
      refine g_goto (tgt := 26) ok d_Mo_machine_22 (by decide) ?_
      exact w_j_Mo_machine_26 ok hret ht h hk
theorem c_Mo_machine (l : Launch) {k : Nat} {a1 : Int32} {a2 : Int32} {a3 : Int32} {s : MS} (ht : rf s.2.2 20 (some k) = some k) {r : Int32} {z : MS} (h : f_Mo_machine k a1 a2 a3 s = some (r, z)) : Ct l yX5_machine (.code yX5_machine cX5_machine 5 (some .int)) rm_Mo_machine 0 0 false [vR (some k), vI a1, vI a2, vI a3] s (some (vI r)) z :=
  Ct.of rfl (by decide +kernel) ⟨rfl, le_t rfl⟩ (fun X ok fn _ hI hl => w_Mo_machine (KX := fun y => y = (r, z)) ok (fun y hy => by subst hy; exact fn) ht h rfl)
abbrev rm_Mo_move : Room := { frames := 1, cells := 0, slots := 0, locals := 22 }
theorem cm_Mo_move : cfM yX5_move cX5_move 4 (some .int) 2 := ⟨tw_881, tw_4, by decide, by decide, by decide +kernel⟩
theorem cv_Mo_move : cfV yX5_move := ⟨tw_879, tw_880⟩
theorem d_Mo_move_0 : decode cX5_move 0 = .ok (.aload_n 0, 1) := by decide +kernel
theorem d_Mo_move_1 : decode cX5_move 1 = .ok (.iload_n 1, 1) := by decide +kernel
theorem d_Mo_move_2 : decode cX5_move 2 = .ok (.iconst 0, 1) := by decide +kernel
theorem d_Mo_move_3 : decode cX5_move 3 = .ok (.bipush 6, 2) := by decide +kernel
theorem d_Mo_move_5 : decode cX5_move 5 = .ok (.invokestatic 75, 3) := by decide +kernel
theorem d_Mo_move_8 : decode cX5_move 8 = .ok (.ifCond .eq 13, 3) := by decide +kernel
theorem d_Mo_move_11 : decode cX5_move 11 = .ok (.iload_n 2, 1) := by decide +kernel
theorem d_Mo_move_12 : decode cX5_move 12 = .ok (.iconst 1, 1) := by decide +kernel
theorem d_Mo_move_13 : decode cX5_move 13 = .ok (.bipush 10, 2) := by decide +kernel
theorem d_Mo_move_15 : decode cX5_move 15 = .ok (.invokestatic 75, 3) := by decide +kernel
theorem d_Mo_move_18 : decode cX5_move 18 = .ok (.ifCond .ne 7, 3) := by decide +kernel
theorem d_Mo_move_21 : decode cX5_move 21 = .ok (.iconst 1, 1) := by decide +kernel
theorem d_Mo_move_22 : decode cX5_move 22 = .ok (.goto 19, 3) := by decide +kernel
theorem d_Mo_move_25 : decode cX5_move 25 = .ok (.aload_n 0, 1) := by decide +kernel
theorem d_Mo_move_26 : decode cX5_move 26 = .ok (.getfield 117, 3) := by decide +kernel
theorem d_Mo_move_29 : decode cX5_move 29 = .ok (.iload_n 2, 1) := by decide +kernel
theorem d_Mo_move_30 : decode cX5_move 30 = .ok (.iadd, 1) := by decide +kernel
theorem d_Mo_move_31 : decode cX5_move 31 = .ok (.bipush 40, 2) := by decide +kernel
theorem d_Mo_move_33 : decode cX5_move 33 = .ok (.if_icmp .le 7, 3) := by decide +kernel
theorem d_Mo_move_36 : decode cX5_move 36 = .ok (.iconst 2, 1) := by decide +kernel
theorem d_Mo_move_37 : decode cX5_move 37 = .ok (.goto 4, 3) := by decide +kernel
theorem d_Mo_move_40 : decode cX5_move 40 = .ok (.iconst 0, 1) := by decide +kernel
theorem d_Mo_move_41 : decode cX5_move 41 = .ok (.invokevirtual 89, 3) := by decide +kernel
theorem d_Mo_move_44 : decode cX5_move 44 = .ok (.ifCond .eq 5, 3) := by decide +kernel
theorem d_Mo_move_47 : decode cX5_move 47 = .ok (.iconst 0, 1) := by decide +kernel
theorem d_Mo_move_48 : decode cX5_move 48 = .ok (.ireturn, 1) := by decide +kernel
theorem d_Mo_move_49 : decode cX5_move 49 = .ok (.iconst 0, 1) := by decide +kernel
theorem d_Mo_move_50 : decode cX5_move 50 = .ok (.istore_n 3, 1) := by decide +kernel
theorem d_Mo_move_51 : decode cX5_move 51 = .ok (.iload_n 3, 1) := by decide +kernel
theorem d_Mo_move_52 : decode cX5_move 52 = .ok (.iload_n 2, 1) := by decide +kernel
theorem d_Mo_move_53 : decode cX5_move 53 = .ok (.if_icmp .ge 29, 3) := by decide +kernel
theorem d_Mo_move_56 : decode cX5_move 56 = .ok (.aload_n 0, 1) := by decide +kernel
theorem d_Mo_move_57 : decode cX5_move 57 = .ok (.getfield 44, 3) := by decide +kernel
theorem d_Mo_move_60 : decode cX5_move 60 = .ok (.aload_n 0, 1) := by decide +kernel
theorem d_Mo_move_61 : decode cX5_move 61 = .ok (.getfield 117, 3) := by decide +kernel
theorem d_Mo_move_64 : decode cX5_move 64 = .ok (.iload_n 1, 1) := by decide +kernel
theorem d_Mo_move_65 : decode cX5_move 65 = .ok (.iastore, 1) := by decide +kernel
theorem d_Mo_move_66 : decode cX5_move 66 = .ok (.aload_n 0, 1) := by decide +kernel
theorem d_Mo_move_67 : decode cX5_move 67 = .ok (.dup, 1) := by decide +kernel
theorem d_Mo_move_68 : decode cX5_move 68 = .ok (.getfield 117, 3) := by decide +kernel
theorem d_Mo_move_71 : decode cX5_move 71 = .ok (.iconst 1, 1) := by decide +kernel
theorem d_Mo_move_72 : decode cX5_move 72 = .ok (.iadd, 1) := by decide +kernel
theorem d_Mo_move_73 : decode cX5_move 73 = .ok (.putfield 117, 3) := by decide +kernel
theorem d_Mo_move_76 : decode cX5_move 76 = .ok (.iinc 3 1, 3) := by decide +kernel
theorem d_Mo_move_79 : decode cX5_move 79 = .ok (.goto (-28), 3) := by decide +kernel
theorem d_Mo_move_82 : decode cX5_move 82 = .ok (.aload_n 0, 1) := by decide +kernel
theorem d_Mo_move_83 : decode cX5_move 83 = .ok (.getfield 117, 3) := by decide +kernel
theorem d_Mo_move_86 : decode cX5_move 86 = .ok (.ireturn, 1) := by decide +kernel
set_option maxRecDepth 100000 in
set_option maxHeartbeats 4000000 in
theorem w_b_Mo_move_51 {X : CX} {KX : MS → Prop} {k : Nat} {a1 : Int32} {a2 : Int32} {a3 : Int32} {s : MS} {rec : Int32 → MS → Option (MS)} {sb : MS} (ok : Ok X cX5_move RX5 rm_Mo_move 4 false) (hexit : ∀ (z : MS), KX z → (∀ q, dm sb q → dm z q) → G X z 0 0 82 [(0, vR (some k))] []) (hrec : ∀ (v3 : Int32) (z : MS), (∀ q, dm sb q → dm z q) → ∀ y, rec v3 z = some y → KX y → G X z 0 0 51 [(0, vR (some k)), (1, vI a1), (2, vI a2), (3, vI v3)] []) (mb : ∀ q, dm sb q → dm s q) (ht : rf s.2.2 20 (some k) = some k) {res : MS} (h : b_Mo_move_51 k a1 a2 a3 s rec = some res) (hk : KX res) : G X s 0 0 51 [(0, vR (some k)), (1, vI a1), (2, vI a2), (3, vI a3)] [] := by
  unfold b_Mo_move_51 at h
  refine g_iload_n (i := 3) 3 ok d_Mo_move_51 rfl rfl ?_
  refine g_iload_n (i := 2) 2 ok d_Mo_move_52 rfl rfl ?_
  refine g_icmp_ge (tgt := 82) ok d_Mo_move_53 (by decide) (fun c10 => ?_) (fun c10 => ?_)
  · replace h := (if_pos c10).symm.trans h
    refine g_aload_n (i := 0) 0 ok d_Mo_move_56 rfl rfl ?_
    refine g_getr (s0 := 20) (j := 16) (ci := 5) (C := RX5) (T := TX5) (N := 29) ok ht lay_20 rfl inX5 (by decide) rfl tw_754 rfl d_Mo_move_57 ?_
    refine g_aload_n (i := 0) 0 ok d_Mo_move_60 rfl rfl ?_
    refine g_geti (s0 := 20) (j := 15) (ci := 5) (C := RX5) (T := TX5) (N := 29) ok ht lay_20 rfl inX5 (by decide) rfl tw_753 rfl d_Mo_move_61 ?_
    refine g_iload_n (i := 1) 1 ok d_Mo_move_64 rfl rfl ?_
    obtain ⟨k11, hk12, h⟩ := bnd_go h
    refine g_iast ok hk12 d_Mo_move_65 ?_
    obtain ⟨s13, e14⟩ : ∃ z, wi s k11 (s.1 k 15).toNatClampNeg a1 = z := ⟨_, rfl⟩
    replace h := lt_go h e14
    have m15 := mo_wi e14
    rw [e14]
    refine g_aload_n (i := 0) 0 ok d_Mo_move_66 rfl rfl ?_
    refine g_dup ok d_Mo_move_67 rfl ?_
    refine g_geti (s0 := 20) (j := 15) (ci := 5) (C := RX5) (T := TX5) (N := 29) ok (rf_mono m15 ht) lay_20 rfl inX5 (by decide) rfl tw_753 rfl d_Mo_move_68 ?_
    refine g_iconst (v := (1 : Int32)) ok d_Mo_move_71 (by decide) ?_
    refine g_iadd ok d_Mo_move_72 ?_
    refine g_puti (s0 := 20) (j := 15) (ci := 5) (C := RX5) (T := TX5) (N := 29) ok (rf_mono m15 ht) lay_20 rfl inX5 (by decide) rfl tw_753 rfl tyX5_ok nmX5 rfl (Or.inl rfl) d_Mo_move_73 ?_
    obtain ⟨s16, e17⟩ : ∃ z, wi s13 k 15 ((s13.1 k 15) + (1 : Int32)) = z := ⟨_, rfl⟩
    replace h := lt_go h e17
    have m18 := mo_wi e17
    rw [e17]
    obtain ⟨x19, e20⟩ : ∃ z, a3 + (1 : Int32) = z := ⟨_, rfl⟩
    replace h := lt_go h e20
    refine g_iinc (i := 3) (v := x19) 3 [(3, vI x19), (0, vR (some k)), (1, vI a1), (2, vI a2)] ok d_Mo_move_76 rfl (by rw [← e20]; rfl) (by decide) rfl ?_
    refine g_goto (tgt := 51) ok d_Mo_move_79 (by decide) ?_
    refine g_sub [1, 2, 3, 0] rfl ?_
    exact hrec x19 s16 (fun z hz => m18 z ((fun z hz => m15 z (mb z hz)) z hz)) _ h hk
  · replace h := (if_neg c10).symm.trans h
    refine g_sub [0] rfl ?_
    cases h
    exact hexit s hk mb
theorem wx_l_Mo_move_51 {X : CX} {KX : MS → Prop} {k : Nat} {a1 : Int32} {a2 : Int32} {sb : MS} (ok : Ok X cX5_move RX5 rm_Mo_move 4 false) (hexit : ∀ (z : MS), KX z → (∀ q, dm sb q → dm z q) → G X z 0 0 82 [(0, vR (some k))] []) (htb : rf sb.2.2 20 (some k) = some k) : ∀ (n : Nat) (a3 : Int32) (s : MS), (∀ q, dm sb q → dm s q) → ∀ (res : MS), l_Mo_move_51 k a1 a2 n a3 s = some res → KX res → G X s 0 0 51 [(0, vR (some k)), (1, vI a1), (2, vI a2), (3, vI a3)] [] := by
  intro n
  induction n with
  | zero => intro _ s _ res h; cases h
  | succ n ih =>
    intro a3 s mb res h hk
    exact w_b_Mo_move_51 ok hexit (fun v3 z hz y h2 hk2 => ih v3 z hz y h2 hk2) mb (rf_mono mb htb) h hk
theorem w_l_Mo_move_51 {X : CX} {KX : MS → Prop} {k : Nat} {a1 : Int32} {a2 : Int32} {sb : MS} (ok : Ok X cX5_move RX5 rm_Mo_move 4 false) (hexit : ∀ (z : MS), KX z → (∀ q, dm sb q → dm z q) → G X z 0 0 82 [(0, vR (some k))] []) (mb : ∀ q, dm sb q → dm sb q) (htb : rf sb.2.2 20 (some k) = some k) (n : Nat) (a3 : Int32) {res : MS} (h : l_Mo_move_51 k a1 a2 n a3 sb = some res) (hk : KX res) : G X sb 0 0 51 [(0, vR (some k)), (1, vI a1), (2, vI a2), (3, vI a3)] [] := wx_l_Mo_move_51 ok hexit htb n a3 sb mb res h hk
set_option maxRecDepth 100000 in
set_option maxHeartbeats 4000000 in
theorem w_j_Mo_move_41 {X : CX} {KX : Int32 × MS → Prop} {k : Nat} {a1 : Int32} {a2 : Int32} {t0 : Int32} {t1 : Option Nat} {s : MS} (ok : Ok X cX5_move RX5 rm_Mo_move 4 false) (hret : ∀ r : Int32 × MS, KX r → Fin X (some .int) 0 0 false (some (vI r.1)) r.2) (ht : rf s.2.2 20 (some k) = some k) {res : Int32 × MS} (h : j_Mo_move_41 k a1 a2 t0 t1 s = some res) (hk : KX res) : G X s 0 0 41 [(0, vR (some k)), (1, vI a1), (2, vI a2)] [vI t0, vR t1] := by
  unfold j_Mo_move_41 at h
  obtain ⟨k3, hk4, h⟩ := bnd_go h
  obtain ⟨x8, s7, hc6, h⟩ := bnd2_go h
  refine g_invV (rm2 := rm_Mo_refused) (As := [vI t0]) (rest := []) ok hk4 lay_20 rfl (c_Mo_refused X.1.2.1 (rf_self hk4) hc6) cm_Mo_refused cv_Mo_refused tw_841 ⟨rfl, rfl⟩ ⟨le_t rfl, le_t rfl⟩ ⟨rfl, le_t rfl⟩ ⟨le_t rfl, le_t rfl⟩ d_Mo_move_41 rfl (fun m5 => ?_)
  show G X s7 0 0 44 [(0, vR (some k)), (1, vI a1), (2, vI a2)] [vI x8]
  refine g_if_eq (tgt := 49) ok d_Mo_move_44 (by decide) (fun c9 => ?_) (fun c9 => ?_)
  · replace h := (if_pos c9).symm.trans h
    refine g_iconst (v := (0 : Int32)) ok d_Mo_move_49 (by decide) ?_
    refine g_istore_n (i := 3) [(3, vI (0 : Int32)), (0, vR (some k)), (1, vI a1), (2, vI a2)] ok d_Mo_move_50 rfl (by decide) rfl ?_
    refine g_sub [1, 2, 3, 0] rfl ?_
    obtain ⟨s22, hx, h⟩ := bnd_go h
    refine w_l_Mo_move_51 (KX := fun y => y = s22) ok (fun y0 he m21 => ?_) (fun _ hz => hz) (rf_mono m5 ht) _ _ hx rfl
    cases he
    refine g_aload_n (i := 0) 0 ok d_Mo_move_82 rfl rfl ?_
    refine g_geti (s0 := 20) (j := 15) (ci := 5) (C := RX5) (T := TX5) (N := 29) ok (rf_mono m21 (rf_mono m5 ht)) lay_20 rfl inX5 (by decide) rfl tw_753 rfl d_Mo_move_83 ?_
    cases h
    exact g_iret ok (hret _ hk) (by decide) (by decide) d_Mo_move_86
  · replace h := (if_neg c9).symm.trans h
    refine g_iconst (v := (0 : Int32)) ok d_Mo_move_47 (by decide) ?_
    cases h
    exact g_iret ok (hret _ hk) (by decide) (by decide) d_Mo_move_48
set_option maxRecDepth 100000 in
set_option maxHeartbeats 4000000 in
theorem w_j_Mo_move_21 {X : CX} {KX : Int32 × MS → Prop} {k : Nat} {a1 : Int32} {a2 : Int32} {t0 : Option Nat} {s : MS} (ok : Ok X cX5_move RX5 rm_Mo_move 4 false) (hret : ∀ r : Int32 × MS, KX r → Fin X (some .int) 0 0 false (some (vI r.1)) r.2) (ht : rf s.2.2 20 (some k) = some k) {res : Int32 × MS} (h : j_Mo_move_21 k a1 a2 t0 s = some res) (hk : KX res) : G X s 0 0 21 [(0, vR (some k)), (1, vI a1), (2, vI a2)] [vR t0] := by
  unfold j_Mo_move_21 at h
  refine g_iconst (v := (1 : Int32)) ok d_Mo_move_21 (by decide) ?_
  refine g_goto (tgt := 41) ok d_Mo_move_22 (by decide) ?_
  exact w_j_Mo_move_41 ok hret ht h hk
set_option maxRecDepth 100000 in
set_option maxHeartbeats 4000000 in
theorem w_Mo_move {X : CX} {KX : Int32 × MS → Prop} {k : Nat} {a1 : Int32} {a2 : Int32} {s : MS} (ok : Ok X cX5_move RX5 rm_Mo_move 4 false) (hret : ∀ r : Int32 × MS, KX r → Fin X (some .int) 0 0 false (some (vI r.1)) r.2)   (ht : rf s.2.2 20 (some k) = some k) {res : Int32 × MS} (h : f_Mo_move k a1 a2 s = some res) (hk : KX res) : G X s 0 0 0 [(0, vR (some k)), (1, vI a1), (2, vI a2)] [] := by
  unfold f_Mo_move at h
  refine g_aload_n (i := 0) 0 ok d_Mo_move_0 rfl rfl ?_
  refine g_iload_n (i := 1) 1 ok d_Mo_move_1 rfl rfl ?_
  refine g_iconst (v := (0 : Int32)) ok d_Mo_move_2 (by decide) ?_
  refine g_bipush (v := (6 : Int32)) ok d_Mo_move_3 (by decide) ?_
  refine g_invS (rm2 := rm_Mo_within) (As := [vI a1, vI (0 : Int32), vI (6 : Int32)]) (rest := [vR (some k)]) ok (c_Mo_within X.1.2.1) cm_Mo_within cs_Mo_within tw_838 ⟨rfl, rfl⟩ ⟨le_t rfl, le_t rfl⟩ ⟨rfl, le_t rfl⟩ ⟨le_t rfl, le_t rfl⟩ d_Mo_move_5 rfl (fun m1 => ?_)
  show G X s 0 0 8 [(0, vR (some k)), (1, vI a1), (2, vI a2)] [vI (f_Mo_within a1 (0 : Int32) (6 : Int32)), vR (some k)]
  refine g_if_eq (tgt := 21) ok d_Mo_move_8 (by decide) (fun c2 => ?_) (fun c2 => ?_)
  · replace h := (if_pos c2).symm.trans h
    exact w_j_Mo_move_21 ok hret ht h hk
  · replace h := (if_neg c2).symm.trans h
    refine g_iload_n (i := 2) 2 ok d_Mo_move_11 rfl rfl ?_
    refine g_iconst (v := (1 : Int32)) ok d_Mo_move_12 (by decide) ?_
    refine g_bipush (v := (10 : Int32)) ok d_Mo_move_13 (by decide) ?_
    refine g_invS (rm2 := rm_Mo_within) (As := [vI a2, vI (1 : Int32), vI (10 : Int32)]) (rest := [vR (some k)]) ok (c_Mo_within X.1.2.1) cm_Mo_within cs_Mo_within tw_838 ⟨rfl, rfl⟩ ⟨le_t rfl, le_t rfl⟩ ⟨rfl, le_t rfl⟩ ⟨le_t rfl, le_t rfl⟩ d_Mo_move_15 rfl (fun m23 => ?_)
    show G X s 0 0 18 [(0, vR (some k)), (1, vI a1), (2, vI a2)] [vI (f_Mo_within a2 (1 : Int32) (10 : Int32)), vR (some k)]
    refine g_if_ne (tgt := 25) ok d_Mo_move_18 (by decide) (fun c24 => ?_) (fun c24 => ?_)
    · replace h := (if_pos c24).symm.trans h
      exact w_j_Mo_move_21 ok hret ht h hk
    · replace h := (if_neg c24).symm.trans h
      refine g_aload_n (i := 0) 0 ok d_Mo_move_25 rfl rfl ?_
      refine g_geti (s0 := 20) (j := 15) (ci := 5) (C := RX5) (T := TX5) (N := 29) ok ht lay_20 rfl inX5 (by decide) rfl tw_753 rfl d_Mo_move_26 ?_
      refine g_iload_n (i := 2) 2 ok d_Mo_move_29 rfl rfl ?_
      refine g_iadd ok d_Mo_move_30 ?_
      refine g_bipush (v := (40 : Int32)) ok d_Mo_move_31 (by decide) ?_
      refine g_icmp_le (tgt := 40) ok d_Mo_move_33 (by decide) (fun c25 => ?_) (fun c25 => ?_)
      · replace h := (if_pos c25).symm.trans h
        refine g_iconst (v := (2 : Int32)) ok d_Mo_move_36 (by decide) ?_
        refine g_goto (tgt := 41) ok d_Mo_move_37 (by decide) ?_
        exact w_j_Mo_move_41 ok hret ht h hk
      · replace h := (if_neg c25).symm.trans h
        refine g_iconst (v := (0 : Int32)) ok d_Mo_move_40 (by decide) ?_
        exact w_j_Mo_move_41 ok hret ht h hk
theorem c_Mo_move (l : Launch) {k : Nat} {a1 : Int32} {a2 : Int32} {s : MS} (ht : rf s.2.2 20 (some k) = some k) {r : Int32} {z : MS} (h : f_Mo_move k a1 a2 s = some (r, z)) : Ct l yX5_move (.code yX5_move cX5_move 4 (some .int)) rm_Mo_move 0 0 false [vR (some k), vI a1, vI a2] s (some (vI r)) z :=
  Ct.of rfl (by decide +kernel) ⟨rfl, le_t rfl⟩ (fun X ok fn _ hI hl => w_Mo_move (KX := fun y => y = (r, z)) ok (fun y hy => by subst hy; exact fn) ht h rfl)
abbrev rm_Mo_clear : Room := { frames := 0, cells := 0, slots := 0, locals := 0 }
theorem cm_Mo_clear : cfM yX5_clear cX5_clear 2 (some .int) 0 := ⟨tw_885, tw_4, by decide, by decide, by decide +kernel⟩
theorem cv_Mo_clear : cfV yX5_clear := ⟨tw_883, tw_884⟩
theorem d_Mo_clear_0 : decode cX5_clear 0 = .ok (.aload_n 0, 1) := by decide +kernel
theorem d_Mo_clear_1 : decode cX5_clear 1 = .ok (.iconst 0, 1) := by decide +kernel
theorem d_Mo_clear_2 : decode cX5_clear 2 = .ok (.putfield 72, 3) := by decide +kernel
theorem d_Mo_clear_5 : decode cX5_clear 5 = .ok (.aload_n 0, 1) := by decide +kernel
theorem d_Mo_clear_6 : decode cX5_clear 6 = .ok (.getfield 117, 3) := by decide +kernel
theorem d_Mo_clear_9 : decode cX5_clear 9 = .ok (.istore_n 1, 1) := by decide +kernel
theorem d_Mo_clear_10 : decode cX5_clear 10 = .ok (.aload_n 0, 1) := by decide +kernel
theorem d_Mo_clear_11 : decode cX5_clear 11 = .ok (.iconst 0, 1) := by decide +kernel
theorem d_Mo_clear_12 : decode cX5_clear 12 = .ok (.putfield 117, 3) := by decide +kernel
theorem d_Mo_clear_15 : decode cX5_clear 15 = .ok (.iload_n 1, 1) := by decide +kernel
theorem d_Mo_clear_16 : decode cX5_clear 16 = .ok (.ireturn, 1) := by decide +kernel
set_option maxRecDepth 100000 in
set_option maxHeartbeats 4000000 in
theorem w_Mo_clear {X : CX} {KX : Int32 × MS → Prop} {k : Nat} {s : MS} (ok : Ok X cX5_clear RX5 rm_Mo_clear 2 false) (hret : ∀ r : Int32 × MS, KX r → Fin X (some .int) 0 0 false (some (vI r.1)) r.2)   (ht : rf s.2.2 20 (some k) = some k) {res : Int32 × MS} (h : f_Mo_clear k s = some res) (hk : KX res) : G X s 0 0 0 [(0, vR (some k))] [] := by
  unfold f_Mo_clear at h
  refine g_aload_n (i := 0) 0 ok d_Mo_clear_0 rfl rfl ?_
  refine g_iconst (v := (0 : Int32)) ok d_Mo_clear_1 (by decide) ?_
  refine g_puti (s0 := 20) (j := 0) (ci := 5) (C := RX5) (T := TX5) (N := 29) ok ht lay_20 rfl inX5 (by decide) rfl tw_738 rfl tyX5_ok nmX5 rfl (Or.inl rfl) d_Mo_clear_2 ?_
  obtain ⟨s1, e2⟩ : ∃ z, wi s k 0 (0 : Int32) = z := ⟨_, rfl⟩
  replace h := lt_go h e2
  have m3 := mo_wi e2
  rw [e2]
  refine g_aload_n (i := 0) 0 ok d_Mo_clear_5 rfl rfl ?_
  refine g_geti (s0 := 20) (j := 15) (ci := 5) (C := RX5) (T := TX5) (N := 29) ok (rf_mono m3 ht) lay_20 rfl inX5 (by decide) rfl tw_753 rfl d_Mo_clear_6 ?_
  obtain ⟨x4, e5⟩ : ∃ z, (s1.1 k 15) = z := ⟨_, rfl⟩
  replace h := lt_go h e5
  rw [e5]
  refine g_istore_n (i := 1) [(1, vI x4), (0, vR (some k))] ok d_Mo_clear_9 rfl (by decide) rfl ?_
  refine g_aload_n (i := 0) 1 ok d_Mo_clear_10 rfl rfl ?_
  refine g_iconst (v := (0 : Int32)) ok d_Mo_clear_11 (by decide) ?_
  refine g_puti (s0 := 20) (j := 15) (ci := 5) (C := RX5) (T := TX5) (N := 29) ok (rf_mono m3 ht) lay_20 rfl inX5 (by decide) rfl tw_753 rfl tyX5_ok nmX5 rfl (Or.inl rfl) d_Mo_clear_12 ?_
  obtain ⟨s6, e7⟩ : ∃ z, wi s1 k 15 (0 : Int32) = z := ⟨_, rfl⟩
  replace h := lt_go h e7
  have m8 := mo_wi e7
  rw [e7]
  refine g_iload_n (i := 1) 0 ok d_Mo_clear_15 rfl rfl ?_
  cases h
  exact g_iret ok (hret _ hk) (by decide) (by decide) d_Mo_clear_16
theorem c_Mo_clear (l : Launch) {k : Nat} {s : MS} (ht : rf s.2.2 20 (some k) = some k) {r : Int32} {z : MS} (h : f_Mo_clear k s = some (r, z)) : Ct l yX5_clear (.code yX5_clear cX5_clear 2 (some .int)) rm_Mo_clear 0 0 false [vR (some k)] s (some (vI r)) z :=
  Ct.of rfl (by decide +kernel) ⟨rfl, le_t rfl⟩ (fun X ok fn _ hI hl => w_Mo_clear (KX := fun y => y = (r, z)) ok (fun y hy => by subst hy; exact fn) ht h rfl)
abbrev rm_Mo_next : Room := { frames := 1, cells := 0, slots := 0, locals := 22 }
theorem cm_Mo_next : cfM yX5_next cX5_next 8 (some .int) 2 := ⟨tw_901, tw_4, by decide, by decide, by decide +kernel⟩
theorem cv_Mo_next : cfV yX5_next := ⟨tw_900, ts_X5_next⟩
theorem d_Mo_next_0 : decode cX5_next 0 = .ok (.iload_n 1, 1) := by decide +kernel
theorem d_Mo_next_1 : decode cX5_next 1 = .ok (.bipush 10, 2) := by decide +kernel
theorem d_Mo_next_3 : decode cX5_next 3 = .ok (.irem, 1) := by decide +kernel
theorem d_Mo_next_4 : decode cX5_next 4 = .ok (.iload_n 2, 1) := by decide +kernel
theorem d_Mo_next_5 : decode cX5_next 5 = .ok (.iconst 1, 1) := by decide +kernel
theorem d_Mo_next_6 : decode cX5_next 6 = .ok (.if_icmp .ne 7, 3) := by decide +kernel
theorem d_Mo_next_9 : decode cX5_next 9 = .ok (.iconst 1, 1) := by decide +kernel
theorem d_Mo_next_10 : decode cX5_next 10 = .ok (.goto 13, 3) := by decide +kernel
theorem d_Mo_next_13 : decode cX5_next 13 = .ok (.iload_n 2, 1) := by decide +kernel
theorem d_Mo_next_14 : decode cX5_next 14 = .ok (.iconst 2, 1) := by decide +kernel
theorem d_Mo_next_15 : decode cX5_next 15 = .ok (.if_icmp .ne 7, 3) := by decide +kernel
theorem d_Mo_next_18 : decode cX5_next 18 = .ok (.iconst (-1), 1) := by decide +kernel
theorem d_Mo_next_19 : decode cX5_next 19 = .ok (.goto 4, 3) := by decide +kernel
theorem d_Mo_next_22 : decode cX5_next 22 = .ok (.iconst 0, 1) := by decide +kernel
theorem d_Mo_next_23 : decode cX5_next 23 = .ok (.iadd, 1) := by decide +kernel
theorem d_Mo_next_24 : decode cX5_next 24 = .ok (.istore_n 3, 1) := by decide +kernel
theorem d_Mo_next_25 : decode cX5_next 25 = .ok (.iload_n 1, 1) := by decide +kernel
theorem d_Mo_next_26 : decode cX5_next 26 = .ok (.bipush 10, 2) := by decide +kernel
theorem d_Mo_next_28 : decode cX5_next 28 = .ok (.idiv, 1) := by decide +kernel
theorem d_Mo_next_29 : decode cX5_next 29 = .ok (.bipush 10, 2) := by decide +kernel
theorem d_Mo_next_31 : decode cX5_next 31 = .ok (.irem, 1) := by decide +kernel
theorem d_Mo_next_32 : decode cX5_next 32 = .ok (.iload_n 2, 1) := by decide +kernel
theorem d_Mo_next_33 : decode cX5_next 33 = .ok (.iconst 3, 1) := by decide +kernel
theorem d_Mo_next_34 : decode cX5_next 34 = .ok (.if_icmp .ne 7, 3) := by decide +kernel
theorem d_Mo_next_37 : decode cX5_next 37 = .ok (.iconst 1, 1) := by decide +kernel
theorem d_Mo_next_38 : decode cX5_next 38 = .ok (.goto 13, 3) := by decide +kernel
theorem d_Mo_next_41 : decode cX5_next 41 = .ok (.iload_n 2, 1) := by decide +kernel
theorem d_Mo_next_42 : decode cX5_next 42 = .ok (.iconst 4, 1) := by decide +kernel
theorem d_Mo_next_43 : decode cX5_next 43 = .ok (.if_icmp .ne 7, 3) := by decide +kernel
theorem d_Mo_next_46 : decode cX5_next 46 = .ok (.iconst (-1), 1) := by decide +kernel
theorem d_Mo_next_47 : decode cX5_next 47 = .ok (.goto 4, 3) := by decide +kernel
theorem d_Mo_next_50 : decode cX5_next 50 = .ok (.iconst 0, 1) := by decide +kernel
theorem d_Mo_next_51 : decode cX5_next 51 = .ok (.iadd, 1) := by decide +kernel
theorem d_Mo_next_52 : decode cX5_next 52 = .ok (.istore 4, 2) := by decide +kernel
theorem d_Mo_next_54 : decode cX5_next 54 = .ok (.iload_n 1, 1) := by decide +kernel
theorem d_Mo_next_55 : decode cX5_next 55 = .ok (.bipush 100, 2) := by decide +kernel
theorem d_Mo_next_57 : decode cX5_next 57 = .ok (.idiv, 1) := by decide +kernel
theorem d_Mo_next_58 : decode cX5_next 58 = .ok (.iload_n 2, 1) := by decide +kernel
theorem d_Mo_next_59 : decode cX5_next 59 = .ok (.iconst 5, 1) := by decide +kernel
theorem d_Mo_next_60 : decode cX5_next 60 = .ok (.if_icmp .ne 7, 3) := by decide +kernel
theorem d_Mo_next_63 : decode cX5_next 63 = .ok (.iconst 1, 1) := by decide +kernel
theorem d_Mo_next_64 : decode cX5_next 64 = .ok (.goto 14, 3) := by decide +kernel
theorem d_Mo_next_67 : decode cX5_next 67 = .ok (.iload_n 2, 1) := by decide +kernel
theorem d_Mo_next_68 : decode cX5_next 68 = .ok (.bipush 6, 2) := by decide +kernel
theorem d_Mo_next_70 : decode cX5_next 70 = .ok (.if_icmp .ne 7, 3) := by decide +kernel
theorem d_Mo_next_73 : decode cX5_next 73 = .ok (.iconst (-1), 1) := by decide +kernel
theorem d_Mo_next_74 : decode cX5_next 74 = .ok (.goto 4, 3) := by decide +kernel
theorem d_Mo_next_77 : decode cX5_next 77 = .ok (.iconst 0, 1) := by decide +kernel
theorem d_Mo_next_78 : decode cX5_next 78 = .ok (.iadd, 1) := by decide +kernel
theorem d_Mo_next_79 : decode cX5_next 79 = .ok (.istore 5, 2) := by decide +kernel
theorem d_Mo_next_81 : decode cX5_next 81 = .ok (.iload_n 3, 1) := by decide +kernel
theorem d_Mo_next_82 : decode cX5_next 82 = .ok (.iconst 0, 1) := by decide +kernel
theorem d_Mo_next_83 : decode cX5_next 83 = .ok (.bipush 9, 2) := by decide +kernel
theorem d_Mo_next_85 : decode cX5_next 85 = .ok (.invokestatic 75, 3) := by decide +kernel
theorem d_Mo_next_88 : decode cX5_next 88 = .ok (.ifCond .eq 24, 3) := by decide +kernel
theorem d_Mo_next_91 : decode cX5_next 91 = .ok (.iload 4, 2) := by decide +kernel
theorem d_Mo_next_93 : decode cX5_next 93 = .ok (.iconst 0, 1) := by decide +kernel
theorem d_Mo_next_94 : decode cX5_next 94 = .ok (.bipush 9, 2) := by decide +kernel
theorem d_Mo_next_96 : decode cX5_next 96 = .ok (.invokestatic 75, 3) := by decide +kernel
theorem d_Mo_next_99 : decode cX5_next 99 = .ok (.ifCond .eq 13, 3) := by decide +kernel
theorem d_Mo_next_102 : decode cX5_next 102 = .ok (.iload 5, 2) := by decide +kernel
theorem d_Mo_next_104 : decode cX5_next 104 = .ok (.iconst 0, 1) := by decide +kernel
theorem d_Mo_next_105 : decode cX5_next 105 = .ok (.iconst 3, 1) := by decide +kernel
theorem d_Mo_next_106 : decode cX5_next 106 = .ok (.invokestatic 75, 3) := by decide +kernel
theorem d_Mo_next_109 : decode cX5_next 109 = .ok (.ifCond .ne 5, 3) := by decide +kernel
theorem d_Mo_next_112 : decode cX5_next 112 = .ok (.iconst (-1), 1) := by decide +kernel
theorem d_Mo_next_113 : decode cX5_next 113 = .ok (.ireturn, 1) := by decide +kernel
theorem d_Mo_next_114 : decode cX5_next 114 = .ok (.bipush 10, 2) := by decide +kernel
theorem d_Mo_next_116 : decode cX5_next 116 = .ok (.iload 4, 2) := by decide +kernel
theorem d_Mo_next_118 : decode cX5_next 118 = .ok (.imul, 1) := by decide +kernel
theorem d_Mo_next_119 : decode cX5_next 119 = .ok (.iload_n 3, 1) := by decide +kernel
theorem d_Mo_next_120 : decode cX5_next 120 = .ok (.iadd, 1) := by decide +kernel
theorem d_Mo_next_121 : decode cX5_next 121 = .ok (.istore 6, 2) := by decide +kernel
theorem d_Mo_next_123 : decode cX5_next 123 = .ok (.iload 5, 2) := by decide +kernel
theorem d_Mo_next_125 : decode cX5_next 125 = .ok (.ifCond .ne 13, 3) := by decide +kernel
theorem d_Mo_next_128 : decode cX5_next 128 = .ok (.aload_n 0, 1) := by decide +kernel
theorem d_Mo_next_129 : decode cX5_next 129 = .ok (.getfield 13, 3) := by decide +kernel
theorem d_Mo_next_132 : decode cX5_next 132 = .ok (.iload 6, 2) := by decide +kernel
theorem d_Mo_next_134 : decode cX5_next 134 = .ok (.baload, 1) := by decide +kernel
theorem d_Mo_next_135 : decode cX5_next 135 = .ok (.goto 20, 3) := by decide +kernel
theorem d_Mo_next_138 : decode cX5_next 138 = .ok (.iload 5, 2) := by decide +kernel
theorem d_Mo_next_140 : decode cX5_next 140 = .ok (.aload_n 0, 1) := by decide +kernel
theorem d_Mo_next_141 : decode cX5_next 141 = .ok (.getfield 7, 3) := by decide +kernel
theorem d_Mo_next_144 : decode cX5_next 144 = .ok (.iload 6, 2) := by decide +kernel
theorem d_Mo_next_146 : decode cX5_next 146 = .ok (.iaload, 1) := by decide +kernel
theorem d_Mo_next_147 : decode cX5_next 147 = .ok (.if_icmp .le 7, 3) := by decide +kernel
theorem d_Mo_next_150 : decode cX5_next 150 = .ok (.iconst 1, 1) := by decide +kernel
theorem d_Mo_next_151 : decode cX5_next 151 = .ok (.goto 4, 3) := by decide +kernel
theorem d_Mo_next_154 : decode cX5_next 154 = .ok (.iconst 0, 1) := by decide +kernel
theorem d_Mo_next_155 : decode cX5_next 155 = .ok (.istore 7, 2) := by decide +kernel
theorem d_Mo_next_157 : decode cX5_next 157 = .ok (.iload 7, 2) := by decide +kernel
theorem d_Mo_next_159 : decode cX5_next 159 = .ok (.ifCond .eq 14, 3) := by decide +kernel
theorem d_Mo_next_162 : decode cX5_next 162 = .ok (.bipush 100, 2) := by decide +kernel
theorem d_Mo_next_164 : decode cX5_next 164 = .ok (.iload 5, 2) := by decide +kernel
theorem d_Mo_next_166 : decode cX5_next 166 = .ok (.imul, 1) := by decide +kernel
theorem d_Mo_next_167 : decode cX5_next 167 = .ok (.iload 6, 2) := by decide +kernel
theorem d_Mo_next_169 : decode cX5_next 169 = .ok (.iadd, 1) := by decide +kernel
theorem d_Mo_next_170 : decode cX5_next 170 = .ok (.goto 4, 3) := by decide +kernel
theorem d_Mo_next_173 : decode cX5_next 173 = .ok (.iconst (-1), 1) := by decide +kernel
theorem d_Mo_next_174 : decode cX5_next 174 = .ok (.ireturn, 1) := by decide +kernel
set_option maxRecDepth 100000 in
set_option maxHeartbeats 4000000 in
theorem w_j_Mo_next_155 {X : CX} {KX : Int32 → Prop} {k : Nat} {a5 : Int32} {a6 : Int32} {t0 : Int32} {s : MS} (ok : Ok X cX5_next RX5 rm_Mo_next 8 false) (hret : ∀ r : Int32, KX r → Fin X (some .int) 0 0 false (some (vI r)) s) (ht : rf s.2.2 20 (some k) = some k) {res : Int32} (h : j_Mo_next_155 k a5 a6 t0 s = some res) (hk : KX res) : G X s 0 0 155 [(0, vR (some k)), (5, vI a5), (6, vI a6)] [vI t0] := by
  unfold j_Mo_next_155 at h
  refine g_istore (i := 7) [(7, vI t0), (0, vR (some k)), (5, vI a5), (6, vI a6)] ok d_Mo_next_155 (by decide) rfl ?_
  refine g_iload (i := 7) 0 ok d_Mo_next_157 rfl ?_
  refine g_if_eq (tgt := 173) ok d_Mo_next_159 (by decide) (fun c21 => ?_) (fun c21 => ?_)
  · replace h := (if_pos c21).symm.trans h
    refine g_iconst (v := (-1 : Int32)) ok d_Mo_next_173 (by decide) ?_
    cases h
    exact g_iret ok (hret _ hk) (by decide) (by decide) d_Mo_next_174
  · replace h := (if_neg c21).symm.trans h
    refine g_bipush (v := (100 : Int32)) ok d_Mo_next_162 (by decide) ?_
    refine g_iload (i := 5) 2 ok d_Mo_next_164 rfl ?_
    refine g_imul ok d_Mo_next_166 ?_
    refine g_iload (i := 6) 3 ok d_Mo_next_167 rfl ?_
    refine g_iadd ok d_Mo_next_169 ?_
    refine g_goto (tgt := 174) ok d_Mo_next_170 (by decide) ?_
    cases h
    exact g_iret ok (hret _ hk) (by decide) (by decide) d_Mo_next_174
set_option maxRecDepth 100000 in
set_option maxHeartbeats 4000000 in
theorem w_j_Mo_next_78 {X : CX} {KX : Int32 → Prop} {k : Nat} {a3 : Int32} {a4 : Int32} {t0 : Int32} {t1 : Int32} {s : MS} (ok : Ok X cX5_next RX5 rm_Mo_next 8 false) (hret : ∀ r : Int32, KX r → Fin X (some .int) 0 0 false (some (vI r)) s) (ht : rf s.2.2 20 (some k) = some k) {res : Int32} (h : j_Mo_next_78 k a3 a4 t0 t1 s = some res) (hk : KX res) : G X s 0 0 78 [(0, vR (some k)), (3, vI a3), (4, vI a4)] [vI t0, vI t1] := by
  unfold j_Mo_next_78 at h
  refine g_iadd ok d_Mo_next_78 ?_
  obtain ⟨x8, e9⟩ : ∃ z, (t1 + t0) = z := ⟨_, rfl⟩
  replace h := lt_go h e9
  rw [e9]
  refine g_istore (i := 5) [(5, vI x8), (0, vR (some k)), (3, vI a3), (4, vI a4)] ok d_Mo_next_79 (by decide) rfl ?_
  refine g_iload_n (i := 3) 2 ok d_Mo_next_81 rfl rfl ?_
  refine g_iconst (v := (0 : Int32)) ok d_Mo_next_82 (by decide) ?_
  refine g_bipush (v := (9 : Int32)) ok d_Mo_next_83 (by decide) ?_
  refine g_invS (rm2 := rm_Mo_within) (As := [vI a3, vI (0 : Int32), vI (9 : Int32)]) (rest := []) ok (c_Mo_within X.1.2.1) cm_Mo_within cs_Mo_within tw_838 ⟨rfl, rfl⟩ ⟨le_t rfl, le_t rfl⟩ ⟨rfl, le_t rfl⟩ ⟨le_t rfl, le_t rfl⟩ d_Mo_next_85 rfl (fun m10 => ?_)
  show G X s 0 0 88 [(5, vI x8), (0, vR (some k)), (3, vI a3), (4, vI a4)] [vI (f_Mo_within a3 (0 : Int32) (9 : Int32))]
  refine g_if_eq (tgt := 112) ok d_Mo_next_88 (by decide) (fun c11 => ?_) (fun c11 => ?_)
  · replace h := (if_pos c11).symm.trans h
    refine g_iconst (v := (-1 : Int32)) ok d_Mo_next_112 (by decide) ?_
    cases h
    exact g_iret ok (hret _ hk) (by decide) (by decide) d_Mo_next_113
  · replace h := (if_neg c11).symm.trans h
    refine g_iload (i := 4) 3 ok d_Mo_next_91 rfl ?_
    refine g_iconst (v := (0 : Int32)) ok d_Mo_next_93 (by decide) ?_
    refine g_bipush (v := (9 : Int32)) ok d_Mo_next_94 (by decide) ?_
    refine g_invS (rm2 := rm_Mo_within) (As := [vI a4, vI (0 : Int32), vI (9 : Int32)]) (rest := []) ok (c_Mo_within X.1.2.1) cm_Mo_within cs_Mo_within tw_838 ⟨rfl, rfl⟩ ⟨le_t rfl, le_t rfl⟩ ⟨rfl, le_t rfl⟩ ⟨le_t rfl, le_t rfl⟩ d_Mo_next_96 rfl (fun m12 => ?_)
    show G X s 0 0 99 [(5, vI x8), (0, vR (some k)), (3, vI a3), (4, vI a4)] [vI (f_Mo_within a4 (0 : Int32) (9 : Int32))]
    refine g_if_eq (tgt := 112) ok d_Mo_next_99 (by decide) (fun c13 => ?_) (fun c13 => ?_)
    · replace h := (if_pos c13).symm.trans h
      refine g_iconst (v := (-1 : Int32)) ok d_Mo_next_112 (by decide) ?_
      cases h
      exact g_iret ok (hret _ hk) (by decide) (by decide) d_Mo_next_113
    · replace h := (if_neg c13).symm.trans h
      refine g_iload (i := 5) 0 ok d_Mo_next_102 rfl ?_
      refine g_iconst (v := (0 : Int32)) ok d_Mo_next_104 (by decide) ?_
      refine g_iconst (v := (3 : Int32)) ok d_Mo_next_105 (by decide) ?_
      refine g_invS (rm2 := rm_Mo_within) (As := [vI x8, vI (0 : Int32), vI (3 : Int32)]) (rest := []) ok (c_Mo_within X.1.2.1) cm_Mo_within cs_Mo_within tw_838 ⟨rfl, rfl⟩ ⟨le_t rfl, le_t rfl⟩ ⟨rfl, le_t rfl⟩ ⟨le_t rfl, le_t rfl⟩ d_Mo_next_106 rfl (fun m14 => ?_)
      show G X s 0 0 109 [(5, vI x8), (0, vR (some k)), (3, vI a3), (4, vI a4)] [vI (f_Mo_within x8 (0 : Int32) (3 : Int32))]
      refine g_if_ne (tgt := 114) ok d_Mo_next_109 (by decide) (fun c15 => ?_) (fun c15 => ?_)
      · replace h := (if_pos c15).symm.trans h
        refine g_iconst (v := (-1 : Int32)) ok d_Mo_next_112 (by decide) ?_
        cases h
        exact g_iret ok (hret _ hk) (by decide) (by decide) d_Mo_next_113
      · replace h := (if_neg c15).symm.trans h
        refine g_bipush (v := (10 : Int32)) ok d_Mo_next_114 (by decide) ?_
        refine g_iload (i := 4) 3 ok d_Mo_next_116 rfl ?_
        refine g_imul ok d_Mo_next_118 ?_
        refine g_iload_n (i := 3) 2 ok d_Mo_next_119 rfl rfl ?_
        refine g_iadd ok d_Mo_next_120 ?_
        obtain ⟨x16, e17⟩ : ∃ z, (((10 : Int32) * a4) + a3) = z := ⟨_, rfl⟩
        replace h := lt_go h e17
        rw [e17]
        refine g_istore (i := 6) [(6, vI x16), (5, vI x8), (0, vR (some k)), (3, vI a3), (4, vI a4)] ok d_Mo_next_121 (by decide) rfl ?_
        refine g_iload (i := 5) 1 ok d_Mo_next_123 rfl ?_
        refine g_if_ne (tgt := 138) ok d_Mo_next_125 (by decide) (fun c18 => ?_) (fun c18 => ?_)
        · replace h := (if_pos c18).symm.trans h
          refine g_aload_n (i := 0) 2 ok d_Mo_next_128 rfl rfl ?_
          refine g_getr (s0 := 20) (j := 3) (ci := 5) (C := RX5) (T := TX5) (N := 29) ok ht lay_20 rfl inX5 (by decide) rfl tw_741 rfl d_Mo_next_129 ?_
          refine g_iload (i := 6) 0 ok d_Mo_next_132 rfl ?_
          obtain ⟨k19, hk20, h⟩ := bnd_go h
          refine g_zald ok hk20 d_Mo_next_134 ?_
          refine g_goto (tgt := 155) ok d_Mo_next_135 (by decide) ?_
          refine g_sub [2, 1, 0] rfl ?_
          exact w_j_Mo_next_155 ok hret ht h hk
        · replace h := (if_neg c18).symm.trans h
          refine g_iload (i := 5) 1 ok d_Mo_next_138 rfl ?_
          refine g_aload_n (i := 0) 2 ok d_Mo_next_140 rfl rfl ?_
          refine g_getr (s0 := 20) (j := 2) (ci := 5) (C := RX5) (T := TX5) (N := 29) ok ht lay_20 rfl inX5 (by decide) rfl tw_740 rfl d_Mo_next_141 ?_
          refine g_iload (i := 6) 0 ok d_Mo_next_144 rfl ?_
          obtain ⟨k22, hk23, h⟩ := bnd_go h
          refine g_iald ok hk23 d_Mo_next_146 ?_
          refine g_icmp_le (tgt := 154) ok d_Mo_next_147 (by decide) (fun c24 => ?_) (fun c24 => ?_)
          · replace h := (if_pos c24).symm.trans h
            refine g_iconst (v := (1 : Int32)) ok d_Mo_next_150 (by decide) ?_
            refine g_goto (tgt := 155) ok d_Mo_next_151 (by decide) ?_
            refine g_sub [2, 1, 0] rfl ?_
            exact w_j_Mo_next_155 ok hret ht h hk
          · replace h := (if_neg c24).symm.trans h
            refine g_iconst (v := (0 : Int32)) ok d_Mo_next_154 (by decide) ?_
            refine g_sub [2, 1, 0] rfl ?_
            exact w_j_Mo_next_155 ok hret ht h hk
set_option maxRecDepth 100000 in
set_option maxHeartbeats 4000000 in
theorem w_j_Mo_next_51 {X : CX} {KX : Int32 → Prop} {k : Nat} {a1 : Int32} {a2 : Int32} {a3 : Int32} {t0 : Int32} {t1 : Int32} {s : MS} (ok : Ok X cX5_next RX5 rm_Mo_next 8 false) (hret : ∀ r : Int32, KX r → Fin X (some .int) 0 0 false (some (vI r)) s) (ht : rf s.2.2 20 (some k) = some k) {res : Int32} (h : j_Mo_next_51 k a1 a2 a3 t0 t1 s = some res) (hk : KX res) : G X s 0 0 51 [(0, vR (some k)), (1, vI a1), (2, vI a2), (3, vI a3)] [vI t0, vI t1] := by
  unfold j_Mo_next_51 at h
  refine g_iadd ok d_Mo_next_51 ?_
  obtain ⟨x5, e6⟩ : ∃ z, (t1 + t0) = z := ⟨_, rfl⟩
  replace h := lt_go h e6
  rw [e6]
  refine g_istore (i := 4) [(4, vI x5), (0, vR (some k)), (1, vI a1), (2, vI a2), (3, vI a3)] ok d_Mo_next_52 (by decide) rfl ?_
  refine g_iload_n (i := 1) 2 ok d_Mo_next_54 rfl rfl ?_
  refine g_bipush (v := (100 : Int32)) ok d_Mo_next_55 (by decide) ?_
  refine g_idiv ok d_Mo_next_57 (by decide) ?_
  refine g_iload_n (i := 2) 3 ok d_Mo_next_58 rfl rfl ?_
  refine g_iconst (v := (5 : Int32)) ok d_Mo_next_59 (by decide) ?_
  refine g_icmp_ne (tgt := 67) ok d_Mo_next_60 (by decide) (fun c7 => ?_) (fun c7 => ?_)
  · replace h := (if_pos c7).symm.trans h
    refine g_iconst (v := (1 : Int32)) ok d_Mo_next_63 (by decide) ?_
    refine g_goto (tgt := 78) ok d_Mo_next_64 (by decide) ?_
    refine g_sub [1, 4, 0] rfl ?_
    exact w_j_Mo_next_78 ok hret ht h hk
  · replace h := (if_neg c7).symm.trans h
    refine g_iload_n (i := 2) 3 ok d_Mo_next_67 rfl rfl ?_
    refine g_bipush (v := (6 : Int32)) ok d_Mo_next_68 (by decide) ?_
    refine g_icmp_ne (tgt := 77) ok d_Mo_next_70 (by decide) (fun c25 => ?_) (fun c25 => ?_)
    · replace h := (if_pos c25).symm.trans h
      refine g_iconst (v := (-1 : Int32)) ok d_Mo_next_73 (by decide) ?_
      refine g_goto (tgt := 78) ok d_Mo_next_74 (by decide) ?_
      refine g_sub [1, 4, 0] rfl ?_
      exact w_j_Mo_next_78 ok hret ht h hk
    · replace h := (if_neg c25).symm.trans h
      refine g_iconst (v := (0 : Int32)) ok d_Mo_next_77 (by decide) ?_
      refine g_sub [1, 4, 0] rfl ?_
      exact w_j_Mo_next_78 ok hret ht h hk
set_option maxRecDepth 100000 in
set_option maxHeartbeats 4000000 in
theorem w_j_Mo_next_23 {X : CX} {KX : Int32 → Prop} {k : Nat} {a1 : Int32} {a2 : Int32} {t0 : Int32} {t1 : Int32} {s : MS} (ok : Ok X cX5_next RX5 rm_Mo_next 8 false) (hret : ∀ r : Int32, KX r → Fin X (some .int) 0 0 false (some (vI r)) s) (ht : rf s.2.2 20 (some k) = some k) {res : Int32} (h : j_Mo_next_23 k a1 a2 t0 t1 s = some res) (hk : KX res) : G X s 0 0 23 [(0, vR (some k)), (1, vI a1), (2, vI a2)] [vI t0, vI t1] := by
  unfold j_Mo_next_23 at h
  refine g_iadd ok d_Mo_next_23 ?_
  obtain ⟨x2, e3⟩ : ∃ z, (t1 + t0) = z := ⟨_, rfl⟩
  replace h := lt_go h e3
  rw [e3]
  refine g_istore_n (i := 3) [(3, vI x2), (0, vR (some k)), (1, vI a1), (2, vI a2)] ok d_Mo_next_24 rfl (by decide) rfl ?_
  refine g_iload_n (i := 1) 2 ok d_Mo_next_25 rfl rfl ?_
  refine g_bipush (v := (10 : Int32)) ok d_Mo_next_26 (by decide) ?_
  refine g_idiv ok d_Mo_next_28 (by decide) ?_
  refine g_bipush (v := (10 : Int32)) ok d_Mo_next_29 (by decide) ?_
  refine g_irem ok d_Mo_next_31 (by decide) ?_
  refine g_iload_n (i := 2) 3 ok d_Mo_next_32 rfl rfl ?_
  refine g_iconst (v := (3 : Int32)) ok d_Mo_next_33 (by decide) ?_
  refine g_icmp_ne (tgt := 41) ok d_Mo_next_34 (by decide) (fun c4 => ?_) (fun c4 => ?_)
  · replace h := (if_pos c4).symm.trans h
    refine g_iconst (v := (1 : Int32)) ok d_Mo_next_37 (by decide) ?_
    refine g_goto (tgt := 51) ok d_Mo_next_38 (by decide) ?_
    refine g_sub [1, 2, 3, 0] rfl ?_
    exact w_j_Mo_next_51 ok hret ht h hk
  · replace h := (if_neg c4).symm.trans h
    refine g_iload_n (i := 2) 3 ok d_Mo_next_41 rfl rfl ?_
    refine g_iconst (v := (4 : Int32)) ok d_Mo_next_42 (by decide) ?_
    refine g_icmp_ne (tgt := 50) ok d_Mo_next_43 (by decide) (fun c26 => ?_) (fun c26 => ?_)
    · replace h := (if_pos c26).symm.trans h
      refine g_iconst (v := (-1 : Int32)) ok d_Mo_next_46 (by decide) ?_
      refine g_goto (tgt := 51) ok d_Mo_next_47 (by decide) ?_
      refine g_sub [1, 2, 3, 0] rfl ?_
      exact w_j_Mo_next_51 ok hret ht h hk
    · replace h := (if_neg c26).symm.trans h
      refine g_iconst (v := (0 : Int32)) ok d_Mo_next_50 (by decide) ?_
      refine g_sub [1, 2, 3, 0] rfl ?_
      exact w_j_Mo_next_51 ok hret ht h hk
set_option maxRecDepth 100000 in
set_option maxHeartbeats 4000000 in
theorem w_Mo_next {X : CX} {KX : Int32 → Prop} {k : Nat} {a1 : Int32} {a2 : Int32} {s : MS} (ok : Ok X cX5_next RX5 rm_Mo_next 8 false) (hret : ∀ r : Int32, KX r → Fin X (some .int) 0 0 false (some (vI r)) s)   (ht : rf s.2.2 20 (some k) = some k) {res : Int32} (h : f_Mo_next k a1 a2 s = some res) (hk : KX res) : G X s 0 0 0 [(0, vR (some k)), (1, vI a1), (2, vI a2)] [] := by
  unfold f_Mo_next at h
  refine g_iload_n (i := 1) 1 ok d_Mo_next_0 rfl rfl ?_
  refine g_bipush (v := (10 : Int32)) ok d_Mo_next_1 (by decide) ?_
  refine g_irem ok d_Mo_next_3 (by decide) ?_
  refine g_iload_n (i := 2) 2 ok d_Mo_next_4 rfl rfl ?_
  refine g_iconst (v := (1 : Int32)) ok d_Mo_next_5 (by decide) ?_
  refine g_icmp_ne (tgt := 13) ok d_Mo_next_6 (by decide) (fun c1 => ?_) (fun c1 => ?_)
  · replace h := (if_pos c1).symm.trans h
    refine g_iconst (v := (1 : Int32)) ok d_Mo_next_9 (by decide) ?_
    refine g_goto (tgt := 23) ok d_Mo_next_10 (by decide) ?_
    exact w_j_Mo_next_23 ok hret ht h hk
  · replace h := (if_neg c1).symm.trans h
    refine g_iload_n (i := 2) 2 ok d_Mo_next_13 rfl rfl ?_
    refine g_iconst (v := (2 : Int32)) ok d_Mo_next_14 (by decide) ?_
    refine g_icmp_ne (tgt := 22) ok d_Mo_next_15 (by decide) (fun c27 => ?_) (fun c27 => ?_)
    · replace h := (if_pos c27).symm.trans h
      refine g_iconst (v := (-1 : Int32)) ok d_Mo_next_18 (by decide) ?_
      refine g_goto (tgt := 23) ok d_Mo_next_19 (by decide) ?_
      exact w_j_Mo_next_23 ok hret ht h hk
    · replace h := (if_neg c27).symm.trans h
      refine g_iconst (v := (0 : Int32)) ok d_Mo_next_22 (by decide) ?_
      exact w_j_Mo_next_23 ok hret ht h hk
theorem c_Mo_next (l : Launch) {k : Nat} {a1 : Int32} {a2 : Int32} {s : MS} (ht : rf s.2.2 20 (some k) = some k) {r : Int32} (h : f_Mo_next k a1 a2 s = some r) : Ct l yX5_next (.code yX5_next cX5_next 8 (some .int)) rm_Mo_next 0 0 false [vR (some k), vI a1, vI a2] s (some (vI r)) s :=
  Ct.of rfl (by decide +kernel) ⟨rfl, le_t rfl⟩ (fun X ok fn _ hI hl => w_Mo_next (KX := fun y => y = r) ok (fun y hy => by subst hy; exact fn) ht h rfl)
abbrev rm_Mo_lay : Room := { frames := 2, cells := 0, slots := 0, locals := 49 }
theorem cm_Mo_lay : cfM yX5_lay cX5_lay 5 (some .int) 1 := ⟨tw_897, tw_4, by decide, by decide, by decide +kernel⟩
theorem cv_Mo_lay : cfV yX5_lay := ⟨tw_896, ts_X5_lay⟩
theorem d_Mo_lay_0 : decode cX5_lay 0 = .ok (.sipush 3240, 3) := by decide +kernel
theorem d_Mo_lay_3 : decode cX5_lay 3 = .ok (.istore_n 2, 1) := by decide +kernel
theorem d_Mo_lay_4 : decode cX5_lay 4 = .ok (.aload_n 0, 1) := by decide +kernel
theorem d_Mo_lay_5 : decode cX5_lay 5 = .ok (.getfield 62, 3) := by decide +kernel
theorem d_Mo_lay_8 : decode cX5_lay 8 = .ok (.iload_n 2, 1) := by decide +kernel
theorem d_Mo_lay_9 : decode cX5_lay 9 = .ok (.aload_n 0, 1) := by decide +kernel
theorem d_Mo_lay_10 : decode cX5_lay 10 = .ok (.getfield 32, 3) := by decide +kernel
theorem d_Mo_lay_13 : decode cX5_lay 13 = .ok (.iload_n 1, 1) := by decide +kernel
theorem d_Mo_lay_14 : decode cX5_lay 14 = .ok (.iaload, 1) := by decide +kernel
theorem d_Mo_lay_15 : decode cX5_lay 15 = .ok (.iastore, 1) := by decide +kernel
theorem d_Mo_lay_16 : decode cX5_lay 16 = .ok (.iconst 0, 1) := by decide +kernel
theorem d_Mo_lay_17 : decode cX5_lay 17 = .ok (.istore_n 3, 1) := by decide +kernel
theorem d_Mo_lay_18 : decode cX5_lay 18 = .ok (.iload_n 3, 1) := by decide +kernel
theorem d_Mo_lay_19 : decode cX5_lay 19 = .ok (.aload_n 0, 1) := by decide +kernel
theorem d_Mo_lay_20 : decode cX5_lay 20 = .ok (.getfield 117, 3) := by decide +kernel
theorem d_Mo_lay_23 : decode cX5_lay 23 = .ok (.if_icmp .ge 51, 3) := by decide +kernel
theorem d_Mo_lay_26 : decode cX5_lay 26 = .ok (.aload_n 0, 1) := by decide +kernel
theorem d_Mo_lay_27 : decode cX5_lay 27 = .ok (.aload_n 0, 1) := by decide +kernel
theorem d_Mo_lay_28 : decode cX5_lay 28 = .ok (.getfield 62, 3) := by decide +kernel
theorem d_Mo_lay_31 : decode cX5_lay 31 = .ok (.iload_n 2, 1) := by decide +kernel
theorem d_Mo_lay_32 : decode cX5_lay 32 = .ok (.iload_n 3, 1) := by decide +kernel
theorem d_Mo_lay_33 : decode cX5_lay 33 = .ok (.iadd, 1) := by decide +kernel
theorem d_Mo_lay_34 : decode cX5_lay 34 = .ok (.iaload, 1) := by decide +kernel
theorem d_Mo_lay_35 : decode cX5_lay 35 = .ok (.aload_n 0, 1) := by decide +kernel
theorem d_Mo_lay_36 : decode cX5_lay 36 = .ok (.getfield 44, 3) := by decide +kernel
theorem d_Mo_lay_39 : decode cX5_lay 39 = .ok (.iload_n 3, 1) := by decide +kernel
theorem d_Mo_lay_40 : decode cX5_lay 40 = .ok (.iaload, 1) := by decide +kernel
theorem d_Mo_lay_41 : decode cX5_lay 41 = .ok (.invokevirtual 120, 3) := by decide +kernel
theorem d_Mo_lay_44 : decode cX5_lay 44 = .ok (.istore 4, 2) := by decide +kernel
theorem d_Mo_lay_46 : decode cX5_lay 46 = .ok (.iload 4, 2) := by decide +kernel
theorem d_Mo_lay_48 : decode cX5_lay 48 = .ok (.iconst (-1), 1) := by decide +kernel
theorem d_Mo_lay_49 : decode cX5_lay 49 = .ok (.if_icmp .ne 7, 3) := by decide +kernel
theorem d_Mo_lay_52 : decode cX5_lay 52 = .ok (.iload_n 3, 1) := by decide +kernel
theorem d_Mo_lay_53 : decode cX5_lay 53 = .ok (.iconst 1, 1) := by decide +kernel
theorem d_Mo_lay_54 : decode cX5_lay 54 = .ok (.iadd, 1) := by decide +kernel
theorem d_Mo_lay_55 : decode cX5_lay 55 = .ok (.ireturn, 1) := by decide +kernel
theorem d_Mo_lay_56 : decode cX5_lay 56 = .ok (.aload_n 0, 1) := by decide +kernel
theorem d_Mo_lay_57 : decode cX5_lay 57 = .ok (.getfield 62, 3) := by decide +kernel
theorem d_Mo_lay_60 : decode cX5_lay 60 = .ok (.iload_n 2, 1) := by decide +kernel
theorem d_Mo_lay_61 : decode cX5_lay 61 = .ok (.iload_n 3, 1) := by decide +kernel
theorem d_Mo_lay_62 : decode cX5_lay 62 = .ok (.iadd, 1) := by decide +kernel
theorem d_Mo_lay_63 : decode cX5_lay 63 = .ok (.iconst 1, 1) := by decide +kernel
theorem d_Mo_lay_64 : decode cX5_lay 64 = .ok (.iadd, 1) := by decide +kernel
theorem d_Mo_lay_65 : decode cX5_lay 65 = .ok (.iload 4, 2) := by decide +kernel
theorem d_Mo_lay_67 : decode cX5_lay 67 = .ok (.iastore, 1) := by decide +kernel
theorem d_Mo_lay_68 : decode cX5_lay 68 = .ok (.iinc 3 1, 3) := by decide +kernel
theorem d_Mo_lay_71 : decode cX5_lay 71 = .ok (.goto (-53), 3) := by decide +kernel
theorem d_Mo_lay_74 : decode cX5_lay 74 = .ok (.aload_n 0, 1) := by decide +kernel
theorem d_Mo_lay_75 : decode cX5_lay 75 = .ok (.getfield 117, 3) := by decide +kernel
theorem d_Mo_lay_78 : decode cX5_lay 78 = .ok (.ifCond .eq 19, 3) := by decide +kernel
theorem d_Mo_lay_81 : decode cX5_lay 81 = .ok (.aload_n 0, 1) := by decide +kernel
theorem d_Mo_lay_82 : decode cX5_lay 82 = .ok (.getfield 62, 3) := by decide +kernel
theorem d_Mo_lay_85 : decode cX5_lay 85 = .ok (.iload_n 2, 1) := by decide +kernel
theorem d_Mo_lay_86 : decode cX5_lay 86 = .ok (.aload_n 0, 1) := by decide +kernel
theorem d_Mo_lay_87 : decode cX5_lay 87 = .ok (.getfield 117, 3) := by decide +kernel
theorem d_Mo_lay_90 : decode cX5_lay 90 = .ok (.iadd, 1) := by decide +kernel
theorem d_Mo_lay_91 : decode cX5_lay 91 = .ok (.iaload, 1) := by decide +kernel
theorem d_Mo_lay_92 : decode cX5_lay 92 = .ok (.bipush 99, 2) := by decide +kernel
theorem d_Mo_lay_94 : decode cX5_lay 94 = .ok (.if_icmp .le 10, 3) := by decide +kernel
theorem d_Mo_lay_97 : decode cX5_lay 97 = .ok (.aload_n 0, 1) := by decide +kernel
theorem d_Mo_lay_98 : decode cX5_lay 98 = .ok (.getfield 117, 3) := by decide +kernel
theorem d_Mo_lay_101 : decode cX5_lay 101 = .ok (.goto 4, 3) := by decide +kernel
theorem d_Mo_lay_104 : decode cX5_lay 104 = .ok (.iconst (-1), 1) := by decide +kernel
theorem d_Mo_lay_105 : decode cX5_lay 105 = .ok (.ireturn, 1) := by decide +kernel
set_option maxRecDepth 100000 in
set_option maxHeartbeats 4000000 in
theorem w_b_Mo_lay_18 {X : CX} {KX : (Int32 × MS) ⊕ (MS) → Prop} {k : Nat} {a2 : Int32} {a3 : Int32} {s : MS} {rec : Int32 → MS → Option ((Int32 × MS) ⊕ (MS))} {sb : MS} (ok : Ok X cX5_lay RX5 rm_Mo_lay 5 false) (hret : ∀ r : Int32 × MS, KX (.inl r) → Fin X (some .int) 0 0 false (some (vI r.1)) r.2) (hexit : ∀ (z : MS), KX (.inr z) → (∀ q, dm sb q → dm z q) → G X z 0 0 74 [(0, vR (some k)), (2, vI a2)] []) (hrec : ∀ (v3 : Int32) (z : MS), (∀ q, dm sb q → dm z q) → ∀ y, rec v3 z = some y → KX y → G X z 0 0 18 [(0, vR (some k)), (2, vI a2), (3, vI v3)] []) (mb : ∀ q, dm sb q → dm s q) (ht : rf s.2.2 20 (some k) = some k) {res : (Int32 × MS) ⊕ (MS)} (h : b_Mo_lay_18 k a2 a3 s rec = some res) (hk : KX res) : G X s 0 0 18 [(0, vR (some k)), (2, vI a2), (3, vI a3)] [] := by
  unfold b_Mo_lay_18 at h
  refine g_iload_n (i := 3) 2 ok d_Mo_lay_18 rfl rfl ?_
  refine g_aload_n (i := 0) 0 ok d_Mo_lay_19 rfl rfl ?_
  refine g_geti (s0 := 20) (j := 15) (ci := 5) (C := RX5) (T := TX5) (N := 29) ok ht lay_20 rfl inX5 (by decide) rfl tw_753 rfl d_Mo_lay_20 ?_
  refine g_icmp_ge (tgt := 74) ok d_Mo_lay_23 (by decide) (fun c8 => ?_) (fun c8 => ?_)
  · replace h := (if_pos c8).symm.trans h
    refine g_aload_n (i := 0) 0 ok d_Mo_lay_26 rfl rfl ?_
    refine g_aload_n (i := 0) 0 ok d_Mo_lay_27 rfl rfl ?_
    refine g_getr (s0 := 20) (j := 23) (ci := 5) (C := RX5) (T := TX5) (N := 29) ok ht lay_20 rfl inX5 (by decide) rfl tw_761 rfl d_Mo_lay_28 ?_
    refine g_iload_n (i := 2) 1 ok d_Mo_lay_31 rfl rfl ?_
    refine g_iload_n (i := 3) 2 ok d_Mo_lay_32 rfl rfl ?_
    refine g_iadd ok d_Mo_lay_33 ?_
    obtain ⟨k9, hk10, h⟩ := bnd_go h
    refine g_iald ok hk10 d_Mo_lay_34 ?_
    refine g_aload_n (i := 0) 0 ok d_Mo_lay_35 rfl rfl ?_
    refine g_getr (s0 := 20) (j := 16) (ci := 5) (C := RX5) (T := TX5) (N := 29) ok ht lay_20 rfl inX5 (by decide) rfl tw_754 rfl d_Mo_lay_36 ?_
    refine g_iload_n (i := 3) 2 ok d_Mo_lay_39 rfl rfl ?_
    obtain ⟨k11, hk12, h⟩ := bnd_go h
    refine g_iald ok hk12 d_Mo_lay_40 ?_
    obtain ⟨x14, hc15, h⟩ := bnd_go h
    refine g_invV (rm2 := rm_Mo_next) (As := [vI (s.1 k9 (a2 + a3).toNatClampNeg), vI (s.1 k11 a3.toNatClampNeg)]) (rest := []) ok ht lay_20 rfl (c_Mo_next X.1.2.1 (rf_self ht) hc15) cm_Mo_next cv_Mo_next tw_898 ⟨rfl, rfl⟩ ⟨le_t rfl, le_t rfl⟩ ⟨rfl, le_t rfl⟩ ⟨le_t rfl, le_t rfl⟩ d_Mo_lay_41 rfl (fun m13 => ?_)
    show G X s 0 0 44 [(0, vR (some k)), (2, vI a2), (3, vI a3)] [vI x14]
    refine g_istore (i := 4) [(4, vI x14), (0, vR (some k)), (2, vI a2), (3, vI a3)] ok d_Mo_lay_44 (by decide) rfl ?_
    refine g_iload (i := 4) 0 ok d_Mo_lay_46 rfl ?_
    refine g_iconst (v := (-1 : Int32)) ok d_Mo_lay_48 (by decide) ?_
    refine g_icmp_ne (tgt := 56) ok d_Mo_lay_49 (by decide) (fun c16 => ?_) (fun c16 => ?_)
    · replace h := (if_pos c16).symm.trans h
      refine g_iload_n (i := 3) 3 ok d_Mo_lay_52 rfl rfl ?_
      refine g_iconst (v := (1 : Int32)) ok d_Mo_lay_53 (by decide) ?_
      refine g_iadd ok d_Mo_lay_54 ?_
      cases h
      exact g_iret ok (hret _ hk) (by decide) (by decide) d_Mo_lay_55
    · replace h := (if_neg c16).symm.trans h
      refine g_aload_n (i := 0) 1 ok d_Mo_lay_56 rfl rfl ?_
      refine g_getr (s0 := 20) (j := 23) (ci := 5) (C := RX5) (T := TX5) (N := 29) ok ht lay_20 rfl inX5 (by decide) rfl tw_761 rfl d_Mo_lay_57 ?_
      refine g_iload_n (i := 2) 2 ok d_Mo_lay_60 rfl rfl ?_
      refine g_iload_n (i := 3) 3 ok d_Mo_lay_61 rfl rfl ?_
      refine g_iadd ok d_Mo_lay_62 ?_
      refine g_iconst (v := (1 : Int32)) ok d_Mo_lay_63 (by decide) ?_
      refine g_iadd ok d_Mo_lay_64 ?_
      refine g_iload (i := 4) 0 ok d_Mo_lay_65 rfl ?_
      obtain ⟨k17, hk18, h⟩ := bnd_go h
      refine g_iast ok hk18 d_Mo_lay_67 ?_
      obtain ⟨s19, e20⟩ : ∃ z, wi s k17 ((a2 + a3) + (1 : Int32)).toNatClampNeg x14 = z := ⟨_, rfl⟩
      replace h := lt_go h e20
      have m21 := mo_wi e20
      rw [e20]
      obtain ⟨x22, e23⟩ : ∃ z, a3 + (1 : Int32) = z := ⟨_, rfl⟩
      replace h := lt_go h e23
      refine g_iinc (i := 3) (v := x22) 3 [(3, vI x22), (4, vI x14), (0, vR (some k)), (2, vI a2)] ok d_Mo_lay_68 rfl (by rw [← e23]; rfl) (by decide) rfl ?_
      refine g_goto (tgt := 18) ok d_Mo_lay_71 (by decide) ?_
      refine g_sub [2, 3, 0] rfl ?_
      exact hrec x22 s19 (fun z hz => m21 z (mb z hz)) _ h hk
  · replace h := (if_neg c8).symm.trans h
    refine g_sub [0, 1] rfl ?_
    cases h
    exact hexit s hk mb
theorem wx_l_Mo_lay_18 {X : CX} {KX : (Int32 × MS) ⊕ (MS) → Prop} {k : Nat} {a2 : Int32} {sb : MS} (ok : Ok X cX5_lay RX5 rm_Mo_lay 5 false) (hret : ∀ r : Int32 × MS, KX (.inl r) → Fin X (some .int) 0 0 false (some (vI r.1)) r.2) (hexit : ∀ (z : MS), KX (.inr z) → (∀ q, dm sb q → dm z q) → G X z 0 0 74 [(0, vR (some k)), (2, vI a2)] []) (htb : rf sb.2.2 20 (some k) = some k) : ∀ (n : Nat) (a3 : Int32) (s : MS), (∀ q, dm sb q → dm s q) → ∀ (res : (Int32 × MS) ⊕ (MS)), l_Mo_lay_18 k a2 n a3 s = some res → KX res → G X s 0 0 18 [(0, vR (some k)), (2, vI a2), (3, vI a3)] [] := by
  intro n
  induction n with
  | zero => intro _ s _ res h; cases h
  | succ n ih =>
    intro a3 s mb res h hk
    exact w_b_Mo_lay_18 ok hret hexit (fun v3 z hz y h2 hk2 => ih v3 z hz y h2 hk2) mb (rf_mono mb htb) h hk
theorem w_l_Mo_lay_18 {X : CX} {KX : (Int32 × MS) ⊕ (MS) → Prop} {k : Nat} {a2 : Int32} {sb : MS} (ok : Ok X cX5_lay RX5 rm_Mo_lay 5 false) (hret : ∀ r : Int32 × MS, KX (.inl r) → Fin X (some .int) 0 0 false (some (vI r.1)) r.2) (hexit : ∀ (z : MS), KX (.inr z) → (∀ q, dm sb q → dm z q) → G X z 0 0 74 [(0, vR (some k)), (2, vI a2)] []) (mb : ∀ q, dm sb q → dm sb q) (htb : rf sb.2.2 20 (some k) = some k) (n : Nat) (a3 : Int32) {res : (Int32 × MS) ⊕ (MS)} (h : l_Mo_lay_18 k a2 n a3 sb = some res) (hk : KX res) : G X sb 0 0 18 [(0, vR (some k)), (2, vI a2), (3, vI a3)] [] := wx_l_Mo_lay_18 ok hret hexit htb n a3 sb mb res h hk
set_option maxRecDepth 100000 in
set_option maxHeartbeats 4000000 in
theorem w_Mo_lay {X : CX} {KX : Int32 × MS → Prop} {k : Nat} {a1 : Int32} {s : MS} (ok : Ok X cX5_lay RX5 rm_Mo_lay 5 false) (hret : ∀ r : Int32 × MS, KX r → Fin X (some .int) 0 0 false (some (vI r.1)) r.2)   (ht : rf s.2.2 20 (some k) = some k) {res : Int32 × MS} (h : f_Mo_lay k a1 s = some res) (hk : KX res) : G X s 0 0 0 [(0, vR (some k)), (1, vI a1)] [] := by
  unfold f_Mo_lay at h
  refine g_sipush (v := (3240 : Int32)) ok d_Mo_lay_0 (by decide) ?_
  refine g_istore_n (i := 2) [(2, vI (3240 : Int32)), (0, vR (some k)), (1, vI a1)] ok d_Mo_lay_3 rfl (by decide) rfl ?_
  refine g_aload_n (i := 0) 1 ok d_Mo_lay_4 rfl rfl ?_
  refine g_getr (s0 := 20) (j := 23) (ci := 5) (C := RX5) (T := TX5) (N := 29) ok ht lay_20 rfl inX5 (by decide) rfl tw_761 rfl d_Mo_lay_5 ?_
  refine g_iload_n (i := 2) 0 ok d_Mo_lay_8 rfl rfl ?_
  refine g_aload_n (i := 0) 1 ok d_Mo_lay_9 rfl rfl ?_
  refine g_getr (s0 := 20) (j := 11) (ci := 5) (C := RX5) (T := TX5) (N := 29) ok ht lay_20 rfl inX5 (by decide) rfl tw_749 rfl d_Mo_lay_10 ?_
  refine g_iload_n (i := 1) 2 ok d_Mo_lay_13 rfl rfl ?_
  obtain ⟨k1, hk2, h⟩ := bnd_go h
  refine g_iald ok hk2 d_Mo_lay_14 ?_
  obtain ⟨k3, hk4, h⟩ := bnd_go h
  refine g_iast ok hk4 d_Mo_lay_15 ?_
  obtain ⟨s5, e6⟩ : ∃ z, wi s k3 (3240 : Int32).toNatClampNeg (s.1 k1 a1.toNatClampNeg) = z := ⟨_, rfl⟩
  replace h := lt_go h e6
  have m7 := mo_wi e6
  rw [e6]
  refine g_iconst (v := (0 : Int32)) ok d_Mo_lay_16 (by decide) ?_
  refine g_istore_n (i := 3) [(3, vI (0 : Int32)), (2, vI (3240 : Int32)), (0, vR (some k)), (1, vI a1)] ok d_Mo_lay_17 rfl (by decide) rfl ?_
  refine g_sub [2, 1, 0] rfl ?_
  rcases el1_go h with ⟨r, hx, h⟩ | ⟨s25, hx, h⟩
  · refine w_l_Mo_lay_18 (KX := fun y => y = .inl r) ok (fun r2 he => ?_) (fun _ he _ => by cases he) (fun _ hz => hz) (rf_mono m7 ht) _ _ hx rfl
    cases he
    cases h
    exact hret _ hk
  · refine w_l_Mo_lay_18 (KX := fun y => y = .inr s25) ok (fun r2 he => by cases he) (fun y0 he m24 => ?_) (fun _ hz => hz) (rf_mono m7 ht) _ _ hx rfl
    cases he
    refine g_aload_n (i := 0) 0 ok d_Mo_lay_74 rfl rfl ?_
    refine g_geti (s0 := 20) (j := 15) (ci := 5) (C := RX5) (T := TX5) (N := 29) ok (rf_mono m24 (rf_mono m7 ht)) lay_20 rfl inX5 (by decide) rfl tw_753 rfl d_Mo_lay_75 ?_
    refine g_if_eq (tgt := 97) ok d_Mo_lay_78 (by decide) (fun c26 => ?_) (fun c26 => ?_)
    · replace h := (if_pos c26).symm.trans h
      refine g_aload_n (i := 0) 0 ok d_Mo_lay_97 rfl rfl ?_
      refine g_geti (s0 := 20) (j := 15) (ci := 5) (C := RX5) (T := TX5) (N := 29) ok (rf_mono m24 (rf_mono m7 ht)) lay_20 rfl inX5 (by decide) rfl tw_753 rfl d_Mo_lay_98 ?_
      refine g_goto (tgt := 105) ok d_Mo_lay_101 (by decide) ?_
      cases h
      exact g_iret ok (hret _ hk) (by decide) (by decide) d_Mo_lay_105
    · replace h := (if_neg c26).symm.trans h
      refine g_aload_n (i := 0) 0 ok d_Mo_lay_81 rfl rfl ?_
      refine g_getr (s0 := 20) (j := 23) (ci := 5) (C := RX5) (T := TX5) (N := 29) ok (rf_mono m24 (rf_mono m7 ht)) lay_20 rfl inX5 (by decide) rfl tw_761 rfl d_Mo_lay_82 ?_
      refine g_iload_n (i := 2) 1 ok d_Mo_lay_85 rfl rfl ?_
      refine g_aload_n (i := 0) 0 ok d_Mo_lay_86 rfl rfl ?_
      refine g_geti (s0 := 20) (j := 15) (ci := 5) (C := RX5) (T := TX5) (N := 29) ok (rf_mono m24 (rf_mono m7 ht)) lay_20 rfl inX5 (by decide) rfl tw_753 rfl d_Mo_lay_87 ?_
      refine g_iadd ok d_Mo_lay_90 ?_
      obtain ⟨k27, hk28, h⟩ := bnd_go h
      refine g_iald ok hk28 d_Mo_lay_91 ?_
      refine g_bipush (v := (99 : Int32)) ok d_Mo_lay_92 (by decide) ?_
      refine g_icmp_le (tgt := 104) ok d_Mo_lay_94 (by decide) (fun c29 => ?_) (fun c29 => ?_)
      · replace h := (if_pos c29).symm.trans h
        refine g_aload_n (i := 0) 0 ok d_Mo_lay_97 rfl rfl ?_
        refine g_geti (s0 := 20) (j := 15) (ci := 5) (C := RX5) (T := TX5) (N := 29) ok (rf_mono m24 (rf_mono m7 ht)) lay_20 rfl inX5 (by decide) rfl tw_753 rfl d_Mo_lay_98 ?_
        refine g_goto (tgt := 105) ok d_Mo_lay_101 (by decide) ?_
        cases h
        exact g_iret ok (hret _ hk) (by decide) (by decide) d_Mo_lay_105
      · replace h := (if_neg c29).symm.trans h
        refine g_iconst (v := (-1 : Int32)) ok d_Mo_lay_104 (by decide) ?_
        cases h
        exact g_iret ok (hret _ hk) (by decide) (by decide) d_Mo_lay_105
theorem c_Mo_lay (l : Launch) {k : Nat} {a1 : Int32} {s : MS} (ht : rf s.2.2 20 (some k) = some k) {r : Int32} {z : MS} (h : f_Mo_lay k a1 s = some (r, z)) : Ct l yX5_lay (.code yX5_lay cX5_lay 5 (some .int)) rm_Mo_lay 0 0 false [vR (some k), vI a1] s (some (vI r)) z :=
  Ct.of rfl (by decide +kernel) ⟨rfl, le_t rfl⟩ (fun X ok fn _ hI hl => w_Mo_lay (KX := fun y => y = (r, z)) ok (fun y hy => by subst hy; exact fn) ht h rfl)
abbrev rm_Mo_cost : Room := { frames := 0, cells := 0, slots := 0, locals := 0 }
theorem cm_Mo_cost : cfM yX5_cost cX5_cost 4 (some .int) 3 := ⟨tw_904, tw_4, by decide, by decide, by decide +kernel⟩
theorem cs_Mo_cost : cfS yX5_cost := tw_903
theorem d_Mo_cost_0 : decode cX5_cost 0 = .ok (.iload_n 1, 1) := by decide +kernel
theorem d_Mo_cost_1 : decode cX5_cost 1 = .ok (.bipush 100, 2) := by decide +kernel
theorem d_Mo_cost_3 : decode cX5_cost 3 = .ok (.idiv, 1) := by decide +kernel
theorem d_Mo_cost_4 : decode cX5_cost 4 = .ok (.istore_n 3, 1) := by decide +kernel
theorem d_Mo_cost_5 : decode cX5_cost 5 = .ok (.iload_n 3, 1) := by decide +kernel
theorem d_Mo_cost_6 : decode cX5_cost 6 = .ok (.ifCond .ne 14, 3) := by decide +kernel
theorem d_Mo_cost_9 : decode cX5_cost 9 = .ok (.iload_n 0, 1) := by decide +kernel
theorem d_Mo_cost_10 : decode cX5_cost 10 = .ok (.iload_n 1, 1) := by decide +kernel
theorem d_Mo_cost_11 : decode cX5_cost 11 = .ok (.if_icmp .ne 7, 3) := by decide +kernel
theorem d_Mo_cost_14 : decode cX5_cost 14 = .ok (.iconst 0, 1) := by decide +kernel
theorem d_Mo_cost_15 : decode cX5_cost 15 = .ok (.goto 4, 3) := by decide +kernel
theorem d_Mo_cost_18 : decode cX5_cost 18 = .ok (.iconst 1, 1) := by decide +kernel
theorem d_Mo_cost_19 : decode cX5_cost 19 = .ok (.ireturn, 1) := by decide +kernel
theorem d_Mo_cost_20 : decode cX5_cost 20 = .ok (.iload_n 3, 1) := by decide +kernel
theorem d_Mo_cost_21 : decode cX5_cost 21 = .ok (.iload_n 0, 1) := by decide +kernel
theorem d_Mo_cost_22 : decode cX5_cost 22 = .ok (.bipush 100, 2) := by decide +kernel
theorem d_Mo_cost_24 : decode cX5_cost 24 = .ok (.idiv, 1) := by decide +kernel
theorem d_Mo_cost_25 : decode cX5_cost 25 = .ok (.if_icmp .le 7, 3) := by decide +kernel
theorem d_Mo_cost_28 : decode cX5_cost 28 = .ok (.iconst 2, 1) := by decide +kernel
theorem d_Mo_cost_29 : decode cX5_cost 29 = .ok (.goto 4, 3) := by decide +kernel
theorem d_Mo_cost_32 : decode cX5_cost 32 = .ok (.iconst 1, 1) := by decide +kernel
theorem d_Mo_cost_33 : decode cX5_cost 33 = .ok (.aload_n 2, 1) := by decide +kernel
theorem d_Mo_cost_34 : decode cX5_cost 34 = .ok (.iload_n 3, 1) := by decide +kernel
theorem d_Mo_cost_35 : decode cX5_cost 35 = .ok (.iaload, 1) := by decide +kernel
theorem d_Mo_cost_36 : decode cX5_cost 36 = .ok (.iadd, 1) := by decide +kernel
theorem d_Mo_cost_37 : decode cX5_cost 37 = .ok (.ireturn, 1) := by decide +kernel
set_option maxRecDepth 100000 in
set_option maxHeartbeats 4000000 in
theorem w_Mo_cost {X : CX} {KX : Int32 → Prop} {a0 : Int32} {a1 : Int32} {a2 : Option Nat} {s : MS} (ok : Ok X cX5_cost RX5 rm_Mo_cost 4 false) (hret : ∀ r : Int32, KX r → Fin X (some .int) 0 0 false (some (vI r)) s)    {res : Int32} (h : f_Mo_cost a0 a1 a2 s = some res) (hk : KX res) : G X s 0 0 0 [(0, vI a0), (1, vI a1), (2, vR a2)] [] := by
  unfold f_Mo_cost at h
  refine g_iload_n (i := 1) 1 ok d_Mo_cost_0 rfl rfl ?_
  refine g_bipush (v := (100 : Int32)) ok d_Mo_cost_1 (by decide) ?_
  refine g_idiv ok d_Mo_cost_3 (by decide) ?_
  obtain ⟨x1, e2⟩ : ∃ z, (a1 / (100 : Int32)) = z := ⟨_, rfl⟩
  replace h := lt_go h e2
  rw [e2]
  refine g_istore_n (i := 3) [(3, vI x1), (0, vI a0), (1, vI a1), (2, vR a2)] ok d_Mo_cost_4 rfl (by decide) rfl ?_
  refine g_iload_n (i := 3) 0 ok d_Mo_cost_5 rfl rfl ?_
  refine g_if_ne (tgt := 20) ok d_Mo_cost_6 (by decide) (fun c3 => ?_) (fun c3 => ?_)
  · replace h := (if_pos c3).symm.trans h
    refine g_iload_n (i := 0) 1 ok d_Mo_cost_9 rfl rfl ?_
    refine g_iload_n (i := 1) 2 ok d_Mo_cost_10 rfl rfl ?_
    refine g_icmp_ne (tgt := 18) ok d_Mo_cost_11 (by decide) (fun c4 => ?_) (fun c4 => ?_)
    · replace h := (if_pos c4).symm.trans h
      refine g_iconst (v := (0 : Int32)) ok d_Mo_cost_14 (by decide) ?_
      refine g_goto (tgt := 19) ok d_Mo_cost_15 (by decide) ?_
      cases h
      exact g_iret ok (hret _ hk) (by decide) (by decide) d_Mo_cost_19
    · replace h := (if_neg c4).symm.trans h
      refine g_iconst (v := (1 : Int32)) ok d_Mo_cost_18 (by decide) ?_
      cases h
      exact g_iret ok (hret _ hk) (by decide) (by decide) d_Mo_cost_19
  · replace h := (if_neg c3).symm.trans h
    refine g_iload_n (i := 3) 0 ok d_Mo_cost_20 rfl rfl ?_
    refine g_iload_n (i := 0) 1 ok d_Mo_cost_21 rfl rfl ?_
    refine g_bipush (v := (100 : Int32)) ok d_Mo_cost_22 (by decide) ?_
    refine g_idiv ok d_Mo_cost_24 (by decide) ?_
    refine g_icmp_le (tgt := 32) ok d_Mo_cost_25 (by decide) (fun c5 => ?_) (fun c5 => ?_)
    · replace h := (if_pos c5).symm.trans h
      refine g_iconst (v := (2 : Int32)) ok d_Mo_cost_28 (by decide) ?_
      refine g_goto (tgt := 33) ok d_Mo_cost_29 (by decide) ?_
      refine g_aload_n (i := 2) 3 ok d_Mo_cost_33 rfl rfl ?_
      refine g_iload_n (i := 3) 0 ok d_Mo_cost_34 rfl rfl ?_
      obtain ⟨k6, hk7, h⟩ := bnd_go h
      refine g_iald ok hk7 d_Mo_cost_35 ?_
      refine g_iadd ok d_Mo_cost_36 ?_
      cases h
      exact g_iret ok (hret _ hk) (by decide) (by decide) d_Mo_cost_37
    · replace h := (if_neg c5).symm.trans h
      refine g_iconst (v := (1 : Int32)) ok d_Mo_cost_32 (by decide) ?_
      refine g_aload_n (i := 2) 3 ok d_Mo_cost_33 rfl rfl ?_
      refine g_iload_n (i := 3) 0 ok d_Mo_cost_34 rfl rfl ?_
      obtain ⟨k8, hk9, h⟩ := bnd_go h
      refine g_iald ok hk9 d_Mo_cost_35 ?_
      refine g_iadd ok d_Mo_cost_36 ?_
      cases h
      exact g_iret ok (hret _ hk) (by decide) (by decide) d_Mo_cost_37
theorem c_Mo_cost (l : Launch) {a0 : Int32} {a1 : Int32} {a2 : Option Nat} {s : MS}  {r : Int32} (h : f_Mo_cost a0 a1 a2 s = some r) : Ct l yX5_cost (.code yX5_cost cX5_cost 4 (some .int)) rm_Mo_cost 0 0 false [vI a0, vI a1, vR a2] s (some (vI r)) s :=
  Ct.of rfl (by decide +kernel) ⟨rfl, le_t rfl⟩ (fun X ok fn _ hI hl => w_Mo_cost (KX := fun y => y = r) ok (fun y hy => by subst hy; exact fn) h rfl)
