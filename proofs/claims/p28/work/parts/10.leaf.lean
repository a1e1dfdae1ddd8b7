abbrev rm_Ci_init : Room := { frames := 1, cells := 4, slots := 118, locals := 20 }
theorem cm_Ci_init : cfM yX0_init cX0_init 1 none 0 := ⟨tw_25, tw_2, by decide, by decide, by decide +kernel⟩
theorem ci_Ci_init : cfI yX0_init := ⟨rfl, tw_24⟩
theorem d_Ci_init_0 : decode cX0_init 0 = .ok (.aload_n 0, 1) := by decide +kernel
theorem d_Ci_init_1 : decode cX0_init 1 = .ok (.invokespecial 3, 3) := by decide +kernel
theorem d_Ci_init_4 : decode cX0_init 4 = .ok (.aload_n 0, 1) := by decide +kernel
theorem d_Ci_init_5 : decode cX0_init 5 = .ok (.bipush 100, 2) := by decide +kernel
theorem d_Ci_init_7 : decode cX0_init 7 = .ok (.newarray .int, 2) := by decide +kernel
theorem d_Ci_init_9 : decode cX0_init 9 = .ok (.putfield 9, 3) := by decide +kernel
theorem d_Ci_init_12 : decode cX0_init 12 = .ok (.aload_n 0, 1) := by decide +kernel
theorem d_Ci_init_13 : decode cX0_init 13 = .ok (.bipush 8, 2) := by decide +kernel
theorem d_Ci_init_15 : decode cX0_init 15 = .ok (.newarray .int, 2) := by decide +kernel
theorem d_Ci_init_17 : decode cX0_init 17 = .ok (.putfield 15, 3) := by decide +kernel
theorem d_Ci_init_20 : decode cX0_init 20 = .ok (.aload_n 0, 1) := by decide +kernel
theorem d_Ci_init_21 : decode cX0_init 21 = .ok (.iconst 5, 1) := by decide +kernel
theorem d_Ci_init_22 : decode cX0_init 22 = .ok (.newarray .int, 2) := by decide +kernel
theorem d_Ci_init_24 : decode cX0_init 24 = .ok (.putfield 18, 3) := by decide +kernel
theorem d_Ci_init_27 : decode cX0_init 27 = .ok (.aload_n 0, 1) := by decide +kernel
theorem d_Ci_init_28 : decode cX0_init 28 = .ok (.iconst 5, 1) := by decide +kernel
theorem d_Ci_init_29 : decode cX0_init 29 = .ok (.newarray .int, 2) := by decide +kernel
theorem d_Ci_init_31 : decode cX0_init 31 = .ok (.putfield 21, 3) := by decide +kernel
theorem d_Ci_init_34 : decode cX0_init 34 = .ok (.return_, 1) := by decide +kernel
set_option maxRecDepth 100000 in
set_option maxHeartbeats 4000000 in
theorem w_Ci_init {X : CX} {KX : MS → Prop} {k : Nat} {s : MS} (ok : Ok X cX0_init RX0 rm_Ci_init 1 true) (hret : ∀ r : MS, KX r → Fin X none 4 118 true none r) (hI : X.1.2.2.2.2.2.2.2.2.1.name = "<init>")  (ht : rf s.2.2 1 (some k) = some k) {res : MS} (h : f_Ci_init k s = some res) (hk : KX res) : G X s 0 0 0 [(0, vR (some k))] [] := by
  unfold f_Ci_init at h
  refine g_aload_n (i := 0) 0 ok d_Ci_init_0 rfl rfl ?_
  refine g_objInit (s0 := 1) ok ht tw_26 tw_19 tw_20 rfl ⟨le_t rfl, le_t rfl⟩ d_Ci_init_1 ?_
  refine g_aload_n (i := 0) 0 ok d_Ci_init_4 rfl rfl ?_
  refine g_bipush (v := (100 : Int32)) ok d_Ci_init_5 (by decide) ?_
  obtain ⟨o1, e2⟩ : ∃ z, nid s 2 = z := ⟨_, rfl⟩
  replace h := lt_go h e2
  refine g_newa0 (s0 := 2) (n := 100) ok (by decide) lay_2 (by decide) (by decide) (by decide) tw_46 ⟨(rk_of ht), trivial⟩ ⟨(rk_of ht), trivial⟩ (by decide) (by decide) d_Ci_init_7 ?_
  rw [e2]
  obtain ⟨s3, e4⟩ : ∃ z, nw s 2 = z := ⟨_, rfl⟩
  replace h := lt_go h e4
  have m5 := mo_nw (by decide) e4
  rw [e4]
  have hk6 : rf s3.2.2 2 (some o1) = some o1 := by rw [← e2]; exact rf_new (by decide) e4
  refine g_putrF (s0 := 1) (j := 0) (ci := 0) (C := RX0) (T := TX0) (N := 5) ok (rf_mono m5 ht) lay_1 rfl inX0 (by decide) rfl tw_27 rfl tyX0_ok nmX0 rfl hI rfl (Or.inr ⟨_, rfl⟩) (rf_dm hk6) d_Ci_init_9 ?_
  obtain ⟨s7, e8⟩ : ∃ z, wr s3 k 0 (some o1) = z := ⟨_, rfl⟩
  replace h := lt_go h e8
  have m9 := mo_wr e8
  rw [e8]
  refine g_aload_n (i := 0) 0 ok d_Ci_init_12 rfl rfl ?_
  refine g_bipush (v := (8 : Int32)) ok d_Ci_init_13 (by decide) ?_
  obtain ⟨o10, e11⟩ : ∃ z, nid s7 3 = z := ⟨_, rfl⟩
  replace h := lt_go h e11
  refine g_newa0 (s0 := 3) (n := 8) ok (by decide) lay_3 (by decide) (by decide) (by decide) tw_46 ⟨(rk_of (rf_mono m9 (rf_mono m5 ht))), trivial⟩ ⟨(rk_of (rf_mono m9 (rf_mono m5 ht))), trivial⟩ (by decide) (by decide) d_Ci_init_15 ?_
  rw [e11]
  obtain ⟨s12, e13⟩ : ∃ z, nw s7 3 = z := ⟨_, rfl⟩
  replace h := lt_go h e13
  have m14 := mo_nw (by decide) e13
  rw [e13]
  have hk15 : rf s12.2.2 3 (some o10) = some o10 := by rw [← e11]; exact rf_new (by decide) e13
  refine g_putrF (s0 := 1) (j := 1) (ci := 0) (C := RX0) (T := TX0) (N := 5) ok (rf_mono m14 (rf_mono m9 (rf_mono m5 ht))) lay_1 rfl inX0 (by decide) rfl tw_28 rfl tyX0_ok nmX0 rfl hI rfl (Or.inr ⟨_, rfl⟩) (rf_dm hk15) d_Ci_init_17 ?_
  obtain ⟨s16, e17⟩ : ∃ z, wr s12 k 1 (some o10) = z := ⟨_, rfl⟩
  replace h := lt_go h e17
  have m18 := mo_wr e17
  rw [e17]
  refine g_aload_n (i := 0) 0 ok d_Ci_init_20 rfl rfl ?_
  refine g_iconst (v := (5 : Int32)) ok d_Ci_init_21 (by decide) ?_
  obtain ⟨o19, e20⟩ : ∃ z, nid s16 4 = z := ⟨_, rfl⟩
  replace h := lt_go h e20
  refine g_newa0 (s0 := 4) (n := 5) ok (by decide) lay_4 (by decide) (by decide) (by decide) tw_46 ⟨(rk_of (rf_mono m18 (rf_mono m14 (rf_mono m9 (rf_mono m5 ht))))), trivial⟩ ⟨(rk_of (rf_mono m18 (rf_mono m14 (rf_mono m9 (rf_mono m5 ht))))), trivial⟩ (by decide) (by decide) d_Ci_init_22 ?_
  rw [e20]
  obtain ⟨s21, e22⟩ : ∃ z, nw s16 4 = z := ⟨_, rfl⟩
  replace h := lt_go h e22
  have m23 := mo_nw (by decide) e22
  rw [e22]
  have hk24 : rf s21.2.2 4 (some o19) = some o19 := by rw [← e20]; exact rf_new (by decide) e22
  refine g_putrF (s0 := 1) (j := 2) (ci := 0) (C := RX0) (T := TX0) (N := 5) ok (rf_mono m23 (rf_mono m18 (rf_mono m14 (rf_mono m9 (rf_mono m5 ht))))) lay_1 rfl inX0 (by decide) rfl tw_29 rfl tyX0_ok nmX0 rfl hI rfl (Or.inr ⟨_, rfl⟩) (rf_dm hk24) d_Ci_init_24 ?_
  obtain ⟨s25, e26⟩ : ∃ z, wr s21 k 2 (some o19) = z := ⟨_, rfl⟩
  replace h := lt_go h e26
  have m27 := mo_wr e26
  rw [e26]
  refine g_aload_n (i := 0) 0 ok d_Ci_init_27 rfl rfl ?_
  refine g_iconst (v := (5 : Int32)) ok d_Ci_init_28 (by decide) ?_
  obtain ⟨o28, e29⟩ : ∃ z, nid s25 5 = z := ⟨_, rfl⟩
  replace h := lt_go h e29
  refine g_newa0 (s0 := 5) (n := 5) ok (by decide) lay_5 (by decide) (by decide) (by decide) tw_46 ⟨(rk_of (rf_mono m27 (rf_mono m23 (rf_mono m18 (rf_mono m14 (rf_mono m9 (rf_mono m5 ht))))))), trivial⟩ ⟨(rk_of (rf_mono m27 (rf_mono m23 (rf_mono m18 (rf_mono m14 (rf_mono m9 (rf_mono m5 ht))))))), trivial⟩ (by decide) (by decide) d_Ci_init_29 ?_
  rw [e29]
  obtain ⟨s30, e31⟩ : ∃ z, nw s25 5 = z := ⟨_, rfl⟩
  replace h := lt_go h e31
  have m32 := mo_nw (by decide) e31
  rw [e31]
  have hk33 : rf s30.2.2 5 (some o28) = some o28 := by rw [← e29]; exact rf_new (by decide) e31
  refine g_putrF (s0 := 1) (j := 3) (ci := 0) (C := RX0) (T := TX0) (N := 5) ok (rf_mono m32 (rf_mono m27 (rf_mono m23 (rf_mono m18 (rf_mono m14 (rf_mono m9 (rf_mono m5 ht))))))) lay_1 rfl inX0 (by decide) rfl tw_31 rfl tyX0_ok nmX0 rfl hI rfl (Or.inr ⟨_, rfl⟩) (rf_dm hk33) d_Ci_init_31 ?_
  obtain ⟨s34, e35⟩ : ∃ z, wr s30 k 3 (some o28) = z := ⟨_, rfl⟩
  replace h := lt_go h e35
  have m36 := mo_wr e35
  rw [e35]
  cases h
  exact g_vret ok (hret _ hk) (by decide) (by decide) d_Ci_init_34
theorem c_Ci_init (l : Launch) {k : Nat} {s : MS} (ht : rf s.2.2 1 (some k) = some k) {z : MS} (h : f_Ci_init k s = some z) : Ct l yX0_init (.code yX0_init cX0_init 1 none) rm_Ci_init 4 118 true [vR (some k)] s none z :=
  Ct.of rfl (by decide +kernel) ⟨rfl, le_t rfl⟩ (fun X ok fn _ hI hl => w_Ci_init (KX := fun y => y = z) ok (fun y hy => by subst hy; exact fn) hI ht h rfl)
abbrev rm_Ci_heightOf : Room := { frames := 0, cells := 0, slots := 0, locals := 0 }
theorem cm_Ci_heightOf : cfM yX0_heightOf cX0_heightOf 2 (some .int) 1 := ⟨tw_310, tw_2, by decide, by decide, by decide +kernel⟩
theorem cv_Ci_heightOf : cfV yX0_heightOf := ⟨tw_309, ts_X0_heightOf⟩
theorem d_Ci_heightOf_0 : decode cX0_heightOf 0 = .ok (.iload_n 1, 1) := by decide +kernel
theorem d_Ci_heightOf_1 : decode cX0_heightOf 1 = .ok (.ifCond .lt 12, 3) := by decide +kernel
theorem d_Ci_heightOf_4 : decode cX0_heightOf 4 = .ok (.iload_n 1, 1) := by decide +kernel
theorem d_Ci_heightOf_5 : decode cX0_heightOf 5 = .ok (.aload_n 0, 1) := by decide +kernel
theorem d_Ci_heightOf_6 : decode cX0_heightOf 6 = .ok (.getfield 9, 3) := by decide +kernel
theorem d_Ci_heightOf_9 : decode cX0_heightOf 9 = .ok (.arraylength, 1) := by decide +kernel
theorem d_Ci_heightOf_10 : decode cX0_heightOf 10 = .ok (.if_icmp .lt 7, 3) := by decide +kernel
theorem d_Ci_heightOf_13 : decode cX0_heightOf 13 = .ok (.iconst 0, 1) := by decide +kernel
theorem d_Ci_heightOf_14 : decode cX0_heightOf 14 = .ok (.goto 9, 3) := by decide +kernel
theorem d_Ci_heightOf_17 : decode cX0_heightOf 17 = .ok (.aload_n 0, 1) := by decide +kernel
theorem d_Ci_heightOf_18 : decode cX0_heightOf 18 = .ok (.getfield 9, 3) := by decide +kernel
theorem d_Ci_heightOf_21 : decode cX0_heightOf 21 = .ok (.iload_n 1, 1) := by decide +kernel
theorem d_Ci_heightOf_22 : decode cX0_heightOf 22 = .ok (.iaload, 1) := by decide +kernel
theorem d_Ci_heightOf_23 : decode cX0_heightOf 23 = .ok (.ireturn, 1) := by decide +kernel
set_option maxRecDepth 100000 in
set_option maxHeartbeats 4000000 in
theorem w_Ci_heightOf {X : CX} {KX : Int32 → Prop} {k : Nat} {a1 : Int32} {s : MS} (ok : Ok X cX0_heightOf RX0 rm_Ci_heightOf 2 false) (hret : ∀ r : Int32, KX r → Fin X (some .int) 0 0 false (some (vI r)) s)   (ht : rf s.2.2 1 (some k) = some k) {res : Int32} (h : f_Ci_heightOf k a1 s = some res) (hk : KX res) : G X s 0 0 0 [(0, vR (some k)), (1, vI a1)] [] := by
  unfold f_Ci_heightOf at h
  refine g_iload_n (i := 1) 1 ok d_Ci_heightOf_0 rfl rfl ?_
  refine g_if_lt (tgt := 13) ok d_Ci_heightOf_1 (by decide) (fun c1 => ?_) (fun c1 => ?_)
  · replace h := (if_pos c1).symm.trans h
    refine g_iconst (v := (0 : Int32)) ok d_Ci_heightOf_13 (by decide) ?_
    refine g_goto (tgt := 23) ok d_Ci_heightOf_14 (by decide) ?_
    cases h
    exact g_iret ok (hret _ hk) (by decide) (by decide) d_Ci_heightOf_23
  · replace h := (if_neg c1).symm.trans h
    refine g_iload_n (i := 1) 1 ok d_Ci_heightOf_4 rfl rfl ?_
    refine g_aload_n (i := 0) 0 ok d_Ci_heightOf_5 rfl rfl ?_
    refine g_getr (s0 := 1) (j := 0) (ci := 0) (C := RX0) (T := TX0) (N := 5) ok ht lay_1 rfl inX0 (by decide) rfl tw_27 rfl d_Ci_heightOf_6 ?_
    obtain ⟨n2, hn3, h⟩ := bnd_go h
    refine g_alen ok hn3 (by decide) d_Ci_heightOf_9 ?_
    refine g_icmp_lt (tgt := 17) ok d_Ci_heightOf_10 (by decide) (fun c4 => ?_) (fun c4 => ?_)
    · replace h := (if_pos c4).symm.trans h
      refine g_aload_n (i := 0) 0 ok d_Ci_heightOf_17 rfl rfl ?_
      refine g_getr (s0 := 1) (j := 0) (ci := 0) (C := RX0) (T := TX0) (N := 5) ok ht lay_1 rfl inX0 (by decide) rfl tw_27 rfl d_Ci_heightOf_18 ?_
      refine g_iload_n (i := 1) 1 ok d_Ci_heightOf_21 rfl rfl ?_
      obtain ⟨k5, hk6, h⟩ := bnd_go h
      refine g_iald ok hk6 d_Ci_heightOf_22 ?_
      cases h
      exact g_iret ok (hret _ hk) (by decide) (by decide) d_Ci_heightOf_23
    · replace h := (if_neg c4).symm.trans h
      refine g_iconst (v := (0 : Int32)) ok d_Ci_heightOf_13 (by decide) ?_
      refine g_goto (tgt := 23) ok d_Ci_heightOf_14 (by decide) ?_
      cases h
      exact g_iret ok (hret _ hk) (by decide) (by decide) d_Ci_heightOf_23
theorem c_Ci_heightOf (l : Launch) {k : Nat} {a1 : Int32} {s : MS} (ht : rf s.2.2 1 (some k) = some k) {r : Int32} (h : f_Ci_heightOf k a1 s = some r) : Ct l yX0_heightOf (.code yX0_heightOf cX0_heightOf 2 (some .int)) rm_Ci_heightOf 0 0 false [vR (some k), vI a1] s (some (vI r)) s :=
  Ct.of rfl (by decide +kernel) ⟨rfl, le_t rfl⟩ (fun X ok fn _ hI hl => w_Ci_heightOf (KX := fun y => y = r) ok (fun y hy => by subst hy; exact fn) ht h rfl)
abbrev rm_Ci_setHeight : Room := { frames := 0, cells := 0, slots := 0, locals := 0 }
theorem cm_Ci_setHeight : cfM yX0_setHeight cX0_setHeight 3 none 2 := ⟨tw_314, tw_2, by decide, by decide, by decide +kernel⟩
theorem cv_Ci_setHeight : cfV yX0_setHeight := ⟨tw_313, ts_X0_setHeight⟩
theorem d_Ci_setHeight_0 : decode cX0_setHeight 0 = .ok (.iload_n 1, 1) := by decide +kernel
theorem d_Ci_setHeight_1 : decode cX0_setHeight 1 = .ok (.ifCond .lt 19, 3) := by decide +kernel
theorem d_Ci_setHeight_4 : decode cX0_setHeight 4 = .ok (.iload_n 1, 1) := by decide +kernel
theorem d_Ci_setHeight_5 : decode cX0_setHeight 5 = .ok (.aload_n 0, 1) := by decide +kernel
theorem d_Ci_setHeight_6 : decode cX0_setHeight 6 = .ok (.getfield 9, 3) := by decide +kernel
theorem d_Ci_setHeight_9 : decode cX0_setHeight 9 = .ok (.arraylength, 1) := by decide +kernel
theorem d_Ci_setHeight_10 : decode cX0_setHeight 10 = .ok (.if_icmp .ge 10, 3) := by decide +kernel
theorem d_Ci_setHeight_13 : decode cX0_setHeight 13 = .ok (.aload_n 0, 1) := by decide +kernel
theorem d_Ci_setHeight_14 : decode cX0_setHeight 14 = .ok (.getfield 9, 3) := by decide +kernel
theorem d_Ci_setHeight_17 : decode cX0_setHeight 17 = .ok (.iload_n 1, 1) := by decide +kernel
theorem d_Ci_setHeight_18 : decode cX0_setHeight 18 = .ok (.iload_n 2, 1) := by decide +kernel
theorem d_Ci_setHeight_19 : decode cX0_setHeight 19 = .ok (.iastore, 1) := by decide +kernel
theorem d_Ci_setHeight_20 : decode cX0_setHeight 20 = .ok (.return_, 1) := by decide +kernel
set_option maxRecDepth 100000 in
set_option maxHeartbeats 4000000 in
theorem w_Ci_setHeight {X : CX} {KX : MS → Prop} {k : Nat} {a1 : Int32} {a2 : Int32} {s : MS} (ok : Ok X cX0_setHeight RX0 rm_Ci_setHeight 3 false) (hret : ∀ r : MS, KX r → Fin X none 0 0 false none r)   (ht : rf s.2.2 1 (some k) = some k) {res : MS} (h : f_Ci_setHeight k a1 a2 s = some res) (hk : KX res) : G X s 0 0 0 [(0, vR (some k)), (1, vI a1), (2, vI a2)] [] := by
  unfold f_Ci_setHeight at h
  refine g_iload_n (i := 1) 1 ok d_Ci_setHeight_0 rfl rfl ?_
  refine g_if_lt (tgt := 20) ok d_Ci_setHeight_1 (by decide) (fun c1 => ?_) (fun c1 => ?_)
  · replace h := (if_pos c1).symm.trans h
    cases h
    exact g_vret ok (hret _ hk) (by decide) (by decide) d_Ci_setHeight_20
  · replace h := (if_neg c1).symm.trans h
    refine g_iload_n (i := 1) 1 ok d_Ci_setHeight_4 rfl rfl ?_
    refine g_aload_n (i := 0) 0 ok d_Ci_setHeight_5 rfl rfl ?_
    refine g_getr (s0 := 1) (j := 0) (ci := 0) (C := RX0) (T := TX0) (N := 5) ok ht lay_1 rfl inX0 (by decide) rfl tw_27 rfl d_Ci_setHeight_6 ?_
    obtain ⟨n2, hn3, h⟩ := bnd_go h
    refine g_alen ok hn3 (by decide) d_Ci_setHeight_9 ?_
    refine g_icmp_ge (tgt := 20) ok d_Ci_setHeight_10 (by decide) (fun c4 => ?_) (fun c4 => ?_)
    · replace h := (if_pos c4).symm.trans h
      refine g_aload_n (i := 0) 0 ok d_Ci_setHeight_13 rfl rfl ?_
      refine g_getr (s0 := 1) (j := 0) (ci := 0) (C := RX0) (T := TX0) (N := 5) ok ht lay_1 rfl inX0 (by decide) rfl tw_27 rfl d_Ci_setHeight_14 ?_
      refine g_iload_n (i := 1) 1 ok d_Ci_setHeight_17 rfl rfl ?_
      refine g_iload_n (i := 2) 2 ok d_Ci_setHeight_18 rfl rfl ?_
      obtain ⟨k5, hk6, h⟩ := bnd_go h
      refine g_iast ok hk6 d_Ci_setHeight_19 ?_
      obtain ⟨s7, e8⟩ : ∃ z, wi s k5 a1.toNatClampNeg a2 = z := ⟨_, rfl⟩
      replace h := lt_go h e8
      have m9 := mo_wi e8
      rw [e8]
      cases h
      exact g_vret ok (hret _ hk) (by decide) (by decide) d_Ci_setHeight_20
    · replace h := (if_neg c4).symm.trans h
      cases h
      exact g_vret ok (hret _ hk) (by decide) (by decide) d_Ci_setHeight_20
theorem c_Ci_setHeight (l : Launch) {k : Nat} {a1 : Int32} {a2 : Int32} {s : MS} (ht : rf s.2.2 1 (some k) = some k) {z : MS} (h : f_Ci_setHeight k a1 a2 s = some z) : Ct l yX0_setHeight (.code yX0_setHeight cX0_setHeight 3 none) rm_Ci_setHeight 0 0 false [vR (some k), vI a1, vI a2] s none z :=
  Ct.of rfl (by decide +kernel) ⟨rfl, le_t rfl⟩ (fun X ok fn _ hI hl => w_Ci_setHeight (KX := fun y => y = z) ok (fun y hy => by subst hy; exact fn) ht h rfl)
abbrev rm_Ci_addSpot : Room := { frames := 0, cells := 0, slots := 0, locals := 0 }
theorem cm_Ci_addSpot : cfM yX0_addSpot cX0_addSpot 2 none 1 := ⟨tw_329, tw_2, by decide, by decide, by decide +kernel⟩
theorem cv_Ci_addSpot : cfV yX0_addSpot := ⟨tw_328, ts_X0_addSpot⟩
theorem d_Ci_addSpot_0 : decode cX0_addSpot 0 = .ok (.aload_n 0, 1) := by decide +kernel
theorem d_Ci_addSpot_1 : decode cX0_addSpot 1 = .ok (.getfield 24, 3) := by decide +kernel
theorem d_Ci_addSpot_4 : decode cX0_addSpot 4 = .ok (.ifCond .lt 35, 3) := by decide +kernel
theorem d_Ci_addSpot_7 : decode cX0_addSpot 7 = .ok (.aload_n 0, 1) := by decide +kernel
theorem d_Ci_addSpot_8 : decode cX0_addSpot 8 = .ok (.getfield 24, 3) := by decide +kernel
theorem d_Ci_addSpot_11 : decode cX0_addSpot 11 = .ok (.aload_n 0, 1) := by decide +kernel
theorem d_Ci_addSpot_12 : decode cX0_addSpot 12 = .ok (.getfield 15, 3) := by decide +kernel
theorem d_Ci_addSpot_15 : decode cX0_addSpot 15 = .ok (.arraylength, 1) := by decide +kernel
theorem d_Ci_addSpot_16 : decode cX0_addSpot 16 = .ok (.if_icmp .ge 23, 3) := by decide +kernel
theorem d_Ci_addSpot_19 : decode cX0_addSpot 19 = .ok (.aload_n 0, 1) := by decide +kernel
theorem d_Ci_addSpot_20 : decode cX0_addSpot 20 = .ok (.getfield 15, 3) := by decide +kernel
theorem d_Ci_addSpot_23 : decode cX0_addSpot 23 = .ok (.aload_n 0, 1) := by decide +kernel
theorem d_Ci_addSpot_24 : decode cX0_addSpot 24 = .ok (.getfield 24, 3) := by decide +kernel
theorem d_Ci_addSpot_27 : decode cX0_addSpot 27 = .ok (.iload_n 1, 1) := by decide +kernel
theorem d_Ci_addSpot_28 : decode cX0_addSpot 28 = .ok (.iastore, 1) := by decide +kernel
theorem d_Ci_addSpot_29 : decode cX0_addSpot 29 = .ok (.aload_n 0, 1) := by decide +kernel
theorem d_Ci_addSpot_30 : decode cX0_addSpot 30 = .ok (.dup, 1) := by decide +kernel
theorem d_Ci_addSpot_31 : decode cX0_addSpot 31 = .ok (.getfield 24, 3) := by decide +kernel
theorem d_Ci_addSpot_34 : decode cX0_addSpot 34 = .ok (.iconst 1, 1) := by decide +kernel
theorem d_Ci_addSpot_35 : decode cX0_addSpot 35 = .ok (.iadd, 1) := by decide +kernel
theorem d_Ci_addSpot_36 : decode cX0_addSpot 36 = .ok (.putfield 24, 3) := by decide +kernel
theorem d_Ci_addSpot_39 : decode cX0_addSpot 39 = .ok (.return_, 1) := by decide +kernel
set_option maxRecDepth 100000 in
set_option maxHeartbeats 4000000 in
theorem w_Ci_addSpot {X : CX} {KX : MS → Prop} {k : Nat} {a1 : Int32} {s : MS} (ok : Ok X cX0_addSpot RX0 rm_Ci_addSpot 2 false) (hret : ∀ r : MS, KX r → Fin X none 0 0 false none r)   (ht : rf s.2.2 1 (some k) = some k) {res : MS} (h : f_Ci_addSpot k a1 s = some res) (hk : KX res) : G X s 0 0 0 [(0, vR (some k)), (1, vI a1)] [] := by
  unfold f_Ci_addSpot at h
  refine g_aload_n (i := 0) 0 ok d_Ci_addSpot_0 rfl rfl ?_
  refine g_geti (s0 := 1) (j := 4) (ci := 0) (C := RX0) (T := TX0) (N := 5) ok ht lay_1 rfl inX0 (by decide) rfl tw_34 rfl d_Ci_addSpot_1 ?_
  refine g_if_lt (tgt := 39) ok d_Ci_addSpot_4 (by decide) (fun c1 => ?_) (fun c1 => ?_)
  · replace h := (if_pos c1).symm.trans h
    cases h
    exact g_vret ok (hret _ hk) (by decide) (by decide) d_Ci_addSpot_39
  · replace h := (if_neg c1).symm.trans h
    refine g_aload_n (i := 0) 0 ok d_Ci_addSpot_7 rfl rfl ?_
    refine g_geti (s0 := 1) (j := 4) (ci := 0) (C := RX0) (T := TX0) (N := 5) ok ht lay_1 rfl inX0 (by decide) rfl tw_34 rfl d_Ci_addSpot_8 ?_
    refine g_aload_n (i := 0) 0 ok d_Ci_addSpot_11 rfl rfl ?_
    refine g_getr (s0 := 1) (j := 1) (ci := 0) (C := RX0) (T := TX0) (N := 5) ok ht lay_1 rfl inX0 (by decide) rfl tw_28 rfl d_Ci_addSpot_12 ?_
    obtain ⟨n2, hn3, h⟩ := bnd_go h
    refine g_alen ok hn3 (by decide) d_Ci_addSpot_15 ?_
    refine g_icmp_ge (tgt := 39) ok d_Ci_addSpot_16 (by decide) (fun c4 => ?_) (fun c4 => ?_)
    · replace h := (if_pos c4).symm.trans h
      refine g_aload_n (i := 0) 0 ok d_Ci_addSpot_19 rfl rfl ?_
      refine g_getr (s0 := 1) (j := 1) (ci := 0) (C := RX0) (T := TX0) (N := 5) ok ht lay_1 rfl inX0 (by decide) rfl tw_28 rfl d_Ci_addSpot_20 ?_
      refine g_aload_n (i := 0) 0 ok d_Ci_addSpot_23 rfl rfl ?_
      refine g_geti (s0 := 1) (j := 4) (ci := 0) (C := RX0) (T := TX0) (N := 5) ok ht lay_1 rfl inX0 (by decide) rfl tw_34 rfl d_Ci_addSpot_24 ?_
      refine g_iload_n (i := 1) 1 ok d_Ci_addSpot_27 rfl rfl ?_
      obtain ⟨k5, hk6, h⟩ := bnd_go h
      refine g_iast ok hk6 d_Ci_addSpot_28 ?_
      obtain ⟨s7, e8⟩ : ∃ z, wi s k5 (s.1 k 4).toNatClampNeg a1 = z := ⟨_, rfl⟩
      replace h := lt_go h e8
      have m9 := mo_wi e8
      rw [e8]
      refine g_aload_n (i := 0) 0 ok d_Ci_addSpot_29 rfl rfl ?_
      refine g_dup ok d_Ci_addSpot_30 rfl ?_
      refine g_geti (s0 := 1) (j := 4) (ci := 0) (C := RX0) (T := TX0) (N := 5) ok (rf_mono m9 ht) lay_1 rfl inX0 (by decide) rfl tw_34 rfl d_Ci_addSpot_31 ?_
      refine g_iconst (v := (1 : Int32)) ok d_Ci_addSpot_34 (by decide) ?_
      refine g_iadd ok d_Ci_addSpot_35 ?_
      refine g_puti (s0 := 1) (j := 4) (ci := 0) (C := RX0) (T := TX0) (N := 5) ok (rf_mono m9 ht) lay_1 rfl inX0 (by decide) rfl tw_34 rfl tyX0_ok nmX0 rfl (Or.inl rfl) d_Ci_addSpot_36 ?_
      obtain ⟨s10, e11⟩ : ∃ z, wi s7 k 4 ((s7.1 k 4) + (1 : Int32)) = z := ⟨_, rfl⟩
      replace h := lt_go h e11
      have m12 := mo_wi e11
      rw [e11]
      cases h
      exact g_vret ok (hret _ hk) (by decide) (by decide) d_Ci_addSpot_39
    · replace h := (if_neg c4).symm.trans h
      cases h
      exact g_vret ok (hret _ hk) (by decide) (by decide) d_Ci_addSpot_39
theorem c_Ci_addSpot (l : Launch) {k : Nat} {a1 : Int32} {s : MS} (ht : rf s.2.2 1 (some k) = some k) {z : MS} (h : f_Ci_addSpot k a1 s = some z) : Ct l yX0_addSpot (.code yX0_addSpot cX0_addSpot 2 none) rm_Ci_addSpot 0 0 false [vR (some k), vI a1] s none z :=
  Ct.of rfl (by decide +kernel) ⟨rfl, le_t rfl⟩ (fun X ok fn _ hI hl => w_Ci_addSpot (KX := fun y => y = z) ok (fun y hy => by subst hy; exact fn) ht h rfl)
abbrev rm_Ci_isSpot : Room := { frames := 0, cells := 0, slots := 0, locals := 0 }
theorem cm_Ci_isSpot : cfM yX0_isSpot cX0_isSpot 3 (some .boolean) 1 := ⟨tw_290, tw_2, by decide, by decide, by decide +kernel⟩
theorem cv_Ci_isSpot : cfV yX0_isSpot := ⟨tw_289, ts_X0_isSpot⟩
theorem d_Ci_isSpot_0 : decode cX0_isSpot 0 = .ok (.iconst 0, 1) := by decide +kernel
theorem d_Ci_isSpot_1 : decode cX0_isSpot 1 = .ok (.istore_n 2, 1) := by decide +kernel
theorem d_Ci_isSpot_2 : decode cX0_isSpot 2 = .ok (.iload_n 2, 1) := by decide +kernel
theorem d_Ci_isSpot_3 : decode cX0_isSpot 3 = .ok (.aload_n 0, 1) := by decide +kernel
theorem d_Ci_isSpot_4 : decode cX0_isSpot 4 = .ok (.getfield 24, 3) := by decide +kernel
theorem d_Ci_isSpot_7 : decode cX0_isSpot 7 = .ok (.if_icmp .ge 30, 3) := by decide +kernel
theorem d_Ci_isSpot_10 : decode cX0_isSpot 10 = .ok (.iload_n 2, 1) := by decide +kernel
theorem d_Ci_isSpot_11 : decode cX0_isSpot 11 = .ok (.aload_n 0, 1) := by decide +kernel
theorem d_Ci_isSpot_12 : decode cX0_isSpot 12 = .ok (.getfield 15, 3) := by decide +kernel
theorem d_Ci_isSpot_15 : decode cX0_isSpot 15 = .ok (.arraylength, 1) := by decide +kernel
theorem d_Ci_isSpot_16 : decode cX0_isSpot 16 = .ok (.if_icmp .ge 21, 3) := by decide +kernel
theorem d_Ci_isSpot_19 : decode cX0_isSpot 19 = .ok (.aload_n 0, 1) := by decide +kernel
theorem d_Ci_isSpot_20 : decode cX0_isSpot 20 = .ok (.getfield 15, 3) := by decide +kernel
theorem d_Ci_isSpot_23 : decode cX0_isSpot 23 = .ok (.iload_n 2, 1) := by decide +kernel
theorem d_Ci_isSpot_24 : decode cX0_isSpot 24 = .ok (.iaload, 1) := by decide +kernel
theorem d_Ci_isSpot_25 : decode cX0_isSpot 25 = .ok (.iload_n 1, 1) := by decide +kernel
theorem d_Ci_isSpot_26 : decode cX0_isSpot 26 = .ok (.if_icmp .ne 5, 3) := by decide +kernel
theorem d_Ci_isSpot_29 : decode cX0_isSpot 29 = .ok (.iconst 1, 1) := by decide +kernel
theorem d_Ci_isSpot_30 : decode cX0_isSpot 30 = .ok (.ireturn, 1) := by decide +kernel
theorem d_Ci_isSpot_31 : decode cX0_isSpot 31 = .ok (.iinc 2 1, 3) := by decide +kernel
theorem d_Ci_isSpot_34 : decode cX0_isSpot 34 = .ok (.goto (-32), 3) := by decide +kernel
theorem d_Ci_isSpot_37 : decode cX0_isSpot 37 = .ok (.iconst 0, 1) := by decide +kernel
theorem d_Ci_isSpot_38 : decode cX0_isSpot 38 = .ok (.ireturn, 1) := by decide +kernel
set_option maxRecDepth 100000 in
set_option maxHeartbeats 4000000 in
theorem w_b_Ci_isSpot_2 {X : CX} {KX : (Int32) ⊕ (Unit) → Prop} {k : Nat} {a1 : Int32} {a2 : Int32} {s : MS} {rec : Int32 → Option ((Int32) ⊕ (Unit))} (ok : Ok X cX0_isSpot RX0 rm_Ci_isSpot 3 false) (hret : ∀ r : Int32, KX (.inl r) → Fin X (some .boolean) 0 0 false (some (vI r)) s) (hexit : KX (.inr ()) → G X s 0 0 37 [(0, vR (some k))] []) (hrec : ∀ (v2 : Int32), ∀ y, rec v2 = some y → KX y → G X s 0 0 2 [(0, vR (some k)), (1, vI a1), (2, vI v2)] []) (ht : rf s.2.2 1 (some k) = some k) {res : (Int32) ⊕ (Unit)} (h : b_Ci_isSpot_2 k a1 a2 s rec = some res) (hk : KX res) : G X s 0 0 2 [(0, vR (some k)), (1, vI a1), (2, vI a2)] [] := by
  unfold b_Ci_isSpot_2 at h
  refine g_iload_n (i := 2) 2 ok d_Ci_isSpot_2 rfl rfl ?_
  refine g_aload_n (i := 0) 0 ok d_Ci_isSpot_3 rfl rfl ?_
  refine g_geti (s0 := 1) (j := 4) (ci := 0) (C := RX0) (T := TX0) (N := 5) ok ht lay_1 rfl inX0 (by decide) rfl tw_34 rfl d_Ci_isSpot_4 ?_
  refine g_icmp_ge (tgt := 37) ok d_Ci_isSpot_7 (by decide) (fun c1 => ?_) (fun c1 => ?_)
  · replace h := (if_pos c1).symm.trans h
    refine g_iload_n (i := 2) 2 ok d_Ci_isSpot_10 rfl rfl ?_
    refine g_aload_n (i := 0) 0 ok d_Ci_isSpot_11 rfl rfl ?_
    refine g_getr (s0 := 1) (j := 1) (ci := 0) (C := RX0) (T := TX0) (N := 5) ok ht lay_1 rfl inX0 (by decide) rfl tw_28 rfl d_Ci_isSpot_12 ?_
    obtain ⟨n2, hn3, h⟩ := bnd_go h
    refine g_alen ok hn3 (by decide) d_Ci_isSpot_15 ?_
    refine g_icmp_ge (tgt := 37) ok d_Ci_isSpot_16 (by decide) (fun c4 => ?_) (fun c4 => ?_)
    · replace h := (if_pos c4).symm.trans h
      refine g_aload_n (i := 0) 0 ok d_Ci_isSpot_19 rfl rfl ?_
      refine g_getr (s0 := 1) (j := 1) (ci := 0) (C := RX0) (T := TX0) (N := 5) ok ht lay_1 rfl inX0 (by decide) rfl tw_28 rfl d_Ci_isSpot_20 ?_
      refine g_iload_n (i := 2) 2 ok d_Ci_isSpot_23 rfl rfl ?_
      obtain ⟨k5, hk6, h⟩ := bnd_go h
      refine g_iald ok hk6 d_Ci_isSpot_24 ?_
      refine g_iload_n (i := 1) 1 ok d_Ci_isSpot_25 rfl rfl ?_
      refine g_icmp_ne (tgt := 31) ok d_Ci_isSpot_26 (by decide) (fun c7 => ?_) (fun c7 => ?_)
      · replace h := (if_pos c7).symm.trans h
        refine g_iconst (v := (1 : Int32)) ok d_Ci_isSpot_29 (by decide) ?_
        cases h
        exact g_zret ok (hret _ hk) (Or.inr rfl) (by decide) (by decide) d_Ci_isSpot_30
      · replace h := (if_neg c7).symm.trans h
        obtain ⟨x8, e9⟩ : ∃ z, a2 + (1 : Int32) = z := ⟨_, rfl⟩
        replace h := lt_go h e9
        refine g_iinc (i := 2) (v := x8) 2 [(2, vI x8), (0, vR (some k)), (1, vI a1)] ok d_Ci_isSpot_31 rfl (by rw [← e9]; rfl) (by decide) rfl ?_
        refine g_goto (tgt := 2) ok d_Ci_isSpot_34 (by decide) ?_
        refine g_sub [1, 2, 0] rfl ?_
        exact hrec x8 _ h hk
    · replace h := (if_neg c4).symm.trans h
      refine g_sub [0] rfl ?_
      cases h
      exact hexit hk
  · replace h := (if_neg c1).symm.trans h
    refine g_sub [0] rfl ?_
    cases h
    exact hexit hk
theorem w_l_Ci_isSpot_2 {X : CX} {KX : (Int32) ⊕ (Unit) → Prop} {k : Nat} {a1 : Int32} {s : MS} (ok : Ok X cX0_isSpot RX0 rm_Ci_isSpot 3 false) (hret : ∀ r : Int32, KX (.inl r) → Fin X (some .boolean) 0 0 false (some (vI r)) s) (hexit : KX (.inr ()) → G X s 0 0 37 [(0, vR (some k))] []) (ht : rf s.2.2 1 (some k) = some k) : ∀ (n : Nat) (a2 : Int32) {res : (Int32) ⊕ (Unit)}, l_Ci_isSpot_2 k a1 s n a2 = some res → KX res → G X s 0 0 2 [(0, vR (some k)), (1, vI a1), (2, vI a2)] [] := by
  intro n
  induction n with
  | zero => intro _ res h; cases h
  | succ n ih =>
    intro a2 res h hk
    exact w_b_Ci_isSpot_2 ok hret hexit (fun v2 y h2 hk2 => ih v2 h2 hk2) ht h hk
set_option maxRecDepth 100000 in
set_option maxHeartbeats 4000000 in
theorem w_Ci_isSpot {X : CX} {KX : Int32 → Prop} {k : Nat} {a1 : Int32} {s : MS} (ok : Ok X cX0_isSpot RX0 rm_Ci_isSpot 3 false) (hret : ∀ r : Int32, KX r → Fin X (some .boolean) 0 0 false (some (vI r)) s)   (ht : rf s.2.2 1 (some k) = some k) {res : Int32} (h : f_Ci_isSpot k a1 s = some res) (hk : KX res) : G X s 0 0 0 [(0, vR (some k)), (1, vI a1)] [] := by
  unfold f_Ci_isSpot at h
  refine g_iconst (v := (0 : Int32)) ok d_Ci_isSpot_0 (by decide) ?_
  refine g_istore_n (i := 2) [(2, vI (0 : Int32)), (0, vR (some k)), (1, vI a1)] ok d_Ci_isSpot_1 rfl (by decide) rfl ?_
  refine g_sub [1, 2, 0] rfl ?_
  rcases el0_go h with ⟨r, hx, h⟩ | ⟨hx, h⟩
  · refine w_l_Ci_isSpot_2 (KX := fun y => y = .inl r) ok (fun r2 he => ?_) (fun he => by cases he) ht _ _ hx rfl
    cases he
    cases h
    exact hret _ hk
  · refine w_l_Ci_isSpot_2 (KX := fun y => y = .inr ()) ok (fun r2 he => by cases he) (fun he => ?_) ht _ _ hx rfl
    cases he
    refine g_iconst (v := (0 : Int32)) ok d_Ci_isSpot_37 (by decide) ?_
    cases h
    exact g_zret ok (hret _ hk) (Or.inl rfl) (by decide) (by decide) d_Ci_isSpot_38
theorem c_Ci_isSpot (l : Launch) {k : Nat} {a1 : Int32} {s : MS} (ht : rf s.2.2 1 (some k) = some k) {r : Int32} (h : f_Ci_isSpot k a1 s = some r) : Ct l yX0_isSpot (.code yX0_isSpot cX0_isSpot 3 (some .boolean)) rm_Ci_isSpot 0 0 false [vR (some k), vI a1] s (some (vI r)) s :=
  Ct.of rfl (by decide +kernel) ⟨rfl, le_t rfl⟩ (fun X ok fn _ hI hl => w_Ci_isSpot (KX := fun y => y = r) ok (fun y hy => by subst hy; exact fn) ht h rfl)
abbrev rm_Ci_distance : Room := { frames := 1, cells := 0, slots := 0, locals := 21 }
theorem cm_Ci_distance : cfM yX0_distance cX0_distance 2 (some .int) 2 := ⟨tw_537, tw_2, by decide, by decide, by decide +kernel⟩
theorem cs_Ci_distance : cfS yX0_distance := tw_536
theorem d_Ci_distance_0 : decode cX0_distance 0 = .ok (.iload_n 0, 1) := by decide +kernel
theorem d_Ci_distance_1 : decode cX0_distance 1 = .ok (.bipush 10, 2) := by decide +kernel
theorem d_Ci_distance_3 : decode cX0_distance 3 = .ok (.irem, 1) := by decide +kernel
theorem d_Ci_distance_4 : decode cX0_distance 4 = .ok (.iload_n 1, 1) := by decide +kernel
theorem d_Ci_distance_5 : decode cX0_distance 5 = .ok (.bipush 10, 2) := by decide +kernel
theorem d_Ci_distance_7 : decode cX0_distance 7 = .ok (.irem, 1) := by decide +kernel
theorem d_Ci_distance_8 : decode cX0_distance 8 = .ok (.isub, 1) := by decide +kernel
theorem d_Ci_distance_9 : decode cX0_distance 9 = .ok (.invokestatic 36, 3) := by decide +kernel
theorem d_Ci_distance_12 : decode cX0_distance 12 = .ok (.iload_n 0, 1) := by decide +kernel
theorem d_Ci_distance_13 : decode cX0_distance 13 = .ok (.bipush 10, 2) := by decide +kernel
theorem d_Ci_distance_15 : decode cX0_distance 15 = .ok (.idiv, 1) := by decide +kernel
theorem d_Ci_distance_16 : decode cX0_distance 16 = .ok (.iload_n 1, 1) := by decide +kernel
theorem d_Ci_distance_17 : decode cX0_distance 17 = .ok (.bipush 10, 2) := by decide +kernel
theorem d_Ci_distance_19 : decode cX0_distance 19 = .ok (.idiv, 1) := by decide +kernel
theorem d_Ci_distance_20 : decode cX0_distance 20 = .ok (.isub, 1) := by decide +kernel
theorem d_Ci_distance_21 : decode cX0_distance 21 = .ok (.invokestatic 36, 3) := by decide +kernel
theorem d_Ci_distance_24 : decode cX0_distance 24 = .ok (.iadd, 1) := by decide +kernel
theorem d_Ci_distance_25 : decode cX0_distance 25 = .ok (.ireturn, 1) := by decide +kernel
set_option maxRecDepth 100000 in
set_option maxHeartbeats 4000000 in
theorem w_Ci_distance {X : CX} {KX : Int32 → Prop} {a0 : Int32} {a1 : Int32} {s : MS} (ok : Ok X cX0_distance RX0 rm_Ci_distance 2 false) (hret : ∀ r : Int32, KX r → Fin X (some .int) 0 0 false (some (vI r)) s)    {res : Int32} (h : f_Ci_distance a0 a1 = res) (hk : KX res) : G X s 0 0 0 [(0, vI a0), (1, vI a1)] [] := by
  unfold f_Ci_distance at h
  refine g_iload_n (i := 0) 0 ok d_Ci_distance_0 rfl rfl ?_
  refine g_bipush (v := (10 : Int32)) ok d_Ci_distance_1 (by decide) ?_
  refine g_irem ok d_Ci_distance_3 (by decide) ?_
  refine g_iload_n (i := 1) 1 ok d_Ci_distance_4 rfl rfl ?_
  refine g_bipush (v := (10 : Int32)) ok d_Ci_distance_5 (by decide) ?_
  refine g_irem ok d_Ci_distance_7 (by decide) ?_
  refine g_isub ok d_Ci_distance_8 ?_
  refine g_mabs ok tw_538 tw_539 tw_11 tw_540 rfl ⟨le_t rfl, le_t rfl⟩ ⟨le_t rfl, le_t rfl⟩ d_Ci_distance_9 ?_
  refine g_iload_n (i := 0) 0 ok d_Ci_distance_12 rfl rfl ?_
  refine g_bipush (v := (10 : Int32)) ok d_Ci_distance_13 (by decide) ?_
  refine g_idiv ok d_Ci_distance_15 (by decide) ?_
  refine g_iload_n (i := 1) 1 ok d_Ci_distance_16 rfl rfl ?_
  refine g_bipush (v := (10 : Int32)) ok d_Ci_distance_17 (by decide) ?_
  refine g_idiv ok d_Ci_distance_19 (by decide) ?_
  refine g_isub ok d_Ci_distance_20 ?_
  refine g_mabs ok tw_538 tw_539 tw_11 tw_540 rfl ⟨le_t rfl, le_t rfl⟩ ⟨le_t rfl, le_t rfl⟩ d_Ci_distance_21 ?_
  refine g_iadd ok d_Ci_distance_24 ?_
  subst h
  exact g_iret ok (hret _ hk) (by decide) (by decide) d_Ci_distance_25
theorem c_Ci_distance (l : Launch) {a0 : Int32} {a1 : Int32} {s : MS} : Ct l yX0_distance (.code yX0_distance cX0_distance 2 (some .int)) rm_Ci_distance 0 0 false [vI a0, vI a1] s (some (vI (f_Ci_distance a0 a1))) s :=
  Ct.of rfl (by decide +kernel) ⟨rfl, le_t rfl⟩ (fun X ok fn _ hI hl => w_Ci_distance (KX := fun y => y = f_Ci_distance a0 a1) ok (fun y hy => by subst hy; exact fn) rfl rfl)
abbrev rm_Ci_nearestSpot : Room := { frames := 2, cells := 0, slots := 0, locals := 42 }
theorem cm_Ci_nearestSpot : cfM yX0_nearestSpot cX0_nearestSpot 6 (some .int) 1 := ⟨tw_534, tw_2, by decide, by decide, by decide +kernel⟩
theorem cv_Ci_nearestSpot : cfV yX0_nearestSpot := ⟨tw_533, ts_X0_nearestSpot⟩
theorem d_Ci_nearestSpot_0 : decode cX0_nearestSpot 0 = .ok (.iconst (-1), 1) := by decide +kernel
theorem d_Ci_nearestSpot_1 : decode cX0_nearestSpot 1 = .ok (.istore_n 2, 1) := by decide +kernel
theorem d_Ci_nearestSpot_2 : decode cX0_nearestSpot 2 = .ok (.iconst 0, 1) := by decide +kernel
theorem d_Ci_nearestSpot_3 : decode cX0_nearestSpot 3 = .ok (.istore_n 3, 1) := by decide +kernel
theorem d_Ci_nearestSpot_4 : decode cX0_nearestSpot 4 = .ok (.iconst 0, 1) := by decide +kernel
theorem d_Ci_nearestSpot_5 : decode cX0_nearestSpot 5 = .ok (.istore 4, 2) := by decide +kernel
theorem d_Ci_nearestSpot_7 : decode cX0_nearestSpot 7 = .ok (.iload 4, 2) := by decide +kernel
theorem d_Ci_nearestSpot_9 : decode cX0_nearestSpot 9 = .ok (.aload_n 0, 1) := by decide +kernel
theorem d_Ci_nearestSpot_10 : decode cX0_nearestSpot 10 = .ok (.getfield 24, 3) := by decide +kernel
theorem d_Ci_nearestSpot_13 : decode cX0_nearestSpot 13 = .ok (.if_icmp .ge 71, 3) := by decide +kernel
theorem d_Ci_nearestSpot_16 : decode cX0_nearestSpot 16 = .ok (.iload 4, 2) := by decide +kernel
theorem d_Ci_nearestSpot_18 : decode cX0_nearestSpot 18 = .ok (.aload_n 0, 1) := by decide +kernel
theorem d_Ci_nearestSpot_19 : decode cX0_nearestSpot 19 = .ok (.getfield 15, 3) := by decide +kernel
theorem d_Ci_nearestSpot_22 : decode cX0_nearestSpot 22 = .ok (.arraylength, 1) := by decide +kernel
theorem d_Ci_nearestSpot_23 : decode cX0_nearestSpot 23 = .ok (.if_icmp .ge 61, 3) := by decide +kernel
theorem d_Ci_nearestSpot_26 : decode cX0_nearestSpot 26 = .ok (.iload_n 1, 1) := by decide +kernel
theorem d_Ci_nearestSpot_27 : decode cX0_nearestSpot 27 = .ok (.aload_n 0, 1) := by decide +kernel
theorem d_Ci_nearestSpot_28 : decode cX0_nearestSpot 28 = .ok (.getfield 15, 3) := by decide +kernel
theorem d_Ci_nearestSpot_31 : decode cX0_nearestSpot 31 = .ok (.iload 4, 2) := by decide +kernel
theorem d_Ci_nearestSpot_33 : decode cX0_nearestSpot 33 = .ok (.iaload, 1) := by decide +kernel
theorem d_Ci_nearestSpot_34 : decode cX0_nearestSpot 34 = .ok (.invokestatic 28, 3) := by decide +kernel
theorem d_Ci_nearestSpot_37 : decode cX0_nearestSpot 37 = .ok (.istore 5, 2) := by decide +kernel
theorem d_Ci_nearestSpot_39 : decode cX0_nearestSpot 39 = .ok (.iload_n 2, 1) := by decide +kernel
theorem d_Ci_nearestSpot_40 : decode cX0_nearestSpot 40 = .ok (.iconst (-1), 1) := by decide +kernel
theorem d_Ci_nearestSpot_41 : decode cX0_nearestSpot 41 = .ok (.if_icmp .eq 26, 3) := by decide +kernel
theorem d_Ci_nearestSpot_44 : decode cX0_nearestSpot 44 = .ok (.iload 5, 2) := by decide +kernel
theorem d_Ci_nearestSpot_46 : decode cX0_nearestSpot 46 = .ok (.iload_n 3, 1) := by decide +kernel
theorem d_Ci_nearestSpot_47 : decode cX0_nearestSpot 47 = .ok (.if_icmp .lt 20, 3) := by decide +kernel
theorem d_Ci_nearestSpot_50 : decode cX0_nearestSpot 50 = .ok (.iload 5, 2) := by decide +kernel
theorem d_Ci_nearestSpot_52 : decode cX0_nearestSpot 52 = .ok (.iload_n 3, 1) := by decide +kernel
theorem d_Ci_nearestSpot_53 : decode cX0_nearestSpot 53 = .ok (.if_icmp .ne 25, 3) := by decide +kernel
theorem d_Ci_nearestSpot_56 : decode cX0_nearestSpot 56 = .ok (.aload_n 0, 1) := by decide +kernel
theorem d_Ci_nearestSpot_57 : decode cX0_nearestSpot 57 = .ok (.getfield 15, 3) := by decide +kernel
theorem d_Ci_nearestSpot_60 : decode cX0_nearestSpot 60 = .ok (.iload 4, 2) := by decide +kernel
theorem d_Ci_nearestSpot_62 : decode cX0_nearestSpot 62 = .ok (.iaload, 1) := by decide +kernel
theorem d_Ci_nearestSpot_63 : decode cX0_nearestSpot 63 = .ok (.iload_n 2, 1) := by decide +kernel
theorem d_Ci_nearestSpot_64 : decode cX0_nearestSpot 64 = .ok (.if_icmp .ge 14, 3) := by decide +kernel
theorem d_Ci_nearestSpot_67 : decode cX0_nearestSpot 67 = .ok (.aload_n 0, 1) := by decide +kernel
theorem d_Ci_nearestSpot_68 : decode cX0_nearestSpot 68 = .ok (.getfield 15, 3) := by decide +kernel
theorem d_Ci_nearestSpot_71 : decode cX0_nearestSpot 71 = .ok (.iload 4, 2) := by decide +kernel
theorem d_Ci_nearestSpot_73 : decode cX0_nearestSpot 73 = .ok (.iaload, 1) := by decide +kernel
theorem d_Ci_nearestSpot_74 : decode cX0_nearestSpot 74 = .ok (.istore_n 2, 1) := by decide +kernel
theorem d_Ci_nearestSpot_75 : decode cX0_nearestSpot 75 = .ok (.iload 5, 2) := by decide +kernel
theorem d_Ci_nearestSpot_77 : decode cX0_nearestSpot 77 = .ok (.istore_n 3, 1) := by decide +kernel
theorem d_Ci_nearestSpot_78 : decode cX0_nearestSpot 78 = .ok (.iinc 4 1, 3) := by decide +kernel
theorem d_Ci_nearestSpot_81 : decode cX0_nearestSpot 81 = .ok (.goto (-74), 3) := by decide +kernel
theorem d_Ci_nearestSpot_84 : decode cX0_nearestSpot 84 = .ok (.iload_n 2, 1) := by decide +kernel
theorem d_Ci_nearestSpot_85 : decode cX0_nearestSpot 85 = .ok (.ireturn, 1) := by decide +kernel
set_option maxRecDepth 100000 in
set_option maxHeartbeats 4000000 in
theorem w_j_Ci_nearestSpot_67 {X : CX} {KX : Int32 → Prop} {k : Nat} {a1 : Int32} {a4 : Int32} {a5 : Int32} {s : MS} {rec : Int32 → Int32 → Int32 → Option (Int32)} (ok : Ok X cX0_nearestSpot RX0 rm_Ci_nearestSpot 6 false) (hexit : ∀ (e2 : Int32), KX e2 → G X s 0 0 84 [(0, vR (some k)), (2, vI e2)] []) (hrec : ∀ (v2 : Int32) (v3 : Int32) (v4 : Int32), ∀ y, rec v2 v3 v4 = some y → KX y → G X s 0 0 7 [(0, vR (some k)), (1, vI a1), (2, vI v2), (3, vI v3), (4, vI v4)] []) (ht : rf s.2.2 1 (some k) = some k) {res : Int32} (h : j_Ci_nearestSpot_67 k a1 a4 a5 s rec = some res) (hk : KX res) : G X s 0 0 67 [(0, vR (some k)), (1, vI a1), (4, vI a4), (5, vI a5)] [] := by
  unfold j_Ci_nearestSpot_67 at h
  refine g_aload_n (i := 0) 0 ok d_Ci_nearestSpot_67 rfl rfl ?_
  refine g_getr (s0 := 1) (j := 1) (ci := 0) (C := RX0) (T := TX0) (N := 5) ok ht lay_1 rfl inX0 (by decide) rfl tw_28 rfl d_Ci_nearestSpot_68 ?_
  refine g_iload (i := 4) 2 ok d_Ci_nearestSpot_71 rfl ?_
  obtain ⟨k11, hk12, h⟩ := bnd_go h
  refine g_iald ok hk12 d_Ci_nearestSpot_73 ?_
  obtain ⟨x13, e14⟩ : ∃ z, (s.1 k11 a4.toNatClampNeg) = z := ⟨_, rfl⟩
  replace h := lt_go h e14
  rw [e14]
  refine g_istore_n (i := 2) [(2, vI x13), (0, vR (some k)), (1, vI a1), (4, vI a4), (5, vI a5)] ok d_Ci_nearestSpot_74 rfl (by decide) rfl ?_
  refine g_iload (i := 5) 4 ok d_Ci_nearestSpot_75 rfl ?_
  refine g_istore_n (i := 3) [(3, vI a5), (2, vI x13), (0, vR (some k)), (1, vI a1), (4, vI a4), (5, vI a5)] ok d_Ci_nearestSpot_77 rfl (by decide) rfl ?_
  obtain ⟨x15, e16⟩ : ∃ z, a4 + (1 : Int32) = z := ⟨_, rfl⟩
  replace h := lt_go h e16
  refine g_iinc (i := 4) (v := x15) 4 [(4, vI x15), (3, vI a5), (2, vI x13), (0, vR (some k)), (1, vI a1), (5, vI a5)] ok d_Ci_nearestSpot_78 rfl (by rw [← e16]; rfl) (by decide) rfl ?_
  refine g_goto (tgt := 7) ok d_Ci_nearestSpot_81 (by decide) ?_
  refine g_sub [3, 4, 2, 1, 0] rfl ?_
  exact hrec x13 a5 x15 _ h hk
set_option maxRecDepth 100000 in
set_option maxHeartbeats 4000000 in
theorem w_b_Ci_nearestSpot_7 {X : CX} {KX : Int32 → Prop} {k : Nat} {a1 : Int32} {a2 : Int32} {a3 : Int32} {a4 : Int32} {s : MS} {rec : Int32 → Int32 → Int32 → Option (Int32)} (ok : Ok X cX0_nearestSpot RX0 rm_Ci_nearestSpot 6 false) (hexit : ∀ (e2 : Int32), KX e2 → G X s 0 0 84 [(0, vR (some k)), (2, vI e2)] []) (hrec : ∀ (v2 : Int32) (v3 : Int32) (v4 : Int32), ∀ y, rec v2 v3 v4 = some y → KX y → G X s 0 0 7 [(0, vR (some k)), (1, vI a1), (2, vI v2), (3, vI v3), (4, vI v4)] []) (ht : rf s.2.2 1 (some k) = some k) {res : Int32} (h : b_Ci_nearestSpot_7 k a1 a2 a3 a4 s rec = some res) (hk : KX res) : G X s 0 0 7 [(0, vR (some k)), (1, vI a1), (2, vI a2), (3, vI a3), (4, vI a4)] [] := by
  unfold b_Ci_nearestSpot_7 at h
  refine g_iload (i := 4) 4 ok d_Ci_nearestSpot_7 rfl ?_
  refine g_aload_n (i := 0) 0 ok d_Ci_nearestSpot_9 rfl rfl ?_
  refine g_geti (s0 := 1) (j := 4) (ci := 0) (C := RX0) (T := TX0) (N := 5) ok ht lay_1 rfl inX0 (by decide) rfl tw_34 rfl d_Ci_nearestSpot_10 ?_
  refine g_icmp_ge (tgt := 84) ok d_Ci_nearestSpot_13 (by decide) (fun c1 => ?_) (fun c1 => ?_)
  · replace h := (if_pos c1).symm.trans h
    refine g_iload (i := 4) 4 ok d_Ci_nearestSpot_16 rfl ?_
    refine g_aload_n (i := 0) 0 ok d_Ci_nearestSpot_18 rfl rfl ?_
    refine g_getr (s0 := 1) (j := 1) (ci := 0) (C := RX0) (T := TX0) (N := 5) ok ht lay_1 rfl inX0 (by decide) rfl tw_28 rfl d_Ci_nearestSpot_19 ?_
    obtain ⟨n2, hn3, h⟩ := bnd_go h
    refine g_alen ok hn3 (by decide) d_Ci_nearestSpot_22 ?_
    refine g_icmp_ge (tgt := 84) ok d_Ci_nearestSpot_23 (by decide) (fun c4 => ?_) (fun c4 => ?_)
    · replace h := (if_pos c4).symm.trans h
      refine g_iload_n (i := 1) 1 ok d_Ci_nearestSpot_26 rfl rfl ?_
      refine g_aload_n (i := 0) 0 ok d_Ci_nearestSpot_27 rfl rfl ?_
      refine g_getr (s0 := 1) (j := 1) (ci := 0) (C := RX0) (T := TX0) (N := 5) ok ht lay_1 rfl inX0 (by decide) rfl tw_28 rfl d_Ci_nearestSpot_28 ?_
      refine g_iload (i := 4) 4 ok d_Ci_nearestSpot_31 rfl ?_
      obtain ⟨k5, hk6, h⟩ := bnd_go h
      refine g_iald ok hk6 d_Ci_nearestSpot_33 ?_
      refine g_invS (rm2 := rm_Ci_distance) (As := [vI a1, vI (s.1 k5 a4.toNatClampNeg)]) (rest := []) ok (c_Ci_distance X.1.2.1) cm_Ci_distance cs_Ci_distance tw_535 ⟨rfl, rfl⟩ ⟨le_t rfl, le_t rfl⟩ ⟨rfl, le_t rfl⟩ ⟨le_t rfl, le_t rfl⟩ d_Ci_nearestSpot_34 rfl (fun m7 => ?_)
      show G X s 0 0 37 [(0, vR (some k)), (1, vI a1), (2, vI a2), (3, vI a3), (4, vI a4)] [vI (f_Ci_distance a1 (s.1 k5 a4.toNatClampNeg))]
      obtain ⟨x8, e9⟩ : ∃ z, (f_Ci_distance a1 (s.1 k5 a4.toNatClampNeg)) = z := ⟨_, rfl⟩
      replace h := lt_go h e9
      rw [e9]
      refine g_istore (i := 5) [(5, vI x8), (0, vR (some k)), (1, vI a1), (2, vI a2), (3, vI a3), (4, vI a4)] ok d_Ci_nearestSpot_37 (by decide) rfl ?_
      refine g_iload_n (i := 2) 3 ok d_Ci_nearestSpot_39 rfl rfl ?_
      refine g_iconst (v := (-1 : Int32)) ok d_Ci_nearestSpot_40 (by decide) ?_
      refine g_icmp_eq (tgt := 67) ok d_Ci_nearestSpot_41 (by decide) (fun c10 => ?_) (fun c10 => ?_)
      · replace h := (if_pos c10).symm.trans h
        refine g_sub [1, 2, 5, 0] rfl ?_
        exact w_j_Ci_nearestSpot_67 ok hexit hrec ht h hk
      · replace h := (if_neg c10).symm.trans h
        refine g_iload (i := 5) 0 ok d_Ci_nearestSpot_44 rfl ?_
        refine g_iload_n (i := 3) 4 ok d_Ci_nearestSpot_46 rfl rfl ?_
        refine g_icmp_lt (tgt := 67) ok d_Ci_nearestSpot_47 (by decide) (fun c17 => ?_) (fun c17 => ?_)
        · replace h := (if_pos c17).symm.trans h
          refine g_sub [1, 2, 5, 0] rfl ?_
          exact w_j_Ci_nearestSpot_67 ok hexit hrec ht h hk
        · replace h := (if_neg c17).symm.trans h
          refine g_iload (i := 5) 0 ok d_Ci_nearestSpot_50 rfl ?_
          refine g_iload_n (i := 3) 4 ok d_Ci_nearestSpot_52 rfl rfl ?_
          refine g_icmp_ne (tgt := 78) ok d_Ci_nearestSpot_53 (by decide) (fun c18 => ?_) (fun c18 => ?_)
          · replace h := (if_pos c18).symm.trans h
            refine g_aload_n (i := 0) 1 ok d_Ci_nearestSpot_56 rfl rfl ?_
            refine g_getr (s0 := 1) (j := 1) (ci := 0) (C := RX0) (T := TX0) (N := 5) ok ht lay_1 rfl inX0 (by decide) rfl tw_28 rfl d_Ci_nearestSpot_57 ?_
            refine g_iload (i := 4) 5 ok d_Ci_nearestSpot_60 rfl ?_
            obtain ⟨k19, hk20, h⟩ := bnd_go h
            refine g_iald ok hk20 d_Ci_nearestSpot_62 ?_
            refine g_iload_n (i := 2) 3 ok d_Ci_nearestSpot_63 rfl rfl ?_
            refine g_icmp_ge (tgt := 78) ok d_Ci_nearestSpot_64 (by decide) (fun c21 => ?_) (fun c21 => ?_)
            · replace h := (if_pos c21).symm.trans h
              refine g_sub [1, 2, 5, 0] rfl ?_
              exact w_j_Ci_nearestSpot_67 ok hexit hrec ht h hk
            · replace h := (if_neg c21).symm.trans h
              obtain ⟨x22, e23⟩ : ∃ z, a4 + (1 : Int32) = z := ⟨_, rfl⟩
              replace h := lt_go h e23
              refine g_iinc (i := 4) (v := x22) 5 [(4, vI x22), (5, vI x8), (0, vR (some k)), (1, vI a1), (2, vI a2), (3, vI a3)] ok d_Ci_nearestSpot_78 rfl (by rw [← e23]; rfl) (by decide) rfl ?_
              refine g_goto (tgt := 7) ok d_Ci_nearestSpot_81 (by decide) ?_
              refine g_sub [2, 3, 4, 5, 0] rfl ?_
              exact hrec a2 a3 x22 _ h hk
          · replace h := (if_neg c18).symm.trans h
            obtain ⟨x24, e25⟩ : ∃ z, a4 + (1 : Int32) = z := ⟨_, rfl⟩
            replace h := lt_go h e25
            refine g_iinc (i := 4) (v := x24) 5 [(4, vI x24), (5, vI x8), (0, vR (some k)), (1, vI a1), (2, vI a2), (3, vI a3)] ok d_Ci_nearestSpot_78 rfl (by rw [← e25]; rfl) (by decide) rfl ?_
            refine g_goto (tgt := 7) ok d_Ci_nearestSpot_81 (by decide) ?_
            refine g_sub [2, 3, 4, 5, 0] rfl ?_
            exact hrec a2 a3 x24 _ h hk
    · replace h := (if_neg c4).symm.trans h
      refine g_sub [0, 2] rfl ?_
      cases h
      exact hexit a2 hk
  · replace h := (if_neg c1).symm.trans h
    refine g_sub [0, 2] rfl ?_
    cases h
    exact hexit a2 hk
theorem w_l_Ci_nearestSpot_7 {X : CX} {KX : Int32 → Prop} {k : Nat} {a1 : Int32} {s : MS} (ok : Ok X cX0_nearestSpot RX0 rm_Ci_nearestSpot 6 false) (hexit : ∀ (e2 : Int32), KX e2 → G X s 0 0 84 [(0, vR (some k)), (2, vI e2)] []) (ht : rf s.2.2 1 (some k) = some k) : ∀ (n : Nat) (a2 : Int32) (a3 : Int32) (a4 : Int32) {res : Int32}, l_Ci_nearestSpot_7 k a1 s n a2 a3 a4 = some res → KX res → G X s 0 0 7 [(0, vR (some k)), (1, vI a1), (2, vI a2), (3, vI a3), (4, vI a4)] [] := by
  intro n
  induction n with
  | zero => intro _ _ _ res h; cases h
  | succ n ih =>
    intro a2 a3 a4 res h hk
    exact w_b_Ci_nearestSpot_7 ok hexit (fun v2 v3 v4 y h2 hk2 => ih v2 v3 v4 h2 hk2) ht h hk
set_option maxRecDepth 100000 in
set_option maxHeartbeats 4000000 in
theorem w_Ci_nearestSpot {X : CX} {KX : Int32 → Prop} {k : Nat} {a1 : Int32} {s : MS} (ok : Ok X cX0_nearestSpot RX0 rm_Ci_nearestSpot 6 false) (hret : ∀ r : Int32, KX r → Fin X (some .int) 0 0 false (some (vI r)) s)   (ht : rf s.2.2 1 (some k) = some k) {res : Int32} (h : f_Ci_nearestSpot k a1 s = some res) (hk : KX res) : G X s 0 0 0 [(0, vR (some k)), (1, vI a1)] [] := by
  unfold f_Ci_nearestSpot at h
  refine g_iconst (v := (-1 : Int32)) ok d_Ci_nearestSpot_0 (by decide) ?_
  refine g_istore_n (i := 2) [(2, vI (-1 : Int32)), (0, vR (some k)), (1, vI a1)] ok d_Ci_nearestSpot_1 rfl (by decide) rfl ?_
  refine g_iconst (v := (0 : Int32)) ok d_Ci_nearestSpot_2 (by decide) ?_
  refine g_istore_n (i := 3) [(3, vI (0 : Int32)), (2, vI (-1 : Int32)), (0, vR (some k)), (1, vI a1)] ok d_Ci_nearestSpot_3 rfl (by decide) rfl ?_
  refine g_iconst (v := (0 : Int32)) ok d_Ci_nearestSpot_4 (by decide) ?_
  refine g_istore (i := 4) [(4, vI (0 : Int32)), (3, vI (0 : Int32)), (2, vI (-1 : Int32)), (0, vR (some k)), (1, vI a1)] ok d_Ci_nearestSpot_5 (by decide) rfl ?_
  refine g_sub [3, 4, 2, 1, 0] rfl ?_
  obtain ⟨e26, hx, h⟩ := bnd_go h
  refine w_l_Ci_nearestSpot_7 (KX := fun y => y = e26) ok (fun y0 he => ?_) ht _ _ _ _ hx rfl
  cases he
  refine g_iload_n (i := 2) 1 ok d_Ci_nearestSpot_84 rfl rfl ?_
  cases h
  exact g_iret ok (hret _ hk) (by decide) (by decide) d_Ci_nearestSpot_85
theorem c_Ci_nearestSpot (l : Launch) {k : Nat} {a1 : Int32} {s : MS} (ht : rf s.2.2 1 (some k) = some k) {r : Int32} (h : f_Ci_nearestSpot k a1 s = some r) : Ct l yX0_nearestSpot (.code yX0_nearestSpot cX0_nearestSpot 6 (some .int)) rm_Ci_nearestSpot 0 0 false [vR (some k), vI a1] s (some (vI r)) s :=
  Ct.of rfl (by decide +kernel) ⟨rfl, le_t rfl⟩ (fun X ok fn _ hI hl => w_Ci_nearestSpot (KX := fun y => y = r) ok (fun y hy => by subst hy; exact fn) ht h rfl)
abbrev rm_Ci_wayHome : Room := { frames := 3, cells := 0, slots := 0, locals := 67 }
theorem cm_Ci_wayHome : cfM yX0_wayHome cX0_wayHome 3 (some .int) 1 := ⟨tw_530, tw_2, by decide, by decide, by decide +kernel⟩
theorem cv_Ci_wayHome : cfV yX0_wayHome := ⟨tw_529, ts_X0_wayHome⟩
theorem d_Ci_wayHome_0 : decode cX0_wayHome 0 = .ok (.aload_n 0, 1) := by decide +kernel
theorem d_Ci_wayHome_1 : decode cX0_wayHome 1 = .ok (.iload_n 1, 1) := by decide +kernel
theorem d_Ci_wayHome_2 : decode cX0_wayHome 2 = .ok (.invokevirtual 32, 3) := by decide +kernel
theorem d_Ci_wayHome_5 : decode cX0_wayHome 5 = .ok (.istore_n 2, 1) := by decide +kernel
theorem d_Ci_wayHome_6 : decode cX0_wayHome 6 = .ok (.iload_n 2, 1) := by decide +kernel
theorem d_Ci_wayHome_7 : decode cX0_wayHome 7 = .ok (.iconst (-1), 1) := by decide +kernel
theorem d_Ci_wayHome_8 : decode cX0_wayHome 8 = .ok (.if_icmp .ne 7, 3) := by decide +kernel
theorem d_Ci_wayHome_11 : decode cX0_wayHome 11 = .ok (.iconst (-1), 1) := by decide +kernel
theorem d_Ci_wayHome_12 : decode cX0_wayHome 12 = .ok (.goto 8, 3) := by decide +kernel
theorem d_Ci_wayHome_15 : decode cX0_wayHome 15 = .ok (.iload_n 1, 1) := by decide +kernel
theorem d_Ci_wayHome_16 : decode cX0_wayHome 16 = .ok (.iload_n 2, 1) := by decide +kernel
theorem d_Ci_wayHome_17 : decode cX0_wayHome 17 = .ok (.invokestatic 28, 3) := by decide +kernel
theorem d_Ci_wayHome_20 : decode cX0_wayHome 20 = .ok (.ireturn, 1) := by decide +kernel
set_option maxRecDepth 100000 in
set_option maxHeartbeats 4000000 in
theorem w_Ci_wayHome {X : CX} {KX : Int32 → Prop} {k : Nat} {a1 : Int32} {s : MS} (ok : Ok X cX0_wayHome RX0 rm_Ci_wayHome 3 false) (hret : ∀ r : Int32, KX r → Fin X (some .int) 0 0 false (some (vI r)) s)   (ht : rf s.2.2 1 (some k) = some k) {res : Int32} (h : f_Ci_wayHome k a1 s = some res) (hk : KX res) : G X s 0 0 0 [(0, vR (some k)), (1, vI a1)] [] := by
  unfold f_Ci_wayHome at h
  refine g_aload_n (i := 0) 0 ok d_Ci_wayHome_0 rfl rfl ?_
  refine g_iload_n (i := 1) 1 ok d_Ci_wayHome_1 rfl rfl ?_
  obtain ⟨x2, hc3, h⟩ := bnd_go h
  refine g_invV (rm2 := rm_Ci_nearestSpot) (As := [vI a1]) (rest := []) ok ht lay_1 rfl (c_Ci_nearestSpot X.1.2.1 (rf_self ht) hc3) cm_Ci_nearestSpot cv_Ci_nearestSpot tw_531 ⟨rfl, rfl⟩ ⟨le_t rfl, le_t rfl⟩ ⟨rfl, le_t rfl⟩ ⟨le_t rfl, le_t rfl⟩ d_Ci_wayHome_2 rfl (fun m1 => ?_)
  show G X s 0 0 5 [(0, vR (some k)), (1, vI a1)] [vI x2]
  refine g_istore_n (i := 2) [(2, vI x2), (0, vR (some k)), (1, vI a1)] ok d_Ci_wayHome_5 rfl (by decide) rfl ?_
  refine g_iload_n (i := 2) 0 ok d_Ci_wayHome_6 rfl rfl ?_
  refine g_iconst (v := (-1 : Int32)) ok d_Ci_wayHome_7 (by decide) ?_
  refine g_icmp_ne (tgt := 15) ok d_Ci_wayHome_8 (by decide) (fun c4 => ?_) (fun c4 => ?_)
  · replace h := (if_pos c4).symm.trans h
    refine g_iconst (v := (-1 : Int32)) ok d_Ci_wayHome_11 (by decide) ?_
    refine g_goto (tgt := 20) ok d_Ci_wayHome_12 (by decide) ?_
    cases h
    exact g_iret ok (hret _ hk) (by decide) (by decide) d_Ci_wayHome_20
  · replace h := (if_neg c4).symm.trans h
    refine g_iload_n (i := 1) 2 ok d_Ci_wayHome_15 rfl rfl ?_
    refine g_iload_n (i := 2) 0 ok d_Ci_wayHome_16 rfl rfl ?_
    refine g_invS (rm2 := rm_Ci_distance) (As := [vI a1, vI x2]) (rest := []) ok (c_Ci_distance X.1.2.1) cm_Ci_distance cs_Ci_distance tw_535 ⟨rfl, rfl⟩ ⟨le_t rfl, le_t rfl⟩ ⟨rfl, le_t rfl⟩ ⟨le_t rfl, le_t rfl⟩ d_Ci_wayHome_17 rfl (fun m5 => ?_)
    show G X s 0 0 20 [(2, vI x2), (0, vR (some k)), (1, vI a1)] [vI (f_Ci_distance a1 x2)]
    cases h
    exact g_iret ok (hret _ hk) (by decide) (by decide) d_Ci_wayHome_20
theorem c_Ci_wayHome (l : Launch) {k : Nat} {a1 : Int32} {s : MS} (ht : rf s.2.2 1 (some k) = some k) {r : Int32} (h : f_Ci_wayHome k a1 s = some r) : Ct l yX0_wayHome (.code yX0_wayHome cX0_wayHome 3 (some .int)) rm_Ci_wayHome 0 0 false [vR (some k), vI a1] s (some (vI r)) s :=
  Ct.of rfl (by decide +kernel) ⟨rfl, le_t rfl⟩ (fun X ok fn _ hI hl => w_Ci_wayHome (KX := fun y => y = r) ok (fun y hy => by subst hy; exact fn) ht h rfl)
abbrev rm_Ci_atLayer : Room := { frames := 0, cells := 0, slots := 0, locals := 0 }
theorem cm_Ci_atLayer : cfM yX0_atLayer cX0_atLayer 2 (some .int) 2 := ⟨tw_343, tw_2, by decide, by decide, by decide +kernel⟩
theorem cs_Ci_atLayer : cfS yX0_atLayer := tw_342
theorem d_Ci_atLayer_0 : decode cX0_atLayer 0 = .ok (.aload_n 0, 1) := by decide +kernel
theorem d_Ci_atLayer_1 : decode cX0_atLayer 1 = .ok (.ifnull 13, 3) := by decide +kernel
theorem d_Ci_atLayer_4 : decode cX0_atLayer 4 = .ok (.iload_n 1, 1) := by decide +kernel
theorem d_Ci_atLayer_5 : decode cX0_atLayer 5 = .ok (.ifCond .lt 9, 3) := by decide +kernel
theorem d_Ci_atLayer_8 : decode cX0_atLayer 8 = .ok (.iload_n 1, 1) := by decide +kernel
theorem d_Ci_atLayer_9 : decode cX0_atLayer 9 = .ok (.aload_n 0, 1) := by decide +kernel
theorem d_Ci_atLayer_10 : decode cX0_atLayer 10 = .ok (.arraylength, 1) := by decide +kernel
theorem d_Ci_atLayer_11 : decode cX0_atLayer 11 = .ok (.if_icmp .lt 7, 3) := by decide +kernel
theorem d_Ci_atLayer_14 : decode cX0_atLayer 14 = .ok (.iconst 0, 1) := by decide +kernel
theorem d_Ci_atLayer_15 : decode cX0_atLayer 15 = .ok (.goto 6, 3) := by decide +kernel
theorem d_Ci_atLayer_18 : decode cX0_atLayer 18 = .ok (.aload_n 0, 1) := by decide +kernel
theorem d_Ci_atLayer_19 : decode cX0_atLayer 19 = .ok (.iload_n 1, 1) := by decide +kernel
theorem d_Ci_atLayer_20 : decode cX0_atLayer 20 = .ok (.iaload, 1) := by decide +kernel
theorem d_Ci_atLayer_21 : decode cX0_atLayer 21 = .ok (.ireturn, 1) := by decide +kernel
set_option maxRecDepth 100000 in
set_option maxHeartbeats 4000000 in
theorem w_Ci_atLayer {X : CX} {KX : Int32 → Prop} {a0 : Option Nat} {a1 : Int32} {s : MS} (ok : Ok X cX0_atLayer RX0 rm_Ci_atLayer 2 false) (hret : ∀ r : Int32, KX r → Fin X (some .int) 0 0 false (some (vI r)) s)    {res : Int32} (h : f_Ci_atLayer a0 a1 s = some res) (hk : KX res) : G X s 0 0 0 [(0, vR a0), (1, vI a1)] [] := by
  unfold f_Ci_atLayer at h
  refine g_aload_n (i := 0) 0 ok d_Ci_atLayer_0 rfl rfl ?_
  refine g_ifnull (tgt := 14) ok d_Ci_atLayer_1 (by decide) (fun c1 => ?_) (fun c1 => ?_)
  · replace h := (if_pos c1).symm.trans h
    refine g_iconst (v := (0 : Int32)) ok d_Ci_atLayer_14 (by decide) ?_
    refine g_goto (tgt := 21) ok d_Ci_atLayer_15 (by decide) ?_
    cases h
    exact g_iret ok (hret _ hk) (by decide) (by decide) d_Ci_atLayer_21
  · replace h := (if_neg c1).symm.trans h
    refine g_iload_n (i := 1) 1 ok d_Ci_atLayer_4 rfl rfl ?_
    refine g_if_lt (tgt := 14) ok d_Ci_atLayer_5 (by decide) (fun c2 => ?_) (fun c2 => ?_)
    · replace h := (if_pos c2).symm.trans h
      refine g_iconst (v := (0 : Int32)) ok d_Ci_atLayer_14 (by decide) ?_
      refine g_goto (tgt := 21) ok d_Ci_atLayer_15 (by decide) ?_
      cases h
      exact g_iret ok (hret _ hk) (by decide) (by decide) d_Ci_atLayer_21
    · replace h := (if_neg c2).symm.trans h
      refine g_iload_n (i := 1) 1 ok d_Ci_atLayer_8 rfl rfl ?_
      refine g_aload_n (i := 0) 0 ok d_Ci_atLayer_9 rfl rfl ?_
      obtain ⟨n3, hn4, h⟩ := bnd_go h
      refine g_alen ok hn4 (by decide) d_Ci_atLayer_10 ?_
      refine g_icmp_lt (tgt := 18) ok d_Ci_atLayer_11 (by decide) (fun c5 => ?_) (fun c5 => ?_)
      · replace h := (if_pos c5).symm.trans h
        refine g_aload_n (i := 0) 0 ok d_Ci_atLayer_18 rfl rfl ?_
        refine g_iload_n (i := 1) 1 ok d_Ci_atLayer_19 rfl rfl ?_
        obtain ⟨k6, hk7, h⟩ := bnd_go h
        refine g_iald ok hk7 d_Ci_atLayer_20 ?_
        cases h
        exact g_iret ok (hret _ hk) (by decide) (by decide) d_Ci_atLayer_21
      · replace h := (if_neg c5).symm.trans h
        refine g_iconst (v := (0 : Int32)) ok d_Ci_atLayer_14 (by decide) ?_
        refine g_goto (tgt := 21) ok d_Ci_atLayer_15 (by decide) ?_
        cases h
        exact g_iret ok (hret _ hk) (by decide) (by decide) d_Ci_atLayer_21
theorem c_Ci_atLayer (l : Launch) {a0 : Option Nat} {a1 : Int32} {s : MS}  {r : Int32} (h : f_Ci_atLayer a0 a1 s = some r) : Ct l yX0_atLayer (.code yX0_atLayer cX0_atLayer 2 (some .int)) rm_Ci_atLayer 0 0 false [vR a0, vI a1] s (some (vI r)) s :=
  Ct.of rfl (by decide +kernel) ⟨rfl, le_t rfl⟩ (fun X ok fn _ hI hl => w_Ci_atLayer (KX := fun y => y = r) ok (fun y hy => by subst hy; exact fn) h rfl)
abbrev rm_Ci_setLayer : Room := { frames := 0, cells := 0, slots := 0, locals := 0 }
theorem cm_Ci_setLayer : cfM yX0_setLayer cX0_setLayer 3 none 3 := ⟨tw_346, tw_2, by decide, by decide, by decide +kernel⟩
theorem cs_Ci_setLayer : cfS yX0_setLayer := tw_345
theorem d_Ci_setLayer_0 : decode cX0_setLayer 0 = .ok (.aload_n 0, 1) := by decide +kernel
theorem d_Ci_setLayer_1 : decode cX0_setLayer 1 = .ok (.ifnull 17, 3) := by decide +kernel
theorem d_Ci_setLayer_4 : decode cX0_setLayer 4 = .ok (.iload_n 1, 1) := by decide +kernel
theorem d_Ci_setLayer_5 : decode cX0_setLayer 5 = .ok (.ifCond .lt 13, 3) := by decide +kernel
theorem d_Ci_setLayer_8 : decode cX0_setLayer 8 = .ok (.iload_n 1, 1) := by decide +kernel
theorem d_Ci_setLayer_9 : decode cX0_setLayer 9 = .ok (.aload_n 0, 1) := by decide +kernel
theorem d_Ci_setLayer_10 : decode cX0_setLayer 10 = .ok (.arraylength, 1) := by decide +kernel
theorem d_Ci_setLayer_11 : decode cX0_setLayer 11 = .ok (.if_icmp .ge 7, 3) := by decide +kernel
theorem d_Ci_setLayer_14 : decode cX0_setLayer 14 = .ok (.aload_n 0, 1) := by decide +kernel
theorem d_Ci_setLayer_15 : decode cX0_setLayer 15 = .ok (.iload_n 1, 1) := by decide +kernel
theorem d_Ci_setLayer_16 : decode cX0_setLayer 16 = .ok (.iload_n 2, 1) := by decide +kernel
theorem d_Ci_setLayer_17 : decode cX0_setLayer 17 = .ok (.iastore, 1) := by decide +kernel
theorem d_Ci_setLayer_18 : decode cX0_setLayer 18 = .ok (.return_, 1) := by decide +kernel
set_option maxRecDepth 100000 in
set_option maxHeartbeats 4000000 in
theorem w_Ci_setLayer {X : CX} {KX : MS → Prop} {a0 : Option Nat} {a1 : Int32} {a2 : Int32} {s : MS} (ok : Ok X cX0_setLayer RX0 rm_Ci_setLayer 3 false) (hret : ∀ r : MS, KX r → Fin X none 0 0 false none r)    {res : MS} (h : f_Ci_setLayer a0 a1 a2 s = some res) (hk : KX res) : G X s 0 0 0 [(0, vR a0), (1, vI a1), (2, vI a2)] [] := by
  unfold f_Ci_setLayer at h
  refine g_aload_n (i := 0) 0 ok d_Ci_setLayer_0 rfl rfl ?_
  refine g_ifnull (tgt := 18) ok d_Ci_setLayer_1 (by decide) (fun c1 => ?_) (fun c1 => ?_)
  · replace h := (if_pos c1).symm.trans h
    cases h
    exact g_vret ok (hret _ hk) (by decide) (by decide) d_Ci_setLayer_18
  · replace h := (if_neg c1).symm.trans h
    refine g_iload_n (i := 1) 1 ok d_Ci_setLayer_4 rfl rfl ?_
    refine g_if_lt (tgt := 18) ok d_Ci_setLayer_5 (by decide) (fun c2 => ?_) (fun c2 => ?_)
    · replace h := (if_pos c2).symm.trans h
      cases h
      exact g_vret ok (hret _ hk) (by decide) (by decide) d_Ci_setLayer_18
    · replace h := (if_neg c2).symm.trans h
      refine g_iload_n (i := 1) 1 ok d_Ci_setLayer_8 rfl rfl ?_
      refine g_aload_n (i := 0) 0 ok d_Ci_setLayer_9 rfl rfl ?_
      obtain ⟨n3, hn4, h⟩ := bnd_go h
      refine g_alen ok hn4 (by decide) d_Ci_setLayer_10 ?_
      refine g_icmp_ge (tgt := 18) ok d_Ci_setLayer_11 (by decide) (fun c5 => ?_) (fun c5 => ?_)
      · replace h := (if_pos c5).symm.trans h
        refine g_aload_n (i := 0) 0 ok d_Ci_setLayer_14 rfl rfl ?_
        refine g_iload_n (i := 1) 1 ok d_Ci_setLayer_15 rfl rfl ?_
        refine g_iload_n (i := 2) 2 ok d_Ci_setLayer_16 rfl rfl ?_
        obtain ⟨k6, hk7, h⟩ := bnd_go h
        refine g_iast ok hk7 d_Ci_setLayer_17 ?_
        obtain ⟨s8, e9⟩ : ∃ z, wi s k6 a1.toNatClampNeg a2 = z := ⟨_, rfl⟩
        replace h := lt_go h e9
        have m10 := mo_wi e9
        rw [e9]
        cases h
        exact g_vret ok (hret _ hk) (by decide) (by decide) d_Ci_setLayer_18
      · replace h := (if_neg c5).symm.trans h
        cases h
        exact g_vret ok (hret _ hk) (by decide) (by decide) d_Ci_setLayer_18
theorem c_Ci_setLayer (l : Launch) {a0 : Option Nat} {a1 : Int32} {a2 : Int32} {s : MS}  {z : MS} (h : f_Ci_setLayer a0 a1 a2 s = some z) : Ct l yX0_setLayer (.code yX0_setLayer cX0_setLayer 3 none) rm_Ci_setLayer 0 0 false [vR a0, vI a1, vI a2] s none z :=
  Ct.of rfl (by decide +kernel) ⟨rfl, le_t rfl⟩ (fun X ok fn _ hI hl => w_Ci_setLayer (KX := fun y => y = z) ok (fun y hy => by subst hy; exact fn) h rfl)
abbrev rm_Ci_tell : Room := { frames := 1, cells := 0, slots := 0, locals := 22 }
theorem cm_Ci_tell : cfM yX0_tell cX0_tell 4 (some .int) 3 := ⟨tw_340, tw_2, by decide, by decide, by decide +kernel⟩
theorem cs_Ci_tell : cfS yX0_tell := tw_339
theorem d_Ci_tell_0 : decode cX0_tell 0 = .ok (.aload_n 0, 1) := by decide +kernel
theorem d_Ci_tell_1 : decode cX0_tell 1 = .ok (.iload_n 1, 1) := by decide +kernel
theorem d_Ci_tell_2 : decode cX0_tell 2 = .ok (.invokestatic 51, 3) := by decide +kernel
theorem d_Ci_tell_5 : decode cX0_tell 5 = .ok (.istore_n 3, 1) := by decide +kernel
theorem d_Ci_tell_6 : decode cX0_tell 6 = .ok (.aload_n 0, 1) := by decide +kernel
theorem d_Ci_tell_7 : decode cX0_tell 7 = .ok (.iload_n 1, 1) := by decide +kernel
theorem d_Ci_tell_8 : decode cX0_tell 8 = .ok (.iload_n 2, 1) := by decide +kernel
theorem d_Ci_tell_9 : decode cX0_tell 9 = .ok (.invokestatic 55, 3) := by decide +kernel
theorem d_Ci_tell_12 : decode cX0_tell 12 = .ok (.iload_n 1, 1) := by decide +kernel
theorem d_Ci_tell_13 : decode cX0_tell 13 = .ok (.iconst 3, 1) := by decide +kernel
theorem d_Ci_tell_14 : decode cX0_tell 14 = .ok (.if_icmp .ne 9, 3) := by decide +kernel
theorem d_Ci_tell_17 : decode cX0_tell 17 = .ok (.aload_n 0, 1) := by decide +kernel
theorem d_Ci_tell_18 : decode cX0_tell 18 = .ok (.iconst 4, 1) := by decide +kernel
theorem d_Ci_tell_19 : decode cX0_tell 19 = .ok (.iload_n 2, 1) := by decide +kernel
theorem d_Ci_tell_20 : decode cX0_tell 20 = .ok (.invokestatic 55, 3) := by decide +kernel
theorem d_Ci_tell_23 : decode cX0_tell 23 = .ok (.iload_n 3, 1) := by decide +kernel
theorem d_Ci_tell_24 : decode cX0_tell 24 = .ok (.ireturn, 1) := by decide +kernel
set_option maxRecDepth 100000 in
set_option maxHeartbeats 4000000 in
theorem w_Ci_tell {X : CX} {KX : Int32 × MS → Prop} {a0 : Option Nat} {a1 : Int32} {a2 : Int32} {s : MS} (ok : Ok X cX0_tell RX0 rm_Ci_tell 4 false) (hret : ∀ r : Int32 × MS, KX r → Fin X (some .int) 0 0 false (some (vI r.1)) r.2)    {res : Int32 × MS} (h : f_Ci_tell a0 a1 a2 s = some res) (hk : KX res) : G X s 0 0 0 [(0, vR a0), (1, vI a1), (2, vI a2)] [] := by
  unfold f_Ci_tell at h
  refine g_aload_n (i := 0) 0 ok d_Ci_tell_0 rfl rfl ?_
  refine g_iload_n (i := 1) 1 ok d_Ci_tell_1 rfl rfl ?_
  obtain ⟨x2, hc3, h⟩ := bnd_go h
  refine g_invS (rm2 := rm_Ci_atLayer) (As := [vR a0, vI a1]) (rest := []) ok (c_Ci_atLayer X.1.2.1 hc3) cm_Ci_atLayer cs_Ci_atLayer tw_341 ⟨rfl, rfl⟩ ⟨le_t rfl, le_t rfl⟩ ⟨rfl, le_t rfl⟩ ⟨le_t rfl, le_t rfl⟩ d_Ci_tell_2 rfl (fun m1 => ?_)
  show G X s 0 0 5 [(0, vR a0), (1, vI a1), (2, vI a2)] [vI x2]
  refine g_istore_n (i := 3) [(3, vI x2), (0, vR a0), (1, vI a1), (2, vI a2)] ok d_Ci_tell_5 rfl (by decide) rfl ?_
  refine g_aload_n (i := 0) 1 ok d_Ci_tell_6 rfl rfl ?_
  refine g_iload_n (i := 1) 2 ok d_Ci_tell_7 rfl rfl ?_
  refine g_iload_n (i := 2) 3 ok d_Ci_tell_8 rfl rfl ?_
  obtain ⟨s6, hc5, h⟩ := bnd_go h
  refine g_invS (rm2 := rm_Ci_setLayer) (As := [vR a0, vI a1, vI a2]) (rest := []) ok (c_Ci_setLayer X.1.2.1 hc5) cm_Ci_setLayer cs_Ci_setLayer tw_344 ⟨rfl, rfl⟩ ⟨le_t rfl, le_t rfl⟩ ⟨rfl, le_t rfl⟩ ⟨le_t rfl, le_t rfl⟩ d_Ci_tell_9 rfl (fun m4 => ?_)
  show G X s6 0 0 12 [(3, vI x2), (0, vR a0), (1, vI a1), (2, vI a2)] []
  refine g_iload_n (i := 1) 2 ok d_Ci_tell_12 rfl rfl ?_
  refine g_iconst (v := (3 : Int32)) ok d_Ci_tell_13 (by decide) ?_
  refine g_icmp_ne (tgt := 23) ok d_Ci_tell_14 (by decide) (fun c7 => ?_) (fun c7 => ?_)
  · replace h := (if_pos c7).symm.trans h
    refine g_aload_n (i := 0) 1 ok d_Ci_tell_17 rfl rfl ?_
    refine g_iconst (v := (4 : Int32)) ok d_Ci_tell_18 (by decide) ?_
    refine g_iload_n (i := 2) 3 ok d_Ci_tell_19 rfl rfl ?_
    obtain ⟨s10, hc9, h⟩ := bnd_go h
    refine g_invS (rm2 := rm_Ci_setLayer) (As := [vR a0, vI (4 : Int32), vI a2]) (rest := []) ok (c_Ci_setLayer X.1.2.1 hc9) cm_Ci_setLayer cs_Ci_setLayer tw_344 ⟨rfl, rfl⟩ ⟨le_t rfl, le_t rfl⟩ ⟨rfl, le_t rfl⟩ ⟨le_t rfl, le_t rfl⟩ d_Ci_tell_20 rfl (fun m8 => ?_)
    show G X s10 0 0 23 [(3, vI x2), (0, vR a0), (1, vI a1), (2, vI a2)] []
    refine g_iload_n (i := 3) 0 ok d_Ci_tell_23 rfl rfl ?_
    cases h
    exact g_iret ok (hret _ hk) (by decide) (by decide) d_Ci_tell_24
  · replace h := (if_neg c7).symm.trans h
    refine g_iload_n (i := 3) 0 ok d_Ci_tell_23 rfl rfl ?_
    cases h
    exact g_iret ok (hret _ hk) (by decide) (by decide) d_Ci_tell_24
theorem c_Ci_tell (l : Launch) {a0 : Option Nat} {a1 : Int32} {a2 : Int32} {s : MS}  {r : Int32} {z : MS} (h : f_Ci_tell a0 a1 a2 s = some (r, z)) : Ct l yX0_tell (.code yX0_tell cX0_tell 4 (some .int)) rm_Ci_tell 0 0 false [vR a0, vI a1, vI a2] s (some (vI r)) z :=
  Ct.of rfl (by decide +kernel) ⟨rfl, le_t rfl⟩ (fun X ok fn _ hI hl => w_Ci_tell (KX := fun y => y = (r, z)) ok (fun y hy => by subst hy; exact fn) h rfl)
abbrev rm_Ma_init : Room := { frames := 1, cells := 0, slots := 0, locals := 20 }
theorem cm_Ma_init : cfM yX1_init cX1_init 4 none 3 := ⟨tw_444, tw_10, by decide, by decide, by decide +kernel⟩
theorem ci_Ma_init : cfI yX1_init := ⟨rfl, tw_443⟩
theorem d_Ma_init_0 : decode cX1_init 0 = .ok (.aload_n 0, 1) := by decide +kernel
theorem d_Ma_init_1 : decode cX1_init 1 = .ok (.invokespecial 3, 3) := by decide +kernel
theorem d_Ma_init_4 : decode cX1_init 4 = .ok (.aload_n 0, 1) := by decide +kernel
theorem d_Ma_init_5 : decode cX1_init 5 = .ok (.iconst 0, 1) := by decide +kernel
theorem d_Ma_init_6 : decode cX1_init 6 = .ok (.putfield 9, 3) := by decide +kernel
theorem d_Ma_init_9 : decode cX1_init 9 = .ok (.aload_n 0, 1) := by decide +kernel
theorem d_Ma_init_10 : decode cX1_init 10 = .ok (.iconst (-1), 1) := by decide +kernel
theorem d_Ma_init_11 : decode cX1_init 11 = .ok (.putfield 15, 3) := by decide +kernel
theorem d_Ma_init_14 : decode cX1_init 14 = .ok (.aload_n 0, 1) := by decide +kernel
theorem d_Ma_init_15 : decode cX1_init 15 = .ok (.iconst (-1), 1) := by decide +kernel
theorem d_Ma_init_16 : decode cX1_init 16 = .ok (.putfield 18, 3) := by decide +kernel
theorem d_Ma_init_19 : decode cX1_init 19 = .ok (.aload_n 0, 1) := by decide +kernel
theorem d_Ma_init_20 : decode cX1_init 20 = .ok (.iload_n 1, 1) := by decide +kernel
theorem d_Ma_init_21 : decode cX1_init 21 = .ok (.putfield 21, 3) := by decide +kernel
theorem d_Ma_init_24 : decode cX1_init 24 = .ok (.aload_n 0, 1) := by decide +kernel
theorem d_Ma_init_25 : decode cX1_init 25 = .ok (.iload_n 3, 1) := by decide +kernel
theorem d_Ma_init_26 : decode cX1_init 26 = .ok (.putfield 24, 3) := by decide +kernel
theorem d_Ma_init_29 : decode cX1_init 29 = .ok (.aload_n 0, 1) := by decide +kernel
theorem d_Ma_init_30 : decode cX1_init 30 = .ok (.iload_n 3, 1) := by decide +kernel
theorem d_Ma_init_31 : decode cX1_init 31 = .ok (.putfield 27, 3) := by decide +kernel
theorem d_Ma_init_34 : decode cX1_init 34 = .ok (.aload_n 0, 1) := by decide +kernel
theorem d_Ma_init_35 : decode cX1_init 35 = .ok (.iload_n 2, 1) := by decide +kernel
theorem d_Ma_init_36 : decode cX1_init 36 = .ok (.putfield 30, 3) := by decide +kernel
theorem d_Ma_init_39 : decode cX1_init 39 = .ok (.return_, 1) := by decide +kernel
set_option maxRecDepth 100000 in
set_option maxHeartbeats 4000000 in
theorem w_Ma_init {X : CX} {KX : MS → Prop} {k : Nat} {a1 : Int32} {a2 : Int32} {a3 : Int32} {s : MS} (ok : Ok X cX1_init RX1 rm_Ma_init 4 false) (hret : ∀ r : MS, KX r → Fin X none 0 0 false none r) (hI : X.1.2.2.2.2.2.2.2.2.1.name = "<init>")  (ht : rf s.2.2 11 (some k) = some k) {res : MS} (h : f_Ma_init k a1 a2 a3 s = some res) (hk : KX res) : G X s 0 0 0 [(0, vR (some k)), (1, vI a1), (2, vI a2), (3, vI a3)] [] := by
  unfold f_Ma_init at h
  refine g_aload_n (i := 0) 0 ok d_Ma_init_0 rfl rfl ?_
  refine g_objInit (s0 := 11) ok ht tw_445 tw_19 tw_20 rfl ⟨le_t rfl, le_t rfl⟩ d_Ma_init_1 ?_
  refine g_aload_n (i := 0) 0 ok d_Ma_init_4 rfl rfl ?_
  refine g_iconst (v := (0 : Int32)) ok d_Ma_init_5 (by decide) ?_
  refine g_puti (s0 := 11) (j := 4) (ci := 1) (C := RX1) (T := TX1) (N := 7) ok ht lay_11 rfl inX1 (by decide) rfl tw_453 rfl tyX1_ok nmX1 rfl (Or.inl rfl) d_Ma_init_6 ?_
  obtain ⟨s1, e2⟩ : ∃ z, wi s k 4 (0 : Int32) = z := ⟨_, rfl⟩
  replace h := lt_go h e2
  have m3 := mo_wi e2
  rw [e2]
  refine g_aload_n (i := 0) 0 ok d_Ma_init_9 rfl rfl ?_
  refine g_iconst (v := (-1 : Int32)) ok d_Ma_init_10 (by decide) ?_
  refine g_puti (s0 := 11) (j := 5) (ci := 1) (C := RX1) (T := TX1) (N := 7) ok (rf_mono m3 ht) lay_11 rfl inX1 (by decide) rfl tw_455 rfl tyX1_ok nmX1 rfl (Or.inl rfl) d_Ma_init_11 ?_
  obtain ⟨s4, e5⟩ : ∃ z, wi s1 k 5 (-1 : Int32) = z := ⟨_, rfl⟩
  replace h := lt_go h e5
  have m6 := mo_wi e5
  rw [e5]
  refine g_aload_n (i := 0) 0 ok d_Ma_init_14 rfl rfl ?_
  refine g_iconst (v := (-1 : Int32)) ok d_Ma_init_15 (by decide) ?_
  refine g_puti (s0 := 11) (j := 6) (ci := 1) (C := RX1) (T := TX1) (N := 7) ok (rf_mono m6 (rf_mono m3 ht)) lay_11 rfl inX1 (by decide) rfl tw_457 rfl tyX1_ok nmX1 rfl (Or.inl rfl) d_Ma_init_16 ?_
  obtain ⟨s7, e8⟩ : ∃ z, wi s4 k 6 (-1 : Int32) = z := ⟨_, rfl⟩
  replace h := lt_go h e8
  have m9 := mo_wi e8
  rw [e8]
  refine g_aload_n (i := 0) 0 ok d_Ma_init_19 rfl rfl ?_
  refine g_iload_n (i := 1) 1 ok d_Ma_init_20 rfl rfl ?_
  refine g_putiF (s0 := 11) (j := 0) (ci := 1) (C := RX1) (T := TX1) (N := 7) ok (rf_mono m9 (rf_mono m6 (rf_mono m3 ht))) lay_11 rfl inX1 (by decide) rfl tw_446 rfl tyX1_ok nmX1 rfl hI rfl (Or.inl rfl) d_Ma_init_21 ?_
  obtain ⟨s10, e11⟩ : ∃ z, wi s7 k 0 a1 = z := ⟨_, rfl⟩
  replace h := lt_go h e11
  have m12 := mo_wi e11
  rw [e11]
  refine g_aload_n (i := 0) 0 ok d_Ma_init_24 rfl rfl ?_
  refine g_iload_n (i := 3) 3 ok d_Ma_init_25 rfl rfl ?_
  refine g_putiF (s0 := 11) (j := 1) (ci := 1) (C := RX1) (T := TX1) (N := 7) ok (rf_mono m12 (rf_mono m9 (rf_mono m6 (rf_mono m3 ht)))) lay_11 rfl inX1 (by decide) rfl tw_448 rfl tyX1_ok nmX1 rfl hI rfl (Or.inl rfl) d_Ma_init_26 ?_
  obtain ⟨s13, e14⟩ : ∃ z, wi s10 k 1 a3 = z := ⟨_, rfl⟩
  replace h := lt_go h e14
  have m15 := mo_wi e14
  rw [e14]
  refine g_aload_n (i := 0) 0 ok d_Ma_init_29 rfl rfl ?_
  refine g_iload_n (i := 3) 3 ok d_Ma_init_30 rfl rfl ?_
  refine g_puti (s0 := 11) (j := 2) (ci := 1) (C := RX1) (T := TX1) (N := 7) ok (rf_mono m15 (rf_mono m12 (rf_mono m9 (rf_mono m6 (rf_mono m3 ht))))) lay_11 rfl inX1 (by decide) rfl tw_449 rfl tyX1_ok nmX1 rfl (Or.inl rfl) d_Ma_init_31 ?_
  obtain ⟨s16, e17⟩ : ∃ z, wi s13 k 2 a3 = z := ⟨_, rfl⟩
  replace h := lt_go h e17
  have m18 := mo_wi e17
  rw [e17]
  refine g_aload_n (i := 0) 0 ok d_Ma_init_34 rfl rfl ?_
  refine g_iload_n (i := 2) 2 ok d_Ma_init_35 rfl rfl ?_
  refine g_puti (s0 := 11) (j := 3) (ci := 1) (C := RX1) (T := TX1) (N := 7) ok (rf_mono m18 (rf_mono m15 (rf_mono m12 (rf_mono m9 (rf_mono m6 (rf_mono m3 ht)))))) lay_11 rfl inX1 (by decide) rfl tw_451 rfl tyX1_ok nmX1 rfl (Or.inl rfl) d_Ma_init_36 ?_
  obtain ⟨s19, e20⟩ : ∃ z, wi s16 k 3 a2 = z := ⟨_, rfl⟩
  replace h := lt_go h e20
  have m21 := mo_wi e20
  rw [e20]
  cases h
  exact g_vret ok (hret _ hk) (by decide) (by decide) d_Ma_init_39
theorem c_Ma_init (l : Launch) {k : Nat} {a1 : Int32} {a2 : Int32} {a3 : Int32} {s : MS} (ht : rf s.2.2 11 (some k) = some k) {z : MS} (h : f_Ma_init k a1 a2 a3 s = some z) : Ct l yX1_init (.code yX1_init cX1_init 4 none) rm_Ma_init 0 0 false [vR (some k), vI a1, vI a2, vI a3] s none z :=
  Ct.of rfl (by decide +kernel) ⟨rfl, le_t rfl⟩ (fun X ok fn _ hI hl => w_Ma_init (KX := fun y => y = z) ok (fun y hy => by subst hy; exact fn) hI ht h rfl)
abbrev rm_Ma_batteryAfter : Room := { frames := 1, cells := 0, slots := 0, locals := 21 }
theorem cm_Ma_batteryAfter : cfM yX1_batteryAfter cX1_batteryAfter 2 (some .int) 1 := ⟨tw_517, tw_10, by decide, by decide, by decide +kernel⟩
theorem cv_Ma_batteryAfter : cfV yX1_batteryAfter := ⟨tw_516, ts_X1_batteryAfter⟩
theorem d_Ma_batteryAfter_0 : decode cX1_batteryAfter 0 = .ok (.aload_n 0, 1) := by decide +kernel
theorem d_Ma_batteryAfter_1 : decode cX1_batteryAfter 1 = .ok (.getfield 24, 3) := by decide +kernel
theorem d_Ma_batteryAfter_4 : decode cX1_batteryAfter 4 = .ok (.aload_n 0, 1) := by decide +kernel
theorem d_Ma_batteryAfter_5 : decode cX1_batteryAfter 5 = .ok (.getfield 27, 3) := by decide +kernel
theorem d_Ma_batteryAfter_8 : decode cX1_batteryAfter 8 = .ok (.iconst 5, 1) := by decide +kernel
theorem d_Ma_batteryAfter_9 : decode cX1_batteryAfter 9 = .ok (.iload_n 1, 1) := by decide +kernel
theorem d_Ma_batteryAfter_10 : decode cX1_batteryAfter 10 = .ok (.imul, 1) := by decide +kernel
theorem d_Ma_batteryAfter_11 : decode cX1_batteryAfter 11 = .ok (.iadd, 1) := by decide +kernel
theorem d_Ma_batteryAfter_12 : decode cX1_batteryAfter 12 = .ok (.invokestatic 33, 3) := by decide +kernel
theorem d_Ma_batteryAfter_15 : decode cX1_batteryAfter 15 = .ok (.ireturn, 1) := by decide +kernel
set_option maxRecDepth 100000 in
set_option maxHeartbeats 4000000 in
theorem w_Ma_batteryAfter {X : CX} {KX : Int32 → Prop} {k : Nat} {a1 : Int32} {s : MS} (ok : Ok X cX1_batteryAfter RX1 rm_Ma_batteryAfter 2 false) (hret : ∀ r : Int32, KX r → Fin X (some .int) 0 0 false (some (vI r)) s)   (ht : rf s.2.2 11 (some k) = some k) {res : Int32} (h : f_Ma_batteryAfter k a1 s = some res) (hk : KX res) : G X s 0 0 0 [(0, vR (some k)), (1, vI a1)] [] := by
  unfold f_Ma_batteryAfter at h
  refine g_aload_n (i := 0) 0 ok d_Ma_batteryAfter_0 rfl rfl ?_
  refine g_geti (s0 := 11) (j := 1) (ci := 1) (C := RX1) (T := TX1) (N := 7) ok ht lay_11 rfl inX1 (by decide) rfl tw_448 rfl d_Ma_batteryAfter_1 ?_
  refine g_aload_n (i := 0) 0 ok d_Ma_batteryAfter_4 rfl rfl ?_
  refine g_geti (s0 := 11) (j := 2) (ci := 1) (C := RX1) (T := TX1) (N := 7) ok ht lay_11 rfl inX1 (by decide) rfl tw_449 rfl d_Ma_batteryAfter_5 ?_
  refine g_iconst (v := (5 : Int32)) ok d_Ma_batteryAfter_8 (by decide) ?_
  refine g_iload_n (i := 1) 1 ok d_Ma_batteryAfter_9 rfl rfl ?_
  refine g_imul ok d_Ma_batteryAfter_10 ?_
  refine g_iadd ok d_Ma_batteryAfter_11 ?_
  refine g_mmin ok tw_518 tw_370 tw_11 tw_371 rfl ⟨le_t rfl, le_t rfl⟩ ⟨le_t rfl, le_t rfl⟩ d_Ma_batteryAfter_12 ?_
  cases h
  exact g_iret ok (hret _ hk) (by decide) (by decide) d_Ma_batteryAfter_15
theorem c_Ma_batteryAfter (l : Launch) {k : Nat} {a1 : Int32} {s : MS} (ht : rf s.2.2 11 (some k) = some k) {r : Int32} (h : f_Ma_batteryAfter k a1 s = some r) : Ct l yX1_batteryAfter (.code yX1_batteryAfter cX1_batteryAfter 2 (some .int)) rm_Ma_batteryAfter 0 0 false [vR (some k), vI a1] s (some (vI r)) s :=
  Ct.of rfl (by decide +kernel) ⟨rfl, le_t rfl⟩ (fun X ok fn _ hI hl => w_Ma_batteryAfter (KX := fun y => y = r) ok (fun y hy => by subst hy; exact fn) ht h rfl)
abbrev rm_Pa_init : Room := { frames := 1, cells := 1, slots := 81, locals := 20 }
theorem cm_Pa_init : cfM yX2_init cX2_init 1 none 0 := ⟨tw_56, tw_3, by decide, by decide, by decide +kernel⟩
theorem ci_Pa_init : cfI yX2_init := ⟨rfl, tw_55⟩
theorem d_Pa_init_0 : decode cX2_init 0 = .ok (.aload_n 0, 1) := by decide +kernel
theorem d_Pa_init_1 : decode cX2_init 1 = .ok (.invokespecial 3, 3) := by decide +kernel
theorem d_Pa_init_4 : decode cX2_init 4 = .ok (.aload_n 0, 1) := by decide +kernel
theorem d_Pa_init_5 : decode cX2_init 5 = .ok (.bipush 81, 2) := by decide +kernel
theorem d_Pa_init_7 : decode cX2_init 7 = .ok (.newarray .int, 2) := by decide +kernel
theorem d_Pa_init_9 : decode cX2_init 9 = .ok (.putfield 9, 3) := by decide +kernel
theorem d_Pa_init_12 : decode cX2_init 12 = .ok (.return_, 1) := by decide +kernel
set_option maxRecDepth 100000 in
set_option maxHeartbeats 4000000 in
theorem w_Pa_init {X : CX} {KX : MS → Prop} {k : Nat} {s : MS} (ok : Ok X cX2_init RX2 rm_Pa_init 1 true) (hret : ∀ r : MS, KX r → Fin X none 1 81 true none r) (hI : X.1.2.2.2.2.2.2.2.2.1.name = "<init>")  (ht : rf s.2.2 12 (some k) = some k) {res : MS} (h : f_Pa_init k s = some res) (hk : KX res) : G X s 0 0 0 [(0, vR (some k))] [] := by
  unfold f_Pa_init at h
  refine g_aload_n (i := 0) 0 ok d_Pa_init_0 rfl rfl ?_
  refine g_objInit (s0 := 12) ok ht tw_57 tw_19 tw_20 rfl ⟨le_t rfl, le_t rfl⟩ d_Pa_init_1 ?_
  refine g_aload_n (i := 0) 0 ok d_Pa_init_4 rfl rfl ?_
  refine g_bipush (v := (81 : Int32)) ok d_Pa_init_5 (by decide) ?_
  obtain ⟨o1, e2⟩ : ∃ z, nid s 13 = z := ⟨_, rfl⟩
  replace h := lt_go h e2
  refine g_newa0 (s0 := 13) (n := 81) ok (by decide) lay_13 (by decide) (by decide) (by decide) tw_46 ⟨(rk_of ht), trivial⟩ ⟨(rk_of ht), trivial⟩ (by decide) (by decide) d_Pa_init_7 ?_
  rw [e2]
  obtain ⟨s3, e4⟩ : ∃ z, nw s 13 = z := ⟨_, rfl⟩
  replace h := lt_go h e4
  have m5 := mo_nw (by decide) e4
  rw [e4]
  have hk6 : rf s3.2.2 13 (some o1) = some o1 := by rw [← e2]; exact rf_new (by decide) e4
  refine g_putrF (s0 := 12) (j := 0) (ci := 2) (C := RX2) (T := TX2) (N := 7) ok (rf_mono m5 ht) lay_12 rfl inX2 (by decide) rfl tw_58 rfl tyX2_ok nmX2 rfl hI rfl (Or.inr ⟨_, rfl⟩) (rf_dm hk6) d_Pa_init_9 ?_
  obtain ⟨s7, e8⟩ : ∃ z, wr s3 k 0 (some o1) = z := ⟨_, rfl⟩
  replace h := lt_go h e8
  have m9 := mo_wr e8
  rw [e8]
  cases h
  exact g_vret ok (hret _ hk) (by decide) (by decide) d_Pa_init_12
theorem c_Pa_init (l : Launch) {k : Nat} {s : MS} (ht : rf s.2.2 12 (some k) = some k) {z : MS} (h : f_Pa_init k s = some z) : Ct l yX2_init (.code yX2_init cX2_init 1 none) rm_Pa_init 1 81 true [vR (some k)] s none z :=
  Ct.of rfl (by decide +kernel) ⟨rfl, le_t rfl⟩ (fun X ok fn _ hI hl => w_Pa_init (KX := fun y => y = z) ok (fun y hy => by subst hy; exact fn) hI ht h rfl)
abbrev rm_Pa_end : Room := { frames := 0, cells := 0, slots := 0, locals := 0 }
theorem cm_Pa_end : cfM yX2_end cX2_end 1 (some .int) 0 := ⟨tw_617, tw_3, by decide, by decide, by decide +kernel⟩
theorem cv_Pa_end : cfV yX2_end := ⟨tw_616, ts_X2_end⟩
theorem d_Pa_end_0 : decode cX2_end 0 = .ok (.aload_n 0, 1) := by decide +kernel
theorem d_Pa_end_1 : decode cX2_end 1 = .ok (.getfield 15, 3) := by decide +kernel
theorem d_Pa_end_4 : decode cX2_end 4 = .ok (.aload_n 0, 1) := by decide +kernel
theorem d_Pa_end_5 : decode cX2_end 5 = .ok (.getfield 19, 3) := by decide +kernel
theorem d_Pa_end_8 : decode cX2_end 8 = .ok (.iadd, 1) := by decide +kernel
theorem d_Pa_end_9 : decode cX2_end 9 = .ok (.ireturn, 1) := by decide +kernel
set_option maxRecDepth 100000 in
set_option maxHeartbeats 4000000 in
theorem w_Pa_end {X : CX} {KX : Int32 → Prop} {k : Nat} {s : MS} (ok : Ok X cX2_end RX2 rm_Pa_end 1 false) (hret : ∀ r : Int32, KX r → Fin X (some .int) 0 0 false (some (vI r)) s)   (ht : rf s.2.2 12 (some k) = some k) {res : Int32} (h : f_Pa_end k s = some res) (hk : KX res) : G X s 0 0 0 [(0, vR (some k))] [] := by
  unfold f_Pa_end at h
  refine g_aload_n (i := 0) 0 ok d_Pa_end_0 rfl rfl ?_
  refine g_geti (s0 := 12) (j := 3) (ci := 2) (C := RX2) (T := TX2) (N := 7) ok ht lay_12 rfl inX2 (by decide) rfl tw_61 rfl d_Pa_end_1 ?_
  refine g_aload_n (i := 0) 0 ok d_Pa_end_4 rfl rfl ?_
  refine g_geti (s0 := 12) (j := 4) (ci := 2) (C := RX2) (T := TX2) (N := 7) ok ht lay_12 rfl inX2 (by decide) rfl tw_63 rfl d_Pa_end_5 ?_
  refine g_iadd ok d_Pa_end_8 ?_
  cases h
  exact g_iret ok (hret _ hk) (by decide) (by decide) d_Pa_end_9
theorem c_Pa_end (l : Launch) {k : Nat} {s : MS} (ht : rf s.2.2 12 (some k) = some k) {r : Int32} (h : f_Pa_end k s = some r) : Ct l yX2_end (.code yX2_end cX2_end 1 (some .int)) rm_Pa_end 0 0 false [vR (some k)] s (some (vI r)) s :=
  Ct.of rfl (by decide +kernel) ⟨rfl, le_t rfl⟩ (fun X ok fn _ hI hl => w_Pa_end (KX := fun y => y = r) ok (fun y hy => by subst hy; exact fn) ht h rfl)
abbrev rm_Pa_placeOf : Room := { frames := 0, cells := 0, slots := 0, locals := 0 }
theorem cm_Pa_placeOf : cfM yX2_placeOf cX2_placeOf 2 (some .int) 1 := ⟨tw_163, tw_3, by decide, by decide, by decide +kernel⟩
theorem cv_Pa_placeOf : cfV yX2_placeOf := ⟨tw_162, ts_X2_placeOf⟩
theorem d_Pa_placeOf_0 : decode cX2_placeOf 0 = .ok (.iload_n 1, 1) := by decide +kernel
theorem d_Pa_placeOf_1 : decode cX2_placeOf 1 = .ok (.ifCond .lt 20, 3) := by decide +kernel
theorem d_Pa_placeOf_4 : decode cX2_placeOf 4 = .ok (.iload_n 1, 1) := by decide +kernel
theorem d_Pa_placeOf_5 : decode cX2_placeOf 5 = .ok (.aload_n 0, 1) := by decide +kernel
theorem d_Pa_placeOf_6 : decode cX2_placeOf 6 = .ok (.getfield 19, 3) := by decide +kernel
theorem d_Pa_placeOf_9 : decode cX2_placeOf 9 = .ok (.if_icmp .gt 12, 3) := by decide +kernel
theorem d_Pa_placeOf_12 : decode cX2_placeOf 12 = .ok (.iload_n 1, 1) := by decide +kernel
theorem d_Pa_placeOf_13 : decode cX2_placeOf 13 = .ok (.aload_n 0, 1) := by decide +kernel
theorem d_Pa_placeOf_14 : decode cX2_placeOf 14 = .ok (.getfield 9, 3) := by decide +kernel
theorem d_Pa_placeOf_17 : decode cX2_placeOf 17 = .ok (.arraylength, 1) := by decide +kernel
theorem d_Pa_placeOf_18 : decode cX2_placeOf 18 = .ok (.if_icmp .lt 7, 3) := by decide +kernel
theorem d_Pa_placeOf_21 : decode cX2_placeOf 21 = .ok (.iconst (-1), 1) := by decide +kernel
theorem d_Pa_placeOf_22 : decode cX2_placeOf 22 = .ok (.goto 9, 3) := by decide +kernel
theorem d_Pa_placeOf_25 : decode cX2_placeOf 25 = .ok (.aload_n 0, 1) := by decide +kernel
theorem d_Pa_placeOf_26 : decode cX2_placeOf 26 = .ok (.getfield 9, 3) := by decide +kernel
theorem d_Pa_placeOf_29 : decode cX2_placeOf 29 = .ok (.iload_n 1, 1) := by decide +kernel
theorem d_Pa_placeOf_30 : decode cX2_placeOf 30 = .ok (.iaload, 1) := by decide +kernel
theorem d_Pa_placeOf_31 : decode cX2_placeOf 31 = .ok (.ireturn, 1) := by decide +kernel
set_option maxRecDepth 100000 in
set_option maxHeartbeats 4000000 in
theorem w_Pa_placeOf {X : CX} {KX : Int32 → Prop} {k : Nat} {a1 : Int32} {s : MS} (ok : Ok X cX2_placeOf RX2 rm_Pa_placeOf 2 false) (hret : ∀ r : Int32, KX r → Fin X (some .int) 0 0 false (some (vI r)) s)   (ht : rf s.2.2 12 (some k) = some k) {res : Int32} (h : f_Pa_placeOf k a1 s = some res) (hk : KX res) : G X s 0 0 0 [(0, vR (some k)), (1, vI a1)] [] := by
  unfold f_Pa_placeOf at h
  refine g_iload_n (i := 1) 1 ok d_Pa_placeOf_0 rfl rfl ?_
  refine g_if_lt (tgt := 21) ok d_Pa_placeOf_1 (by decide) (fun c1 => ?_) (fun c1 => ?_)
  · replace h := (if_pos c1).symm.trans h
    refine g_iconst (v := (-1 : Int32)) ok d_Pa_placeOf_21 (by decide) ?_
    refine g_goto (tgt := 31) ok d_Pa_placeOf_22 (by decide) ?_
    cases h
    exact g_iret ok (hret _ hk) (by decide) (by decide) d_Pa_placeOf_31
  · replace h := (if_neg c1).symm.trans h
    refine g_iload_n (i := 1) 1 ok d_Pa_placeOf_4 rfl rfl ?_
    refine g_aload_n (i := 0) 0 ok d_Pa_placeOf_5 rfl rfl ?_
    refine g_geti (s0 := 12) (j := 4) (ci := 2) (C := RX2) (T := TX2) (N := 7) ok ht lay_12 rfl inX2 (by decide) rfl tw_63 rfl d_Pa_placeOf_6 ?_
    refine g_icmp_gt (tgt := 21) ok d_Pa_placeOf_9 (by decide) (fun c2 => ?_) (fun c2 => ?_)
    · replace h := (if_pos c2).symm.trans h
      refine g_iconst (v := (-1 : Int32)) ok d_Pa_placeOf_21 (by decide) ?_
      refine g_goto (tgt := 31) ok d_Pa_placeOf_22 (by decide) ?_
      cases h
      exact g_iret ok (hret _ hk) (by decide) (by decide) d_Pa_placeOf_31
    · replace h := (if_neg c2).symm.trans h
      refine g_iload_n (i := 1) 1 ok d_Pa_placeOf_12 rfl rfl ?_
      refine g_aload_n (i := 0) 0 ok d_Pa_placeOf_13 rfl rfl ?_
      refine g_getr (s0 := 12) (j := 0) (ci := 2) (C := RX2) (T := TX2) (N := 7) ok ht lay_12 rfl inX2 (by decide) rfl tw_58 rfl d_Pa_placeOf_14 ?_
      obtain ⟨n3, hn4, h⟩ := bnd_go h
      refine g_alen ok hn4 (by decide) d_Pa_placeOf_17 ?_
      refine g_icmp_lt (tgt := 25) ok d_Pa_placeOf_18 (by decide) (fun c5 => ?_) (fun c5 => ?_)
      · replace h := (if_pos c5).symm.trans h
        refine g_aload_n (i := 0) 0 ok d_Pa_placeOf_25 rfl rfl ?_
        refine g_getr (s0 := 12) (j := 0) (ci := 2) (C := RX2) (T := TX2) (N := 7) ok ht lay_12 rfl inX2 (by decide) rfl tw_58 rfl d_Pa_placeOf_26 ?_
        refine g_iload_n (i := 1) 1 ok d_Pa_placeOf_29 rfl rfl ?_
        obtain ⟨k6, hk7, h⟩ := bnd_go h
        refine g_iald ok hk7 d_Pa_placeOf_30 ?_
        cases h
        exact g_iret ok (hret _ hk) (by decide) (by decide) d_Pa_placeOf_31
      · replace h := (if_neg c5).symm.trans h
        refine g_iconst (v := (-1 : Int32)) ok d_Pa_placeOf_21 (by decide) ?_
        refine g_goto (tgt := 31) ok d_Pa_placeOf_22 (by decide) ?_
        cases h
        exact g_iret ok (hret _ hk) (by decide) (by decide) d_Pa_placeOf_31
theorem c_Pa_placeOf (l : Launch) {k : Nat} {a1 : Int32} {s : MS} (ht : rf s.2.2 12 (some k) = some k) {r : Int32} (h : f_Pa_placeOf k a1 s = some r) : Ct l yX2_placeOf (.code yX2_placeOf cX2_placeOf 2 (some .int)) rm_Pa_placeOf 0 0 false [vR (some k), vI a1] s (some (vI r)) s :=
  Ct.of rfl (by decide +kernel) ⟨rfl, le_t rfl⟩ (fun X ok fn _ hI hl => w_Pa_placeOf (KX := fun y => y = r) ok (fun y hy => by subst hy; exact fn) ht h rfl)
abbrev rm_Pa_placeWhen : Room := { frames := 1, cells := 0, slots := 0, locals := 21 }
theorem cm_Pa_placeWhen : cfM yX2_placeWhen cX2_placeWhen 2 (some .int) 1 := ⟨tw_159, tw_3, by decide, by decide, by decide +kernel⟩
theorem cv_Pa_placeWhen : cfV yX2_placeWhen := ⟨tw_158, ts_X2_placeWhen⟩
theorem d_Pa_placeWhen_0 : decode cX2_placeWhen 0 = .ok (.iload_n 1, 1) := by decide +kernel
theorem d_Pa_placeWhen_1 : decode cX2_placeWhen 1 = .ok (.aload_n 0, 1) := by decide +kernel
theorem d_Pa_placeWhen_2 : decode cX2_placeWhen 2 = .ok (.getfield 15, 3) := by decide +kernel
theorem d_Pa_placeWhen_5 : decode cX2_placeWhen 5 = .ok (.if_icmp .ge 7, 3) := by decide +kernel
theorem d_Pa_placeWhen_8 : decode cX2_placeWhen 8 = .ok (.iconst (-1), 1) := by decide +kernel
theorem d_Pa_placeWhen_9 : decode cX2_placeWhen 9 = .ok (.goto 13, 3) := by decide +kernel
theorem d_Pa_placeWhen_12 : decode cX2_placeWhen 12 = .ok (.aload_n 0, 1) := by decide +kernel
theorem d_Pa_placeWhen_13 : decode cX2_placeWhen 13 = .ok (.iload_n 1, 1) := by decide +kernel
theorem d_Pa_placeWhen_14 : decode cX2_placeWhen 14 = .ok (.aload_n 0, 1) := by decide +kernel
theorem d_Pa_placeWhen_15 : decode cX2_placeWhen 15 = .ok (.getfield 15, 3) := by decide +kernel
theorem d_Pa_placeWhen_18 : decode cX2_placeWhen 18 = .ok (.isub, 1) := by decide +kernel
theorem d_Pa_placeWhen_19 : decode cX2_placeWhen 19 = .ok (.invokevirtual 22, 3) := by decide +kernel
theorem d_Pa_placeWhen_22 : decode cX2_placeWhen 22 = .ok (.ireturn, 1) := by decide +kernel
set_option maxRecDepth 100000 in
set_option maxHeartbeats 4000000 in
theorem w_Pa_placeWhen {X : CX} {KX : Int32 → Prop} {k : Nat} {a1 : Int32} {s : MS} (ok : Ok X cX2_placeWhen RX2 rm_Pa_placeWhen 2 false) (hret : ∀ r : Int32, KX r → Fin X (some .int) 0 0 false (some (vI r)) s)   (ht : rf s.2.2 12 (some k) = some k) {res : Int32} (h : f_Pa_placeWhen k a1 s = some res) (hk : KX res) : G X s 0 0 0 [(0, vR (some k)), (1, vI a1)] [] := by
  unfold f_Pa_placeWhen at h
  refine g_iload_n (i := 1) 1 ok d_Pa_placeWhen_0 rfl rfl ?_
  refine g_aload_n (i := 0) 0 ok d_Pa_placeWhen_1 rfl rfl ?_
  refine g_geti (s0 := 12) (j := 3) (ci := 2) (C := RX2) (T := TX2) (N := 7) ok ht lay_12 rfl inX2 (by decide) rfl tw_61 rfl d_Pa_placeWhen_2 ?_
  refine g_icmp_ge (tgt := 12) ok d_Pa_placeWhen_5 (by decide) (fun c1 => ?_) (fun c1 => ?_)
  · replace h := (if_pos c1).symm.trans h
    refine g_iconst (v := (-1 : Int32)) ok d_Pa_placeWhen_8 (by decide) ?_
    refine g_goto (tgt := 22) ok d_Pa_placeWhen_9 (by decide) ?_
    cases h
    exact g_iret ok (hret _ hk) (by decide) (by decide) d_Pa_placeWhen_22
  · replace h := (if_neg c1).symm.trans h
    refine g_aload_n (i := 0) 0 ok d_Pa_placeWhen_12 rfl rfl ?_
    refine g_iload_n (i := 1) 1 ok d_Pa_placeWhen_13 rfl rfl ?_
    refine g_aload_n (i := 0) 0 ok d_Pa_placeWhen_14 rfl rfl ?_
    refine g_geti (s0 := 12) (j := 3) (ci := 2) (C := RX2) (T := TX2) (N := 7) ok ht lay_12 rfl inX2 (by decide) rfl tw_61 rfl d_Pa_placeWhen_15 ?_
    refine g_isub ok d_Pa_placeWhen_18 ?_
    obtain ⟨x3, hc4, h⟩ := bnd_go h
    refine g_invV (rm2 := rm_Pa_placeOf) (As := [vI (a1 - (s.1 k 3))]) (rest := []) ok ht lay_12 rfl (c_Pa_placeOf X.1.2.1 (rf_self ht) hc4) cm_Pa_placeOf cv_Pa_placeOf tw_160 ⟨rfl, rfl⟩ ⟨le_t rfl, le_t rfl⟩ ⟨rfl, le_t rfl⟩ ⟨le_t rfl, le_t rfl⟩ d_Pa_placeWhen_19 rfl (fun m2 => ?_)
    show G X s 0 0 22 [(0, vR (some k)), (1, vI a1)] [vI x3]
    cases h
    exact g_iret ok (hret _ hk) (by decide) (by decide) d_Pa_placeWhen_22
theorem c_Pa_placeWhen (l : Launch) {k : Nat} {a1 : Int32} {s : MS} (ht : rf s.2.2 12 (some k) = some k) {r : Int32} (h : f_Pa_placeWhen k a1 s = some r) : Ct l yX2_placeWhen (.code yX2_placeWhen cX2_placeWhen 2 (some .int)) rm_Pa_placeWhen 0 0 false [vR (some k), vI a1] s (some (vI r)) s :=
  Ct.of rfl (by decide +kernel) ⟨rfl, le_t rfl⟩ (fun X ok fn _ hI hl => w_Pa_placeWhen (KX := fun y => y = r) ok (fun y hy => by subst hy; exact fn) ht h rfl)
abbrev rm_Pa_setPlace : Room := { frames := 0, cells := 0, slots := 0, locals := 0 }
theorem cm_Pa_setPlace : cfM yX2_setPlace cX2_setPlace 3 none 2 := ⟨tw_503, tw_3, by decide, by decide, by decide +kernel⟩
theorem cv_Pa_setPlace : cfV yX2_setPlace := ⟨tw_502, ts_X2_setPlace⟩
theorem d_Pa_setPlace_0 : decode cX2_setPlace 0 = .ok (.iload_n 1, 1) := by decide +kernel
theorem d_Pa_setPlace_1 : decode cX2_setPlace 1 = .ok (.ifCond .lt 19, 3) := by decide +kernel
theorem d_Pa_setPlace_4 : decode cX2_setPlace 4 = .ok (.iload_n 1, 1) := by decide +kernel
theorem d_Pa_setPlace_5 : decode cX2_setPlace 5 = .ok (.aload_n 0, 1) := by decide +kernel
theorem d_Pa_setPlace_6 : decode cX2_setPlace 6 = .ok (.getfield 9, 3) := by decide +kernel
theorem d_Pa_setPlace_9 : decode cX2_setPlace 9 = .ok (.arraylength, 1) := by decide +kernel
theorem d_Pa_setPlace_10 : decode cX2_setPlace 10 = .ok (.if_icmp .ge 10, 3) := by decide +kernel
theorem d_Pa_setPlace_13 : decode cX2_setPlace 13 = .ok (.aload_n 0, 1) := by decide +kernel
theorem d_Pa_setPlace_14 : decode cX2_setPlace 14 = .ok (.getfield 9, 3) := by decide +kernel
theorem d_Pa_setPlace_17 : decode cX2_setPlace 17 = .ok (.iload_n 1, 1) := by decide +kernel
theorem d_Pa_setPlace_18 : decode cX2_setPlace 18 = .ok (.iload_n 2, 1) := by decide +kernel
theorem d_Pa_setPlace_19 : decode cX2_setPlace 19 = .ok (.iastore, 1) := by decide +kernel
theorem d_Pa_setPlace_20 : decode cX2_setPlace 20 = .ok (.return_, 1) := by decide +kernel
set_option maxRecDepth 100000 in
set_option maxHeartbeats 4000000 in
theorem w_Pa_setPlace {X : CX} {KX : MS → Prop} {k : Nat} {a1 : Int32} {a2 : Int32} {s : MS} (ok : Ok X cX2_setPlace RX2 rm_Pa_setPlace 3 false) (hret : ∀ r : MS, KX r → Fin X none 0 0 false none r)   (ht : rf s.2.2 12 (some k) = some k) {res : MS} (h : f_Pa_setPlace k a1 a2 s = some res) (hk : KX res) : G X s 0 0 0 [(0, vR (some k)), (1, vI a1), (2, vI a2)] [] := by
  unfold f_Pa_setPlace at h
  refine g_iload_n (i := 1) 1 ok d_Pa_setPlace_0 rfl rfl ?_
  refine g_if_lt (tgt := 20) ok d_Pa_setPlace_1 (by decide) (fun c1 => ?_) (fun c1 => ?_)
  · replace h := (if_pos c1).symm.trans h
    cases h
    exact g_vret ok (hret _ hk) (by decide) (by decide) d_Pa_setPlace_20
  · replace h := (if_neg c1).symm.trans h
    refine g_iload_n (i := 1) 1 ok d_Pa_setPlace_4 rfl rfl ?_
    refine g_aload_n (i := 0) 0 ok d_Pa_setPlace_5 rfl rfl ?_
    refine g_getr (s0 := 12) (j := 0) (ci := 2) (C := RX2) (T := TX2) (N := 7) ok ht lay_12 rfl inX2 (by decide) rfl tw_58 rfl d_Pa_setPlace_6 ?_
    obtain ⟨n2, hn3, h⟩ := bnd_go h
    refine g_alen ok hn3 (by decide) d_Pa_setPlace_9 ?_
    refine g_icmp_ge (tgt := 20) ok d_Pa_setPlace_10 (by decide) (fun c4 => ?_) (fun c4 => ?_)
    · replace h := (if_pos c4).symm.trans h
      refine g_aload_n (i := 0) 0 ok d_Pa_setPlace_13 rfl rfl ?_
      refine g_getr (s0 := 12) (j := 0) (ci := 2) (C := RX2) (T := TX2) (N := 7) ok ht lay_12 rfl inX2 (by decide) rfl tw_58 rfl d_Pa_setPlace_14 ?_
      refine g_iload_n (i := 1) 1 ok d_Pa_setPlace_17 rfl rfl ?_
      refine g_iload_n (i := 2) 2 ok d_Pa_setPlace_18 rfl rfl ?_
      obtain ⟨k5, hk6, h⟩ := bnd_go h
      refine g_iast ok hk6 d_Pa_setPlace_19 ?_
      obtain ⟨s7, e8⟩ : ∃ z, wi s k5 a1.toNatClampNeg a2 = z := ⟨_, rfl⟩
      replace h := lt_go h e8
      have m9 := mo_wi e8
      rw [e8]
      cases h
      exact g_vret ok (hret _ hk) (by decide) (by decide) d_Pa_setPlace_20
    · replace h := (if_neg c4).symm.trans h
      cases h
      exact g_vret ok (hret _ hk) (by decide) (by decide) d_Pa_setPlace_20
theorem c_Pa_setPlace (l : Launch) {k : Nat} {a1 : Int32} {a2 : Int32} {s : MS} (ht : rf s.2.2 12 (some k) = some k) {z : MS} (h : f_Pa_setPlace k a1 a2 s = some z) : Ct l yX2_setPlace (.code yX2_setPlace cX2_setPlace 3 none) rm_Pa_setPlace 0 0 false [vR (some k), vI a1, vI a2] s none z :=
  Ct.of rfl (by decide +kernel) ⟨rfl, le_t rfl⟩ (fun X ok fn _ hI hl => w_Pa_setPlace (KX := fun y => y = z) ok (fun y hy => by subst hy; exact fn) ht h rfl)
abbrev rm_Pa_takePlacesOf : Room := { frames := 1, cells := 0, slots := 0, locals := 22 }
theorem cm_Pa_takePlacesOf : cfM yX2_takePlacesOf cX2_takePlacesOf 3 none 1 := ⟨tw_647, tw_3, by decide, by decide, by decide +kernel⟩
theorem cv_Pa_takePlacesOf : cfV yX2_takePlacesOf := ⟨tw_646, ts_X2_takePlacesOf⟩
theorem d_Pa_takePlacesOf_0 : decode cX2_takePlacesOf 0 = .ok (.aload_n 0, 1) := by decide +kernel
theorem d_Pa_takePlacesOf_1 : decode cX2_takePlacesOf 1 = .ok (.aload_n 1, 1) := by decide +kernel
theorem d_Pa_takePlacesOf_2 : decode cX2_takePlacesOf 2 = .ok (.getfield 19, 3) := by decide +kernel
theorem d_Pa_takePlacesOf_5 : decode cX2_takePlacesOf 5 = .ok (.putfield 19, 3) := by decide +kernel
theorem d_Pa_takePlacesOf_8 : decode cX2_takePlacesOf 8 = .ok (.iconst 0, 1) := by decide +kernel
theorem d_Pa_takePlacesOf_9 : decode cX2_takePlacesOf 9 = .ok (.istore_n 2, 1) := by decide +kernel
theorem d_Pa_takePlacesOf_10 : decode cX2_takePlacesOf 10 = .ok (.iload_n 2, 1) := by decide +kernel
theorem d_Pa_takePlacesOf_11 : decode cX2_takePlacesOf 11 = .ok (.aload_n 0, 1) := by decide +kernel
theorem d_Pa_takePlacesOf_12 : decode cX2_takePlacesOf 12 = .ok (.getfield 19, 3) := by decide +kernel
theorem d_Pa_takePlacesOf_15 : decode cX2_takePlacesOf 15 = .ok (.if_icmp .gt 19, 3) := by decide +kernel
theorem d_Pa_takePlacesOf_18 : decode cX2_takePlacesOf 18 = .ok (.aload_n 0, 1) := by decide +kernel
theorem d_Pa_takePlacesOf_19 : decode cX2_takePlacesOf 19 = .ok (.iload_n 2, 1) := by decide +kernel
theorem d_Pa_takePlacesOf_20 : decode cX2_takePlacesOf 20 = .ok (.aload_n 1, 1) := by decide +kernel
theorem d_Pa_takePlacesOf_21 : decode cX2_takePlacesOf 21 = .ok (.iload_n 2, 1) := by decide +kernel
theorem d_Pa_takePlacesOf_22 : decode cX2_takePlacesOf 22 = .ok (.invokevirtual 22, 3) := by decide +kernel
theorem d_Pa_takePlacesOf_25 : decode cX2_takePlacesOf 25 = .ok (.invokevirtual 26, 3) := by decide +kernel
theorem d_Pa_takePlacesOf_28 : decode cX2_takePlacesOf 28 = .ok (.iinc 2 1, 3) := by decide +kernel
theorem d_Pa_takePlacesOf_31 : decode cX2_takePlacesOf 31 = .ok (.goto (-21), 3) := by decide +kernel
theorem d_Pa_takePlacesOf_34 : decode cX2_takePlacesOf 34 = .ok (.return_, 1) := by decide +kernel
set_option maxRecDepth 100000 in
set_option maxHeartbeats 4000000 in
theorem w_b_Pa_takePlacesOf_10 {X : CX} {KX : MS → Prop} {k : Nat} {a1 : Option Nat} {a2 : Int32} {s : MS} {rec : Int32 → MS → Option (MS)} {sb : MS} (ok : Ok X cX2_takePlacesOf RX2 rm_Pa_takePlacesOf 3 false) (hexit : ∀ (z : MS), KX z → (∀ q, dm sb q → dm z q) → G X z 0 0 34 [(0, vR (some k))] []) (hrec : ∀ (v2 : Int32) (z : MS), (∀ q, dm sb q → dm z q) → ∀ y, rec v2 z = some y → KX y → G X z 0 0 10 [(0, vR (some k)), (1, vR a1), (2, vI v2)] []) (mb : ∀ q, dm sb q → dm s q) (ht : rf s.2.2 12 (some k) = some k) {res : MS} (h : b_Pa_takePlacesOf_10 k a1 a2 s rec = some res) (hk : KX res) : G X s 0 0 10 [(0, vR (some k)), (1, vR a1), (2, vI a2)] [] := by
  unfold b_Pa_takePlacesOf_10 at h
  refine g_iload_n (i := 2) 2 ok d_Pa_takePlacesOf_10 rfl rfl ?_
  refine g_aload_n (i := 0) 0 ok d_Pa_takePlacesOf_11 rfl rfl ?_
  refine g_geti (s0 := 12) (j := 4) (ci := 2) (C := RX2) (T := TX2) (N := 7) ok ht lay_12 rfl inX2 (by decide) rfl tw_63 rfl d_Pa_takePlacesOf_12 ?_
  refine g_icmp_gt (tgt := 34) ok d_Pa_takePlacesOf_15 (by decide) (fun c6 => ?_) (fun c6 => ?_)
  · replace h := (if_pos c6).symm.trans h
    refine g_sub [0] rfl ?_
    cases h
    exact hexit s hk mb
  · replace h := (if_neg c6).symm.trans h
    refine g_aload_n (i := 0) 0 ok d_Pa_takePlacesOf_18 rfl rfl ?_
    refine g_iload_n (i := 2) 2 ok d_Pa_takePlacesOf_19 rfl rfl ?_
    refine g_aload_n (i := 1) 1 ok d_Pa_takePlacesOf_20 rfl rfl ?_
    refine g_iload_n (i := 2) 2 ok d_Pa_takePlacesOf_21 rfl rfl ?_
    obtain ⟨k7, hk8, h⟩ := bnd_go h
    obtain ⟨x10, hc11, h⟩ := bnd_go h
    refine g_invV (rm2 := rm_Pa_placeOf) (As := [vI a2]) (rest := [vI a2, vR (some k)]) ok hk8 lay_12 rfl (c_Pa_placeOf X.1.2.1 (rf_self hk8) hc11) cm_Pa_placeOf cv_Pa_placeOf tw_160 ⟨rfl, rfl⟩ ⟨le_t rfl, le_t rfl⟩ ⟨rfl, le_t rfl⟩ ⟨le_t rfl, le_t rfl⟩ d_Pa_takePlacesOf_22 rfl (fun m9 => ?_)
    show G X s 0 0 25 [(0, vR (some k)), (1, vR a1), (2, vI a2)] [vI x10, vI a2, vR (some k)]
    obtain ⟨s14, hc13, h⟩ := bnd_go h
    refine g_invV (rm2 := rm_Pa_setPlace) (As := [vI a2, vI x10]) (rest := []) ok ht lay_12 rfl (c_Pa_setPlace X.1.2.1 (rf_self ht) hc13) cm_Pa_setPlace cv_Pa_setPlace tw_648 ⟨rfl, rfl⟩ ⟨le_t rfl, le_t rfl⟩ ⟨rfl, le_t rfl⟩ ⟨le_t rfl, le_t rfl⟩ d_Pa_takePlacesOf_25 rfl (fun m12 => ?_)
    show G X s14 0 0 28 [(0, vR (some k)), (1, vR a1), (2, vI a2)] []
    obtain ⟨x15, e16⟩ : ∃ z, a2 + (1 : Int32) = z := ⟨_, rfl⟩
    replace h := lt_go h e16
    refine g_iinc (i := 2) (v := x15) 2 [(2, vI x15), (0, vR (some k)), (1, vR a1)] ok d_Pa_takePlacesOf_28 rfl (by rw [← e16]; rfl) (by decide) rfl ?_
    refine g_goto (tgt := 10) ok d_Pa_takePlacesOf_31 (by decide) ?_
    refine g_sub [1, 2, 0] rfl ?_
    exact hrec x15 s14 (fun z hz => m12 z (mb z hz)) _ h hk
theorem wx_l_Pa_takePlacesOf_10 {X : CX} {KX : MS → Prop} {k : Nat} {a1 : Option Nat} {sb : MS} (ok : Ok X cX2_takePlacesOf RX2 rm_Pa_takePlacesOf 3 false) (hexit : ∀ (z : MS), KX z → (∀ q, dm sb q → dm z q) → G X z 0 0 34 [(0, vR (some k))] []) (htb : rf sb.2.2 12 (some k) = some k) : ∀ (n : Nat) (a2 : Int32) (s : MS), (∀ q, dm sb q → dm s q) → ∀ (res : MS), l_Pa_takePlacesOf_10 k a1 n a2 s = some res → KX res → G X s 0 0 10 [(0, vR (some k)), (1, vR a1), (2, vI a2)] [] := by
  intro n
  induction n with
  | zero => intro _ s _ res h; cases h
  | succ n ih =>
    intro a2 s mb res h hk
    exact w_b_Pa_takePlacesOf_10 ok hexit (fun v2 z hz y h2 hk2 => ih v2 z hz y h2 hk2) mb (rf_mono mb htb) h hk
theorem w_l_Pa_takePlacesOf_10 {X : CX} {KX : MS → Prop} {k : Nat} {a1 : Option Nat} {sb : MS} (ok : Ok X cX2_takePlacesOf RX2 rm_Pa_takePlacesOf 3 false) (hexit : ∀ (z : MS), KX z → (∀ q, dm sb q → dm z q) → G X z 0 0 34 [(0, vR (some k))] []) (mb : ∀ q, dm sb q → dm sb q) (htb : rf sb.2.2 12 (some k) = some k) (n : Nat) (a2 : Int32) {res : MS} (h : l_Pa_takePlacesOf_10 k a1 n a2 sb = some res) (hk : KX res) : G X sb 0 0 10 [(0, vR (some k)), (1, vR a1), (2, vI a2)] [] := wx_l_Pa_takePlacesOf_10 ok hexit htb n a2 sb mb res h hk
set_option maxRecDepth 100000 in
set_option maxHeartbeats 4000000 in
theorem w_Pa_takePlacesOf {X : CX} {KX : MS → Prop} {k : Nat} {a1 : Option Nat} {s : MS} (ok : Ok X cX2_takePlacesOf RX2 rm_Pa_takePlacesOf 3 false) (hret : ∀ r : MS, KX r → Fin X none 0 0 false none r)   (ht : rf s.2.2 12 (some k) = some k) {res : MS} (h : f_Pa_takePlacesOf k a1 s = some res) (hk : KX res) : G X s 0 0 0 [(0, vR (some k)), (1, vR a1)] [] := by
  unfold f_Pa_takePlacesOf at h
  refine g_aload_n (i := 0) 0 ok d_Pa_takePlacesOf_0 rfl rfl ?_
  refine g_aload_n (i := 1) 1 ok d_Pa_takePlacesOf_1 rfl rfl ?_
  obtain ⟨k1, hk2, h⟩ := bnd_go h
  refine g_geti (s0 := 12) (j := 4) (ci := 2) (C := RX2) (T := TX2) (N := 7) ok hk2 lay_12 rfl inX2 (by decide) rfl tw_63 rfl d_Pa_takePlacesOf_2 ?_
  refine g_puti (s0 := 12) (j := 4) (ci := 2) (C := RX2) (T := TX2) (N := 7) ok ht lay_12 rfl inX2 (by decide) rfl tw_63 rfl tyX2_ok nmX2 rfl (Or.inl rfl) d_Pa_takePlacesOf_5 ?_
  obtain ⟨s3, e4⟩ : ∃ z, wi s k 4 (s.1 k1 4) = z := ⟨_, rfl⟩
  replace h := lt_go h e4
  have m5 := mo_wi e4
  rw [e4]
  refine g_iconst (v := (0 : Int32)) ok d_Pa_takePlacesOf_8 (by decide) ?_
  refine g_istore_n (i := 2) [(2, vI (0 : Int32)), (0, vR (some k)), (1, vR a1)] ok d_Pa_takePlacesOf_9 rfl (by decide) rfl ?_
  refine g_sub [1, 2, 0] rfl ?_
  obtain ⟨s18, hx, h⟩ := bnd_go h
  refine w_l_Pa_takePlacesOf_10 (KX := fun y => y = s18) ok (fun y0 he m17 => ?_) (fun _ hz => hz) (rf_mono m5 ht) _ _ hx rfl
  cases he
  cases h
  exact g_vret ok (hret _ hk) (by decide) (by decide) d_Pa_takePlacesOf_34
theorem c_Pa_takePlacesOf (l : Launch) {k : Nat} {a1 : Option Nat} {s : MS} (ht : rf s.2.2 12 (some k) = some k) {z : MS} (h : f_Pa_takePlacesOf k a1 s = some z) : Ct l yX2_takePlacesOf (.code yX2_takePlacesOf cX2_takePlacesOf 3 none) rm_Pa_takePlacesOf 0 0 false [vR (some k), vR a1] s none z :=
  Ct.of rfl (by decide +kernel) ⟨rfl, le_t rfl⟩ (fun X ok fn _ hI hl => w_Pa_takePlacesOf (KX := fun y => y = z) ok (fun y hy => by subst hy; exact fn) ht h rfl)
abbrev rm_Ro_init : Room := { frames := 1, cells := 0, slots := 0, locals := 21 }
theorem cm_Ro_init : cfM yX3_init cX3_init 4 none 3 := ⟨tw_367, tw_12, by decide, by decide, by decide +kernel⟩
theorem ci_Ro_init : cfI yX3_init := ⟨rfl, tw_366⟩
theorem d_Ro_init_0 : decode cX3_init 0 = .ok (.aload_n 0, 1) := by decide +kernel
theorem d_Ro_init_1 : decode cX3_init 1 = .ok (.invokespecial 3, 3) := by decide +kernel
theorem d_Ro_init_4 : decode cX3_init 4 = .ok (.aload_n 0, 1) := by decide +kernel
theorem d_Ro_init_5 : decode cX3_init 5 = .ok (.iload_n 1, 1) := by decide +kernel
theorem d_Ro_init_6 : decode cX3_init 6 = .ok (.bipush 10, 2) := by decide +kernel
theorem d_Ro_init_8 : decode cX3_init 8 = .ok (.irem, 1) := by decide +kernel
theorem d_Ro_init_9 : decode cX3_init 9 = .ok (.iload_n 2, 1) := by decide +kernel
theorem d_Ro_init_10 : decode cX3_init 10 = .ok (.bipush 10, 2) := by decide +kernel
theorem d_Ro_init_12 : decode cX3_init 12 = .ok (.irem, 1) := by decide +kernel
theorem d_Ro_init_13 : decode cX3_init 13 = .ok (.invokestatic 9, 3) := by decide +kernel
theorem d_Ro_init_16 : decode cX3_init 16 = .ok (.putfield 15, 3) := by decide +kernel
theorem d_Ro_init_19 : decode cX3_init 19 = .ok (.aload_n 0, 1) := by decide +kernel
theorem d_Ro_init_20 : decode cX3_init 20 = .ok (.iload_n 1, 1) := by decide +kernel
theorem d_Ro_init_21 : decode cX3_init 21 = .ok (.bipush 10, 2) := by decide +kernel
theorem d_Ro_init_23 : decode cX3_init 23 = .ok (.irem, 1) := by decide +kernel
theorem d_Ro_init_24 : decode cX3_init 24 = .ok (.iload_n 2, 1) := by decide +kernel
theorem d_Ro_init_25 : decode cX3_init 25 = .ok (.bipush 10, 2) := by decide +kernel
theorem d_Ro_init_27 : decode cX3_init 27 = .ok (.irem, 1) := by decide +kernel
theorem d_Ro_init_28 : decode cX3_init 28 = .ok (.invokestatic 21, 3) := by decide +kernel
theorem d_Ro_init_31 : decode cX3_init 31 = .ok (.putfield 24, 3) := by decide +kernel
theorem d_Ro_init_34 : decode cX3_init 34 = .ok (.aload_n 0, 1) := by decide +kernel
theorem d_Ro_init_35 : decode cX3_init 35 = .ok (.iload_n 1, 1) := by decide +kernel
theorem d_Ro_init_36 : decode cX3_init 36 = .ok (.bipush 10, 2) := by decide +kernel
theorem d_Ro_init_38 : decode cX3_init 38 = .ok (.idiv, 1) := by decide +kernel
theorem d_Ro_init_39 : decode cX3_init 39 = .ok (.iload_n 2, 1) := by decide +kernel
theorem d_Ro_init_40 : decode cX3_init 40 = .ok (.bipush 10, 2) := by decide +kernel
theorem d_Ro_init_42 : decode cX3_init 42 = .ok (.idiv, 1) := by decide +kernel
theorem d_Ro_init_43 : decode cX3_init 43 = .ok (.invokestatic 9, 3) := by decide +kernel
theorem d_Ro_init_46 : decode cX3_init 46 = .ok (.putfield 27, 3) := by decide +kernel
theorem d_Ro_init_49 : decode cX3_init 49 = .ok (.aload_n 0, 1) := by decide +kernel
theorem d_Ro_init_50 : decode cX3_init 50 = .ok (.iload_n 1, 1) := by decide +kernel
theorem d_Ro_init_51 : decode cX3_init 51 = .ok (.bipush 10, 2) := by decide +kernel
theorem d_Ro_init_53 : decode cX3_init 53 = .ok (.idiv, 1) := by decide +kernel
theorem d_Ro_init_54 : decode cX3_init 54 = .ok (.iload_n 2, 1) := by decide +kernel
theorem d_Ro_init_55 : decode cX3_init 55 = .ok (.bipush 10, 2) := by decide +kernel
theorem d_Ro_init_57 : decode cX3_init 57 = .ok (.idiv, 1) := by decide +kernel
theorem d_Ro_init_58 : decode cX3_init 58 = .ok (.invokestatic 21, 3) := by decide +kernel
theorem d_Ro_init_61 : decode cX3_init 61 = .ok (.putfield 30, 3) := by decide +kernel
theorem d_Ro_init_64 : decode cX3_init 64 = .ok (.aload_n 0, 1) := by decide +kernel
theorem d_Ro_init_65 : decode cX3_init 65 = .ok (.iload_n 3, 1) := by decide +kernel
theorem d_Ro_init_66 : decode cX3_init 66 = .ok (.putfield 33, 3) := by decide +kernel
theorem d_Ro_init_69 : decode cX3_init 69 = .ok (.return_, 1) := by decide +kernel
set_option maxRecDepth 100000 in
set_option maxHeartbeats 4000000 in
theorem w_Ro_init {X : CX} {KX : MS → Prop} {k : Nat} {a1 : Int32} {a2 : Int32} {a3 : Int32} {s : MS} (ok : Ok X cX3_init RX3 rm_Ro_init 4 false) (hret : ∀ r : MS, KX r → Fin X none 0 0 false none r) (hI : X.1.2.2.2.2.2.2.2.2.1.name = "<init>")  (ht : rf s.2.2 10 (some k) = some k) {res : MS} (h : f_Ro_init k a1 a2 a3 s = some res) (hk : KX res) : G X s 0 0 0 [(0, vR (some k)), (1, vI a1), (2, vI a2), (3, vI a3)] [] := by
  unfold f_Ro_init at h
  refine g_aload_n (i := 0) 0 ok d_Ro_init_0 rfl rfl ?_
  refine g_objInit (s0 := 10) ok ht tw_368 tw_19 tw_20 rfl ⟨le_t rfl, le_t rfl⟩ d_Ro_init_1 ?_
  refine g_aload_n (i := 0) 0 ok d_Ro_init_4 rfl rfl ?_
  refine g_iload_n (i := 1) 1 ok d_Ro_init_5 rfl rfl ?_
  refine g_bipush (v := (10 : Int32)) ok d_Ro_init_6 (by decide) ?_
  refine g_irem ok d_Ro_init_8 (by decide) ?_
  refine g_iload_n (i := 2) 2 ok d_Ro_init_9 rfl rfl ?_
  refine g_bipush (v := (10 : Int32)) ok d_Ro_init_10 (by decide) ?_
  refine g_irem ok d_Ro_init_12 (by decide) ?_
  refine g_mmin ok tw_369 tw_370 tw_11 tw_371 rfl ⟨le_t rfl, le_t rfl⟩ ⟨le_t rfl, le_t rfl⟩ d_Ro_init_13 ?_
  refine g_putiF (s0 := 10) (j := 0) (ci := 3) (C := RX3) (T := TX3) (N := 8) ok ht lay_10 rfl inX3 (by decide) rfl tw_375 rfl tyX3_ok nmX3 rfl hI rfl (Or.inl rfl) d_Ro_init_16 ?_
  obtain ⟨s1, e2⟩ : ∃ z, wi s k 0 (if (a2 - a2 / (10 : Int32) * (10 : Int32)) < (a1 - a1 / (10 : Int32) * (10 : Int32)) then (a2 - a2 / (10 : Int32) * (10 : Int32)) else (a1 - a1 / (10 : Int32) * (10 : Int32))) = z := ⟨_, rfl⟩
  replace h := lt_go h e2
  have m3 := mo_wi e2
  rw [e2]
  refine g_aload_n (i := 0) 0 ok d_Ro_init_19 rfl rfl ?_
  refine g_iload_n (i := 1) 1 ok d_Ro_init_20 rfl rfl ?_
  refine g_bipush (v := (10 : Int32)) ok d_Ro_init_21 (by decide) ?_
  refine g_irem ok d_Ro_init_23 (by decide) ?_
  refine g_iload_n (i := 2) 2 ok d_Ro_init_24 rfl rfl ?_
  refine g_bipush (v := (10 : Int32)) ok d_Ro_init_25 (by decide) ?_
  refine g_irem ok d_Ro_init_27 (by decide) ?_
  refine g_mmax ok tw_372 tw_373 tw_11 tw_374 rfl ⟨le_t rfl, le_t rfl⟩ ⟨le_t rfl, le_t rfl⟩ d_Ro_init_28 ?_
  refine g_putiF (s0 := 10) (j := 1) (ci := 3) (C := RX3) (T := TX3) (N := 8) ok (rf_mono m3 ht) lay_10 rfl inX3 (by decide) rfl tw_376 rfl tyX3_ok nmX3 rfl hI rfl (Or.inl rfl) d_Ro_init_31 ?_
  obtain ⟨s4, e5⟩ : ∃ z, wi s1 k 1 (if (a1 - a1 / (10 : Int32) * (10 : Int32)) < (a2 - a2 / (10 : Int32) * (10 : Int32)) then (a2 - a2 / (10 : Int32) * (10 : Int32)) else (a1 - a1 / (10 : Int32) * (10 : Int32))) = z := ⟨_, rfl⟩
  replace h := lt_go h e5
  have m6 := mo_wi e5
  rw [e5]
  refine g_aload_n (i := 0) 0 ok d_Ro_init_34 rfl rfl ?_
  refine g_iload_n (i := 1) 1 ok d_Ro_init_35 rfl rfl ?_
  refine g_bipush (v := (10 : Int32)) ok d_Ro_init_36 (by decide) ?_
  refine g_idiv ok d_Ro_init_38 (by decide) ?_
  refine g_iload_n (i := 2) 2 ok d_Ro_init_39 rfl rfl ?_
  refine g_bipush (v := (10 : Int32)) ok d_Ro_init_40 (by decide) ?_
  refine g_idiv ok d_Ro_init_42 (by decide) ?_
  refine g_mmin ok tw_369 tw_370 tw_11 tw_371 rfl ⟨le_t rfl, le_t rfl⟩ ⟨le_t rfl, le_t rfl⟩ d_Ro_init_43 ?_
  refine g_putiF (s0 := 10) (j := 2) (ci := 3) (C := RX3) (T := TX3) (N := 8) ok (rf_mono m6 (rf_mono m3 ht)) lay_10 rfl inX3 (by decide) rfl tw_377 rfl tyX3_ok nmX3 rfl hI rfl (Or.inl rfl) d_Ro_init_46 ?_
  obtain ⟨s7, e8⟩ : ∃ z, wi s4 k 2 (if (a2 / (10 : Int32)) < (a1 / (10 : Int32)) then (a2 / (10 : Int32)) else (a1 / (10 : Int32))) = z := ⟨_, rfl⟩
  replace h := lt_go h e8
  have m9 := mo_wi e8
  rw [e8]
  refine g_aload_n (i := 0) 0 ok d_Ro_init_49 rfl rfl ?_
  refine g_iload_n (i := 1) 1 ok d_Ro_init_50 rfl rfl ?_
  refine g_bipush (v := (10 : Int32)) ok d_Ro_init_51 (by decide) ?_
  refine g_idiv ok d_Ro_init_53 (by decide) ?_
  refine g_iload_n (i := 2) 2 ok d_Ro_init_54 rfl rfl ?_
  refine g_bipush (v := (10 : Int32)) ok d_Ro_init_55 (by decide) ?_
  refine g_idiv ok d_Ro_init_57 (by decide) ?_
  refine g_mmax ok tw_372 tw_373 tw_11 tw_374 rfl ⟨le_t rfl, le_t rfl⟩ ⟨le_t rfl, le_t rfl⟩ d_Ro_init_58 ?_
  refine g_putiF (s0 := 10) (j := 3) (ci := 3) (C := RX3) (T := TX3) (N := 8) ok (rf_mono m9 (rf_mono m6 (rf_mono m3 ht))) lay_10 rfl inX3 (by decide) rfl tw_378 rfl tyX3_ok nmX3 rfl hI rfl (Or.inl rfl) d_Ro_init_61 ?_
  obtain ⟨s10, e11⟩ : ∃ z, wi s7 k 3 (if (a1 / (10 : Int32)) < (a2 / (10 : Int32)) then (a2 / (10 : Int32)) else (a1 / (10 : Int32))) = z := ⟨_, rfl⟩
  replace h := lt_go h e11
  have m12 := mo_wi e11
  rw [e11]
  refine g_aload_n (i := 0) 0 ok d_Ro_init_64 rfl rfl ?_
  refine g_iload_n (i := 3) 3 ok d_Ro_init_65 rfl rfl ?_
  refine g_putiF (s0 := 10) (j := 4) (ci := 3) (C := RX3) (T := TX3) (N := 8) ok (rf_mono m12 (rf_mono m9 (rf_mono m6 (rf_mono m3 ht)))) lay_10 rfl inX3 (by decide) rfl tw_379 rfl tyX3_ok nmX3 rfl hI rfl (Or.inl rfl) d_Ro_init_66 ?_
  obtain ⟨s13, e14⟩ : ∃ z, wi s10 k 4 a3 = z := ⟨_, rfl⟩
  replace h := lt_go h e14
  have m15 := mo_wi e14
  rw [e14]
  cases h
  exact g_vret ok (hret _ hk) (by decide) (by decide) d_Ro_init_69
theorem c_Ro_init (l : Launch) {k : Nat} {a1 : Int32} {a2 : Int32} {a3 : Int32} {s : MS} (ht : rf s.2.2 10 (some k) = some k) {z : MS} (h : f_Ro_init k a1 a2 a3 s = some z) : Ct l yX3_init (.code yX3_init cX3_init 4 none) rm_Ro_init 0 0 false [vR (some k), vI a1, vI a2, vI a3] s none z :=
  Ct.of rfl (by decide +kernel) ⟨rfl, le_t rfl⟩ (fun X ok fn _ hI hl => w_Ro_init (KX := fun y => y = z) ok (fun y hy => by subst hy; exact fn) hI ht h rfl)
