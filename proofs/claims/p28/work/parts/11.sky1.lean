abbrev rm_Sk_isOnGround : Room := { frames := 0, cells := 0, slots := 0, locals := 0 }
theorem cm_Sk_isOnGround : cfM yX4_isOnGround cX4_isOnGround 1 (some .boolean) 1 := ⟨tw_171, tw_1, by decide, by decide, by decide +kernel⟩
theorem cs_Sk_isOnGround : cfS yX4_isOnGround := tw_170
theorem d_Sk_isOnGround_0 : decode cX4_isOnGround 0 = .ok (.iload_n 0, 1) := by decide +kernel
theorem d_Sk_isOnGround_1 : decode cX4_isOnGround 1 = .ok (.bipush 100, 2) := by decide +kernel
theorem d_Sk_isOnGround_3 : decode cX4_isOnGround 3 = .ok (.if_icmp .ge 7, 3) := by decide +kernel
theorem d_Sk_isOnGround_6 : decode cX4_isOnGround 6 = .ok (.iconst 1, 1) := by decide +kernel
theorem d_Sk_isOnGround_7 : decode cX4_isOnGround 7 = .ok (.goto 4, 3) := by decide +kernel
theorem d_Sk_isOnGround_10 : decode cX4_isOnGround 10 = .ok (.iconst 0, 1) := by decide +kernel
theorem d_Sk_isOnGround_11 : decode cX4_isOnGround 11 = .ok (.ireturn, 1) := by decide +kernel
set_option maxRecDepth 100000 in
set_option maxHeartbeats 4000000 in
theorem w_Sk_isOnGround {X : CX} {KX : Int32 → Prop} {a0 : Int32} {s : MS} (ok : Ok X cX4_isOnGround RX4 rm_Sk_isOnGround 1 false) (hret : ∀ r : Int32, KX r → Fin X (some .boolean) 0 0 false (some (vI r)) s)    {res : Int32} (h : f_Sk_isOnGround a0 = res) (hk : KX res) : G X s 0 0 0 [(0, vI a0)] [] := by
  unfold f_Sk_isOnGround at h
  refine g_iload_n (i := 0) 0 ok d_Sk_isOnGround_0 rfl rfl ?_
  refine g_bipush (v := (100 : Int32)) ok d_Sk_isOnGround_1 (by decide) ?_
  refine g_icmp_ge (tgt := 10) ok d_Sk_isOnGround_3 (by decide) (fun c1 => ?_) (fun c1 => ?_)
  · replace h := (if_pos c1).symm.trans h
    refine g_iconst (v := (1 : Int32)) ok d_Sk_isOnGround_6 (by decide) ?_
    refine g_goto (tgt := 11) ok d_Sk_isOnGround_7 (by decide) ?_
    subst h
    exact g_zret ok (hret _ hk) (Or.inr rfl) (by decide) (by decide) d_Sk_isOnGround_11
  · replace h := (if_neg c1).symm.trans h
    refine g_iconst (v := (0 : Int32)) ok d_Sk_isOnGround_10 (by decide) ?_
    subst h
    exact g_zret ok (hret _ hk) (Or.inl rfl) (by decide) (by decide) d_Sk_isOnGround_11
theorem c_Sk_isOnGround (l : Launch) {a0 : Int32} {s : MS} : Ct l yX4_isOnGround (.code yX4_isOnGround cX4_isOnGround 1 (some .boolean)) rm_Sk_isOnGround 0 0 false [vI a0] s (some (vI (f_Sk_isOnGround a0))) s :=
  Ct.of rfl (by decide +kernel) ⟨rfl, le_t rfl⟩ (fun X ok fn _ hI hl => w_Sk_isOnGround (KX := fun y => y = f_Sk_isOnGround a0) ok (fun y hy => by subst hy; exact fn) rfl rfl)
theorem zb_Sk_isOnGround {a0 : Int32} : f_Sk_isOnGround a0 = 0 ∨ f_Sk_isOnGround a0 = 1 := by
  unfold f_Sk_isOnGround
  repeat' split
  all_goals first | exact Or.inl rfl | exact Or.inr rfl
abbrev rm_Ci_isFree : Room := { frames := 1, cells := 0, slots := 0, locals := 22 }
theorem cm_Ci_isFree : cfM yX0_isFree cX0_isFree 3 (some .boolean) 1 := ⟨tw_510, tw_2, by decide, by decide, by decide +kernel⟩
theorem cv_Ci_isFree : cfV yX0_isFree := ⟨tw_509, ts_X0_isFree⟩
theorem d_Ci_isFree_0 : decode cX0_isFree 0 = .ok (.iload_n 1, 1) := by decide +kernel
theorem d_Ci_isFree_1 : decode cX0_isFree 1 = .ok (.iconst (-1), 1) := by decide +kernel
theorem d_Ci_isFree_2 : decode cX0_isFree 2 = .ok (.if_icmp .ne 5, 3) := by decide +kernel
theorem d_Ci_isFree_5 : decode cX0_isFree 5 = .ok (.iconst 0, 1) := by decide +kernel
theorem d_Ci_isFree_6 : decode cX0_isFree 6 = .ok (.ireturn, 1) := by decide +kernel
theorem d_Ci_isFree_7 : decode cX0_isFree 7 = .ok (.iload_n 1, 1) := by decide +kernel
theorem d_Ci_isFree_8 : decode cX0_isFree 8 = .ok (.bipush 100, 2) := by decide +kernel
theorem d_Ci_isFree_10 : decode cX0_isFree 10 = .ok (.irem, 1) := by decide +kernel
theorem d_Ci_isFree_11 : decode cX0_isFree 11 = .ok (.istore_n 2, 1) := by decide +kernel
theorem d_Ci_isFree_12 : decode cX0_isFree 12 = .ok (.iload_n 1, 1) := by decide +kernel
theorem d_Ci_isFree_13 : decode cX0_isFree 13 = .ok (.invokestatic 41, 3) := by decide +kernel
theorem d_Ci_isFree_16 : decode cX0_isFree 16 = .ok (.ifCond .eq 11, 3) := by decide +kernel
theorem d_Ci_isFree_19 : decode cX0_isFree 19 = .ok (.aload_n 0, 1) := by decide +kernel
theorem d_Ci_isFree_20 : decode cX0_isFree 20 = .ok (.iload_n 2, 1) := by decide +kernel
theorem d_Ci_isFree_21 : decode cX0_isFree 21 = .ok (.invokevirtual 45, 3) := by decide +kernel
theorem d_Ci_isFree_24 : decode cX0_isFree 24 = .ok (.goto 20, 3) := by decide +kernel
theorem d_Ci_isFree_27 : decode cX0_isFree 27 = .ok (.iload_n 1, 1) := by decide +kernel
theorem d_Ci_isFree_28 : decode cX0_isFree 28 = .ok (.bipush 100, 2) := by decide +kernel
theorem d_Ci_isFree_30 : decode cX0_isFree 30 = .ok (.idiv, 1) := by decide +kernel
theorem d_Ci_isFree_31 : decode cX0_isFree 31 = .ok (.aload_n 0, 1) := by decide +kernel
theorem d_Ci_isFree_32 : decode cX0_isFree 32 = .ok (.iload_n 2, 1) := by decide +kernel
theorem d_Ci_isFree_33 : decode cX0_isFree 33 = .ok (.invokevirtual 48, 3) := by decide +kernel
theorem d_Ci_isFree_36 : decode cX0_isFree 36 = .ok (.if_icmp .le 7, 3) := by decide +kernel
theorem d_Ci_isFree_39 : decode cX0_isFree 39 = .ok (.iconst 1, 1) := by decide +kernel
theorem d_Ci_isFree_40 : decode cX0_isFree 40 = .ok (.goto 4, 3) := by decide +kernel
theorem d_Ci_isFree_43 : decode cX0_isFree 43 = .ok (.iconst 0, 1) := by decide +kernel
theorem d_Ci_isFree_44 : decode cX0_isFree 44 = .ok (.ireturn, 1) := by decide +kernel
set_option maxRecDepth 100000 in
set_option maxHeartbeats 4000000 in
theorem w_Ci_isFree {X : CX} {KX : Int32 → Prop} {k : Nat} {a1 : Int32} {s : MS} (ok : Ok X cX0_isFree RX0 rm_Ci_isFree 3 false) (hret : ∀ r : Int32, KX r → Fin X (some .boolean) 0 0 false (some (vI r)) s)   (ht : rf s.2.2 1 (some k) = some k) {res : Int32} (h : f_Ci_isFree k a1 s = some res) (hk : KX res) : G X s 0 0 0 [(0, vR (some k)), (1, vI a1)] [] := by
  unfold f_Ci_isFree at h
  refine g_iload_n (i := 1) 1 ok d_Ci_isFree_0 rfl rfl ?_
  refine g_iconst (v := (-1 : Int32)) ok d_Ci_isFree_1 (by decide) ?_
  refine g_icmp_ne (tgt := 7) ok d_Ci_isFree_2 (by decide) (fun c1 => ?_) (fun c1 => ?_)
  · replace h := (if_pos c1).symm.trans h
    refine g_iconst (v := (0 : Int32)) ok d_Ci_isFree_5 (by decide) ?_
    cases h
    exact g_zret ok (hret _ hk) (Or.inl rfl) (by decide) (by decide) d_Ci_isFree_6
  · replace h := (if_neg c1).symm.trans h
    refine g_iload_n (i := 1) 1 ok d_Ci_isFree_7 rfl rfl ?_
    refine g_bipush (v := (100 : Int32)) ok d_Ci_isFree_8 (by decide) ?_
    refine g_irem ok d_Ci_isFree_10 (by decide) ?_
    obtain ⟨x2, e3⟩ : ∃ z, (a1 - a1 / (100 : Int32) * (100 : Int32)) = z := ⟨_, rfl⟩
    replace h := lt_go h e3
    rw [e3]
    refine g_istore_n (i := 2) [(2, vI x2), (0, vR (some k)), (1, vI a1)] ok d_Ci_isFree_11 rfl (by decide) rfl ?_
    refine g_iload_n (i := 1) 2 ok d_Ci_isFree_12 rfl rfl ?_
    refine g_invSN (rm2 := rm_Sk_isOnGround) (As := [vI a1]) (rest := []) ok (c_Sk_isOnGround X.1.2.1) cm_Sk_isOnGround cs_Sk_isOnGround tw_511 ⟨rfl, rfl⟩ ⟨le_t rfl, le_t rfl⟩ ⟨rfl, le_t rfl⟩ ⟨le_t rfl, le_t rfl⟩ d_Ci_isFree_13 rfl (fun m4 => ?_)
    show G X s 0 0 16 [(2, vI x2), (0, vR (some k)), (1, vI a1)] [vI (f_Sk_isOnGround a1)]
    refine g_if_eq (tgt := 27) ok d_Ci_isFree_16 (by decide) (fun c5 => ?_) (fun c5 => ?_)
    · replace h := (if_pos c5).symm.trans h
      refine g_iload_n (i := 1) 2 ok d_Ci_isFree_27 rfl rfl ?_
      refine g_bipush (v := (100 : Int32)) ok d_Ci_isFree_28 (by decide) ?_
      refine g_idiv ok d_Ci_isFree_30 (by decide) ?_
      refine g_aload_n (i := 0) 1 ok d_Ci_isFree_31 rfl rfl ?_
      refine g_iload_n (i := 2) 0 ok d_Ci_isFree_32 rfl rfl ?_
      obtain ⟨x7, hc8, h⟩ := bnd_go h
      refine g_invV (rm2 := rm_Ci_heightOf) (As := [vI x2]) (rest := [vI (a1 / (100 : Int32))]) ok ht lay_1 rfl (c_Ci_heightOf X.1.2.1 (rf_self ht) hc8) cm_Ci_heightOf cv_Ci_heightOf tw_513 ⟨rfl, rfl⟩ ⟨le_t rfl, le_t rfl⟩ ⟨rfl, le_t rfl⟩ ⟨le_t rfl, le_t rfl⟩ d_Ci_isFree_33 rfl (fun m6 => ?_)
      show G X s 0 0 36 [(2, vI x2), (0, vR (some k)), (1, vI a1)] [vI x7, vI (a1 / (100 : Int32))]
      refine g_icmp_le (tgt := 43) ok d_Ci_isFree_36 (by decide) (fun c9 => ?_) (fun c9 => ?_)
      · replace h := (if_pos c9).symm.trans h
        refine g_iconst (v := (1 : Int32)) ok d_Ci_isFree_39 (by decide) ?_
        refine g_goto (tgt := 44) ok d_Ci_isFree_40 (by decide) ?_
        cases h
        exact g_zret ok (hret _ hk) (Or.inr rfl) (by decide) (by decide) d_Ci_isFree_44
      · replace h := (if_neg c9).symm.trans h
        refine g_iconst (v := (0 : Int32)) ok d_Ci_isFree_43 (by decide) ?_
        cases h
        exact g_zret ok (hret _ hk) (Or.inl rfl) (by decide) (by decide) d_Ci_isFree_44
    · replace h := (if_neg c5).symm.trans h
      refine g_aload_n (i := 0) 1 ok d_Ci_isFree_19 rfl rfl ?_
      refine g_iload_n (i := 2) 0 ok d_Ci_isFree_20 rfl rfl ?_
      obtain ⟨x11, hc12, h⟩ := bnd_go h
      refine g_invV (rm2 := rm_Ci_isSpot) (As := [vI x2]) (rest := []) ok ht lay_1 rfl (c_Ci_isSpot X.1.2.1 (rf_self ht) hc12) cm_Ci_isSpot cv_Ci_isSpot tw_512 ⟨rfl, rfl⟩ ⟨le_t rfl, le_t rfl⟩ ⟨rfl, le_t rfl⟩ ⟨le_t rfl, le_t rfl⟩ d_Ci_isFree_21 rfl (fun m10 => ?_)
      show G X s 0 0 24 [(2, vI x2), (0, vR (some k)), (1, vI a1)] [vI x11]
      refine g_goto (tgt := 44) ok d_Ci_isFree_24 (by decide) ?_
      obtain ⟨g13, h⟩ := gd_go h
      cases h
      exact g_zret ok (hret _ hk) g13 (by decide) (by decide) d_Ci_isFree_44
theorem c_Ci_isFree (l : Launch) {k : Nat} {a1 : Int32} {s : MS} (ht : rf s.2.2 1 (some k) = some k) {r : Int32} (h : f_Ci_isFree k a1 s = some r) : Ct l yX0_isFree (.code yX0_isFree cX0_isFree 3 (some .boolean)) rm_Ci_isFree 0 0 false [vR (some k), vI a1] s (some (vI r)) s :=
  Ct.of rfl (by decide +kernel) ⟨rfl, le_t rfl⟩ (fun X ok fn _ hI hl => w_Ci_isFree (KX := fun y => y = r) ok (fun y hy => by subst hy; exact fn) ht h rfl)
abbrev rm_Ci_taken : Room := { frames := 1, cells := 0, slots := 0, locals := 21 }
theorem cm_Ci_taken : cfM yX0_taken cX0_taken 6 (some .int) 3 := ⟨tw_526, tw_2, by decide, by decide, by decide +kernel⟩
theorem cv_Ci_taken : cfV yX0_taken := ⟨tw_525, ts_X0_taken⟩
theorem d_Ci_taken_0 : decode cX0_taken 0 = .ok (.iload_n 1, 1) := by decide +kernel
theorem d_Ci_taken_1 : decode cX0_taken 1 = .ok (.iload_n 2, 1) := by decide +kernel
theorem d_Ci_taken_2 : decode cX0_taken 2 = .ok (.if_icmp .ne 12, 3) := by decide +kernel
theorem d_Ci_taken_5 : decode cX0_taken 5 = .ok (.iload_n 2, 1) := by decide +kernel
theorem d_Ci_taken_6 : decode cX0_taken 6 = .ok (.invokestatic 41, 3) := by decide +kernel
theorem d_Ci_taken_9 : decode cX0_taken 9 = .ok (.ifCond .eq 5, 3) := by decide +kernel
theorem d_Ci_taken_12 : decode cX0_taken 12 = .ok (.iconst 0, 1) := by decide +kernel
theorem d_Ci_taken_13 : decode cX0_taken 13 = .ok (.ireturn, 1) := by decide +kernel
theorem d_Ci_taken_14 : decode cX0_taken 14 = .ok (.iload_n 2, 1) := by decide +kernel
theorem d_Ci_taken_15 : decode cX0_taken 15 = .ok (.bipush 100, 2) := by decide +kernel
theorem d_Ci_taken_17 : decode cX0_taken 17 = .ok (.idiv, 1) := by decide +kernel
theorem d_Ci_taken_18 : decode cX0_taken 18 = .ok (.istore 4, 2) := by decide +kernel
theorem d_Ci_taken_20 : decode cX0_taken 20 = .ok (.iload 4, 2) := by decide +kernel
theorem d_Ci_taken_22 : decode cX0_taken 22 = .ok (.iload_n 1, 1) := by decide +kernel
theorem d_Ci_taken_23 : decode cX0_taken 23 = .ok (.bipush 100, 2) := by decide +kernel
theorem d_Ci_taken_25 : decode cX0_taken 25 = .ok (.idiv, 1) := by decide +kernel
theorem d_Ci_taken_26 : decode cX0_taken 26 = .ok (.if_icmp .le 7, 3) := by decide +kernel
theorem d_Ci_taken_29 : decode cX0_taken 29 = .ok (.iconst 2, 1) := by decide +kernel
theorem d_Ci_taken_30 : decode cX0_taken 30 = .ok (.goto 4, 3) := by decide +kernel
theorem d_Ci_taken_33 : decode cX0_taken 33 = .ok (.iconst 1, 1) := by decide +kernel
theorem d_Ci_taken_34 : decode cX0_taken 34 = .ok (.istore 5, 2) := by decide +kernel
theorem d_Ci_taken_36 : decode cX0_taken 36 = .ok (.iload 5, 2) := by decide +kernel
theorem d_Ci_taken_38 : decode cX0_taken 38 = .ok (.aload_n 3, 1) := by decide +kernel
theorem d_Ci_taken_39 : decode cX0_taken 39 = .ok (.iload 4, 2) := by decide +kernel
theorem d_Ci_taken_41 : decode cX0_taken 41 = .ok (.invokestatic 51, 3) := by decide +kernel
theorem d_Ci_taken_44 : decode cX0_taken 44 = .ok (.iadd, 1) := by decide +kernel
theorem d_Ci_taken_45 : decode cX0_taken 45 = .ok (.ireturn, 1) := by decide +kernel
set_option maxRecDepth 100000 in
set_option maxHeartbeats 4000000 in
theorem w_j_Ci_taken_34 {X : CX} {KX : Int32 → Prop} {k : Nat} {a3 : Option Nat} {a4 : Int32} {t0 : Int32} {s : MS} (ok : Ok X cX0_taken RX0 rm_Ci_taken 6 false) (hret : ∀ r : Int32, KX r → Fin X (some .int) 0 0 false (some (vI r)) s) (ht : rf s.2.2 1 (some k) = some k) {res : Int32} (h : j_Ci_taken_34 k a3 a4 t0 s = some res) (hk : KX res) : G X s 0 0 34 [(0, vR (some k)), (3, vR a3), (4, vI a4)] [vI t0] := by
  unfold j_Ci_taken_34 at h
  refine g_istore (i := 5) [(5, vI t0), (0, vR (some k)), (3, vR a3), (4, vI a4)] ok d_Ci_taken_34 (by decide) rfl ?_
  refine g_iload (i := 5) 0 ok d_Ci_taken_36 rfl ?_
  refine g_aload_n (i := 3) 2 ok d_Ci_taken_38 rfl rfl ?_
  refine g_iload (i := 4) 3 ok d_Ci_taken_39 rfl ?_
  obtain ⟨x8, hc9, h⟩ := bnd_go h
  refine g_invS (rm2 := rm_Ci_atLayer) (As := [vR a3, vI a4]) (rest := [vI t0]) ok (c_Ci_atLayer X.1.2.1 hc9) cm_Ci_atLayer cs_Ci_atLayer tw_341 ⟨rfl, rfl⟩ ⟨le_t rfl, le_t rfl⟩ ⟨rfl, le_t rfl⟩ ⟨le_t rfl, le_t rfl⟩ d_Ci_taken_41 rfl (fun m7 => ?_)
  show G X s 0 0 44 [(5, vI t0), (0, vR (some k)), (3, vR a3), (4, vI a4)] [vI x8, vI t0]
  refine g_iadd ok d_Ci_taken_44 ?_
  cases h
  exact g_iret ok (hret _ hk) (by decide) (by decide) d_Ci_taken_45
set_option maxRecDepth 100000 in
set_option maxHeartbeats 4000000 in
theorem w_j_Ci_taken_14 {X : CX} {KX : Int32 → Prop} {k : Nat} {a1 : Int32} {a2 : Int32} {a3 : Option Nat} {s : MS} (ok : Ok X cX0_taken RX0 rm_Ci_taken 6 false) (hret : ∀ r : Int32, KX r → Fin X (some .int) 0 0 false (some (vI r)) s) (ht : rf s.2.2 1 (some k) = some k) {res : Int32} (h : j_Ci_taken_14 k a1 a2 a3 s = some res) (hk : KX res) : G X s 0 0 14 [(0, vR (some k)), (1, vI a1), (2, vI a2), (3, vR a3)] [] := by
  unfold j_Ci_taken_14 at h
  refine g_iload_n (i := 2) 2 ok d_Ci_taken_14 rfl rfl ?_
  refine g_bipush (v := (100 : Int32)) ok d_Ci_taken_15 (by decide) ?_
  refine g_idiv ok d_Ci_taken_17 (by decide) ?_
  obtain ⟨x4, e5⟩ : ∃ z, (a2 / (100 : Int32)) = z := ⟨_, rfl⟩
  replace h := lt_go h e5
  rw [e5]
  refine g_istore (i := 4) [(4, vI x4), (0, vR (some k)), (1, vI a1), (2, vI a2), (3, vR a3)] ok d_Ci_taken_18 (by decide) rfl ?_
  refine g_iload (i := 4) 0 ok d_Ci_taken_20 rfl ?_
  refine g_iload_n (i := 1) 2 ok d_Ci_taken_22 rfl rfl ?_
  refine g_bipush (v := (100 : Int32)) ok d_Ci_taken_23 (by decide) ?_
  refine g_idiv ok d_Ci_taken_25 (by decide) ?_
  refine g_icmp_le (tgt := 33) ok d_Ci_taken_26 (by decide) (fun c6 => ?_) (fun c6 => ?_)
  · replace h := (if_pos c6).symm.trans h
    refine g_iconst (v := (2 : Int32)) ok d_Ci_taken_29 (by decide) ?_
    refine g_goto (tgt := 34) ok d_Ci_taken_30 (by decide) ?_
    refine g_sub [1, 4, 0] rfl ?_
    exact w_j_Ci_taken_34 ok hret ht h hk
  · replace h := (if_neg c6).symm.trans h
    refine g_iconst (v := (1 : Int32)) ok d_Ci_taken_33 (by decide) ?_
    refine g_sub [1, 4, 0] rfl ?_
    exact w_j_Ci_taken_34 ok hret ht h hk
set_option maxRecDepth 100000 in
set_option maxHeartbeats 4000000 in
theorem w_Ci_taken {X : CX} {KX : Int32 → Prop} {k : Nat} {a1 : Int32} {a2 : Int32} {a3 : Option Nat} {s : MS} (ok : Ok X cX0_taken RX0 rm_Ci_taken 6 false) (hret : ∀ r : Int32, KX r → Fin X (some .int) 0 0 false (some (vI r)) s)   (ht : rf s.2.2 1 (some k) = some k) {res : Int32} (h : f_Ci_taken k a1 a2 a3 s = some res) (hk : KX res) : G X s 0 0 0 [(0, vR (some k)), (1, vI a1), (2, vI a2), (3, vR a3)] [] := by
  unfold f_Ci_taken at h
  refine g_iload_n (i := 1) 1 ok d_Ci_taken_0 rfl rfl ?_
  refine g_iload_n (i := 2) 2 ok d_Ci_taken_1 rfl rfl ?_
  refine g_icmp_ne (tgt := 14) ok d_Ci_taken_2 (by decide) (fun c1 => ?_) (fun c1 => ?_)
  · replace h := (if_pos c1).symm.trans h
    refine g_iload_n (i := 2) 2 ok d_Ci_taken_5 rfl rfl ?_
    refine g_invSN (rm2 := rm_Sk_isOnGround) (As := [vI a2]) (rest := []) ok (c_Sk_isOnGround X.1.2.1) cm_Sk_isOnGround cs_Sk_isOnGround tw_511 ⟨rfl, rfl⟩ ⟨le_t rfl, le_t rfl⟩ ⟨rfl, le_t rfl⟩ ⟨le_t rfl, le_t rfl⟩ d_Ci_taken_6 rfl (fun m2 => ?_)
    show G X s 0 0 9 [(0, vR (some k)), (1, vI a1), (2, vI a2), (3, vR a3)] [vI (f_Sk_isOnGround a2)]
    refine g_if_eq (tgt := 14) ok d_Ci_taken_9 (by decide) (fun c3 => ?_) (fun c3 => ?_)
    · replace h := (if_pos c3).symm.trans h
      exact w_j_Ci_taken_14 ok hret ht h hk
    · replace h := (if_neg c3).symm.trans h
      refine g_iconst (v := (0 : Int32)) ok d_Ci_taken_12 (by decide) ?_
      cases h
      exact g_iret ok (hret _ hk) (by decide) (by decide) d_Ci_taken_13
  · replace h := (if_neg c1).symm.trans h
    exact w_j_Ci_taken_14 ok hret ht h hk
theorem c_Ci_taken (l : Launch) {k : Nat} {a1 : Int32} {a2 : Int32} {a3 : Option Nat} {s : MS} (ht : rf s.2.2 1 (some k) = some k) {r : Int32} (h : f_Ci_taken k a1 a2 a3 s = some r) : Ct l yX0_taken (.code yX0_taken cX0_taken 6 (some .int)) rm_Ci_taken 0 0 false [vR (some k), vI a1, vI a2, vR a3] s (some (vI r)) s :=
  Ct.of rfl (by decide +kernel) ⟨rfl, le_t rfl⟩ (fun X ok fn _ hI hl => w_Ci_taken (KX := fun y => y = r) ok (fun y hy => by subst hy; exact fn) ht h rfl)
abbrev rm_Sk_isOut : Room := { frames := 0, cells := 0, slots := 0, locals := 0 }
theorem cm_Sk_isOut : cfM yX4_isOut cX4_isOut 3 (some .boolean) 3 := ⟨tw_151, tw_1, by decide, by decide, by decide +kernel⟩
theorem cs_Sk_isOut : cfS yX4_isOut := tw_150
theorem d_Sk_isOut_0 : decode cX4_isOut 0 = .ok (.iload_n 0, 1) := by decide +kernel
theorem d_Sk_isOut_1 : decode cX4_isOut 1 = .ok (.iload_n 1, 1) := by decide +kernel
theorem d_Sk_isOut_2 : decode cX4_isOut 2 = .ok (.if_icmp .lt 8, 3) := by decide +kernel
theorem d_Sk_isOut_5 : decode cX4_isOut 5 = .ok (.iload_n 0, 1) := by decide +kernel
theorem d_Sk_isOut_6 : decode cX4_isOut 6 = .ok (.iload_n 2, 1) := by decide +kernel
theorem d_Sk_isOut_7 : decode cX4_isOut 7 = .ok (.if_icmp .le 7, 3) := by decide +kernel
theorem d_Sk_isOut_10 : decode cX4_isOut 10 = .ok (.iconst 1, 1) := by decide +kernel
theorem d_Sk_isOut_11 : decode cX4_isOut 11 = .ok (.goto 4, 3) := by decide +kernel
theorem d_Sk_isOut_14 : decode cX4_isOut 14 = .ok (.iconst 0, 1) := by decide +kernel
theorem d_Sk_isOut_15 : decode cX4_isOut 15 = .ok (.ireturn, 1) := by decide +kernel
set_option maxRecDepth 100000 in
set_option maxHeartbeats 4000000 in
theorem w_Sk_isOut {X : CX} {KX : Int32 → Prop} {a0 : Int32} {a1 : Int32} {a2 : Int32} {s : MS} (ok : Ok X cX4_isOut RX4 rm_Sk_isOut 3 false) (hret : ∀ r : Int32, KX r → Fin X (some .boolean) 0 0 false (some (vI r)) s)    {res : Int32} (h : f_Sk_isOut a0 a1 a2 = res) (hk : KX res) : G X s 0 0 0 [(0, vI a0), (1, vI a1), (2, vI a2)] [] := by
  unfold f_Sk_isOut at h
  refine g_iload_n (i := 0) 0 ok d_Sk_isOut_0 rfl rfl ?_
  refine g_iload_n (i := 1) 1 ok d_Sk_isOut_1 rfl rfl ?_
  refine g_icmp_lt (tgt := 10) ok d_Sk_isOut_2 (by decide) (fun c1 => ?_) (fun c1 => ?_)
  · replace h := (if_pos c1).symm.trans h
    refine g_iconst (v := (1 : Int32)) ok d_Sk_isOut_10 (by decide) ?_
    refine g_goto (tgt := 15) ok d_Sk_isOut_11 (by decide) ?_
    subst h
    exact g_zret ok (hret _ hk) (Or.inr rfl) (by decide) (by decide) d_Sk_isOut_15
  · replace h := (if_neg c1).symm.trans h
    refine g_iload_n (i := 0) 0 ok d_Sk_isOut_5 rfl rfl ?_
    refine g_iload_n (i := 2) 2 ok d_Sk_isOut_6 rfl rfl ?_
    refine g_icmp_le (tgt := 14) ok d_Sk_isOut_7 (by decide) (fun c2 => ?_) (fun c2 => ?_)
    · replace h := (if_pos c2).symm.trans h
      refine g_iconst (v := (1 : Int32)) ok d_Sk_isOut_10 (by decide) ?_
      refine g_goto (tgt := 15) ok d_Sk_isOut_11 (by decide) ?_
      subst h
      exact g_zret ok (hret _ hk) (Or.inr rfl) (by decide) (by decide) d_Sk_isOut_15
    · replace h := (if_neg c2).symm.trans h
      refine g_iconst (v := (0 : Int32)) ok d_Sk_isOut_14 (by decide) ?_
      subst h
      exact g_zret ok (hret _ hk) (Or.inl rfl) (by decide) (by decide) d_Sk_isOut_15
theorem c_Sk_isOut (l : Launch) {a0 : Int32} {a1 : Int32} {a2 : Int32} {s : MS} : Ct l yX4_isOut (.code yX4_isOut cX4_isOut 3 (some .boolean)) rm_Sk_isOut 0 0 false [vI a0, vI a1, vI a2] s (some (vI (f_Sk_isOut a0 a1 a2))) s :=
  Ct.of rfl (by decide +kernel) ⟨rfl, le_t rfl⟩ (fun X ok fn _ hI hl => w_Sk_isOut (KX := fun y => y = f_Sk_isOut a0 a1 a2) ok (fun y hy => by subst hy; exact fn) rfl rfl)
theorem zb_Sk_isOut {a0 : Int32} {a1 : Int32} {a2 : Int32} : f_Sk_isOut a0 a1 a2 = 0 ∨ f_Sk_isOut a0 a1 a2 = 1 := by
  unfold f_Sk_isOut
  repeat' split
  all_goals first | exact Or.inl rfl | exact Or.inr rfl
abbrev rm_Ro_isClosedAt : Room := { frames := 1, cells := 0, slots := 0, locals := 22 }
theorem cm_Ro_isClosedAt : cfM yX3_isClosedAt cX3_isClosedAt 3 (some .boolean) 2 := ⟨tw_168, tw_12, by decide, by decide, by decide +kernel⟩
theorem cv_Ro_isClosedAt : cfV yX3_isClosedAt := ⟨tw_166, ts_X3_isClosedAt⟩
theorem d_Ro_isClosedAt_0 : decode cX3_isClosedAt 0 = .ok (.aload_n 0, 1) := by decide +kernel
theorem d_Ro_isClosedAt_1 : decode cX3_isClosedAt 1 = .ok (.getfield 36, 3) := by decide +kernel
theorem d_Ro_isClosedAt_4 : decode cX3_isClosedAt 4 = .ok (.ifCond .ne 36, 3) := by decide +kernel
theorem d_Ro_isClosedAt_7 : decode cX3_isClosedAt 7 = .ok (.iload_n 1, 1) := by decide +kernel
theorem d_Ro_isClosedAt_8 : decode cX3_isClosedAt 8 = .ok (.invokestatic 40, 3) := by decide +kernel
theorem d_Ro_isClosedAt_11 : decode cX3_isClosedAt 11 = .ok (.ifCond .ne 29, 3) := by decide +kernel
theorem d_Ro_isClosedAt_14 : decode cX3_isClosedAt 14 = .ok (.iload_n 1, 1) := by decide +kernel
theorem d_Ro_isClosedAt_15 : decode cX3_isClosedAt 15 = .ok (.bipush 100, 2) := by decide +kernel
theorem d_Ro_isClosedAt_17 : decode cX3_isClosedAt 17 = .ok (.idiv, 1) := by decide +kernel
theorem d_Ro_isClosedAt_18 : decode cX3_isClosedAt 18 = .ok (.aload_n 0, 1) := by decide +kernel
theorem d_Ro_isClosedAt_19 : decode cX3_isClosedAt 19 = .ok (.getfield 33, 3) := by decide +kernel
theorem d_Ro_isClosedAt_22 : decode cX3_isClosedAt 22 = .ok (.if_icmp .gt 18, 3) := by decide +kernel
theorem d_Ro_isClosedAt_25 : decode cX3_isClosedAt 25 = .ok (.iload_n 2, 1) := by decide +kernel
theorem d_Ro_isClosedAt_26 : decode cX3_isClosedAt 26 = .ok (.aload_n 0, 1) := by decide +kernel
theorem d_Ro_isClosedAt_27 : decode cX3_isClosedAt 27 = .ok (.getfield 44, 3) := by decide +kernel
theorem d_Ro_isClosedAt_30 : decode cX3_isClosedAt 30 = .ok (.aload_n 0, 1) := by decide +kernel
theorem d_Ro_isClosedAt_31 : decode cX3_isClosedAt 31 = .ok (.getfield 47, 3) := by decide +kernel
theorem d_Ro_isClosedAt_34 : decode cX3_isClosedAt 34 = .ok (.invokestatic 50, 3) := by decide +kernel
theorem d_Ro_isClosedAt_37 : decode cX3_isClosedAt 37 = .ok (.ifCond .eq 5, 3) := by decide +kernel
theorem d_Ro_isClosedAt_40 : decode cX3_isClosedAt 40 = .ok (.iconst 0, 1) := by decide +kernel
theorem d_Ro_isClosedAt_41 : decode cX3_isClosedAt 41 = .ok (.ireturn, 1) := by decide +kernel
theorem d_Ro_isClosedAt_42 : decode cX3_isClosedAt 42 = .ok (.iload_n 1, 1) := by decide +kernel
theorem d_Ro_isClosedAt_43 : decode cX3_isClosedAt 43 = .ok (.bipush 10, 2) := by decide +kernel
theorem d_Ro_isClosedAt_45 : decode cX3_isClosedAt 45 = .ok (.irem, 1) := by decide +kernel
theorem d_Ro_isClosedAt_46 : decode cX3_isClosedAt 46 = .ok (.aload_n 0, 1) := by decide +kernel
theorem d_Ro_isClosedAt_47 : decode cX3_isClosedAt 47 = .ok (.getfield 15, 3) := by decide +kernel
theorem d_Ro_isClosedAt_50 : decode cX3_isClosedAt 50 = .ok (.aload_n 0, 1) := by decide +kernel
theorem d_Ro_isClosedAt_51 : decode cX3_isClosedAt 51 = .ok (.getfield 24, 3) := by decide +kernel
theorem d_Ro_isClosedAt_54 : decode cX3_isClosedAt 54 = .ok (.invokestatic 50, 3) := by decide +kernel
theorem d_Ro_isClosedAt_57 : decode cX3_isClosedAt 57 = .ok (.ifCond .ne 28, 3) := by decide +kernel
theorem d_Ro_isClosedAt_60 : decode cX3_isClosedAt 60 = .ok (.iload_n 1, 1) := by decide +kernel
theorem d_Ro_isClosedAt_61 : decode cX3_isClosedAt 61 = .ok (.bipush 10, 2) := by decide +kernel
theorem d_Ro_isClosedAt_63 : decode cX3_isClosedAt 63 = .ok (.idiv, 1) := by decide +kernel
theorem d_Ro_isClosedAt_64 : decode cX3_isClosedAt 64 = .ok (.bipush 10, 2) := by decide +kernel
theorem d_Ro_isClosedAt_66 : decode cX3_isClosedAt 66 = .ok (.irem, 1) := by decide +kernel
theorem d_Ro_isClosedAt_67 : decode cX3_isClosedAt 67 = .ok (.aload_n 0, 1) := by decide +kernel
theorem d_Ro_isClosedAt_68 : decode cX3_isClosedAt 68 = .ok (.getfield 27, 3) := by decide +kernel
theorem d_Ro_isClosedAt_71 : decode cX3_isClosedAt 71 = .ok (.aload_n 0, 1) := by decide +kernel
theorem d_Ro_isClosedAt_72 : decode cX3_isClosedAt 72 = .ok (.getfield 30, 3) := by decide +kernel
theorem d_Ro_isClosedAt_75 : decode cX3_isClosedAt 75 = .ok (.invokestatic 50, 3) := by decide +kernel
theorem d_Ro_isClosedAt_78 : decode cX3_isClosedAt 78 = .ok (.ifCond .ne 7, 3) := by decide +kernel
theorem d_Ro_isClosedAt_81 : decode cX3_isClosedAt 81 = .ok (.iconst 1, 1) := by decide +kernel
theorem d_Ro_isClosedAt_82 : decode cX3_isClosedAt 82 = .ok (.goto 4, 3) := by decide +kernel
theorem d_Ro_isClosedAt_85 : decode cX3_isClosedAt 85 = .ok (.iconst 0, 1) := by decide +kernel
theorem d_Ro_isClosedAt_86 : decode cX3_isClosedAt 86 = .ok (.ireturn, 1) := by decide +kernel
set_option maxRecDepth 100000 in
set_option maxHeartbeats 4000000 in
theorem w_Ro_isClosedAt {X : CX} {KX : Int32 → Prop} {k : Nat} {a1 : Int32} {a2 : Int32} {s : MS} (ok : Ok X cX3_isClosedAt RX3 rm_Ro_isClosedAt 3 false) (hret : ∀ r : Int32, KX r → Fin X (some .boolean) 0 0 false (some (vI r)) s)   (ht : rf s.2.2 10 (some k) = some k) {res : Int32} (h : f_Ro_isClosedAt k a1 a2 s = some res) (hk : KX res) : G X s 0 0 0 [(0, vR (some k)), (1, vI a1), (2, vI a2)] [] := by
  unfold f_Ro_isClosedAt at h
  refine g_aload_n (i := 0) 0 ok d_Ro_isClosedAt_0 rfl rfl ?_
  refine g_geti (s0 := 10) (j := 7) (ci := 3) (C := RX3) (T := TX3) (N := 8) ok ht lay_10 rfl inX3 (by decide) rfl tw_384 rfl d_Ro_isClosedAt_1 ?_
  refine g_if_ne (tgt := 40) ok d_Ro_isClosedAt_4 (by decide) (fun c1 => ?_) (fun c1 => ?_)
  · replace h := (if_pos c1).symm.trans h
    refine g_iload_n (i := 1) 1 ok d_Ro_isClosedAt_7 rfl rfl ?_
    refine g_invSN (rm2 := rm_Sk_isOnGround) (As := [vI a1]) (rest := []) ok (c_Sk_isOnGround X.1.2.1) cm_Sk_isOnGround cs_Sk_isOnGround tw_169 ⟨rfl, rfl⟩ ⟨le_t rfl, le_t rfl⟩ ⟨rfl, le_t rfl⟩ ⟨le_t rfl, le_t rfl⟩ d_Ro_isClosedAt_8 rfl (fun m2 => ?_)
    show G X s 0 0 11 [(0, vR (some k)), (1, vI a1), (2, vI a2)] [vI (f_Sk_isOnGround a1)]
    refine g_if_ne (tgt := 40) ok d_Ro_isClosedAt_11 (by decide) (fun c3 => ?_) (fun c3 => ?_)
    · replace h := (if_pos c3).symm.trans h
      refine g_iload_n (i := 1) 1 ok d_Ro_isClosedAt_14 rfl rfl ?_
      refine g_bipush (v := (100 : Int32)) ok d_Ro_isClosedAt_15 (by decide) ?_
      refine g_idiv ok d_Ro_isClosedAt_17 (by decide) ?_
      refine g_aload_n (i := 0) 0 ok d_Ro_isClosedAt_18 rfl rfl ?_
      refine g_geti (s0 := 10) (j := 4) (ci := 3) (C := RX3) (T := TX3) (N := 8) ok ht lay_10 rfl inX3 (by decide) rfl tw_379 rfl d_Ro_isClosedAt_19 ?_
      refine g_icmp_gt (tgt := 40) ok d_Ro_isClosedAt_22 (by decide) (fun c4 => ?_) (fun c4 => ?_)
      · replace h := (if_pos c4).symm.trans h
        refine g_iconst (v := (0 : Int32)) ok d_Ro_isClosedAt_40 (by decide) ?_
        cases h
        exact g_zret ok (hret _ hk) (Or.inl rfl) (by decide) (by decide) d_Ro_isClosedAt_41
      · replace h := (if_neg c4).symm.trans h
        refine g_iload_n (i := 2) 2 ok d_Ro_isClosedAt_25 rfl rfl ?_
        refine g_aload_n (i := 0) 0 ok d_Ro_isClosedAt_26 rfl rfl ?_
        refine g_geti (s0 := 10) (j := 5) (ci := 3) (C := RX3) (T := TX3) (N := 8) ok ht lay_10 rfl inX3 (by decide) rfl tw_380 rfl d_Ro_isClosedAt_27 ?_
        refine g_aload_n (i := 0) 0 ok d_Ro_isClosedAt_30 rfl rfl ?_
        refine g_geti (s0 := 10) (j := 6) (ci := 3) (C := RX3) (T := TX3) (N := 8) ok ht lay_10 rfl inX3 (by decide) rfl tw_382 rfl d_Ro_isClosedAt_31 ?_
        refine g_invSN (rm2 := rm_Sk_isOut) (As := [vI a2, vI (s.1 k 5), vI (s.1 k 6)]) (rest := []) ok (c_Sk_isOut X.1.2.1) cm_Sk_isOut cs_Sk_isOut tw_172 ⟨rfl, rfl⟩ ⟨le_t rfl, le_t rfl⟩ ⟨rfl, le_t rfl⟩ ⟨le_t rfl, le_t rfl⟩ d_Ro_isClosedAt_34 rfl (fun m5 => ?_)
        show G X s 0 0 37 [(0, vR (some k)), (1, vI a1), (2, vI a2)] [vI (f_Sk_isOut a2 (s.1 k 5) (s.1 k 6))]
        refine g_if_eq (tgt := 42) ok d_Ro_isClosedAt_37 (by decide) (fun c6 => ?_) (fun c6 => ?_)
        · replace h := (if_pos c6).symm.trans h
          refine g_iload_n (i := 1) 1 ok d_Ro_isClosedAt_42 rfl rfl ?_
          refine g_bipush (v := (10 : Int32)) ok d_Ro_isClosedAt_43 (by decide) ?_
          refine g_irem ok d_Ro_isClosedAt_45 (by decide) ?_
          refine g_aload_n (i := 0) 0 ok d_Ro_isClosedAt_46 rfl rfl ?_
          refine g_geti (s0 := 10) (j := 0) (ci := 3) (C := RX3) (T := TX3) (N := 8) ok ht lay_10 rfl inX3 (by decide) rfl tw_375 rfl d_Ro_isClosedAt_47 ?_
          refine g_aload_n (i := 0) 0 ok d_Ro_isClosedAt_50 rfl rfl ?_
          refine g_geti (s0 := 10) (j := 1) (ci := 3) (C := RX3) (T := TX3) (N := 8) ok ht lay_10 rfl inX3 (by decide) rfl tw_376 rfl d_Ro_isClosedAt_51 ?_
          refine g_invSN (rm2 := rm_Sk_isOut) (As := [vI (a1 - a1 / (10 : Int32) * (10 : Int32)), vI (s.1 k 0), vI (s.1 k 1)]) (rest := []) ok (c_Sk_isOut X.1.2.1) cm_Sk_isOut cs_Sk_isOut tw_172 ⟨rfl, rfl⟩ ⟨le_t rfl, le_t rfl⟩ ⟨rfl, le_t rfl⟩ ⟨le_t rfl, le_t rfl⟩ d_Ro_isClosedAt_54 rfl (fun m7 => ?_)
          show G X s 0 0 57 [(0, vR (some k)), (1, vI a1), (2, vI a2)] [vI (f_Sk_isOut (a1 - a1 / (10 : Int32) * (10 : Int32)) (s.1 k 0) (s.1 k 1))]
          refine g_if_ne (tgt := 85) ok d_Ro_isClosedAt_57 (by decide) (fun c8 => ?_) (fun c8 => ?_)
          · replace h := (if_pos c8).symm.trans h
            refine g_iload_n (i := 1) 1 ok d_Ro_isClosedAt_60 rfl rfl ?_
            refine g_bipush (v := (10 : Int32)) ok d_Ro_isClosedAt_61 (by decide) ?_
            refine g_idiv ok d_Ro_isClosedAt_63 (by decide) ?_
            refine g_bipush (v := (10 : Int32)) ok d_Ro_isClosedAt_64 (by decide) ?_
            refine g_irem ok d_Ro_isClosedAt_66 (by decide) ?_
            refine g_aload_n (i := 0) 0 ok d_Ro_isClosedAt_67 rfl rfl ?_
            refine g_geti (s0 := 10) (j := 2) (ci := 3) (C := RX3) (T := TX3) (N := 8) ok ht lay_10 rfl inX3 (by decide) rfl tw_377 rfl d_Ro_isClosedAt_68 ?_
            refine g_aload_n (i := 0) 0 ok d_Ro_isClosedAt_71 rfl rfl ?_
            refine g_geti (s0 := 10) (j := 3) (ci := 3) (C := RX3) (T := TX3) (N := 8) ok ht lay_10 rfl inX3 (by decide) rfl tw_378 rfl d_Ro_isClosedAt_72 ?_
            refine g_invSN (rm2 := rm_Sk_isOut) (As := [vI ((a1 / (10 : Int32)) - (a1 / (10 : Int32)) / (10 : Int32) * (10 : Int32)), vI (s.1 k 2), vI (s.1 k 3)]) (rest := []) ok (c_Sk_isOut X.1.2.1) cm_Sk_isOut cs_Sk_isOut tw_172 ⟨rfl, rfl⟩ ⟨le_t rfl, le_t rfl⟩ ⟨rfl, le_t rfl⟩ ⟨le_t rfl, le_t rfl⟩ d_Ro_isClosedAt_75 rfl (fun m9 => ?_)
            show G X s 0 0 78 [(0, vR (some k)), (1, vI a1), (2, vI a2)] [vI (f_Sk_isOut ((a1 / (10 : Int32)) - (a1 / (10 : Int32)) / (10 : Int32) * (10 : Int32)) (s.1 k 2) (s.1 k 3))]
            refine g_if_ne (tgt := 85) ok d_Ro_isClosedAt_78 (by decide) (fun c10 => ?_) (fun c10 => ?_)
            · replace h := (if_pos c10).symm.trans h
              refine g_iconst (v := (1 : Int32)) ok d_Ro_isClosedAt_81 (by decide) ?_
              refine g_goto (tgt := 86) ok d_Ro_isClosedAt_82 (by decide) ?_
              cases h
              exact g_zret ok (hret _ hk) (Or.inr rfl) (by decide) (by decide) d_Ro_isClosedAt_86
            · replace h := (if_neg c10).symm.trans h
              refine g_iconst (v := (0 : Int32)) ok d_Ro_isClosedAt_85 (by decide) ?_
              cases h
              exact g_zret ok (hret _ hk) (Or.inl rfl) (by decide) (by decide) d_Ro_isClosedAt_86
          · replace h := (if_neg c8).symm.trans h
            refine g_iconst (v := (0 : Int32)) ok d_Ro_isClosedAt_85 (by decide) ?_
            cases h
            exact g_zret ok (hret _ hk) (Or.inl rfl) (by decide) (by decide) d_Ro_isClosedAt_86
        · replace h := (if_neg c6).symm.trans h
          refine g_iconst (v := (0 : Int32)) ok d_Ro_isClosedAt_40 (by decide) ?_
          cases h
          exact g_zret ok (hret _ hk) (Or.inl rfl) (by decide) (by decide) d_Ro_isClosedAt_41
    · replace h := (if_neg c3).symm.trans h
      refine g_iconst (v := (0 : Int32)) ok d_Ro_isClosedAt_40 (by decide) ?_
      cases h
      exact g_zret ok (hret _ hk) (Or.inl rfl) (by decide) (by decide) d_Ro_isClosedAt_41
  · replace h := (if_neg c1).symm.trans h
    refine g_iconst (v := (0 : Int32)) ok d_Ro_isClosedAt_40 (by decide) ?_
    cases h
    exact g_zret ok (hret _ hk) (Or.inl rfl) (by decide) (by decide) d_Ro_isClosedAt_41
theorem c_Ro_isClosedAt (l : Launch) {k : Nat} {a1 : Int32} {a2 : Int32} {s : MS} (ht : rf s.2.2 10 (some k) = some k) {r : Int32} (h : f_Ro_isClosedAt k a1 a2 s = some r) : Ct l yX3_isClosedAt (.code yX3_isClosedAt cX3_isClosedAt 3 (some .boolean)) rm_Ro_isClosedAt 0 0 false [vR (some k), vI a1, vI a2] s (some (vI r)) s :=
  Ct.of rfl (by decide +kernel) ⟨rfl, le_t rfl⟩ (fun X ok fn _ hI hl => w_Ro_isClosedAt (KX := fun y => y = r) ok (fun y hy => by subst hy; exact fn) ht h rfl)
abbrev rm_Sk_init : Room := { frames := 2, cells := 11, slots := 311, locals := 40 }
theorem cm_Sk_init : cfM yX4_init cX4_init 1 none 0 := ⟨tw_17, tw_1, by decide, by decide, by decide +kernel⟩
theorem ci_Sk_init : cfI yX4_init := ⟨rfl, tw_16⟩
theorem d_Sk_init_0 : decode cX4_init 0 = .ok (.aload_n 0, 1) := by decide +kernel
theorem d_Sk_init_1 : decode cX4_init 1 = .ok (.invokespecial 1, 3) := by decide +kernel
theorem d_Sk_init_4 : decode cX4_init 4 = .ok (.aload_n 0, 1) := by decide +kernel
theorem d_Sk_init_5 : decode cX4_init 5 = .ok (.new 7, 3) := by decide +kernel
theorem d_Sk_init_8 : decode cX4_init 8 = .ok (.dup, 1) := by decide +kernel
theorem d_Sk_init_9 : decode cX4_init 9 = .ok (.invokespecial 9, 3) := by decide +kernel
theorem d_Sk_init_12 : decode cX4_init 12 = .ok (.putfield 10, 3) := by decide +kernel
theorem d_Sk_init_15 : decode cX4_init 15 = .ok (.aload_n 0, 1) := by decide +kernel
theorem d_Sk_init_16 : decode cX4_init 16 = .ok (.bipush 10, 2) := by decide +kernel
theorem d_Sk_init_18 : decode cX4_init 18 = .ok (.anewarray 16, 3) := by decide +kernel
theorem d_Sk_init_21 : decode cX4_init 21 = .ok (.putfield 18, 3) := by decide +kernel
theorem d_Sk_init_24 : decode cX4_init 24 = .ok (.aload_n 0, 1) := by decide +kernel
theorem d_Sk_init_25 : decode cX4_init 25 = .ok (.bipush 10, 2) := by decide +kernel
theorem d_Sk_init_27 : decode cX4_init 27 = .ok (.anewarray 22, 3) := by decide +kernel
theorem d_Sk_init_30 : decode cX4_init 30 = .ok (.putfield 24, 3) := by decide +kernel
theorem d_Sk_init_33 : decode cX4_init 33 = .ok (.aload_n 0, 1) := by decide +kernel
theorem d_Sk_init_34 : decode cX4_init 34 = .ok (.bipush 40, 2) := by decide +kernel
theorem d_Sk_init_36 : decode cX4_init 36 = .ok (.anewarray 28, 3) := by decide +kernel
theorem d_Sk_init_39 : decode cX4_init 39 = .ok (.putfield 30, 3) := by decide +kernel
theorem d_Sk_init_42 : decode cX4_init 42 = .ok (.aload_n 0, 1) := by decide +kernel
theorem d_Sk_init_43 : decode cX4_init 43 = .ok (.bipush 40, 2) := by decide +kernel
theorem d_Sk_init_45 : decode cX4_init 45 = .ok (.newarray .int, 2) := by decide +kernel
theorem d_Sk_init_47 : decode cX4_init 47 = .ok (.putfield 34, 3) := by decide +kernel
theorem d_Sk_init_50 : decode cX4_init 50 = .ok (.aload_n 0, 1) := by decide +kernel
theorem d_Sk_init_51 : decode cX4_init 51 = .ok (.new 28, 3) := by decide +kernel
theorem d_Sk_init_54 : decode cX4_init 54 = .ok (.dup, 1) := by decide +kernel
theorem d_Sk_init_55 : decode cX4_init 55 = .ok (.invokespecial 38, 3) := by decide +kernel
theorem d_Sk_init_58 : decode cX4_init 58 = .ok (.putfield 39, 3) := by decide +kernel
theorem d_Sk_init_61 : decode cX4_init 61 = .ok (.aload_n 0, 1) := by decide +kernel
theorem d_Sk_init_62 : decode cX4_init 62 = .ok (.iconst (-1), 1) := by decide +kernel
theorem d_Sk_init_63 : decode cX4_init 63 = .ok (.putfield 43, 3) := by decide +kernel
theorem d_Sk_init_66 : decode cX4_init 66 = .ok (.return_, 1) := by decide +kernel
set_option maxRecDepth 100000 in
set_option maxHeartbeats 4000000 in
theorem w_Sk_init {X : CX} {KX : MS → Prop} {k : Nat} {s : MS} (ok : Ok X cX4_init RX4 rm_Sk_init 1 true) (hret : ∀ r : MS, KX r → Fin X none 11 311 true none r) (hI : X.1.2.2.2.2.2.2.2.2.1.name = "<init>")  (ht : rf s.2.2 0 (some k) = some k) {res : MS} (h : f_Sk_init k s = some res) (hk : KX res) : G X s 0 0 0 [(0, vR (some k))] [] := by
  unfold f_Sk_init at h
  refine g_aload_n (i := 0) 0 ok d_Sk_init_0 rfl rfl ?_
  refine g_objInit (s0 := 0) ok ht tw_18 tw_19 tw_20 rfl ⟨le_t rfl, le_t rfl⟩ d_Sk_init_1 ?_
  refine g_aload_n (i := 0) 0 ok d_Sk_init_4 rfl rfl ?_
  obtain ⟨o1, e2⟩ : ∃ z, nid s 1 = z := ⟨_, rfl⟩
  replace h := lt_go h e2
  refine g_new (s0 := 1) (ci := 0) (C := RX0) (T := TX0) (N := 5) (ty := tyX0) ok (by decide) lay_1 rfl inX0 tyX0_ok hdfX0 tw_21 tw_22 tw_2 ⟨(rk_of ht), trivial⟩ ⟨(rk_of ht), trivial⟩ (by decide) (by decide) d_Sk_init_5 ?_
  rw [e2]
  obtain ⟨s3, e4⟩ : ∃ z, nw s 1 = z := ⟨_, rfl⟩
  replace h := lt_go h e4
  have m5 := mo_nw (by decide) e4
  rw [e4]
  have hk6 : rf s3.2.2 1 (some o1) = some o1 := by rw [← e2]; exact rf_new (by decide) e4
  refine g_dup ok d_Sk_init_8 rfl ?_
  obtain ⟨s9, hc8, h⟩ := bnd_go h
  refine g_invINA (rm2 := rm_Ci_init) (As := []) (rest := [vR (some o1), vR (some k)]) ok hk6 (c_Ci_init X.1.2.1 (rf_self hk6) hc8) cm_Ci_init ci_Ci_init tw_23 ⟨rfl, rfl⟩ ⟨le_t rfl, le_t rfl⟩ ⟨rfl, le_t rfl⟩ ⟨le_t rfl, le_t rfl⟩ ⟨(rk_of (rf_mono m5 ht)), trivial⟩ ⟨(rk_of hk6), ⟨(rk_of (rf_mono m5 ht)), trivial⟩⟩ d_Sk_init_9 rfl (fun m7 => ?_)
  show G X s9 5 123 12 [(0, vR (some k))] [vR (some o1), vR (some k)]
  refine g_putrF (s0 := 0) (j := 0) (ci := 4) (C := RX4) (T := TX4) (N := 14) ok (rf_mono m7 (rf_mono m5 ht)) lay_0 rfl inX4 (by decide) rfl tw_82 rfl tyX4_ok nmX4 rfl hI rfl (Or.inl ⟨_, rfl⟩) (rf_dm (rf_mono m7 hk6)) d_Sk_init_12 ?_
  obtain ⟨s10, e11⟩ : ∃ z, wr s9 k 0 (some o1) = z := ⟨_, rfl⟩
  replace h := lt_go h e11
  have m12 := mo_wr e11
  rw [e11]
  refine g_aload_n (i := 0) 0 ok d_Sk_init_15 rfl rfl ?_
  refine g_bipush (v := (10 : Int32)) ok d_Sk_init_16 (by decide) ?_
  obtain ⟨o13, e14⟩ : ∃ z, nid s10 6 = z := ⟨_, rfl⟩
  replace h := lt_go h e14
  refine g_anew3 (s0 := 6) (n := 10) ok (by decide) lay_6 (by decide) (by decide) (by decide) tw_47 ⟨(rk_of (rf_mono m12 (rf_mono m7 (rf_mono m5 ht)))), trivial⟩ ⟨(rk_of (rf_mono m12 (rf_mono m7 (rf_mono m5 ht)))), trivial⟩ (by decide) (by decide) d_Sk_init_18 ?_
  rw [e14]
  obtain ⟨s15, e16⟩ : ∃ z, nw s10 6 = z := ⟨_, rfl⟩
  replace h := lt_go h e16
  have m17 := mo_nw (by decide) e16
  rw [e16]
  have hk18 : rf s15.2.2 6 (some o13) = some o13 := by rw [← e14]; exact rf_new (by decide) e16
  refine g_putrF (s0 := 0) (j := 1) (ci := 4) (C := RX4) (T := TX4) (N := 14) ok (rf_mono m17 (rf_mono m12 (rf_mono m7 (rf_mono m5 ht)))) lay_0 rfl inX4 (by decide) rfl tw_83 rfl tyX4_ok nmX4 rfl hI rfl (Or.inr ⟨_, rfl⟩) (rf_dm hk18) d_Sk_init_21 ?_
  obtain ⟨s19, e20⟩ : ∃ z, wr s15 k 1 (some o13) = z := ⟨_, rfl⟩
  replace h := lt_go h e20
  have m21 := mo_wr e20
  rw [e20]
  refine g_aload_n (i := 0) 0 ok d_Sk_init_24 rfl rfl ?_
  refine g_bipush (v := (10 : Int32)) ok d_Sk_init_25 (by decide) ?_
  obtain ⟨o22, e23⟩ : ∃ z, nid s19 7 = z := ⟨_, rfl⟩
  replace h := lt_go h e23
  refine g_anew4 (s0 := 7) (n := 10) ok (by decide) lay_7 (by decide) (by decide) (by decide) tw_49 ⟨(rk_of (rf_mono m21 (rf_mono m17 (rf_mono m12 (rf_mono m7 (rf_mono m5 ht)))))), trivial⟩ ⟨(rk_of (rf_mono m21 (rf_mono m17 (rf_mono m12 (rf_mono m7 (rf_mono m5 ht)))))), trivial⟩ (by decide) (by decide) d_Sk_init_27 ?_
  rw [e23]
  obtain ⟨s24, e25⟩ : ∃ z, nw s19 7 = z := ⟨_, rfl⟩
  replace h := lt_go h e25
  have m26 := mo_nw (by decide) e25
  rw [e25]
  have hk27 : rf s24.2.2 7 (some o22) = some o22 := by rw [← e23]; exact rf_new (by decide) e25
  refine g_putrF (s0 := 0) (j := 2) (ci := 4) (C := RX4) (T := TX4) (N := 14) ok (rf_mono m26 (rf_mono m21 (rf_mono m17 (rf_mono m12 (rf_mono m7 (rf_mono m5 ht)))))) lay_0 rfl inX4 (by decide) rfl tw_84 rfl tyX4_ok nmX4 rfl hI rfl (Or.inr ⟨_, rfl⟩) (rf_dm hk27) d_Sk_init_30 ?_
  obtain ⟨s28, e29⟩ : ∃ z, wr s24 k 2 (some o22) = z := ⟨_, rfl⟩
  replace h := lt_go h e29
  have m30 := mo_wr e29
  rw [e29]
  refine g_aload_n (i := 0) 0 ok d_Sk_init_33 rfl rfl ?_
  refine g_bipush (v := (40 : Int32)) ok d_Sk_init_34 (by decide) ?_
  obtain ⟨o31, e32⟩ : ∃ z, nid s28 8 = z := ⟨_, rfl⟩
  replace h := lt_go h e32
  refine g_anew5 (s0 := 8) (n := 40) ok (by decide) lay_8 (by decide) (by decide) (by decide) tw_51 ⟨(rk_of (rf_mono m30 (rf_mono m26 (rf_mono m21 (rf_mono m17 (rf_mono m12 (rf_mono m7 (rf_mono m5 ht)))))))), trivial⟩ ⟨(rk_of (rf_mono m30 (rf_mono m26 (rf_mono m21 (rf_mono m17 (rf_mono m12 (rf_mono m7 (rf_mono m5 ht)))))))), trivial⟩ (by decide) (by decide) d_Sk_init_36 ?_
  rw [e32]
  obtain ⟨s33, e34⟩ : ∃ z, nw s28 8 = z := ⟨_, rfl⟩
  replace h := lt_go h e34
  have m35 := mo_nw (by decide) e34
  rw [e34]
  have hk36 : rf s33.2.2 8 (some o31) = some o31 := by rw [← e32]; exact rf_new (by decide) e34
  refine g_putrF (s0 := 0) (j := 3) (ci := 4) (C := RX4) (T := TX4) (N := 14) ok (rf_mono m35 (rf_mono m30 (rf_mono m26 (rf_mono m21 (rf_mono m17 (rf_mono m12 (rf_mono m7 (rf_mono m5 ht)))))))) lay_0 rfl inX4 (by decide) rfl tw_85 rfl tyX4_ok nmX4 rfl hI rfl (Or.inr ⟨_, rfl⟩) (rf_dm hk36) d_Sk_init_39 ?_
  obtain ⟨s37, e38⟩ : ∃ z, wr s33 k 3 (some o31) = z := ⟨_, rfl⟩
  replace h := lt_go h e38
  have m39 := mo_wr e38
  rw [e38]
  refine g_aload_n (i := 0) 0 ok d_Sk_init_42 rfl rfl ?_
  refine g_bipush (v := (40 : Int32)) ok d_Sk_init_43 (by decide) ?_
  obtain ⟨o40, e41⟩ : ∃ z, nid s37 9 = z := ⟨_, rfl⟩
  replace h := lt_go h e41
  refine g_newa0 (s0 := 9) (n := 40) ok (by decide) lay_9 (by decide) (by decide) (by decide) tw_46 ⟨(rk_of (rf_mono m39 (rf_mono m35 (rf_mono m30 (rf_mono m26 (rf_mono m21 (rf_mono m17 (rf_mono m12 (rf_mono m7 (rf_mono m5 ht)))))))))), trivial⟩ ⟨(rk_of (rf_mono m39 (rf_mono m35 (rf_mono m30 (rf_mono m26 (rf_mono m21 (rf_mono m17 (rf_mono m12 (rf_mono m7 (rf_mono m5 ht)))))))))), trivial⟩ (by decide) (by decide) d_Sk_init_45 ?_
  rw [e41]
  obtain ⟨s42, e43⟩ : ∃ z, nw s37 9 = z := ⟨_, rfl⟩
  replace h := lt_go h e43
  have m44 := mo_nw (by decide) e43
  rw [e43]
  have hk45 : rf s42.2.2 9 (some o40) = some o40 := by rw [← e41]; exact rf_new (by decide) e43
  refine g_putrF (s0 := 0) (j := 4) (ci := 4) (C := RX4) (T := TX4) (N := 14) ok (rf_mono m44 (rf_mono m39 (rf_mono m35 (rf_mono m30 (rf_mono m26 (rf_mono m21 (rf_mono m17 (rf_mono m12 (rf_mono m7 (rf_mono m5 ht)))))))))) lay_0 rfl inX4 (by decide) rfl tw_86 rfl tyX4_ok nmX4 rfl hI rfl (Or.inr ⟨_, rfl⟩) (rf_dm hk45) d_Sk_init_47 ?_
  obtain ⟨s46, e47⟩ : ∃ z, wr s42 k 4 (some o40) = z := ⟨_, rfl⟩
  replace h := lt_go h e47
  have m48 := mo_wr e47
  rw [e47]
  refine g_aload_n (i := 0) 0 ok d_Sk_init_50 rfl rfl ?_
  obtain ⟨o49, e50⟩ : ∃ z, nid s46 12 = z := ⟨_, rfl⟩
  replace h := lt_go h e50
  refine g_new (s0 := 12) (ci := 2) (C := RX2) (T := TX2) (N := 7) (ty := tyX2) ok (by decide) lay_12 rfl inX2 tyX2_ok hdfX2 tw_51 tw_53 tw_3 ⟨(rk_of (rf_mono m48 (rf_mono m44 (rf_mono m39 (rf_mono m35 (rf_mono m30 (rf_mono m26 (rf_mono m21 (rf_mono m17 (rf_mono m12 (rf_mono m7 (rf_mono m5 ht)))))))))))), trivial⟩ ⟨(rk_of (rf_mono m48 (rf_mono m44 (rf_mono m39 (rf_mono m35 (rf_mono m30 (rf_mono m26 (rf_mono m21 (rf_mono m17 (rf_mono m12 (rf_mono m7 (rf_mono m5 ht)))))))))))), trivial⟩ (by decide) (by decide) d_Sk_init_51 ?_
  rw [e50]
  obtain ⟨s51, e52⟩ : ∃ z, nw s46 12 = z := ⟨_, rfl⟩
  replace h := lt_go h e52
  have m53 := mo_nw (by decide) e52
  rw [e52]
  have hk54 : rf s51.2.2 12 (some o49) = some o49 := by rw [← e50]; exact rf_new (by decide) e52
  refine g_dup ok d_Sk_init_54 rfl ?_
  obtain ⟨s57, hc56, h⟩ := bnd_go h
  refine g_invINA (rm2 := rm_Pa_init) (As := []) (rest := [vR (some o49), vR (some k)]) ok hk54 (c_Pa_init X.1.2.1 (rf_self hk54) hc56) cm_Pa_init ci_Pa_init tw_54 ⟨rfl, rfl⟩ ⟨le_t rfl, le_t rfl⟩ ⟨rfl, le_t rfl⟩ ⟨le_t rfl, le_t rfl⟩ ⟨(rk_of (rf_mono m53 (rf_mono m48 (rf_mono m44 (rf_mono m39 (rf_mono m35 (rf_mono m30 (rf_mono m26 (rf_mono m21 (rf_mono m17 (rf_mono m12 (rf_mono m7 (rf_mono m5 ht))))))))))))), trivial⟩ ⟨(rk_of hk54), ⟨(rk_of (rf_mono m53 (rf_mono m48 (rf_mono m44 (rf_mono m39 (rf_mono m35 (rf_mono m30 (rf_mono m26 (rf_mono m21 (rf_mono m17 (rf_mono m12 (rf_mono m7 (rf_mono m5 ht))))))))))))), trivial⟩⟩ d_Sk_init_55 rfl (fun m55 => ?_)
  show G X s57 11 311 58 [(0, vR (some k))] [vR (some o49), vR (some k)]
  refine g_putr (s0 := 0) (j := 5) (ci := 4) (C := RX4) (T := TX4) (N := 14) ok (rf_mono m55 (rf_mono m53 (rf_mono m48 (rf_mono m44 (rf_mono m39 (rf_mono m35 (rf_mono m30 (rf_mono m26 (rf_mono m21 (rf_mono m17 (rf_mono m12 (rf_mono m7 (rf_mono m5 ht))))))))))))) lay_0 rfl inX4 (by decide) rfl tw_87 rfl tyX4_ok nmX4 rfl (Or.inl ⟨_, rfl⟩) (rf_dm (rf_mono m55 hk54)) d_Sk_init_58 ?_
  obtain ⟨s58, e59⟩ : ∃ z, wr s57 k 5 (some o49) = z := ⟨_, rfl⟩
  replace h := lt_go h e59
  have m60 := mo_wr e59
  rw [e59]
  refine g_aload_n (i := 0) 0 ok d_Sk_init_61 rfl rfl ?_
  refine g_iconst (v := (-1 : Int32)) ok d_Sk_init_62 (by decide) ?_
  refine g_puti (s0 := 0) (j := 12) (ci := 4) (C := RX4) (T := TX4) (N := 14) ok (rf_mono m60 (rf_mono m55 (rf_mono m53 (rf_mono m48 (rf_mono m44 (rf_mono m39 (rf_mono m35 (rf_mono m30 (rf_mono m26 (rf_mono m21 (rf_mono m17 (rf_mono m12 (rf_mono m7 (rf_mono m5 ht)))))))))))))) lay_0 rfl inX4 (by decide) rfl tw_94 rfl tyX4_ok nmX4 rfl (Or.inl rfl) d_Sk_init_63 ?_
  obtain ⟨s61, e62⟩ : ∃ z, wi s58 k 12 (-1 : Int32) = z := ⟨_, rfl⟩
  replace h := lt_go h e62
  have m63 := mo_wi e62
  rw [e62]
  cases h
  exact g_vret ok (hret _ hk) (by decide) (by decide) d_Sk_init_66
theorem c_Sk_init (l : Launch) {k : Nat} {s : MS} (ht : rf s.2.2 0 (some k) = some k) {z : MS} (h : f_Sk_init k s = some z) : Ct l yX4_init (.code yX4_init cX4_init 1 none) rm_Sk_init 11 311 true [vR (some k)] s none z :=
  Ct.of rfl (by decide +kernel) ⟨rfl, le_t rfl⟩ (fun X ok fn _ hI hl => w_Sk_init (KX := fun y => y = z) ok (fun y hy => by subst hy; exact fn) hI ht h rfl)
abbrev rm_Sk_isNoCell : Room := { frames := 1, cells := 0, slots := 0, locals := 22 }
theorem cm_Sk_isNoCell : cfM yX4_isNoCell cX4_isNoCell 1 (some .boolean) 1 := ⟨tw_202, tw_1, by decide, by decide, by decide +kernel⟩
theorem cs_Sk_isNoCell : cfS yX4_isNoCell := tw_201
theorem d_Sk_isNoCell_0 : decode cX4_isNoCell 0 = .ok (.iload_n 0, 1) := by decide +kernel
theorem d_Sk_isNoCell_1 : decode cX4_isNoCell 1 = .ok (.iconst 0, 1) := by decide +kernel
theorem d_Sk_isNoCell_2 : decode cX4_isNoCell 2 = .ok (.bipush 99, 2) := by decide +kernel
theorem d_Sk_isNoCell_4 : decode cX4_isNoCell 4 = .ok (.invokestatic 58, 3) := by decide +kernel
theorem d_Sk_isNoCell_7 : decode cX4_isNoCell 7 = .ok (.ireturn, 1) := by decide +kernel
set_option maxRecDepth 100000 in
set_option maxHeartbeats 4000000 in
theorem w_Sk_isNoCell {X : CX} {KX : Int32 → Prop} {a0 : Int32} {s : MS} (ok : Ok X cX4_isNoCell RX4 rm_Sk_isNoCell 1 false) (hret : ∀ r : Int32, KX r → Fin X (some .boolean) 0 0 false (some (vI r)) s)    {res : Int32} (h : f_Sk_isNoCell a0 = res) (hk : KX res) : G X s 0 0 0 [(0, vI a0)] [] := by
  unfold f_Sk_isNoCell at h
  refine g_iload_n (i := 0) 0 ok d_Sk_isNoCell_0 rfl rfl ?_
  refine g_iconst (v := (0 : Int32)) ok d_Sk_isNoCell_1 (by decide) ?_
  refine g_bipush (v := (99 : Int32)) ok d_Sk_isNoCell_2 (by decide) ?_
  refine g_invS (rm2 := rm_Sk_isOut) (As := [vI a0, vI (0 : Int32), vI (99 : Int32)]) (rest := []) ok (c_Sk_isOut X.1.2.1) cm_Sk_isOut cs_Sk_isOut tw_149 ⟨rfl, rfl⟩ ⟨le_t rfl, le_t rfl⟩ ⟨rfl, le_t rfl⟩ ⟨le_t rfl, le_t rfl⟩ d_Sk_isNoCell_4 rfl (fun m1 => ?_)
  show G X s 0 0 7 [(0, vI a0)] [vI (f_Sk_isOut a0 (0 : Int32) (99 : Int32))]
  subst h
  exact g_zret ok (hret _ hk) zb_Sk_isOut (by decide) (by decide) d_Sk_isNoCell_7
theorem c_Sk_isNoCell (l : Launch) {a0 : Int32} {s : MS} : Ct l yX4_isNoCell (.code yX4_isNoCell cX4_isNoCell 1 (some .boolean)) rm_Sk_isNoCell 0 0 false [vI a0] s (some (vI (f_Sk_isNoCell a0))) s :=
  Ct.of rfl (by decide +kernel) ⟨rfl, le_t rfl⟩ (fun X ok fn _ hI hl => w_Sk_isNoCell (KX := fun y => y = f_Sk_isNoCell a0) ok (fun y hy => by subst hy; exact fn) rfl rfl)
theorem zb_Sk_isNoCell {a0 : Int32} : f_Sk_isNoCell a0 = 0 ∨ f_Sk_isNoCell a0 = 1 := by
  unfold f_Sk_isNoCell
  repeat' split
  all_goals first | exact Or.inl rfl | exact Or.inr rfl | exact zb_Sk_isOut
abbrev rm_Sk_isInRoom : Room := { frames := 2, cells := 0, slots := 0, locals := 44 }
theorem cm_Sk_isInRoom : cfM yX4_isInRoom cX4_isInRoom 4 (some .boolean) 3 := ⟨tw_409, tw_1, by decide, by decide, by decide +kernel⟩
theorem cs_Sk_isInRoom : cfS yX4_isInRoom := tw_408
theorem d_Sk_isInRoom_0 : decode cX4_isInRoom 0 = .ok (.aload_n 2, 1) := by decide +kernel
theorem d_Sk_isInRoom_1 : decode cX4_isInRoom 1 = .ok (.ifnonnull 5, 3) := by decide +kernel
theorem d_Sk_isInRoom_4 : decode cX4_isInRoom 4 = .ok (.iconst 0, 1) := by decide +kernel
theorem d_Sk_isInRoom_5 : decode cX4_isInRoom 5 = .ok (.ireturn, 1) := by decide +kernel
theorem d_Sk_isInRoom_6 : decode cX4_isInRoom 6 = .ok (.iload_n 1, 1) := by decide +kernel
theorem d_Sk_isInRoom_7 : decode cX4_isInRoom 7 = .ok (.istore_n 3, 1) := by decide +kernel
theorem d_Sk_isInRoom_8 : decode cX4_isInRoom 8 = .ok (.iload_n 3, 1) := by decide +kernel
theorem d_Sk_isInRoom_9 : decode cX4_isInRoom 9 = .ok (.aload_n 0, 1) := by decide +kernel
theorem d_Sk_isInRoom_10 : decode cX4_isInRoom 10 = .ok (.getfield 172, 3) := by decide +kernel
theorem d_Sk_isInRoom_13 : decode cX4_isInRoom 13 = .ok (.if_icmp .gt 29, 3) := by decide +kernel
theorem d_Sk_isInRoom_16 : decode cX4_isInRoom 16 = .ok (.aload_n 2, 1) := by decide +kernel
theorem d_Sk_isInRoom_17 : decode cX4_isInRoom 17 = .ok (.aload_n 0, 1) := by decide +kernel
theorem d_Sk_isInRoom_18 : decode cX4_isInRoom 18 = .ok (.iload_n 3, 1) := by decide +kernel
theorem d_Sk_isInRoom_19 : decode cX4_isInRoom 19 = .ok (.invokevirtual 175, 3) := by decide +kernel
theorem d_Sk_isInRoom_22 : decode cX4_isInRoom 22 = .ok (.aload_n 0, 1) := by decide +kernel
theorem d_Sk_isInRoom_23 : decode cX4_isInRoom 23 = .ok (.getfield 195, 3) := by decide +kernel
theorem d_Sk_isInRoom_26 : decode cX4_isInRoom 26 = .ok (.iload_n 3, 1) := by decide +kernel
theorem d_Sk_isInRoom_27 : decode cX4_isInRoom 27 = .ok (.iadd, 1) := by decide +kernel
theorem d_Sk_isInRoom_28 : decode cX4_isInRoom 28 = .ok (.invokevirtual 339, 3) := by decide +kernel
theorem d_Sk_isInRoom_31 : decode cX4_isInRoom 31 = .ok (.ifCond .eq 5, 3) := by decide +kernel
theorem d_Sk_isInRoom_34 : decode cX4_isInRoom 34 = .ok (.iconst 1, 1) := by decide +kernel
theorem d_Sk_isInRoom_35 : decode cX4_isInRoom 35 = .ok (.ireturn, 1) := by decide +kernel
theorem d_Sk_isInRoom_36 : decode cX4_isInRoom 36 = .ok (.iinc 3 1, 3) := by decide +kernel
theorem d_Sk_isInRoom_39 : decode cX4_isInRoom 39 = .ok (.goto (-31), 3) := by decide +kernel
theorem d_Sk_isInRoom_42 : decode cX4_isInRoom 42 = .ok (.iconst 0, 1) := by decide +kernel
theorem d_Sk_isInRoom_43 : decode cX4_isInRoom 43 = .ok (.ireturn, 1) := by decide +kernel
set_option maxRecDepth 100000 in
set_option maxHeartbeats 4000000 in
theorem w_b_Sk_isInRoom_8 {X : CX} {KX : (Int32) ⊕ (Unit) → Prop} {a0 : Option Nat} {a2 : Option Nat} {a3 : Int32} {s : MS} {rec : Int32 → Option ((Int32) ⊕ (Unit))} (ok : Ok X cX4_isInRoom RX4 rm_Sk_isInRoom 4 false) (hret : ∀ r : Int32, KX (.inl r) → Fin X (some .boolean) 0 0 false (some (vI r)) s) (hexit : KX (.inr ()) → G X s 0 0 42 [] []) (hrec : ∀ (v3 : Int32), ∀ y, rec v3 = some y → KX y → G X s 0 0 8 [(0, vR a0), (2, vR a2), (3, vI v3)] []) {res : (Int32) ⊕ (Unit)} (h : b_Sk_isInRoom_8 a0 a2 a3 s rec = some res) (hk : KX res) : G X s 0 0 8 [(0, vR a0), (2, vR a2), (3, vI a3)] [] := by
  unfold b_Sk_isInRoom_8 at h
  refine g_iload_n (i := 3) 2 ok d_Sk_isInRoom_8 rfl rfl ?_
  refine g_aload_n (i := 0) 0 ok d_Sk_isInRoom_9 rfl rfl ?_
  obtain ⟨k2, hk3, h⟩ := bnd_go h
  refine g_getiN (s0 := 12) (j := 4) (ci := 2) (C := RX2) (T := TX2) (N := 7) ok hk3 lay_12 rfl inX2 (by decide) rfl tw_64 rfl d_Sk_isInRoom_10 ?_
  refine g_icmp_gt (tgt := 42) ok d_Sk_isInRoom_13 (by decide) (fun c4 => ?_) (fun c4 => ?_)
  · replace h := (if_pos c4).symm.trans h
    refine g_sub [] rfl ?_
    cases h
    exact hexit hk
  · replace h := (if_neg c4).symm.trans h
    refine g_aload_n (i := 2) 1 ok d_Sk_isInRoom_16 rfl rfl ?_
    refine g_aload_n (i := 0) 0 ok d_Sk_isInRoom_17 rfl rfl ?_
    refine g_iload_n (i := 3) 2 ok d_Sk_isInRoom_18 rfl rfl ?_
    obtain ⟨x6, hc7, h⟩ := bnd_go h
    refine g_invVN (rm2 := rm_Pa_placeOf) (As := [vI a3]) (rest := [vR a2]) ok hk3 lay_12 rfl (c_Pa_placeOf X.1.2.1 (rf_self hk3) hc7) cm_Pa_placeOf cv_Pa_placeOf tw_410 ⟨rfl, rfl⟩ ⟨le_t rfl, le_t rfl⟩ ⟨rfl, le_t rfl⟩ ⟨le_t rfl, le_t rfl⟩ d_Sk_isInRoom_19 rfl (fun m5 => ?_)
    show G X s 0 0 22 [(0, vR a0), (2, vR a2), (3, vI a3)] [vI x6, vR a2]
    refine g_aload_n (i := 0) 0 ok d_Sk_isInRoom_22 rfl rfl ?_
    refine g_getiN (s0 := 12) (j := 3) (ci := 2) (C := RX2) (T := TX2) (N := 7) ok hk3 lay_12 rfl inX2 (by decide) rfl tw_62 rfl d_Sk_isInRoom_23 ?_
    refine g_iload_n (i := 3) 2 ok d_Sk_isInRoom_26 rfl rfl ?_
    refine g_iadd ok d_Sk_isInRoom_27 ?_
    obtain ⟨k8, hk9, h⟩ := bnd_go h
    obtain ⟨x11, hc12, h⟩ := bnd_go h
    refine g_invVN (rm2 := rm_Ro_isClosedAt) (As := [vI x6, vI ((s.1 k2 3) + a3)]) (rest := []) ok hk9 lay_10 rfl (c_Ro_isClosedAt X.1.2.1 (rf_self hk9) hc12) cm_Ro_isClosedAt cv_Ro_isClosedAt tw_164 ⟨rfl, rfl⟩ ⟨le_t rfl, le_t rfl⟩ ⟨rfl, le_t rfl⟩ ⟨le_t rfl, le_t rfl⟩ d_Sk_isInRoom_28 rfl (fun m10 => ?_)
    show G X s 0 0 31 [(0, vR a0), (2, vR a2), (3, vI a3)] [vI x11]
    refine g_if_eq (tgt := 36) ok d_Sk_isInRoom_31 (by decide) (fun c13 => ?_) (fun c13 => ?_)
    · replace h := (if_pos c13).symm.trans h
      obtain ⟨x14, e15⟩ : ∃ z, a3 + (1 : Int32) = z := ⟨_, rfl⟩
      replace h := lt_go h e15
      refine g_iinc (i := 3) (v := x14) 2 [(3, vI x14), (0, vR a0), (2, vR a2)] ok d_Sk_isInRoom_36 rfl (by rw [← e15]; rfl) (by decide) rfl ?_
      refine g_goto (tgt := 8) ok d_Sk_isInRoom_39 (by decide) ?_
      refine g_sub [1, 2, 0] rfl ?_
      exact hrec x14 _ h hk
    · replace h := (if_neg c13).symm.trans h
      refine g_iconst (v := (1 : Int32)) ok d_Sk_isInRoom_34 (by decide) ?_
      cases h
      exact g_zret ok (hret _ hk) (Or.inr rfl) (by decide) (by decide) d_Sk_isInRoom_35
theorem w_l_Sk_isInRoom_8 {X : CX} {KX : (Int32) ⊕ (Unit) → Prop} {a0 : Option Nat} {a2 : Option Nat} {s : MS} (ok : Ok X cX4_isInRoom RX4 rm_Sk_isInRoom 4 false) (hret : ∀ r : Int32, KX (.inl r) → Fin X (some .boolean) 0 0 false (some (vI r)) s) (hexit : KX (.inr ()) → G X s 0 0 42 [] []) : ∀ (n : Nat) (a3 : Int32) {res : (Int32) ⊕ (Unit)}, l_Sk_isInRoom_8 a0 a2 s n a3 = some res → KX res → G X s 0 0 8 [(0, vR a0), (2, vR a2), (3, vI a3)] [] := by
  intro n
  induction n with
  | zero => intro _ res h; cases h
  | succ n ih =>
    intro a3 res h hk
    exact w_b_Sk_isInRoom_8 ok hret hexit (fun v3 y h2 hk2 => ih v3 h2 hk2) h hk
set_option maxRecDepth 100000 in
set_option maxHeartbeats 4000000 in
theorem w_Sk_isInRoom {X : CX} {KX : Int32 → Prop} {a0 : Option Nat} {a1 : Int32} {a2 : Option Nat} {s : MS} (ok : Ok X cX4_isInRoom RX4 rm_Sk_isInRoom 4 false) (hret : ∀ r : Int32, KX r → Fin X (some .boolean) 0 0 false (some (vI r)) s)    {res : Int32} (h : f_Sk_isInRoom a0 a1 a2 s = some res) (hk : KX res) : G X s 0 0 0 [(0, vR a0), (1, vI a1), (2, vR a2)] [] := by
  unfold f_Sk_isInRoom at h
  refine g_aload_n (i := 2) 2 ok d_Sk_isInRoom_0 rfl rfl ?_
  refine g_ifnonnull (tgt := 6) ok d_Sk_isInRoom_1 (by decide) (fun c1 => ?_) (fun c1 => ?_)
  · replace h := (if_pos c1).symm.trans h
    refine g_iconst (v := (0 : Int32)) ok d_Sk_isInRoom_4 (by decide) ?_
    cases h
    exact g_zret ok (hret _ hk) (Or.inl rfl) (by decide) (by decide) d_Sk_isInRoom_5
  · replace h := (if_neg c1).symm.trans h
    refine g_iload_n (i := 1) 1 ok d_Sk_isInRoom_6 rfl rfl ?_
    refine g_istore_n (i := 3) [(3, vI a1), (0, vR a0), (1, vI a1), (2, vR a2)] ok d_Sk_isInRoom_7 rfl (by decide) rfl ?_
    refine g_sub [1, 3, 0] rfl ?_
    rcases el0_go h with ⟨r, hx, h⟩ | ⟨hx, h⟩
    · refine w_l_Sk_isInRoom_8 (KX := fun y => y = .inl r) ok (fun r2 he => ?_) (fun he => by cases he)  _ _ hx rfl
      cases he
      cases h
      exact hret _ hk
    · refine w_l_Sk_isInRoom_8 (KX := fun y => y = .inr ()) ok (fun r2 he => by cases he) (fun he => ?_)  _ _ hx rfl
      cases he
      refine g_iconst (v := (0 : Int32)) ok d_Sk_isInRoom_42 (by decide) ?_
      cases h
      exact g_zret ok (hret _ hk) (Or.inl rfl) (by decide) (by decide) d_Sk_isInRoom_43
theorem c_Sk_isInRoom (l : Launch) {a0 : Option Nat} {a1 : Int32} {a2 : Option Nat} {s : MS}  {r : Int32} (h : f_Sk_isInRoom a0 a1 a2 s = some r) : Ct l yX4_isInRoom (.code yX4_isInRoom cX4_isInRoom 4 (some .boolean)) rm_Sk_isInRoom 0 0 false [vR a0, vI a1, vR a2] s (some (vI r)) s :=
  Ct.of rfl (by decide +kernel) ⟨rfl, le_t rfl⟩ (fun X ok fn _ hI hl => w_Sk_isInRoom (KX := fun y => y = r) ok (fun y hy => by subst hy; exact fn) h rfl)
abbrev rm_Sk_machineOf : Room := { frames := 1, cells := 0, slots := 0, locals := 22 }
theorem cm_Sk_machineOf : cfM yX4_machineOf cX4_machineOf 2 (some (.object "SkyLanes$Machine")) 1 := ⟨tw_418, tw_1, by decide, by decide, by decide +kernel⟩
theorem cv_Sk_machineOf : cfV yX4_machineOf := ⟨tw_417, ts_X4_machineOf⟩
theorem d_Sk_machineOf_0 : decode cX4_machineOf 0 = .ok (.iload_n 1, 1) := by decide +kernel
theorem d_Sk_machineOf_1 : decode cX4_machineOf 1 = .ok (.iconst 0, 1) := by decide +kernel
theorem d_Sk_machineOf_2 : decode cX4_machineOf 2 = .ok (.aload_n 0, 1) := by decide +kernel
theorem d_Sk_machineOf_3 : decode cX4_machineOf 3 = .ok (.getfield 24, 3) := by decide +kernel
theorem d_Sk_machineOf_6 : decode cX4_machineOf 6 = .ok (.arraylength, 1) := by decide +kernel
theorem d_Sk_machineOf_7 : decode cX4_machineOf 7 = .ok (.iconst 1, 1) := by decide +kernel
theorem d_Sk_machineOf_8 : decode cX4_machineOf 8 = .ok (.isub, 1) := by decide +kernel
theorem d_Sk_machineOf_9 : decode cX4_machineOf 9 = .ok (.invokestatic 58, 3) := by decide +kernel
theorem d_Sk_machineOf_12 : decode cX4_machineOf 12 = .ok (.ifCond .eq 7, 3) := by decide +kernel
theorem d_Sk_machineOf_15 : decode cX4_machineOf 15 = .ok (.aconst_null, 1) := by decide +kernel
theorem d_Sk_machineOf_16 : decode cX4_machineOf 16 = .ok (.goto 9, 3) := by decide +kernel
theorem d_Sk_machineOf_19 : decode cX4_machineOf 19 = .ok (.aload_n 0, 1) := by decide +kernel
theorem d_Sk_machineOf_20 : decode cX4_machineOf 20 = .ok (.getfield 24, 3) := by decide +kernel
theorem d_Sk_machineOf_23 : decode cX4_machineOf 23 = .ok (.iload_n 1, 1) := by decide +kernel
theorem d_Sk_machineOf_24 : decode cX4_machineOf 24 = .ok (.aaload, 1) := by decide +kernel
theorem d_Sk_machineOf_25 : decode cX4_machineOf 25 = .ok (.areturn, 1) := by decide +kernel
set_option maxRecDepth 100000 in
set_option maxHeartbeats 4000000 in
theorem w_Sk_machineOf {X : CX} {KX : Option Nat → Prop} {k : Nat} {a1 : Int32} {s : MS} (ok : Ok X cX4_machineOf RX4 rm_Sk_machineOf 2 false) (hret : ∀ r : Option Nat, KX r → Fin X (some (.object "SkyLanes$Machine")) 0 0 false (some (vR r)) s)   (ht : rf s.2.2 0 (some k) = some k) {res : Option Nat} (h : f_Sk_machineOf k a1 s = some res) (hk : KX res) : G X s 0 0 0 [(0, vR (some k)), (1, vI a1)] [] := by
  unfold f_Sk_machineOf at h
  refine g_iload_n (i := 1) 1 ok d_Sk_machineOf_0 rfl rfl ?_
  refine g_iconst (v := (0 : Int32)) ok d_Sk_machineOf_1 (by decide) ?_
  refine g_aload_n (i := 0) 0 ok d_Sk_machineOf_2 rfl rfl ?_
  refine g_getr (s0 := 0) (j := 2) (ci := 4) (C := RX4) (T := TX4) (N := 14) ok ht lay_0 rfl inX4 (by decide) rfl tw_84 rfl d_Sk_machineOf_3 ?_
  obtain ⟨n1, hn2, h⟩ := bnd_go h
  refine g_alen ok hn2 (by decide) d_Sk_machineOf_6 ?_
  refine g_iconst (v := (1 : Int32)) ok d_Sk_machineOf_7 (by decide) ?_
  refine g_isub ok d_Sk_machineOf_8 ?_
  refine g_invS (rm2 := rm_Sk_isOut) (As := [vI a1, vI (0 : Int32), vI ((Int32.ofNat n1) - (1 : Int32))]) (rest := []) ok (c_Sk_isOut X.1.2.1) cm_Sk_isOut cs_Sk_isOut tw_149 ⟨rfl, rfl⟩ ⟨le_t rfl, le_t rfl⟩ ⟨rfl, le_t rfl⟩ ⟨le_t rfl, le_t rfl⟩ d_Sk_machineOf_9 rfl (fun m3 => ?_)
  show G X s 0 0 12 [(0, vR (some k)), (1, vI a1)] [vI (f_Sk_isOut a1 (0 : Int32) ((Int32.ofNat n1) - (1 : Int32)))]
  refine g_if_eq (tgt := 19) ok d_Sk_machineOf_12 (by decide) (fun c4 => ?_) (fun c4 => ?_)
  · replace h := (if_pos c4).symm.trans h
    refine g_aload_n (i := 0) 0 ok d_Sk_machineOf_19 rfl rfl ?_
    refine g_getr (s0 := 0) (j := 2) (ci := 4) (C := RX4) (T := TX4) (N := 14) ok ht lay_0 rfl inX4 (by decide) rfl tw_84 rfl d_Sk_machineOf_20 ?_
    refine g_iload_n (i := 1) 1 ok d_Sk_machineOf_23 rfl rfl ?_
    obtain ⟨k5, hk6, h⟩ := bnd_go h
    refine g_aald4 ok hk6 d_Sk_machineOf_24 ?_
    cases h
    exact g_aret ok (hret _ hk) (by decide) (by decide) d_Sk_machineOf_25
  · replace h := (if_neg c4).symm.trans h
    refine g_null ok d_Sk_machineOf_15 ?_
    refine g_goto (tgt := 25) ok d_Sk_machineOf_16 (by decide) ?_
    cases h
    exact g_aret ok (hret _ hk) (by decide) (by decide) d_Sk_machineOf_25
theorem c_Sk_machineOf (l : Launch) {k : Nat} {a1 : Int32} {s : MS} (ht : rf s.2.2 0 (some k) = some k) {r : Option Nat} (h : f_Sk_machineOf k a1 s = some r) : Ct l yX4_machineOf (.code yX4_machineOf cX4_machineOf 2 (some (.object "SkyLanes$Machine"))) rm_Sk_machineOf 0 0 false [vR (some k), vI a1] s (some (vR r)) s :=
  Ct.of rfl (by decide +kernel) ⟨rfl, le_t rfl⟩ (fun X ok fn _ hI hl => w_Sk_machineOf (KX := fun y => y = r) ok (fun y hy => by subst hy; exact fn) ht h rfl)
abbrev rm_Sk_finish : Room := { frames := 2, cells := 0, slots := 0, locals := 43 }
theorem cm_Sk_finish : cfM yX4_finish cX4_finish 4 none 2 := ⟨tw_414, tw_1, by decide, by decide, by decide +kernel⟩
theorem cv_Sk_finish : cfV yX4_finish := ⟨tw_413, ts_X4_finish⟩
theorem d_Sk_finish_0 : decode cX4_finish 0 = .ok (.aload_n 1, 1) := by decide +kernel
theorem d_Sk_finish_1 : decode cX4_finish 1 = .ok (.iload_n 2, 1) := by decide +kernel
theorem d_Sk_finish_2 : decode cX4_finish 2 = .ok (.putfield 214, 3) := by decide +kernel
theorem d_Sk_finish_5 : decode cX4_finish 5 = .ok (.aload_n 0, 1) := by decide +kernel
theorem d_Sk_finish_6 : decode cX4_finish 6 = .ok (.aload_n 1, 1) := by decide +kernel
theorem d_Sk_finish_7 : decode cX4_finish 7 = .ok (.getfield 192, 3) := by decide +kernel
theorem d_Sk_finish_10 : decode cX4_finish 10 = .ok (.invokevirtual 157, 3) := by decide +kernel
theorem d_Sk_finish_13 : decode cX4_finish 13 = .ok (.astore_n 3, 1) := by decide +kernel
theorem d_Sk_finish_14 : decode cX4_finish 14 = .ok (.aload_n 3, 1) := by decide +kernel
theorem d_Sk_finish_15 : decode cX4_finish 15 = .ok (.ifnull 8, 3) := by decide +kernel
theorem d_Sk_finish_18 : decode cX4_finish 18 = .ok (.aload_n 3, 1) := by decide +kernel
theorem d_Sk_finish_19 : decode cX4_finish 19 = .ok (.iconst (-1), 1) := by decide +kernel
theorem d_Sk_finish_20 : decode cX4_finish 20 = .ok (.putfield 284, 3) := by decide +kernel
theorem d_Sk_finish_23 : decode cX4_finish 23 = .ok (.return_, 1) := by decide +kernel
set_option maxRecDepth 100000 in
set_option maxHeartbeats 4000000 in
theorem w_Sk_finish {X : CX} {KX : MS → Prop} {k : Nat} {a1 : Option Nat} {a2 : Int32} {s : MS} (ok : Ok X cX4_finish RX4 rm_Sk_finish 4 false) (hret : ∀ r : MS, KX r → Fin X none 0 0 false none r)   (ht : rf s.2.2 0 (some k) = some k) {res : MS} (h : f_Sk_finish k a1 a2 s = some res) (hk : KX res) : G X s 0 0 0 [(0, vR (some k)), (1, vR a1), (2, vI a2)] [] := by
  unfold f_Sk_finish at h
  refine g_aload_n (i := 1) 1 ok d_Sk_finish_0 rfl rfl ?_
  refine g_iload_n (i := 2) 2 ok d_Sk_finish_1 rfl rfl ?_
  obtain ⟨k1, hk2, h⟩ := bnd_go h
  refine g_putiN (s0 := 12) (j := 6) (ci := 2) (C := RX2) (T := TX2) (N := 7) ok hk2 lay_12 rfl inX2 (by decide) rfl tw_66 rfl tyX2_ok nmX2 rfl (Or.inl rfl) d_Sk_finish_2 ?_
  obtain ⟨s3, e4⟩ : ∃ z, wi s k1 6 a2 = z := ⟨_, rfl⟩
  replace h := lt_go h e4
  have m5 := mo_wi e4
  rw [e4]
  refine g_aload_n (i := 0) 0 ok d_Sk_finish_5 rfl rfl ?_
  refine g_aload_n (i := 1) 1 ok d_Sk_finish_6 rfl rfl ?_
  refine g_getiN (s0 := 12) (j := 2) (ci := 2) (C := RX2) (T := TX2) (N := 7) ok (rf_mono m5 hk2) lay_12 rfl inX2 (by decide) rfl tw_60 rfl d_Sk_finish_7 ?_
  obtain ⟨x7, hc8, h⟩ := bnd_go h
  refine g_invV (rm2 := rm_Sk_machineOf) (As := [vI (s3.1 k1 2)]) (rest := []) ok (rf_mono m5 ht) lay_0 rfl (c_Sk_machineOf X.1.2.1 (rf_self (rf_mono m5 ht)) hc8) cm_Sk_machineOf cv_Sk_machineOf tw_415 ⟨rfl, rfl⟩ ⟨le_t rfl, le_t rfl⟩ ⟨rfl, le_t rfl⟩ ⟨le_t rfl, le_t rfl⟩ d_Sk_finish_10 rfl (fun m6 => ?_)
  show G X s3 0 0 13 [(0, vR (some k)), (1, vR a1), (2, vI a2)] [vR x7]
  refine g_astore_n (i := 3) [(3, vR x7), (0, vR (some k)), (1, vR a1), (2, vI a2)] ok d_Sk_finish_13 rfl (by decide) rfl ?_
  refine g_aload_n (i := 3) 0 ok d_Sk_finish_14 rfl rfl ?_
  refine g_ifnull (tgt := 23) ok d_Sk_finish_15 (by decide) (fun c9 => ?_) (fun c9 => ?_)
  · replace h := (if_pos c9).symm.trans h
    cases h
    exact g_vret ok (hret _ hk) (by decide) (by decide) d_Sk_finish_23
  · replace h := (if_neg c9).symm.trans h
    refine g_aload_n (i := 3) 0 ok d_Sk_finish_18 rfl rfl ?_
    refine g_iconst (v := (-1 : Int32)) ok d_Sk_finish_19 (by decide) ?_
    obtain ⟨k10, hk11, h⟩ := bnd_go h
    refine g_putiN (s0 := 11) (j := 5) (ci := 1) (C := RX1) (T := TX1) (N := 7) ok hk11 lay_11 rfl inX1 (by decide) rfl tw_456 rfl tyX1_ok nmX1 rfl (Or.inl rfl) d_Sk_finish_20 ?_
    obtain ⟨s12, e13⟩ : ∃ z, wi s3 k10 5 (-1 : Int32) = z := ⟨_, rfl⟩
    replace h := lt_go h e13
    have m14 := mo_wi e13
    rw [e13]
    cases h
    exact g_vret ok (hret _ hk) (by decide) (by decide) d_Sk_finish_23
theorem c_Sk_finish (l : Launch) {k : Nat} {a1 : Option Nat} {a2 : Int32} {s : MS} (ht : rf s.2.2 0 (some k) = some k) {z : MS} (h : f_Sk_finish k a1 a2 s = some z) : Ct l yX4_finish (.code yX4_finish cX4_finish 4 none) rm_Sk_finish 0 0 false [vR (some k), vR a1, vI a2] s none z :=
  Ct.of rfl (by decide +kernel) ⟨rfl, le_t rfl⟩ (fun X ok fn _ hI hl => w_Sk_finish (KX := fun y => y = z) ok (fun y hy => by subst hy; exact fn) ht h rfl)
abbrev rm_Sk_withdrawThoseIn : Room := { frames := 3, cells := 0, slots := 0, locals := 67 }
theorem cm_Sk_withdrawThoseIn : cfM yX4_withdrawThoseIn cX4_withdrawThoseIn 6 none 1 := ⟨tw_406, tw_1, by decide, by decide, by decide +kernel⟩
theorem cv_Sk_withdrawThoseIn : cfV yX4_withdrawThoseIn := ⟨tw_405, ts_X4_withdrawThoseIn⟩
theorem d_Sk_withdrawThoseIn_0 : decode cX4_withdrawThoseIn 0 = .ok (.aload_n 0, 1) := by decide +kernel
theorem d_Sk_withdrawThoseIn_1 : decode cX4_withdrawThoseIn 1 = .ok (.getfield 30, 3) := by decide +kernel
theorem d_Sk_withdrawThoseIn_4 : decode cX4_withdrawThoseIn 4 = .ok (.astore_n 2, 1) := by decide +kernel
theorem d_Sk_withdrawThoseIn_5 : decode cX4_withdrawThoseIn 5 = .ok (.aload_n 2, 1) := by decide +kernel
theorem d_Sk_withdrawThoseIn_6 : decode cX4_withdrawThoseIn 6 = .ok (.arraylength, 1) := by decide +kernel
theorem d_Sk_withdrawThoseIn_7 : decode cX4_withdrawThoseIn 7 = .ok (.istore_n 3, 1) := by decide +kernel
theorem d_Sk_withdrawThoseIn_8 : decode cX4_withdrawThoseIn 8 = .ok (.iconst 0, 1) := by decide +kernel
theorem d_Sk_withdrawThoseIn_9 : decode cX4_withdrawThoseIn 9 = .ok (.istore 4, 2) := by decide +kernel
theorem d_Sk_withdrawThoseIn_11 : decode cX4_withdrawThoseIn 11 = .ok (.iload 4, 2) := by decide +kernel
theorem d_Sk_withdrawThoseIn_13 : decode cX4_withdrawThoseIn 13 = .ok (.iload_n 3, 1) := by decide +kernel
theorem d_Sk_withdrawThoseIn_14 : decode cX4_withdrawThoseIn 14 = .ok (.if_icmp .ge 45, 3) := by decide +kernel
theorem d_Sk_withdrawThoseIn_17 : decode cX4_withdrawThoseIn 17 = .ok (.aload_n 2, 1) := by decide +kernel
theorem d_Sk_withdrawThoseIn_18 : decode cX4_withdrawThoseIn 18 = .ok (.iload 4, 2) := by decide +kernel
theorem d_Sk_withdrawThoseIn_20 : decode cX4_withdrawThoseIn 20 = .ok (.aaload, 1) := by decide +kernel
theorem d_Sk_withdrawThoseIn_21 : decode cX4_withdrawThoseIn 21 = .ok (.astore 5, 2) := by decide +kernel
theorem d_Sk_withdrawThoseIn_23 : decode cX4_withdrawThoseIn 23 = .ok (.aload 5, 2) := by decide +kernel
theorem d_Sk_withdrawThoseIn_25 : decode cX4_withdrawThoseIn 25 = .ok (.ifnull 28, 3) := by decide +kernel
theorem d_Sk_withdrawThoseIn_28 : decode cX4_withdrawThoseIn 28 = .ok (.aload 5, 2) := by decide +kernel
theorem d_Sk_withdrawThoseIn_30 : decode cX4_withdrawThoseIn 30 = .ok (.getfield 214, 3) := by decide +kernel
theorem d_Sk_withdrawThoseIn_33 : decode cX4_withdrawThoseIn 33 = .ok (.ifCond .ne 20, 3) := by decide +kernel
theorem d_Sk_withdrawThoseIn_36 : decode cX4_withdrawThoseIn 36 = .ok (.aload 5, 2) := by decide +kernel
theorem d_Sk_withdrawThoseIn_38 : decode cX4_withdrawThoseIn 38 = .ok (.iconst 0, 1) := by decide +kernel
theorem d_Sk_withdrawThoseIn_39 : decode cX4_withdrawThoseIn 39 = .ok (.aload_n 1, 1) := by decide +kernel
theorem d_Sk_withdrawThoseIn_40 : decode cX4_withdrawThoseIn 40 = .ok (.invokestatic 335, 3) := by decide +kernel
theorem d_Sk_withdrawThoseIn_43 : decode cX4_withdrawThoseIn 43 = .ok (.ifCond .eq 10, 3) := by decide +kernel
theorem d_Sk_withdrawThoseIn_46 : decode cX4_withdrawThoseIn 46 = .ok (.aload_n 0, 1) := by decide +kernel
theorem d_Sk_withdrawThoseIn_47 : decode cX4_withdrawThoseIn 47 = .ok (.aload 5, 2) := by decide +kernel
theorem d_Sk_withdrawThoseIn_49 : decode cX4_withdrawThoseIn 49 = .ok (.iconst 3, 1) := by decide +kernel
theorem d_Sk_withdrawThoseIn_50 : decode cX4_withdrawThoseIn 50 = .ok (.invokevirtual 217, 3) := by decide +kernel
theorem d_Sk_withdrawThoseIn_53 : decode cX4_withdrawThoseIn 53 = .ok (.iinc 4 1, 3) := by decide +kernel
theorem d_Sk_withdrawThoseIn_56 : decode cX4_withdrawThoseIn 56 = .ok (.goto (-45), 3) := by decide +kernel
theorem d_Sk_withdrawThoseIn_59 : decode cX4_withdrawThoseIn 59 = .ok (.return_, 1) := by decide +kernel
set_option maxRecDepth 100000 in
set_option maxHeartbeats 4000000 in
theorem w_b_Sk_withdrawThoseIn_11 {X : CX} {KX : MS → Prop} {k : Nat} {a1 : Option Nat} {a2 : Option Nat} {a3 : Int32} {a4 : Int32} {s : MS} {rec : Int32 → MS → Option (MS)} {sb : MS} (ok : Ok X cX4_withdrawThoseIn RX4 rm_Sk_withdrawThoseIn 6 false) (hexit : ∀ (z : MS), KX z → (∀ q, dm sb q → dm z q) → G X z 0 0 59 [(0, vR (some k))] []) (hrec : ∀ (v4 : Int32) (z : MS), (∀ q, dm sb q → dm z q) → ∀ y, rec v4 z = some y → KX y → G X z 0 0 11 [(0, vR (some k)), (1, vR a1), (2, vR a2), (3, vI a3), (4, vI v4)] []) (mb : ∀ q, dm sb q → dm s q) (ht : rf s.2.2 0 (some k) = some k) {res : MS} (h : b_Sk_withdrawThoseIn_11 k a1 a2 a3 a4 s rec = some res) (hk : KX res) : G X s 0 0 11 [(0, vR (some k)), (1, vR a1), (2, vR a2), (3, vI a3), (4, vI a4)] [] := by
  unfold b_Sk_withdrawThoseIn_11 at h
  refine g_iload (i := 4) 4 ok d_Sk_withdrawThoseIn_11 rfl ?_
  refine g_iload_n (i := 3) 3 ok d_Sk_withdrawThoseIn_13 rfl rfl ?_
  refine g_icmp_ge (tgt := 59) ok d_Sk_withdrawThoseIn_14 (by decide) (fun c7 => ?_) (fun c7 => ?_)
  · replace h := (if_pos c7).symm.trans h
    refine g_aload_n (i := 2) 2 ok d_Sk_withdrawThoseIn_17 rfl rfl ?_
    refine g_iload (i := 4) 4 ok d_Sk_withdrawThoseIn_18 rfl ?_
    obtain ⟨k8, hk9, h⟩ := bnd_go h
    refine g_aald5 ok hk9 d_Sk_withdrawThoseIn_20 ?_
    obtain ⟨x10, e11⟩ : ∃ z, (s.2.1 k8 a4.toNatClampNeg) = z := ⟨_, rfl⟩
    replace h := lt_go h e11
    rw [e11]
    refine g_astore (i := 5) [(5, vR x10), (0, vR (some k)), (1, vR a1), (2, vR a2), (3, vI a3), (4, vI a4)] ok d_Sk_withdrawThoseIn_21 (by decide) rfl ?_
    refine g_aload (i := 5) 0 ok d_Sk_withdrawThoseIn_23 rfl ?_
    refine g_ifnull (tgt := 53) ok d_Sk_withdrawThoseIn_25 (by decide) (fun c12 => ?_) (fun c12 => ?_)
    · replace h := (if_pos c12).symm.trans h
      obtain ⟨x13, e14⟩ : ∃ z, a4 + (1 : Int32) = z := ⟨_, rfl⟩
      replace h := lt_go h e14
      refine g_iinc (i := 4) (v := x13) 5 [(4, vI x13), (5, vR x10), (0, vR (some k)), (1, vR a1), (2, vR a2), (3, vI a3)] ok d_Sk_withdrawThoseIn_53 rfl (by rw [← e14]; rfl) (by decide) rfl ?_
      refine g_goto (tgt := 11) ok d_Sk_withdrawThoseIn_56 (by decide) ?_
      refine g_sub [2, 3, 4, 5, 0] rfl ?_
      exact hrec x13 s mb _ h hk
    · replace h := (if_neg c12).symm.trans h
      refine g_aload (i := 5) 0 ok d_Sk_withdrawThoseIn_28 rfl ?_
      obtain ⟨k15, hk16, h⟩ := bnd_go h
      refine g_getiN (s0 := 12) (j := 6) (ci := 2) (C := RX2) (T := TX2) (N := 7) ok hk16 lay_12 rfl inX2 (by decide) rfl tw_66 rfl d_Sk_withdrawThoseIn_30 ?_
      refine g_if_ne (tgt := 53) ok d_Sk_withdrawThoseIn_33 (by decide) (fun c17 => ?_) (fun c17 => ?_)
      · replace h := (if_pos c17).symm.trans h
        refine g_aload (i := 5) 0 ok d_Sk_withdrawThoseIn_36 rfl ?_
        refine g_iconst (v := (0 : Int32)) ok d_Sk_withdrawThoseIn_38 (by decide) ?_
        refine g_aload_n (i := 1) 2 ok d_Sk_withdrawThoseIn_39 rfl rfl ?_
        obtain ⟨x19, hc20, h⟩ := bnd_go h
        refine g_invS (rm2 := rm_Sk_isInRoom) (As := [vR x10, vI (0 : Int32), vR a1]) (rest := []) ok (c_Sk_isInRoom X.1.2.1 hc20) cm_Sk_isInRoom cs_Sk_isInRoom tw_407 ⟨rfl, rfl⟩ ⟨le_t rfl, le_t rfl⟩ ⟨rfl, le_t rfl⟩ ⟨le_t rfl, le_t rfl⟩ d_Sk_withdrawThoseIn_40 rfl (fun m18 => ?_)
        show G X s 0 0 43 [(5, vR x10), (0, vR (some k)), (1, vR a1), (2, vR a2), (3, vI a3), (4, vI a4)] [vI x19]
        refine g_if_eq (tgt := 53) ok d_Sk_withdrawThoseIn_43 (by decide) (fun c21 => ?_) (fun c21 => ?_)
        · replace h := (if_pos c21).symm.trans h
          obtain ⟨x22, e23⟩ : ∃ z, a4 + (1 : Int32) = z := ⟨_, rfl⟩
          replace h := lt_go h e23
          refine g_iinc (i := 4) (v := x22) 5 [(4, vI x22), (5, vR x10), (0, vR (some k)), (1, vR a1), (2, vR a2), (3, vI a3)] ok d_Sk_withdrawThoseIn_53 rfl (by rw [← e23]; rfl) (by decide) rfl ?_
          refine g_goto (tgt := 11) ok d_Sk_withdrawThoseIn_56 (by decide) ?_
          refine g_sub [2, 3, 4, 5, 0] rfl ?_
          exact hrec x22 s mb _ h hk
        · replace h := (if_neg c21).symm.trans h
          refine g_aload_n (i := 0) 1 ok d_Sk_withdrawThoseIn_46 rfl rfl ?_
          refine g_aload (i := 5) 0 ok d_Sk_withdrawThoseIn_47 rfl ?_
          refine g_iconst (v := (3 : Int32)) ok d_Sk_withdrawThoseIn_49 (by decide) ?_
          obtain ⟨s26, hc25, h⟩ := bnd_go h
          refine g_invV (rm2 := rm_Sk_finish) (As := [vR x10, vI (3 : Int32)]) (rest := []) ok ht lay_0 rfl (c_Sk_finish X.1.2.1 (rf_self ht) hc25) cm_Sk_finish cv_Sk_finish tw_411 ⟨rfl, rfl⟩ ⟨le_t rfl, le_t rfl⟩ ⟨rfl, le_t rfl⟩ ⟨le_t rfl, le_t rfl⟩ d_Sk_withdrawThoseIn_50 rfl (fun m24 => ?_)
          show G X s26 0 0 53 [(5, vR x10), (0, vR (some k)), (1, vR a1), (2, vR a2), (3, vI a3), (4, vI a4)] []
          obtain ⟨x27, e28⟩ : ∃ z, a4 + (1 : Int32) = z := ⟨_, rfl⟩
          replace h := lt_go h e28
          refine g_iinc (i := 4) (v := x27) 5 [(4, vI x27), (5, vR x10), (0, vR (some k)), (1, vR a1), (2, vR a2), (3, vI a3)] ok d_Sk_withdrawThoseIn_53 rfl (by rw [← e28]; rfl) (by decide) rfl ?_
          refine g_goto (tgt := 11) ok d_Sk_withdrawThoseIn_56 (by decide) ?_
          refine g_sub [2, 3, 4, 5, 0] rfl ?_
          exact hrec x27 s26 (fun z hz => m24 z (mb z hz)) _ h hk
      · replace h := (if_neg c17).symm.trans h
        obtain ⟨x29, e30⟩ : ∃ z, a4 + (1 : Int32) = z := ⟨_, rfl⟩
        replace h := lt_go h e30
        refine g_iinc (i := 4) (v := x29) 5 [(4, vI x29), (5, vR x10), (0, vR (some k)), (1, vR a1), (2, vR a2), (3, vI a3)] ok d_Sk_withdrawThoseIn_53 rfl (by rw [← e30]; rfl) (by decide) rfl ?_
        refine g_goto (tgt := 11) ok d_Sk_withdrawThoseIn_56 (by decide) ?_
        refine g_sub [2, 3, 4, 5, 0] rfl ?_
        exact hrec x29 s mb _ h hk
  · replace h := (if_neg c7).symm.trans h
    refine g_sub [0] rfl ?_
    cases h
    exact hexit s hk mb
theorem wx_l_Sk_withdrawThoseIn_11 {X : CX} {KX : MS → Prop} {k : Nat} {a1 : Option Nat} {a2 : Option Nat} {a3 : Int32} {sb : MS} (ok : Ok X cX4_withdrawThoseIn RX4 rm_Sk_withdrawThoseIn 6 false) (hexit : ∀ (z : MS), KX z → (∀ q, dm sb q → dm z q) → G X z 0 0 59 [(0, vR (some k))] []) (htb : rf sb.2.2 0 (some k) = some k) : ∀ (n : Nat) (a4 : Int32) (s : MS), (∀ q, dm sb q → dm s q) → ∀ (res : MS), l_Sk_withdrawThoseIn_11 k a1 a2 a3 n a4 s = some res → KX res → G X s 0 0 11 [(0, vR (some k)), (1, vR a1), (2, vR a2), (3, vI a3), (4, vI a4)] [] := by
  intro n
  induction n with
  | zero => intro _ s _ res h; cases h
  | succ n ih =>
    intro a4 s mb res h hk
    exact w_b_Sk_withdrawThoseIn_11 ok hexit (fun v4 z hz y h2 hk2 => ih v4 z hz y h2 hk2) mb (rf_mono mb htb) h hk
theorem w_l_Sk_withdrawThoseIn_11 {X : CX} {KX : MS → Prop} {k : Nat} {a1 : Option Nat} {a2 : Option Nat} {a3 : Int32} {sb : MS} (ok : Ok X cX4_withdrawThoseIn RX4 rm_Sk_withdrawThoseIn 6 false) (hexit : ∀ (z : MS), KX z → (∀ q, dm sb q → dm z q) → G X z 0 0 59 [(0, vR (some k))] []) (mb : ∀ q, dm sb q → dm sb q) (htb : rf sb.2.2 0 (some k) = some k) (n : Nat) (a4 : Int32) {res : MS} (h : l_Sk_withdrawThoseIn_11 k a1 a2 a3 n a4 sb = some res) (hk : KX res) : G X sb 0 0 11 [(0, vR (some k)), (1, vR a1), (2, vR a2), (3, vI a3), (4, vI a4)] [] := wx_l_Sk_withdrawThoseIn_11 ok hexit htb n a4 sb mb res h hk
set_option maxRecDepth 100000 in
set_option maxHeartbeats 4000000 in
theorem w_Sk_withdrawThoseIn {X : CX} {KX : MS → Prop} {k : Nat} {a1 : Option Nat} {s : MS} (ok : Ok X cX4_withdrawThoseIn RX4 rm_Sk_withdrawThoseIn 6 false) (hret : ∀ r : MS, KX r → Fin X none 0 0 false none r)   (ht : rf s.2.2 0 (some k) = some k) {res : MS} (h : f_Sk_withdrawThoseIn k a1 s = some res) (hk : KX res) : G X s 0 0 0 [(0, vR (some k)), (1, vR a1)] [] := by
  unfold f_Sk_withdrawThoseIn at h
  refine g_aload_n (i := 0) 0 ok d_Sk_withdrawThoseIn_0 rfl rfl ?_
  refine g_getr (s0 := 0) (j := 3) (ci := 4) (C := RX4) (T := TX4) (N := 14) ok ht lay_0 rfl inX4 (by decide) rfl tw_85 rfl d_Sk_withdrawThoseIn_1 ?_
  obtain ⟨x1, e2⟩ : ∃ z, (s.2.1 k 3) = z := ⟨_, rfl⟩
  replace h := lt_go h e2
  rw [e2]
  refine g_astore_n (i := 2) [(2, vR x1), (0, vR (some k)), (1, vR a1)] ok d_Sk_withdrawThoseIn_4 rfl (by decide) rfl ?_
  refine g_aload_n (i := 2) 0 ok d_Sk_withdrawThoseIn_5 rfl rfl ?_
  obtain ⟨n3, hn4, h⟩ := bnd_go h
  refine g_alen ok hn4 (by decide) d_Sk_withdrawThoseIn_6 ?_
  obtain ⟨x5, e6⟩ : ∃ z, (Int32.ofNat n3) = z := ⟨_, rfl⟩
  replace h := lt_go h e6
  rw [e6]
  refine g_istore_n (i := 3) [(3, vI x5), (2, vR x1), (0, vR (some k)), (1, vR a1)] ok d_Sk_withdrawThoseIn_7 rfl (by decide) rfl ?_
  refine g_iconst (v := (0 : Int32)) ok d_Sk_withdrawThoseIn_8 (by decide) ?_
  refine g_istore (i := 4) [(4, vI (0 : Int32)), (3, vI x5), (2, vR x1), (0, vR (some k)), (1, vR a1)] ok d_Sk_withdrawThoseIn_9 (by decide) rfl ?_
  refine g_sub [3, 4, 2, 1, 0] rfl ?_
  obtain ⟨s32, hx, h⟩ := bnd_go h
  refine w_l_Sk_withdrawThoseIn_11 (KX := fun y => y = s32) ok (fun y0 he m31 => ?_) (fun _ hz => hz) ht _ _ hx rfl
  cases he
  cases h
  exact g_vret ok (hret _ hk) (by decide) (by decide) d_Sk_withdrawThoseIn_59
theorem c_Sk_withdrawThoseIn (l : Launch) {k : Nat} {a1 : Option Nat} {s : MS} (ht : rf s.2.2 0 (some k) = some k) {z : MS} (h : f_Sk_withdrawThoseIn k a1 s = some z) : Ct l yX4_withdrawThoseIn (.code yX4_withdrawThoseIn cX4_withdrawThoseIn 6 none) rm_Sk_withdrawThoseIn 0 0 false [vR (some k), vR a1] s none z :=
  Ct.of rfl (by decide +kernel) ⟨rfl, le_t rfl⟩ (fun X ok fn _ hI hl => w_Sk_withdrawThoseIn (KX := fun y => y = z) ok (fun y hy => by subst hy; exact fn) ht h rfl)
abbrev rm_Sk_roomOf : Room := { frames := 1, cells := 0, slots := 0, locals := 22 }
theorem cm_Sk_roomOf : cfM yX4_roomOf cX4_roomOf 2 (some (.object "SkyLanes$Room")) 1 := ⟨tw_429, tw_1, by decide, by decide, by decide +kernel⟩
theorem cv_Sk_roomOf : cfV yX4_roomOf := ⟨tw_428, ts_X4_roomOf⟩
theorem d_Sk_roomOf_0 : decode cX4_roomOf 0 = .ok (.iload_n 1, 1) := by decide +kernel
theorem d_Sk_roomOf_1 : decode cX4_roomOf 1 = .ok (.iconst 0, 1) := by decide +kernel
theorem d_Sk_roomOf_2 : decode cX4_roomOf 2 = .ok (.aload_n 0, 1) := by decide +kernel
theorem d_Sk_roomOf_3 : decode cX4_roomOf 3 = .ok (.getfield 18, 3) := by decide +kernel
theorem d_Sk_roomOf_6 : decode cX4_roomOf 6 = .ok (.arraylength, 1) := by decide +kernel
theorem d_Sk_roomOf_7 : decode cX4_roomOf 7 = .ok (.iconst 1, 1) := by decide +kernel
theorem d_Sk_roomOf_8 : decode cX4_roomOf 8 = .ok (.isub, 1) := by decide +kernel
theorem d_Sk_roomOf_9 : decode cX4_roomOf 9 = .ok (.invokestatic 58, 3) := by decide +kernel
theorem d_Sk_roomOf_12 : decode cX4_roomOf 12 = .ok (.ifCond .eq 7, 3) := by decide +kernel
theorem d_Sk_roomOf_15 : decode cX4_roomOf 15 = .ok (.aconst_null, 1) := by decide +kernel
theorem d_Sk_roomOf_16 : decode cX4_roomOf 16 = .ok (.goto 9, 3) := by decide +kernel
theorem d_Sk_roomOf_19 : decode cX4_roomOf 19 = .ok (.aload_n 0, 1) := by decide +kernel
theorem d_Sk_roomOf_20 : decode cX4_roomOf 20 = .ok (.getfield 18, 3) := by decide +kernel
theorem d_Sk_roomOf_23 : decode cX4_roomOf 23 = .ok (.iload_n 1, 1) := by decide +kernel
theorem d_Sk_roomOf_24 : decode cX4_roomOf 24 = .ok (.aaload, 1) := by decide +kernel
theorem d_Sk_roomOf_25 : decode cX4_roomOf 25 = .ok (.areturn, 1) := by decide +kernel
set_option maxRecDepth 100000 in
set_option maxHeartbeats 4000000 in
theorem w_Sk_roomOf {X : CX} {KX : Option Nat → Prop} {k : Nat} {a1 : Int32} {s : MS} (ok : Ok X cX4_roomOf RX4 rm_Sk_roomOf 2 false) (hret : ∀ r : Option Nat, KX r → Fin X (some (.object "SkyLanes$Room")) 0 0 false (some (vR r)) s)   (ht : rf s.2.2 0 (some k) = some k) {res : Option Nat} (h : f_Sk_roomOf k a1 s = some res) (hk : KX res) : G X s 0 0 0 [(0, vR (some k)), (1, vI a1)] [] := by
  unfold f_Sk_roomOf at h
  refine g_iload_n (i := 1) 1 ok d_Sk_roomOf_0 rfl rfl ?_
  refine g_iconst (v := (0 : Int32)) ok d_Sk_roomOf_1 (by decide) ?_
  refine g_aload_n (i := 0) 0 ok d_Sk_roomOf_2 rfl rfl ?_
  refine g_getr (s0 := 0) (j := 1) (ci := 4) (C := RX4) (T := TX4) (N := 14) ok ht lay_0 rfl inX4 (by decide) rfl tw_83 rfl d_Sk_roomOf_3 ?_
  obtain ⟨n1, hn2, h⟩ := bnd_go h
  refine g_alen ok hn2 (by decide) d_Sk_roomOf_6 ?_
  refine g_iconst (v := (1 : Int32)) ok d_Sk_roomOf_7 (by decide) ?_
  refine g_isub ok d_Sk_roomOf_8 ?_
  refine g_invS (rm2 := rm_Sk_isOut) (As := [vI a1, vI (0 : Int32), vI ((Int32.ofNat n1) - (1 : Int32))]) (rest := []) ok (c_Sk_isOut X.1.2.1) cm_Sk_isOut cs_Sk_isOut tw_149 ⟨rfl, rfl⟩ ⟨le_t rfl, le_t rfl⟩ ⟨rfl, le_t rfl⟩ ⟨le_t rfl, le_t rfl⟩ d_Sk_roomOf_9 rfl (fun m3 => ?_)
  show G X s 0 0 12 [(0, vR (some k)), (1, vI a1)] [vI (f_Sk_isOut a1 (0 : Int32) ((Int32.ofNat n1) - (1 : Int32)))]
  refine g_if_eq (tgt := 19) ok d_Sk_roomOf_12 (by decide) (fun c4 => ?_) (fun c4 => ?_)
  · replace h := (if_pos c4).symm.trans h
    refine g_aload_n (i := 0) 0 ok d_Sk_roomOf_19 rfl rfl ?_
    refine g_getr (s0 := 0) (j := 1) (ci := 4) (C := RX4) (T := TX4) (N := 14) ok ht lay_0 rfl inX4 (by decide) rfl tw_83 rfl d_Sk_roomOf_20 ?_
    refine g_iload_n (i := 1) 1 ok d_Sk_roomOf_23 rfl rfl ?_
    obtain ⟨k5, hk6, h⟩ := bnd_go h
    refine g_aald3 ok hk6 d_Sk_roomOf_24 ?_
    cases h
    exact g_aret ok (hret _ hk) (by decide) (by decide) d_Sk_roomOf_25
  · replace h := (if_neg c4).symm.trans h
    refine g_null ok d_Sk_roomOf_15 ?_
    refine g_goto (tgt := 25) ok d_Sk_roomOf_16 (by decide) ?_
    cases h
    exact g_aret ok (hret _ hk) (by decide) (by decide) d_Sk_roomOf_25
theorem c_Sk_roomOf (l : Launch) {k : Nat} {a1 : Int32} {s : MS} (ht : rf s.2.2 0 (some k) = some k) {r : Option Nat} (h : f_Sk_roomOf k a1 s = some r) : Ct l yX4_roomOf (.code yX4_roomOf cX4_roomOf 2 (some (.object "SkyLanes$Room"))) rm_Sk_roomOf 0 0 false [vR (some k), vI a1] s (some (vR r)) s :=
  Ct.of rfl (by decide +kernel) ⟨rfl, le_t rfl⟩ (fun X ok fn _ hI hl => w_Sk_roomOf (KX := fun y => y = r) ok (fun y hy => by subst hy; exact fn) ht h rfl)
abbrev rm_Sk_clear : Room := { frames := 0, cells := 0, slots := 0, locals := 0 }
theorem cm_Sk_clear : cfM yX4_clear cX4_clear 2 (some .int) 0 := ⟨tw_128, tw_1, by decide, by decide, by decide +kernel⟩
theorem cv_Sk_clear : cfV yX4_clear := ⟨tw_126, tw_127⟩
theorem d_Sk_clear_0 : decode cX4_clear 0 = .ok (.aload_n 0, 1) := by decide +kernel
theorem d_Sk_clear_1 : decode cX4_clear 1 = .ok (.getfield 152, 3) := by decide +kernel
theorem d_Sk_clear_4 : decode cX4_clear 4 = .ok (.istore_n 1, 1) := by decide +kernel
theorem d_Sk_clear_5 : decode cX4_clear 5 = .ok (.aload_n 0, 1) := by decide +kernel
theorem d_Sk_clear_6 : decode cX4_clear 6 = .ok (.iconst 0, 1) := by decide +kernel
theorem d_Sk_clear_7 : decode cX4_clear 7 = .ok (.putfield 152, 3) := by decide +kernel
theorem d_Sk_clear_10 : decode cX4_clear 10 = .ok (.iload_n 1, 1) := by decide +kernel
theorem d_Sk_clear_11 : decode cX4_clear 11 = .ok (.ireturn, 1) := by decide +kernel
set_option maxRecDepth 100000 in
set_option maxHeartbeats 4000000 in
theorem w_Sk_clear {X : CX} {KX : Int32 × MS → Prop} {k : Nat} {s : MS} (ok : Ok X cX4_clear RX4 rm_Sk_clear 2 false) (hret : ∀ r : Int32 × MS, KX r → Fin X (some .int) 0 0 false (some (vI r.1)) r.2)   (ht : rf s.2.2 0 (some k) = some k) {res : Int32 × MS} (h : f_Sk_clear k s = some res) (hk : KX res) : G X s 0 0 0 [(0, vR (some k))] [] := by
  unfold f_Sk_clear at h
  refine g_aload_n (i := 0) 0 ok d_Sk_clear_0 rfl rfl ?_
  refine g_geti (s0 := 0) (j := 9) (ci := 4) (C := RX4) (T := TX4) (N := 14) ok ht lay_0 rfl inX4 (by decide) rfl tw_91 rfl d_Sk_clear_1 ?_
  obtain ⟨x1, e2⟩ : ∃ z, (s.1 k 9) = z := ⟨_, rfl⟩
  replace h := lt_go h e2
  rw [e2]
  refine g_istore_n (i := 1) [(1, vI x1), (0, vR (some k))] ok d_Sk_clear_4 rfl (by decide) rfl ?_
  refine g_aload_n (i := 0) 1 ok d_Sk_clear_5 rfl rfl ?_
  refine g_iconst (v := (0 : Int32)) ok d_Sk_clear_6 (by decide) ?_
  refine g_puti (s0 := 0) (j := 9) (ci := 4) (C := RX4) (T := TX4) (N := 14) ok ht lay_0 rfl inX4 (by decide) rfl tw_91 rfl tyX4_ok nmX4 rfl (Or.inl rfl) d_Sk_clear_7 ?_
  obtain ⟨s3, e4⟩ : ∃ z, wi s k 9 (0 : Int32) = z := ⟨_, rfl⟩
  replace h := lt_go h e4
  have m5 := mo_wi e4
  rw [e4]
  refine g_iload_n (i := 1) 0 ok d_Sk_clear_10 rfl rfl ?_
  cases h
  exact g_iret ok (hret _ hk) (by decide) (by decide) d_Sk_clear_11
theorem c_Sk_clear (l : Launch) {k : Nat} {s : MS} (ht : rf s.2.2 0 (some k) = some k) {r : Int32} {z : MS} (h : f_Sk_clear k s = some (r, z)) : Ct l yX4_clear (.code yX4_clear cX4_clear 2 (some .int)) rm_Sk_clear 0 0 false [vR (some k)] s (some (vI r)) z :=
  Ct.of rfl (by decide +kernel) ⟨rfl, le_t rfl⟩ (fun X ok fn _ hI hl => w_Sk_clear (KX := fun y => y = (r, z)) ok (fun y hy => by subst hy; exact fn) ht h rfl)
abbrev rm_Sk_refuse : Room := { frames := 0, cells := 0, slots := 0, locals := 0 }
theorem cm_Sk_refuse : cfM yX4_refuse cX4_refuse 3 (some .int) 2 := ⟨tw_491, tw_1, by decide, by decide, by decide +kernel⟩
theorem cv_Sk_refuse : cfV yX4_refuse := ⟨tw_490, ts_X4_refuse⟩
theorem d_Sk_refuse_0 : decode cX4_refuse 0 = .ok (.aload_n 0, 1) := by decide +kernel
theorem d_Sk_refuse_1 : decode cX4_refuse 1 = .ok (.dup, 1) := by decide +kernel
theorem d_Sk_refuse_2 : decode cX4_refuse 2 = .ok (.getfield 289, 3) := by decide +kernel
theorem d_Sk_refuse_5 : decode cX4_refuse 5 = .ok (.iconst 1, 1) := by decide +kernel
theorem d_Sk_refuse_6 : decode cX4_refuse 6 = .ok (.iadd, 1) := by decide +kernel
theorem d_Sk_refuse_7 : decode cX4_refuse 7 = .ok (.putfield 289, 3) := by decide +kernel
theorem d_Sk_refuse_10 : decode cX4_refuse 10 = .ok (.aload_n 0, 1) := by decide +kernel
theorem d_Sk_refuse_11 : decode cX4_refuse 11 = .ok (.iload_n 2, 1) := by decide +kernel
theorem d_Sk_refuse_12 : decode cX4_refuse 12 = .ok (.putfield 43, 3) := by decide +kernel
theorem d_Sk_refuse_15 : decode cX4_refuse 15 = .ok (.iload_n 1, 1) := by decide +kernel
theorem d_Sk_refuse_16 : decode cX4_refuse 16 = .ok (.ineg, 1) := by decide +kernel
theorem d_Sk_refuse_17 : decode cX4_refuse 17 = .ok (.ireturn, 1) := by decide +kernel
set_option maxRecDepth 100000 in
set_option maxHeartbeats 4000000 in
theorem w_Sk_refuse {X : CX} {KX : Int32 × MS → Prop} {k : Nat} {a1 : Int32} {a2 : Int32} {s : MS} (ok : Ok X cX4_refuse RX4 rm_Sk_refuse 3 false) (hret : ∀ r : Int32 × MS, KX r → Fin X (some .int) 0 0 false (some (vI r.1)) r.2)   (ht : rf s.2.2 0 (some k) = some k) {res : Int32 × MS} (h : f_Sk_refuse k a1 a2 s = some res) (hk : KX res) : G X s 0 0 0 [(0, vR (some k)), (1, vI a1), (2, vI a2)] [] := by
  unfold f_Sk_refuse at h
  refine g_aload_n (i := 0) 0 ok d_Sk_refuse_0 rfl rfl ?_
  refine g_dup ok d_Sk_refuse_1 rfl ?_
  refine g_geti (s0 := 0) (j := 11) (ci := 4) (C := RX4) (T := TX4) (N := 14) ok ht lay_0 rfl inX4 (by decide) rfl tw_93 rfl d_Sk_refuse_2 ?_
  refine g_iconst (v := (1 : Int32)) ok d_Sk_refuse_5 (by decide) ?_
  refine g_iadd ok d_Sk_refuse_6 ?_
  refine g_puti (s0 := 0) (j := 11) (ci := 4) (C := RX4) (T := TX4) (N := 14) ok ht lay_0 rfl inX4 (by decide) rfl tw_93 rfl tyX4_ok nmX4 rfl (Or.inl rfl) d_Sk_refuse_7 ?_
  obtain ⟨s1, e2⟩ : ∃ z, wi s k 11 ((s.1 k 11) + (1 : Int32)) = z := ⟨_, rfl⟩
  replace h := lt_go h e2
  have m3 := mo_wi e2
  rw [e2]
  refine g_aload_n (i := 0) 0 ok d_Sk_refuse_10 rfl rfl ?_
  refine g_iload_n (i := 2) 2 ok d_Sk_refuse_11 rfl rfl ?_
  refine g_puti (s0 := 0) (j := 12) (ci := 4) (C := RX4) (T := TX4) (N := 14) ok (rf_mono m3 ht) lay_0 rfl inX4 (by decide) rfl tw_94 rfl tyX4_ok nmX4 rfl (Or.inl rfl) d_Sk_refuse_12 ?_
  obtain ⟨s4, e5⟩ : ∃ z, wi s1 k 12 a2 = z := ⟨_, rfl⟩
  replace h := lt_go h e5
  have m6 := mo_wi e5
  rw [e5]
  refine g_iload_n (i := 1) 1 ok d_Sk_refuse_15 rfl rfl ?_
  refine g_ineg ok d_Sk_refuse_16 ?_
  cases h
  exact g_iret ok (hret _ hk) (by decide) (by decide) d_Sk_refuse_17
theorem c_Sk_refuse (l : Launch) {k : Nat} {a1 : Int32} {a2 : Int32} {s : MS} (ht : rf s.2.2 0 (some k) = some k) {r : Int32} {z : MS} (h : f_Sk_refuse k a1 a2 s = some (r, z)) : Ct l yX4_refuse (.code yX4_refuse cX4_refuse 3 (some .int)) rm_Sk_refuse 0 0 false [vR (some k), vI a1, vI a2] s (some (vI r)) z :=
  Ct.of rfl (by decide +kernel) ⟨rfl, le_t rfl⟩ (fun X ok fn _ hI hl => w_Sk_refuse (KX := fun y => y = (r, z)) ok (fun y hy => by subst hy; exact fn) ht h rfl)
abbrev rm_Sk_waitingOfFirm : Room := { frames := 2, cells := 0, slots := 0, locals := 43 }
theorem cm_Sk_waitingOfFirm : cfM yX4_waitingOfFirm cX4_waitingOfFirm 8 (some .int) 1 := ⟨tw_495, tw_1, by decide, by decide, by decide +kernel⟩
theorem cv_Sk_waitingOfFirm : cfV yX4_waitingOfFirm := ⟨tw_494, ts_X4_waitingOfFirm⟩
theorem d_Sk_waitingOfFirm_0 : decode cX4_waitingOfFirm 0 = .ok (.iconst 0, 1) := by decide +kernel
theorem d_Sk_waitingOfFirm_1 : decode cX4_waitingOfFirm 1 = .ok (.istore_n 2, 1) := by decide +kernel
theorem d_Sk_waitingOfFirm_2 : decode cX4_waitingOfFirm 2 = .ok (.aload_n 0, 1) := by decide +kernel
theorem d_Sk_waitingOfFirm_3 : decode cX4_waitingOfFirm 3 = .ok (.getfield 30, 3) := by decide +kernel
theorem d_Sk_waitingOfFirm_6 : decode cX4_waitingOfFirm 6 = .ok (.astore_n 3, 1) := by decide +kernel
theorem d_Sk_waitingOfFirm_7 : decode cX4_waitingOfFirm 7 = .ok (.aload_n 3, 1) := by decide +kernel
theorem d_Sk_waitingOfFirm_8 : decode cX4_waitingOfFirm 8 = .ok (.arraylength, 1) := by decide +kernel
theorem d_Sk_waitingOfFirm_9 : decode cX4_waitingOfFirm 9 = .ok (.istore 4, 2) := by decide +kernel
theorem d_Sk_waitingOfFirm_11 : decode cX4_waitingOfFirm 11 = .ok (.iconst 0, 1) := by decide +kernel
theorem d_Sk_waitingOfFirm_12 : decode cX4_waitingOfFirm 12 = .ok (.istore 5, 2) := by decide +kernel
theorem d_Sk_waitingOfFirm_14 : decode cX4_waitingOfFirm 14 = .ok (.iload 5, 2) := by decide +kernel
theorem d_Sk_waitingOfFirm_16 : decode cX4_waitingOfFirm 16 = .ok (.iload 4, 2) := by decide +kernel
theorem d_Sk_waitingOfFirm_18 : decode cX4_waitingOfFirm 18 = .ok (.if_icmp .ge 60, 3) := by decide +kernel
theorem d_Sk_waitingOfFirm_21 : decode cX4_waitingOfFirm 21 = .ok (.aload_n 3, 1) := by decide +kernel
theorem d_Sk_waitingOfFirm_22 : decode cX4_waitingOfFirm 22 = .ok (.iload 5, 2) := by decide +kernel
theorem d_Sk_waitingOfFirm_24 : decode cX4_waitingOfFirm 24 = .ok (.aaload, 1) := by decide +kernel
theorem d_Sk_waitingOfFirm_25 : decode cX4_waitingOfFirm 25 = .ok (.astore 6, 2) := by decide +kernel
theorem d_Sk_waitingOfFirm_27 : decode cX4_waitingOfFirm 27 = .ok (.aload 6, 2) := by decide +kernel
theorem d_Sk_waitingOfFirm_29 : decode cX4_waitingOfFirm 29 = .ok (.ifnull 11, 3) := by decide +kernel
theorem d_Sk_waitingOfFirm_32 : decode cX4_waitingOfFirm 32 = .ok (.aload 6, 2) := by decide +kernel
theorem d_Sk_waitingOfFirm_34 : decode cX4_waitingOfFirm 34 = .ok (.getfield 214, 3) := by decide +kernel
theorem d_Sk_waitingOfFirm_37 : decode cX4_waitingOfFirm 37 = .ok (.ifCond .eq 7, 3) := by decide +kernel
theorem d_Sk_waitingOfFirm_40 : decode cX4_waitingOfFirm 40 = .ok (.aconst_null, 1) := by decide +kernel
theorem d_Sk_waitingOfFirm_41 : decode cX4_waitingOfFirm 41 = .ok (.goto 12, 3) := by decide +kernel
theorem d_Sk_waitingOfFirm_44 : decode cX4_waitingOfFirm 44 = .ok (.aload_n 0, 1) := by decide +kernel
theorem d_Sk_waitingOfFirm_45 : decode cX4_waitingOfFirm 45 = .ok (.aload 6, 2) := by decide +kernel
theorem d_Sk_waitingOfFirm_47 : decode cX4_waitingOfFirm 47 = .ok (.getfield 192, 3) := by decide +kernel
theorem d_Sk_waitingOfFirm_50 : decode cX4_waitingOfFirm 50 = .ok (.invokevirtual 157, 3) := by decide +kernel
theorem d_Sk_waitingOfFirm_53 : decode cX4_waitingOfFirm 53 = .ok (.astore 7, 2) := by decide +kernel
theorem d_Sk_waitingOfFirm_55 : decode cX4_waitingOfFirm 55 = .ok (.aload 7, 2) := by decide +kernel
theorem d_Sk_waitingOfFirm_57 : decode cX4_waitingOfFirm 57 = .ok (.ifnull 15, 3) := by decide +kernel
theorem d_Sk_waitingOfFirm_60 : decode cX4_waitingOfFirm 60 = .ok (.aload 7, 2) := by decide +kernel
theorem d_Sk_waitingOfFirm_62 : decode cX4_waitingOfFirm 62 = .ok (.getfield 281, 3) := by decide +kernel
theorem d_Sk_waitingOfFirm_65 : decode cX4_waitingOfFirm 65 = .ok (.iload_n 1, 1) := by decide +kernel
theorem d_Sk_waitingOfFirm_66 : decode cX4_waitingOfFirm 66 = .ok (.if_icmp .ne 6, 3) := by decide +kernel
theorem d_Sk_waitingOfFirm_69 : decode cX4_waitingOfFirm 69 = .ok (.iinc 2 1, 3) := by decide +kernel
theorem d_Sk_waitingOfFirm_72 : decode cX4_waitingOfFirm 72 = .ok (.iinc 5 1, 3) := by decide +kernel
theorem d_Sk_waitingOfFirm_75 : decode cX4_waitingOfFirm 75 = .ok (.goto (-61), 3) := by decide +kernel
theorem d_Sk_waitingOfFirm_78 : decode cX4_waitingOfFirm 78 = .ok (.iload_n 2, 1) := by decide +kernel
theorem d_Sk_waitingOfFirm_79 : decode cX4_waitingOfFirm 79 = .ok (.ireturn, 1) := by decide +kernel
set_option maxRecDepth 100000 in
set_option maxHeartbeats 4000000 in
theorem w_j_Sk_waitingOfFirm_53 {X : CX} {KX : Int32 → Prop} {k : Nat} {a1 : Int32} {a2 : Int32} {a3 : Option Nat} {a4 : Int32} {a5 : Int32} {t0 : Option Nat} {s : MS} {rec : Int32 → Int32 → Option (Int32)} (ok : Ok X cX4_waitingOfFirm RX4 rm_Sk_waitingOfFirm 8 false) (hexit : ∀ (e2 : Int32), KX e2 → G X s 0 0 78 [(0, vR (some k)), (2, vI e2)] []) (hrec : ∀ (v2 : Int32) (v5 : Int32), ∀ y, rec v2 v5 = some y → KX y → G X s 0 0 14 [(0, vR (some k)), (1, vI a1), (2, vI v2), (3, vR a3), (4, vI a4), (5, vI v5)] []) (ht : rf s.2.2 0 (some k) = some k) {res : Int32} (h : j_Sk_waitingOfFirm_53 k a1 a2 a3 a4 a5 t0 s rec = some res) (hk : KX res) : G X s 0 0 53 [(0, vR (some k)), (1, vI a1), (2, vI a2), (3, vR a3), (4, vI a4), (5, vI a5)] [vR t0] := by
  unfold j_Sk_waitingOfFirm_53 at h
  refine g_astore (i := 7) [(7, vR t0), (0, vR (some k)), (1, vI a1), (2, vI a2), (3, vR a3), (4, vI a4), (5, vI a5)] ok d_Sk_waitingOfFirm_53 (by decide) rfl ?_
  refine g_aload (i := 7) 0 ok d_Sk_waitingOfFirm_55 rfl ?_
  refine g_ifnull (tgt := 72) ok d_Sk_waitingOfFirm_57 (by decide) (fun c13 => ?_) (fun c13 => ?_)
  · replace h := (if_pos c13).symm.trans h
    obtain ⟨x14, e15⟩ : ∃ z, a5 + (1 : Int32) = z := ⟨_, rfl⟩
    replace h := lt_go h e15
    refine g_iinc (i := 5) (v := x14) 6 [(5, vI x14), (7, vR t0), (0, vR (some k)), (1, vI a1), (2, vI a2), (3, vR a3), (4, vI a4)] ok d_Sk_waitingOfFirm_72 rfl (by rw [← e15]; rfl) (by decide) rfl ?_
    refine g_goto (tgt := 14) ok d_Sk_waitingOfFirm_75 (by decide) ?_
    refine g_sub [2, 3, 4, 5, 6, 0] rfl ?_
    exact hrec a2 x14 _ h hk
  · replace h := (if_neg c13).symm.trans h
    refine g_aload (i := 7) 0 ok d_Sk_waitingOfFirm_60 rfl ?_
    obtain ⟨k16, hk17, h⟩ := bnd_go h
    refine g_getiN (s0 := 11) (j := 0) (ci := 1) (C := RX1) (T := TX1) (N := 7) ok hk17 lay_11 rfl inX1 (by decide) rfl tw_447 rfl d_Sk_waitingOfFirm_62 ?_
    refine g_iload_n (i := 1) 2 ok d_Sk_waitingOfFirm_65 rfl rfl ?_
    refine g_icmp_ne (tgt := 72) ok d_Sk_waitingOfFirm_66 (by decide) (fun c18 => ?_) (fun c18 => ?_)
    · replace h := (if_pos c18).symm.trans h
      obtain ⟨x19, e20⟩ : ∃ z, a2 + (1 : Int32) = z := ⟨_, rfl⟩
      replace h := lt_go h e20
      refine g_iinc (i := 2) (v := x19) 3 [(2, vI x19), (7, vR t0), (0, vR (some k)), (1, vI a1), (3, vR a3), (4, vI a4), (5, vI a5)] ok d_Sk_waitingOfFirm_69 rfl (by rw [← e20]; rfl) (by decide) rfl ?_
      obtain ⟨x21, e22⟩ : ∃ z, a5 + (1 : Int32) = z := ⟨_, rfl⟩
      replace h := lt_go h e22
      refine g_iinc (i := 5) (v := x21) 6 [(5, vI x21), (2, vI x19), (7, vR t0), (0, vR (some k)), (1, vI a1), (3, vR a3), (4, vI a4)] ok d_Sk_waitingOfFirm_72 rfl (by rw [← e22]; rfl) (by decide) rfl ?_
      refine g_goto (tgt := 14) ok d_Sk_waitingOfFirm_75 (by decide) ?_
      refine g_sub [3, 4, 1, 5, 6, 0] rfl ?_
      exact hrec x19 x21 _ h hk
    · replace h := (if_neg c18).symm.trans h
      obtain ⟨x23, e24⟩ : ∃ z, a5 + (1 : Int32) = z := ⟨_, rfl⟩
      replace h := lt_go h e24
      refine g_iinc (i := 5) (v := x23) 6 [(5, vI x23), (7, vR t0), (0, vR (some k)), (1, vI a1), (2, vI a2), (3, vR a3), (4, vI a4)] ok d_Sk_waitingOfFirm_72 rfl (by rw [← e24]; rfl) (by decide) rfl ?_
      refine g_goto (tgt := 14) ok d_Sk_waitingOfFirm_75 (by decide) ?_
      refine g_sub [2, 3, 4, 5, 6, 0] rfl ?_
      exact hrec a2 x23 _ h hk
set_option maxRecDepth 100000 in
set_option maxHeartbeats 4000000 in
theorem w_j_Sk_waitingOfFirm_40 {X : CX} {KX : Int32 → Prop} {k : Nat} {a1 : Int32} {a2 : Int32} {a3 : Option Nat} {a4 : Int32} {a5 : Int32} {s : MS} {rec : Int32 → Int32 → Option (Int32)} (ok : Ok X cX4_waitingOfFirm RX4 rm_Sk_waitingOfFirm 8 false) (hexit : ∀ (e2 : Int32), KX e2 → G X s 0 0 78 [(0, vR (some k)), (2, vI e2)] []) (hrec : ∀ (v2 : Int32) (v5 : Int32), ∀ y, rec v2 v5 = some y → KX y → G X s 0 0 14 [(0, vR (some k)), (1, vI a1), (2, vI v2), (3, vR a3), (4, vI a4), (5, vI v5)] []) (ht : rf s.2.2 0 (some k) = some k) {res : Int32} (h : j_Sk_waitingOfFirm_40 k a1 a2 a3 a4 a5 s rec = some res) (hk : KX res) : G X s 0 0 40 [(0, vR (some k)), (1, vI a1), (2, vI a2), (3, vR a3), (4, vI a4), (5, vI a5)] [] := by
  unfold j_Sk_waitingOfFirm_40 at h
  refine g_null ok d_Sk_waitingOfFirm_40 ?_
  refine g_goto (tgt := 53) ok d_Sk_waitingOfFirm_41 (by decide) ?_
  exact w_j_Sk_waitingOfFirm_53 ok hexit hrec ht h hk
set_option maxRecDepth 100000 in
set_option maxHeartbeats 4000000 in
theorem w_b_Sk_waitingOfFirm_14 {X : CX} {KX : Int32 → Prop} {k : Nat} {a1 : Int32} {a2 : Int32} {a3 : Option Nat} {a4 : Int32} {a5 : Int32} {s : MS} {rec : Int32 → Int32 → Option (Int32)} (ok : Ok X cX4_waitingOfFirm RX4 rm_Sk_waitingOfFirm 8 false) (hexit : ∀ (e2 : Int32), KX e2 → G X s 0 0 78 [(0, vR (some k)), (2, vI e2)] []) (hrec : ∀ (v2 : Int32) (v5 : Int32), ∀ y, rec v2 v5 = some y → KX y → G X s 0 0 14 [(0, vR (some k)), (1, vI a1), (2, vI v2), (3, vR a3), (4, vI a4), (5, vI v5)] []) (ht : rf s.2.2 0 (some k) = some k) {res : Int32} (h : b_Sk_waitingOfFirm_14 k a1 a2 a3 a4 a5 s rec = some res) (hk : KX res) : G X s 0 0 14 [(0, vR (some k)), (1, vI a1), (2, vI a2), (3, vR a3), (4, vI a4), (5, vI a5)] [] := by
  unfold b_Sk_waitingOfFirm_14 at h
  refine g_iload (i := 5) 5 ok d_Sk_waitingOfFirm_14 rfl ?_
  refine g_iload (i := 4) 4 ok d_Sk_waitingOfFirm_16 rfl ?_
  refine g_icmp_ge (tgt := 78) ok d_Sk_waitingOfFirm_18 (by decide) (fun c7 => ?_) (fun c7 => ?_)
  · replace h := (if_pos c7).symm.trans h
    refine g_aload_n (i := 3) 3 ok d_Sk_waitingOfFirm_21 rfl rfl ?_
    refine g_iload (i := 5) 5 ok d_Sk_waitingOfFirm_22 rfl ?_
    obtain ⟨k8, hk9, h⟩ := bnd_go h
    refine g_aald5 ok hk9 d_Sk_waitingOfFirm_24 ?_
    obtain ⟨x10, e11⟩ : ∃ z, (s.2.1 k8 a5.toNatClampNeg) = z := ⟨_, rfl⟩
    replace h := lt_go h e11
    rw [e11]
    refine g_astore (i := 6) [(6, vR x10), (0, vR (some k)), (1, vI a1), (2, vI a2), (3, vR a3), (4, vI a4), (5, vI a5)] ok d_Sk_waitingOfFirm_25 (by decide) rfl ?_
    refine g_aload (i := 6) 0 ok d_Sk_waitingOfFirm_27 rfl ?_
    refine g_ifnull (tgt := 40) ok d_Sk_waitingOfFirm_29 (by decide) (fun c12 => ?_) (fun c12 => ?_)
    · replace h := (if_pos c12).symm.trans h
      refine g_sub [1, 2, 3, 4, 5, 6] rfl ?_
      exact w_j_Sk_waitingOfFirm_40 ok hexit hrec ht h hk
    · replace h := (if_neg c12).symm.trans h
      refine g_aload (i := 6) 0 ok d_Sk_waitingOfFirm_32 rfl ?_
      obtain ⟨k25, hk26, h⟩ := bnd_go h
      refine g_getiN (s0 := 12) (j := 6) (ci := 2) (C := RX2) (T := TX2) (N := 7) ok hk26 lay_12 rfl inX2 (by decide) rfl tw_66 rfl d_Sk_waitingOfFirm_34 ?_
      refine g_if_eq (tgt := 44) ok d_Sk_waitingOfFirm_37 (by decide) (fun c27 => ?_) (fun c27 => ?_)
      · replace h := (if_pos c27).symm.trans h
        refine g_aload_n (i := 0) 1 ok d_Sk_waitingOfFirm_44 rfl rfl ?_
        refine g_aload (i := 6) 0 ok d_Sk_waitingOfFirm_45 rfl ?_
        refine g_getiN (s0 := 12) (j := 2) (ci := 2) (C := RX2) (T := TX2) (N := 7) ok hk26 lay_12 rfl inX2 (by decide) rfl tw_60 rfl d_Sk_waitingOfFirm_47 ?_
        obtain ⟨x29, hc30, h⟩ := bnd_go h
        refine g_invV (rm2 := rm_Sk_machineOf) (As := [vI (s.1 k25 2)]) (rest := []) ok ht lay_0 rfl (c_Sk_machineOf X.1.2.1 (rf_self ht) hc30) cm_Sk_machineOf cv_Sk_machineOf tw_415 ⟨rfl, rfl⟩ ⟨le_t rfl, le_t rfl⟩ ⟨rfl, le_t rfl⟩ ⟨le_t rfl, le_t rfl⟩ d_Sk_waitingOfFirm_50 rfl (fun m28 => ?_)
        show G X s 0 0 53 [(6, vR x10), (0, vR (some k)), (1, vI a1), (2, vI a2), (3, vR a3), (4, vI a4), (5, vI a5)] [vR x29]
        refine g_sub [1, 2, 3, 4, 5, 6] rfl ?_
        exact w_j_Sk_waitingOfFirm_53 ok hexit hrec ht h hk
      · replace h := (if_neg c27).symm.trans h
        refine g_sub [1, 2, 3, 4, 5, 6] rfl ?_
        exact w_j_Sk_waitingOfFirm_40 ok hexit hrec ht h hk
  · replace h := (if_neg c7).symm.trans h
    refine g_sub [0, 2] rfl ?_
    cases h
    exact hexit a2 hk
theorem w_l_Sk_waitingOfFirm_14 {X : CX} {KX : Int32 → Prop} {k : Nat} {a1 : Int32} {a3 : Option Nat} {a4 : Int32} {s : MS} (ok : Ok X cX4_waitingOfFirm RX4 rm_Sk_waitingOfFirm 8 false) (hexit : ∀ (e2 : Int32), KX e2 → G X s 0 0 78 [(0, vR (some k)), (2, vI e2)] []) (ht : rf s.2.2 0 (some k) = some k) : ∀ (n : Nat) (a2 : Int32) (a5 : Int32) {res : Int32}, l_Sk_waitingOfFirm_14 k a1 a3 a4 s n a2 a5 = some res → KX res → G X s 0 0 14 [(0, vR (some k)), (1, vI a1), (2, vI a2), (3, vR a3), (4, vI a4), (5, vI a5)] [] := by
  intro n
  induction n with
  | zero => intro _ _ res h; cases h
  | succ n ih =>
    intro a2 a5 res h hk
    exact w_b_Sk_waitingOfFirm_14 ok hexit (fun v2 v5 y h2 hk2 => ih v2 v5 h2 hk2) ht h hk
set_option maxRecDepth 100000 in
set_option maxHeartbeats 4000000 in
theorem w_Sk_waitingOfFirm {X : CX} {KX : Int32 → Prop} {k : Nat} {a1 : Int32} {s : MS} (ok : Ok X cX4_waitingOfFirm RX4 rm_Sk_waitingOfFirm 8 false) (hret : ∀ r : Int32, KX r → Fin X (some .int) 0 0 false (some (vI r)) s)   (ht : rf s.2.2 0 (some k) = some k) {res : Int32} (h : f_Sk_waitingOfFirm k a1 s = some res) (hk : KX res) : G X s 0 0 0 [(0, vR (some k)), (1, vI a1)] [] := by
  unfold f_Sk_waitingOfFirm at h
  refine g_iconst (v := (0 : Int32)) ok d_Sk_waitingOfFirm_0 (by decide) ?_
  refine g_istore_n (i := 2) [(2, vI (0 : Int32)), (0, vR (some k)), (1, vI a1)] ok d_Sk_waitingOfFirm_1 rfl (by decide) rfl ?_
  refine g_aload_n (i := 0) 1 ok d_Sk_waitingOfFirm_2 rfl rfl ?_
  refine g_getr (s0 := 0) (j := 3) (ci := 4) (C := RX4) (T := TX4) (N := 14) ok ht lay_0 rfl inX4 (by decide) rfl tw_85 rfl d_Sk_waitingOfFirm_3 ?_
  obtain ⟨x1, e2⟩ : ∃ z, (s.2.1 k 3) = z := ⟨_, rfl⟩
  replace h := lt_go h e2
  rw [e2]
  refine g_astore_n (i := 3) [(3, vR x1), (2, vI (0 : Int32)), (0, vR (some k)), (1, vI a1)] ok d_Sk_waitingOfFirm_6 rfl (by decide) rfl ?_
  refine g_aload_n (i := 3) 0 ok d_Sk_waitingOfFirm_7 rfl rfl ?_
  obtain ⟨n3, hn4, h⟩ := bnd_go h
  refine g_alen ok hn4 (by decide) d_Sk_waitingOfFirm_8 ?_
  obtain ⟨x5, e6⟩ : ∃ z, (Int32.ofNat n3) = z := ⟨_, rfl⟩
  replace h := lt_go h e6
  rw [e6]
  refine g_istore (i := 4) [(4, vI x5), (3, vR x1), (2, vI (0 : Int32)), (0, vR (some k)), (1, vI a1)] ok d_Sk_waitingOfFirm_9 (by decide) rfl ?_
  refine g_iconst (v := (0 : Int32)) ok d_Sk_waitingOfFirm_11 (by decide) ?_
  refine g_istore (i := 5) [(5, vI (0 : Int32)), (4, vI x5), (3, vR x1), (2, vI (0 : Int32)), (0, vR (some k)), (1, vI a1)] ok d_Sk_waitingOfFirm_12 (by decide) rfl ?_
  refine g_sub [4, 5, 3, 2, 1, 0] rfl ?_
  obtain ⟨e31, hx, h⟩ := bnd_go h
  refine w_l_Sk_waitingOfFirm_14 (KX := fun y => y = e31) ok (fun y0 he => ?_) ht _ _ _ hx rfl
  cases he
  refine g_iload_n (i := 2) 1 ok d_Sk_waitingOfFirm_78 rfl rfl ?_
  cases h
  exact g_iret ok (hret _ hk) (by decide) (by decide) d_Sk_waitingOfFirm_79
theorem c_Sk_waitingOfFirm (l : Launch) {k : Nat} {a1 : Int32} {s : MS} (ht : rf s.2.2 0 (some k) = some k) {r : Int32} (h : f_Sk_waitingOfFirm k a1 s = some r) : Ct l yX4_waitingOfFirm (.code yX4_waitingOfFirm cX4_waitingOfFirm 8 (some .int)) rm_Sk_waitingOfFirm 0 0 false [vR (some k), vI a1] s (some (vI r)) s :=
  Ct.of rfl (by decide +kernel) ⟨rfl, le_t rfl⟩ (fun X ok fn _ hI hl => w_Sk_waitingOfFirm (KX := fun y => y = r) ok (fun y hy => by subst hy; exact fn) ht h rfl)
abbrev rm_Sk_roomHolding : Room := { frames := 3, cells := 0, slots := 0, locals := 67 }
theorem cm_Sk_roomHolding : cfM yX4_roomHolding cX4_roomHolding 4 (some .int) 2 := ⟨tw_544, tw_1, by decide, by decide, by decide +kernel⟩
theorem cv_Sk_roomHolding : cfV yX4_roomHolding := ⟨tw_543, ts_X4_roomHolding⟩
theorem d_Sk_roomHolding_0 : decode cX4_roomHolding 0 = .ok (.iconst 0, 1) := by decide +kernel
theorem d_Sk_roomHolding_1 : decode cX4_roomHolding 1 = .ok (.istore_n 3, 1) := by decide +kernel
theorem d_Sk_roomHolding_2 : decode cX4_roomHolding 2 = .ok (.iload_n 3, 1) := by decide +kernel
theorem d_Sk_roomHolding_3 : decode cX4_roomHolding 3 = .ok (.aload_n 0, 1) := by decide +kernel
theorem d_Sk_roomHolding_4 : decode cX4_roomHolding 4 = .ok (.getfield 18, 3) := by decide +kernel
theorem d_Sk_roomHolding_7 : decode cX4_roomHolding 7 = .ok (.arraylength, 1) := by decide +kernel
theorem d_Sk_roomHolding_8 : decode cX4_roomHolding 8 = .ok (.if_icmp .ge 25, 3) := by decide +kernel
theorem d_Sk_roomHolding_11 : decode cX4_roomHolding 11 = .ok (.aload_n 1, 1) := by decide +kernel
theorem d_Sk_roomHolding_12 : decode cX4_roomHolding 12 = .ok (.iload_n 2, 1) := by decide +kernel
theorem d_Sk_roomHolding_13 : decode cX4_roomHolding 13 = .ok (.aload_n 0, 1) := by decide +kernel
theorem d_Sk_roomHolding_14 : decode cX4_roomHolding 14 = .ok (.getfield 18, 3) := by decide +kernel
theorem d_Sk_roomHolding_17 : decode cX4_roomHolding 17 = .ok (.iload_n 3, 1) := by decide +kernel
theorem d_Sk_roomHolding_18 : decode cX4_roomHolding 18 = .ok (.aaload, 1) := by decide +kernel
theorem d_Sk_roomHolding_19 : decode cX4_roomHolding 19 = .ok (.invokestatic 335, 3) := by decide +kernel
theorem d_Sk_roomHolding_22 : decode cX4_roomHolding 22 = .ok (.ifCond .eq 5, 3) := by decide +kernel
theorem d_Sk_roomHolding_25 : decode cX4_roomHolding 25 = .ok (.iload_n 3, 1) := by decide +kernel
theorem d_Sk_roomHolding_26 : decode cX4_roomHolding 26 = .ok (.ireturn, 1) := by decide +kernel
theorem d_Sk_roomHolding_27 : decode cX4_roomHolding 27 = .ok (.iinc 3 1, 3) := by decide +kernel
theorem d_Sk_roomHolding_30 : decode cX4_roomHolding 30 = .ok (.goto (-28), 3) := by decide +kernel
theorem d_Sk_roomHolding_33 : decode cX4_roomHolding 33 = .ok (.iconst (-1), 1) := by decide +kernel
theorem d_Sk_roomHolding_34 : decode cX4_roomHolding 34 = .ok (.ireturn, 1) := by decide +kernel
set_option maxRecDepth 100000 in
set_option maxHeartbeats 4000000 in
theorem w_b_Sk_roomHolding_2 {X : CX} {KX : (Int32) ⊕ (Unit) → Prop} {k : Nat} {a1 : Option Nat} {a2 : Int32} {a3 : Int32} {s : MS} {rec : Int32 → Option ((Int32) ⊕ (Unit))} (ok : Ok X cX4_roomHolding RX4 rm_Sk_roomHolding 4 false) (hret : ∀ r : Int32, KX (.inl r) → Fin X (some .int) 0 0 false (some (vI r)) s) (hexit : KX (.inr ()) → G X s 0 0 33 [(0, vR (some k))] []) (hrec : ∀ (v3 : Int32), ∀ y, rec v3 = some y → KX y → G X s 0 0 2 [(0, vR (some k)), (1, vR a1), (2, vI a2), (3, vI v3)] []) (ht : rf s.2.2 0 (some k) = some k) {res : (Int32) ⊕ (Unit)} (h : b_Sk_roomHolding_2 k a1 a2 a3 s rec = some res) (hk : KX res) : G X s 0 0 2 [(0, vR (some k)), (1, vR a1), (2, vI a2), (3, vI a3)] [] := by
  unfold b_Sk_roomHolding_2 at h
  refine g_iload_n (i := 3) 3 ok d_Sk_roomHolding_2 rfl rfl ?_
  refine g_aload_n (i := 0) 0 ok d_Sk_roomHolding_3 rfl rfl ?_
  refine g_getr (s0 := 0) (j := 1) (ci := 4) (C := RX4) (T := TX4) (N := 14) ok ht lay_0 rfl inX4 (by decide) rfl tw_83 rfl d_Sk_roomHolding_4 ?_
  obtain ⟨n1, hn2, h⟩ := bnd_go h
  refine g_alen ok hn2 (by decide) d_Sk_roomHolding_7 ?_
  refine g_icmp_ge (tgt := 33) ok d_Sk_roomHolding_8 (by decide) (fun c3 => ?_) (fun c3 => ?_)
  · replace h := (if_pos c3).symm.trans h
    refine g_aload_n (i := 1) 1 ok d_Sk_roomHolding_11 rfl rfl ?_
    refine g_iload_n (i := 2) 2 ok d_Sk_roomHolding_12 rfl rfl ?_
    refine g_aload_n (i := 0) 0 ok d_Sk_roomHolding_13 rfl rfl ?_
    refine g_getr (s0 := 0) (j := 1) (ci := 4) (C := RX4) (T := TX4) (N := 14) ok ht lay_0 rfl inX4 (by decide) rfl tw_83 rfl d_Sk_roomHolding_14 ?_
    refine g_iload_n (i := 3) 3 ok d_Sk_roomHolding_17 rfl rfl ?_
    obtain ⟨k4, hk5, h⟩ := bnd_go h
    refine g_aald3 ok hk5 d_Sk_roomHolding_18 ?_
    obtain ⟨x7, hc8, h⟩ := bnd_go h
    refine g_invS (rm2 := rm_Sk_isInRoom) (As := [vR a1, vI a2, vR (s.2.1 k4 a3.toNatClampNeg)]) (rest := []) ok (c_Sk_isInRoom X.1.2.1 hc8) cm_Sk_isInRoom cs_Sk_isInRoom tw_407 ⟨rfl, rfl⟩ ⟨le_t rfl, le_t rfl⟩ ⟨rfl, le_t rfl⟩ ⟨le_t rfl, le_t rfl⟩ d_Sk_roomHolding_19 rfl (fun m6 => ?_)
    show G X s 0 0 22 [(0, vR (some k)), (1, vR a1), (2, vI a2), (3, vI a3)] [vI x7]
    refine g_if_eq (tgt := 27) ok d_Sk_roomHolding_22 (by decide) (fun c9 => ?_) (fun c9 => ?_)
    · replace h := (if_pos c9).symm.trans h
      obtain ⟨x10, e11⟩ : ∃ z, a3 + (1 : Int32) = z := ⟨_, rfl⟩
      replace h := lt_go h e11
      refine g_iinc (i := 3) (v := x10) 3 [(3, vI x10), (0, vR (some k)), (1, vR a1), (2, vI a2)] ok d_Sk_roomHolding_27 rfl (by rw [← e11]; rfl) (by decide) rfl ?_
      refine g_goto (tgt := 2) ok d_Sk_roomHolding_30 (by decide) ?_
      refine g_sub [1, 2, 3, 0] rfl ?_
      exact hrec x10 _ h hk
    · replace h := (if_neg c9).symm.trans h
      refine g_iload_n (i := 3) 3 ok d_Sk_roomHolding_25 rfl rfl ?_
      cases h
      exact g_iret ok (hret _ hk) (by decide) (by decide) d_Sk_roomHolding_26
  · replace h := (if_neg c3).symm.trans h
    refine g_sub [0] rfl ?_
    cases h
    exact hexit hk
theorem w_l_Sk_roomHolding_2 {X : CX} {KX : (Int32) ⊕ (Unit) → Prop} {k : Nat} {a1 : Option Nat} {a2 : Int32} {s : MS} (ok : Ok X cX4_roomHolding RX4 rm_Sk_roomHolding 4 false) (hret : ∀ r : Int32, KX (.inl r) → Fin X (some .int) 0 0 false (some (vI r)) s) (hexit : KX (.inr ()) → G X s 0 0 33 [(0, vR (some k))] []) (ht : rf s.2.2 0 (some k) = some k) : ∀ (n : Nat) (a3 : Int32) {res : (Int32) ⊕ (Unit)}, l_Sk_roomHolding_2 k a1 a2 s n a3 = some res → KX res → G X s 0 0 2 [(0, vR (some k)), (1, vR a1), (2, vI a2), (3, vI a3)] [] := by
  intro n
  induction n with
  | zero => intro _ res h; cases h
  | succ n ih =>
    intro a3 res h hk
    exact w_b_Sk_roomHolding_2 ok hret hexit (fun v3 y h2 hk2 => ih v3 h2 hk2) ht h hk
set_option maxRecDepth 100000 in
set_option maxHeartbeats 4000000 in
theorem w_Sk_roomHolding {X : CX} {KX : Int32 → Prop} {k : Nat} {a1 : Option Nat} {a2 : Int32} {s : MS} (ok : Ok X cX4_roomHolding RX4 rm_Sk_roomHolding 4 false) (hret : ∀ r : Int32, KX r → Fin X (some .int) 0 0 false (some (vI r)) s)   (ht : rf s.2.2 0 (some k) = some k) {res : Int32} (h : f_Sk_roomHolding k a1 a2 s = some res) (hk : KX res) : G X s 0 0 0 [(0, vR (some k)), (1, vR a1), (2, vI a2)] [] := by
  unfold f_Sk_roomHolding at h
  refine g_iconst (v := (0 : Int32)) ok d_Sk_roomHolding_0 (by decide) ?_
  refine g_istore_n (i := 3) [(3, vI (0 : Int32)), (0, vR (some k)), (1, vR a1), (2, vI a2)] ok d_Sk_roomHolding_1 rfl (by decide) rfl ?_
  refine g_sub [1, 2, 3, 0] rfl ?_
  rcases el0_go h with ⟨r, hx, h⟩ | ⟨hx, h⟩
  · refine w_l_Sk_roomHolding_2 (KX := fun y => y = .inl r) ok (fun r2 he => ?_) (fun he => by cases he) ht _ _ hx rfl
    cases he
    cases h
    exact hret _ hk
  · refine w_l_Sk_roomHolding_2 (KX := fun y => y = .inr ()) ok (fun r2 he => by cases he) (fun he => ?_) ht _ _ hx rfl
    cases he
    refine g_iconst (v := (-1 : Int32)) ok d_Sk_roomHolding_33 (by decide) ?_
    cases h
    exact g_iret ok (hret _ hk) (by decide) (by decide) d_Sk_roomHolding_34
theorem c_Sk_roomHolding (l : Launch) {k : Nat} {a1 : Option Nat} {a2 : Int32} {s : MS} (ht : rf s.2.2 0 (some k) = some k) {r : Int32} (h : f_Sk_roomHolding k a1 a2 s = some r) : Ct l yX4_roomHolding (.code yX4_roomHolding cX4_roomHolding 4 (some .int)) rm_Sk_roomHolding 0 0 false [vR (some k), vR a1, vI a2] s (some (vI r)) s :=
  Ct.of rfl (by decide +kernel) ⟨rfl, le_t rfl⟩ (fun X ok fn _ hI hl => w_Sk_roomHolding (KX := fun y => y = r) ok (fun y hy => by subst hy; exact fn) ht h rfl)
abbrev rm_Sk_givesWay : Room := { frames := 0, cells := 0, slots := 0, locals := 0 }
theorem cm_Sk_givesWay : cfM yX4_givesWay cX4_givesWay 2 (some .boolean) 2 := ⟨tw_551, tw_1, by decide, by decide, by decide +kernel⟩
theorem cs_Sk_givesWay : cfS yX4_givesWay := tw_550
theorem d_Sk_givesWay_0 : decode cX4_givesWay 0 = .ok (.aload_n 1, 1) := by decide +kernel
theorem d_Sk_givesWay_1 : decode cX4_givesWay 1 = .ok (.getfield 214, 3) := by decide +kernel
theorem d_Sk_givesWay_4 : decode cX4_givesWay 4 = .ok (.iconst 1, 1) := by decide +kernel
theorem d_Sk_givesWay_5 : decode cX4_givesWay 5 = .ok (.if_icmp .eq 21, 3) := by decide +kernel
theorem d_Sk_givesWay_8 : decode cX4_givesWay 8 = .ok (.aload_n 1, 1) := by decide +kernel
theorem d_Sk_givesWay_9 : decode cX4_givesWay 9 = .ok (.getfield 214, 3) := by decide +kernel
theorem d_Sk_givesWay_12 : decode cX4_givesWay 12 = .ok (.ifCond .ne 18, 3) := by decide +kernel
theorem d_Sk_givesWay_15 : decode cX4_givesWay 15 = .ok (.aload_n 1, 1) := by decide +kernel
theorem d_Sk_givesWay_16 : decode cX4_givesWay 16 = .ok (.getfield 198, 3) := by decide +kernel
theorem d_Sk_givesWay_19 : decode cX4_givesWay 19 = .ok (.aload_n 0, 1) := by decide +kernel
theorem d_Sk_givesWay_20 : decode cX4_givesWay 20 = .ok (.getfield 198, 3) := by decide +kernel
theorem d_Sk_givesWay_23 : decode cX4_givesWay 23 = .ok (.if_icmp .gt 7, 3) := by decide +kernel
theorem d_Sk_givesWay_26 : decode cX4_givesWay 26 = .ok (.iconst 1, 1) := by decide +kernel
theorem d_Sk_givesWay_27 : decode cX4_givesWay 27 = .ok (.goto 4, 3) := by decide +kernel
theorem d_Sk_givesWay_30 : decode cX4_givesWay 30 = .ok (.iconst 0, 1) := by decide +kernel
theorem d_Sk_givesWay_31 : decode cX4_givesWay 31 = .ok (.ireturn, 1) := by decide +kernel
set_option maxRecDepth 100000 in
set_option maxHeartbeats 4000000 in
theorem w_Sk_givesWay {X : CX} {KX : Int32 → Prop} {a0 : Option Nat} {a1 : Option Nat} {s : MS} (ok : Ok X cX4_givesWay RX4 rm_Sk_givesWay 2 false) (hret : ∀ r : Int32, KX r → Fin X (some .boolean) 0 0 false (some (vI r)) s)    {res : Int32} (h : f_Sk_givesWay a0 a1 s = some res) (hk : KX res) : G X s 0 0 0 [(0, vR a0), (1, vR a1)] [] := by
  unfold f_Sk_givesWay at h
  refine g_aload_n (i := 1) 1 ok d_Sk_givesWay_0 rfl rfl ?_
  obtain ⟨k1, hk2, h⟩ := bnd_go h
  refine g_getiN (s0 := 12) (j := 6) (ci := 2) (C := RX2) (T := TX2) (N := 7) ok hk2 lay_12 rfl inX2 (by decide) rfl tw_66 rfl d_Sk_givesWay_1 ?_
  refine g_iconst (v := (1 : Int32)) ok d_Sk_givesWay_4 (by decide) ?_
  refine g_icmp_eq (tgt := 26) ok d_Sk_givesWay_5 (by decide) (fun c3 => ?_) (fun c3 => ?_)
  · replace h := (if_pos c3).symm.trans h
    refine g_iconst (v := (1 : Int32)) ok d_Sk_givesWay_26 (by decide) ?_
    refine g_goto (tgt := 31) ok d_Sk_givesWay_27 (by decide) ?_
    cases h
    exact g_zret ok (hret _ hk) (Or.inr rfl) (by decide) (by decide) d_Sk_givesWay_31
  · replace h := (if_neg c3).symm.trans h
    refine g_aload_n (i := 1) 1 ok d_Sk_givesWay_8 rfl rfl ?_
    refine g_getiN (s0 := 12) (j := 6) (ci := 2) (C := RX2) (T := TX2) (N := 7) ok hk2 lay_12 rfl inX2 (by decide) rfl tw_66 rfl d_Sk_givesWay_9 ?_
    refine g_if_ne (tgt := 30) ok d_Sk_givesWay_12 (by decide) (fun c4 => ?_) (fun c4 => ?_)
    · replace h := (if_pos c4).symm.trans h
      refine g_aload_n (i := 1) 1 ok d_Sk_givesWay_15 rfl rfl ?_
      refine g_getiN (s0 := 12) (j := 5) (ci := 2) (C := RX2) (T := TX2) (N := 7) ok hk2 lay_12 rfl inX2 (by decide) rfl tw_65 rfl d_Sk_givesWay_16 ?_
      refine g_aload_n (i := 0) 0 ok d_Sk_givesWay_19 rfl rfl ?_
      obtain ⟨k5, hk6, h⟩ := bnd_go h
      refine g_getiN (s0 := 12) (j := 5) (ci := 2) (C := RX2) (T := TX2) (N := 7) ok hk6 lay_12 rfl inX2 (by decide) rfl tw_65 rfl d_Sk_givesWay_20 ?_
      refine g_icmp_gt (tgt := 30) ok d_Sk_givesWay_23 (by decide) (fun c7 => ?_) (fun c7 => ?_)
      · replace h := (if_pos c7).symm.trans h
        refine g_iconst (v := (0 : Int32)) ok d_Sk_givesWay_30 (by decide) ?_
        cases h
        exact g_zret ok (hret _ hk) (Or.inl rfl) (by decide) (by decide) d_Sk_givesWay_31
      · replace h := (if_neg c7).symm.trans h
        refine g_iconst (v := (1 : Int32)) ok d_Sk_givesWay_26 (by decide) ?_
        refine g_goto (tgt := 31) ok d_Sk_givesWay_27 (by decide) ?_
        cases h
        exact g_zret ok (hret _ hk) (Or.inr rfl) (by decide) (by decide) d_Sk_givesWay_31
    · replace h := (if_neg c4).symm.trans h
      refine g_iconst (v := (0 : Int32)) ok d_Sk_givesWay_30 (by decide) ?_
      cases h
      exact g_zret ok (hret _ hk) (Or.inl rfl) (by decide) (by decide) d_Sk_givesWay_31
theorem c_Sk_givesWay (l : Launch) {a0 : Option Nat} {a1 : Option Nat} {s : MS}  {r : Int32} (h : f_Sk_givesWay a0 a1 s = some r) : Ct l yX4_givesWay (.code yX4_givesWay cX4_givesWay 2 (some .boolean)) rm_Sk_givesWay 0 0 false [vR a0, vR a1] s (some (vI r)) s :=
  Ct.of rfl (by decide +kernel) ⟨rfl, le_t rfl⟩ (fun X ok fn _ hI hl => w_Sk_givesWay (KX := fun y => y = r) ok (fun y hy => by subst hy; exact fn) h rfl)
abbrev rm_Sk_isThereAbout : Room := { frames := 2, cells := 0, slots := 0, locals := 42 }
theorem cm_Sk_isThereAbout : cfM yX4_isThereAbout cX4_isThereAbout 4 (some .boolean) 4 := ⟨tw_557, tw_1, by decide, by decide, by decide +kernel⟩
theorem cs_Sk_isThereAbout : cfS yX4_isThereAbout := tw_556
theorem d_Sk_isThereAbout_0 : decode cX4_isThereAbout 0 = .ok (.iload_n 2, 1) := by decide +kernel
theorem d_Sk_isThereAbout_1 : decode cX4_isThereAbout 1 = .ok (.iconst 1, 1) := by decide +kernel
theorem d_Sk_isThereAbout_2 : decode cX4_isThereAbout 2 = .ok (.isub, 1) := by decide +kernel
theorem d_Sk_isThereAbout_3 : decode cX4_isThereAbout 3 = .ok (.iload_n 3, 1) := by decide +kernel
theorem d_Sk_isThereAbout_4 : decode cX4_isThereAbout 4 = .ok (.if_icmp .lt 14, 3) := by decide +kernel
theorem d_Sk_isThereAbout_7 : decode cX4_isThereAbout 7 = .ok (.aload_n 0, 1) := by decide +kernel
theorem d_Sk_isThereAbout_8 : decode cX4_isThereAbout 8 = .ok (.iload_n 2, 1) := by decide +kernel
theorem d_Sk_isThereAbout_9 : decode cX4_isThereAbout 9 = .ok (.iconst 1, 1) := by decide +kernel
theorem d_Sk_isThereAbout_10 : decode cX4_isThereAbout 10 = .ok (.isub, 1) := by decide +kernel
theorem d_Sk_isThereAbout_11 : decode cX4_isThereAbout 11 = .ok (.invokevirtual 270, 3) := by decide +kernel
theorem d_Sk_isThereAbout_14 : decode cX4_isThereAbout 14 = .ok (.iload_n 1, 1) := by decide +kernel
theorem d_Sk_isThereAbout_15 : decode cX4_isThereAbout 15 = .ok (.if_icmp .eq 23, 3) := by decide +kernel
theorem d_Sk_isThereAbout_18 : decode cX4_isThereAbout 18 = .ok (.aload_n 0, 1) := by decide +kernel
theorem d_Sk_isThereAbout_19 : decode cX4_isThereAbout 19 = .ok (.iload_n 2, 1) := by decide +kernel
theorem d_Sk_isThereAbout_20 : decode cX4_isThereAbout 20 = .ok (.invokevirtual 270, 3) := by decide +kernel
theorem d_Sk_isThereAbout_23 : decode cX4_isThereAbout 23 = .ok (.iload_n 1, 1) := by decide +kernel
theorem d_Sk_isThereAbout_24 : decode cX4_isThereAbout 24 = .ok (.if_icmp .eq 14, 3) := by decide +kernel
theorem d_Sk_isThereAbout_27 : decode cX4_isThereAbout 27 = .ok (.aload_n 0, 1) := by decide +kernel
theorem d_Sk_isThereAbout_28 : decode cX4_isThereAbout 28 = .ok (.iload_n 2, 1) := by decide +kernel
theorem d_Sk_isThereAbout_29 : decode cX4_isThereAbout 29 = .ok (.iconst 1, 1) := by decide +kernel
theorem d_Sk_isThereAbout_30 : decode cX4_isThereAbout 30 = .ok (.iadd, 1) := by decide +kernel
theorem d_Sk_isThereAbout_31 : decode cX4_isThereAbout 31 = .ok (.invokevirtual 270, 3) := by decide +kernel
theorem d_Sk_isThereAbout_34 : decode cX4_isThereAbout 34 = .ok (.iload_n 1, 1) := by decide +kernel
theorem d_Sk_isThereAbout_35 : decode cX4_isThereAbout 35 = .ok (.if_icmp .ne 7, 3) := by decide +kernel
theorem d_Sk_isThereAbout_38 : decode cX4_isThereAbout 38 = .ok (.iconst 1, 1) := by decide +kernel
theorem d_Sk_isThereAbout_39 : decode cX4_isThereAbout 39 = .ok (.goto 4, 3) := by decide +kernel
theorem d_Sk_isThereAbout_42 : decode cX4_isThereAbout 42 = .ok (.iconst 0, 1) := by decide +kernel
theorem d_Sk_isThereAbout_43 : decode cX4_isThereAbout 43 = .ok (.ireturn, 1) := by decide +kernel
set_option maxRecDepth 100000 in
set_option maxHeartbeats 4000000 in
theorem w_j_Sk_isThereAbout_18 {X : CX} {KX : Int32 → Prop} {a0 : Option Nat} {a1 : Int32} {a2 : Int32} {s : MS} (ok : Ok X cX4_isThereAbout RX4 rm_Sk_isThereAbout 4 false) (hret : ∀ r : Int32, KX r → Fin X (some .boolean) 0 0 false (some (vI r)) s) {res : Int32} (h : j_Sk_isThereAbout_18 a0 a1 a2 s = some res) (hk : KX res) : G X s 0 0 18 [(0, vR a0), (1, vI a1), (2, vI a2)] [] := by
  unfold j_Sk_isThereAbout_18 at h
  refine g_aload_n (i := 0) 0 ok d_Sk_isThereAbout_18 rfl rfl ?_
  refine g_iload_n (i := 2) 2 ok d_Sk_isThereAbout_19 rfl rfl ?_
  obtain ⟨k2, hk3, h⟩ := bnd_go h
  obtain ⟨x5, hc6, h⟩ := bnd_go h
  refine g_invVN (rm2 := rm_Pa_placeWhen) (As := [vI a2]) (rest := []) ok hk3 lay_12 rfl (c_Pa_placeWhen X.1.2.1 (rf_self hk3) hc6) cm_Pa_placeWhen cv_Pa_placeWhen tw_156 ⟨rfl, rfl⟩ ⟨le_t rfl, le_t rfl⟩ ⟨rfl, le_t rfl⟩ ⟨le_t rfl, le_t rfl⟩ d_Sk_isThereAbout_20 rfl (fun m4 => ?_)
  show G X s 0 0 23 [(0, vR a0), (1, vI a1), (2, vI a2)] [vI x5]
  refine g_iload_n (i := 1) 1 ok d_Sk_isThereAbout_23 rfl rfl ?_
  refine g_icmp_eq (tgt := 38) ok d_Sk_isThereAbout_24 (by decide) (fun c7 => ?_) (fun c7 => ?_)
  · replace h := (if_pos c7).symm.trans h
    refine g_iconst (v := (1 : Int32)) ok d_Sk_isThereAbout_38 (by decide) ?_
    refine g_goto (tgt := 43) ok d_Sk_isThereAbout_39 (by decide) ?_
    cases h
    exact g_zret ok (hret _ hk) (Or.inr rfl) (by decide) (by decide) d_Sk_isThereAbout_43
  · replace h := (if_neg c7).symm.trans h
    refine g_aload_n (i := 0) 0 ok d_Sk_isThereAbout_27 rfl rfl ?_
    refine g_iload_n (i := 2) 2 ok d_Sk_isThereAbout_28 rfl rfl ?_
    refine g_iconst (v := (1 : Int32)) ok d_Sk_isThereAbout_29 (by decide) ?_
    refine g_iadd ok d_Sk_isThereAbout_30 ?_
    obtain ⟨x9, hc10, h⟩ := bnd_go h
    refine g_invVN (rm2 := rm_Pa_placeWhen) (As := [vI (a2 + (1 : Int32))]) (rest := []) ok hk3 lay_12 rfl (c_Pa_placeWhen X.1.2.1 (rf_self hk3) hc10) cm_Pa_placeWhen cv_Pa_placeWhen tw_156 ⟨rfl, rfl⟩ ⟨le_t rfl, le_t rfl⟩ ⟨rfl, le_t rfl⟩ ⟨le_t rfl, le_t rfl⟩ d_Sk_isThereAbout_31 rfl (fun m8 => ?_)
    show G X s 0 0 34 [(0, vR a0), (1, vI a1), (2, vI a2)] [vI x9]
    refine g_iload_n (i := 1) 1 ok d_Sk_isThereAbout_34 rfl rfl ?_
    refine g_icmp_ne (tgt := 42) ok d_Sk_isThereAbout_35 (by decide) (fun c11 => ?_) (fun c11 => ?_)
    · replace h := (if_pos c11).symm.trans h
      refine g_iconst (v := (1 : Int32)) ok d_Sk_isThereAbout_38 (by decide) ?_
      refine g_goto (tgt := 43) ok d_Sk_isThereAbout_39 (by decide) ?_
      cases h
      exact g_zret ok (hret _ hk) (Or.inr rfl) (by decide) (by decide) d_Sk_isThereAbout_43
    · replace h := (if_neg c11).symm.trans h
      refine g_iconst (v := (0 : Int32)) ok d_Sk_isThereAbout_42 (by decide) ?_
      cases h
      exact g_zret ok (hret _ hk) (Or.inl rfl) (by decide) (by decide) d_Sk_isThereAbout_43
set_option maxRecDepth 100000 in
set_option maxHeartbeats 4000000 in
theorem w_Sk_isThereAbout {X : CX} {KX : Int32 → Prop} {a0 : Option Nat} {a1 : Int32} {a2 : Int32} {a3 : Int32} {s : MS} (ok : Ok X cX4_isThereAbout RX4 rm_Sk_isThereAbout 4 false) (hret : ∀ r : Int32, KX r → Fin X (some .boolean) 0 0 false (some (vI r)) s)    {res : Int32} (h : f_Sk_isThereAbout a0 a1 a2 a3 s = some res) (hk : KX res) : G X s 0 0 0 [(0, vR a0), (1, vI a1), (2, vI a2), (3, vI a3)] [] := by
  unfold f_Sk_isThereAbout at h
  refine g_iload_n (i := 2) 2 ok d_Sk_isThereAbout_0 rfl rfl ?_
  refine g_iconst (v := (1 : Int32)) ok d_Sk_isThereAbout_1 (by decide) ?_
  refine g_isub ok d_Sk_isThereAbout_2 ?_
  refine g_iload_n (i := 3) 3 ok d_Sk_isThereAbout_3 rfl rfl ?_
  refine g_icmp_lt (tgt := 18) ok d_Sk_isThereAbout_4 (by decide) (fun c1 => ?_) (fun c1 => ?_)
  · replace h := (if_pos c1).symm.trans h
    refine g_sub [0, 1, 2] rfl ?_
    exact w_j_Sk_isThereAbout_18 ok hret h hk
  · replace h := (if_neg c1).symm.trans h
    refine g_aload_n (i := 0) 0 ok d_Sk_isThereAbout_7 rfl rfl ?_
    refine g_iload_n (i := 2) 2 ok d_Sk_isThereAbout_8 rfl rfl ?_
    refine g_iconst (v := (1 : Int32)) ok d_Sk_isThereAbout_9 (by decide) ?_
    refine g_isub ok d_Sk_isThereAbout_10 ?_
    obtain ⟨k12, hk13, h⟩ := bnd_go h
    obtain ⟨x15, hc16, h⟩ := bnd_go h
    refine g_invVN (rm2 := rm_Pa_placeWhen) (As := [vI (a2 - (1 : Int32))]) (rest := []) ok hk13 lay_12 rfl (c_Pa_placeWhen X.1.2.1 (rf_self hk13) hc16) cm_Pa_placeWhen cv_Pa_placeWhen tw_156 ⟨rfl, rfl⟩ ⟨le_t rfl, le_t rfl⟩ ⟨rfl, le_t rfl⟩ ⟨le_t rfl, le_t rfl⟩ d_Sk_isThereAbout_11 rfl (fun m14 => ?_)
    show G X s 0 0 14 [(0, vR a0), (1, vI a1), (2, vI a2), (3, vI a3)] [vI x15]
    refine g_iload_n (i := 1) 1 ok d_Sk_isThereAbout_14 rfl rfl ?_
    refine g_icmp_eq (tgt := 38) ok d_Sk_isThereAbout_15 (by decide) (fun c17 => ?_) (fun c17 => ?_)
    · replace h := (if_pos c17).symm.trans h
      refine g_iconst (v := (1 : Int32)) ok d_Sk_isThereAbout_38 (by decide) ?_
      refine g_goto (tgt := 43) ok d_Sk_isThereAbout_39 (by decide) ?_
      cases h
      exact g_zret ok (hret _ hk) (Or.inr rfl) (by decide) (by decide) d_Sk_isThereAbout_43
    · replace h := (if_neg c17).symm.trans h
      refine g_sub [0, 1, 2] rfl ?_
      exact w_j_Sk_isThereAbout_18 ok hret h hk
theorem c_Sk_isThereAbout (l : Launch) {a0 : Option Nat} {a1 : Int32} {a2 : Int32} {a3 : Int32} {s : MS}  {r : Int32} (h : f_Sk_isThereAbout a0 a1 a2 a3 s = some r) : Ct l yX4_isThereAbout (.code yX4_isThereAbout cX4_isThereAbout 4 (some .boolean)) rm_Sk_isThereAbout 0 0 false [vR a0, vI a1, vI a2, vI a3] s (some (vI r)) s :=
  Ct.of rfl (by decide +kernel) ⟨rfl, le_t rfl⟩ (fun X ok fn _ hI hl => w_Sk_isThereAbout (KX := fun y => y = r) ok (fun y hy => by subst hy; exact fn) h rfl)
abbrev rm_Sk_meetFrom : Room := { frames := 3, cells := 0, slots := 0, locals := 65 }
theorem cm_Sk_meetFrom : cfM yX4_meetFrom cX4_meetFrom 6 (some .boolean) 3 := ⟨tw_554, tw_1, by decide, by decide, by decide +kernel⟩
theorem cs_Sk_meetFrom : cfS yX4_meetFrom := tw_553
theorem d_Sk_meetFrom_0 : decode cX4_meetFrom 0 = .ok (.iconst 0, 1) := by decide +kernel
theorem d_Sk_meetFrom_1 : decode cX4_meetFrom 1 = .ok (.istore_n 3, 1) := by decide +kernel
theorem d_Sk_meetFrom_2 : decode cX4_meetFrom 2 = .ok (.iload_n 3, 1) := by decide +kernel
theorem d_Sk_meetFrom_3 : decode cX4_meetFrom 3 = .ok (.aload_n 0, 1) := by decide +kernel
theorem d_Sk_meetFrom_4 : decode cX4_meetFrom 4 = .ok (.getfield 172, 3) := by decide +kernel
theorem d_Sk_meetFrom_7 : decode cX4_meetFrom 7 = .ok (.if_icmp .gt 52, 3) := by decide +kernel
theorem d_Sk_meetFrom_10 : decode cX4_meetFrom 10 = .ok (.aload_n 0, 1) := by decide +kernel
theorem d_Sk_meetFrom_11 : decode cX4_meetFrom 11 = .ok (.iload_n 3, 1) := by decide +kernel
theorem d_Sk_meetFrom_12 : decode cX4_meetFrom 12 = .ok (.invokevirtual 175, 3) := by decide +kernel
theorem d_Sk_meetFrom_15 : decode cX4_meetFrom 15 = .ok (.istore 4, 2) := by decide +kernel
theorem d_Sk_meetFrom_17 : decode cX4_meetFrom 17 = .ok (.aload_n 0, 1) := by decide +kernel
theorem d_Sk_meetFrom_18 : decode cX4_meetFrom 18 = .ok (.getfield 195, 3) := by decide +kernel
theorem d_Sk_meetFrom_21 : decode cX4_meetFrom 21 = .ok (.iload_n 3, 1) := by decide +kernel
theorem d_Sk_meetFrom_22 : decode cX4_meetFrom 22 = .ok (.iadd, 1) := by decide +kernel
theorem d_Sk_meetFrom_23 : decode cX4_meetFrom 23 = .ok (.istore 5, 2) := by decide +kernel
theorem d_Sk_meetFrom_25 : decode cX4_meetFrom 25 = .ok (.iload 5, 2) := by decide +kernel
theorem d_Sk_meetFrom_27 : decode cX4_meetFrom 27 = .ok (.iload_n 2, 1) := by decide +kernel
theorem d_Sk_meetFrom_28 : decode cX4_meetFrom 28 = .ok (.if_icmp .lt 25, 3) := by decide +kernel
theorem d_Sk_meetFrom_31 : decode cX4_meetFrom 31 = .ok (.iload 4, 2) := by decide +kernel
theorem d_Sk_meetFrom_33 : decode cX4_meetFrom 33 = .ok (.invokestatic 232, 3) := by decide +kernel
theorem d_Sk_meetFrom_36 : decode cX4_meetFrom 36 = .ok (.ifCond .ne 17, 3) := by decide +kernel
theorem d_Sk_meetFrom_39 : decode cX4_meetFrom 39 = .ok (.aload_n 1, 1) := by decide +kernel
theorem d_Sk_meetFrom_40 : decode cX4_meetFrom 40 = .ok (.iload 4, 2) := by decide +kernel
theorem d_Sk_meetFrom_42 : decode cX4_meetFrom 42 = .ok (.iload 5, 2) := by decide +kernel
theorem d_Sk_meetFrom_44 : decode cX4_meetFrom 44 = .ok (.iload_n 2, 1) := by decide +kernel
theorem d_Sk_meetFrom_45 : decode cX4_meetFrom 45 = .ok (.invokestatic 346, 3) := by decide +kernel
theorem d_Sk_meetFrom_48 : decode cX4_meetFrom 48 = .ok (.ifCond .eq 5, 3) := by decide +kernel
theorem d_Sk_meetFrom_51 : decode cX4_meetFrom 51 = .ok (.iconst 1, 1) := by decide +kernel
theorem d_Sk_meetFrom_52 : decode cX4_meetFrom 52 = .ok (.ireturn, 1) := by decide +kernel
theorem d_Sk_meetFrom_53 : decode cX4_meetFrom 53 = .ok (.iinc 3 1, 3) := by decide +kernel
theorem d_Sk_meetFrom_56 : decode cX4_meetFrom 56 = .ok (.goto (-54), 3) := by decide +kernel
theorem d_Sk_meetFrom_59 : decode cX4_meetFrom 59 = .ok (.iconst 0, 1) := by decide +kernel
theorem d_Sk_meetFrom_60 : decode cX4_meetFrom 60 = .ok (.ireturn, 1) := by decide +kernel
set_option maxRecDepth 100000 in
set_option maxHeartbeats 4000000 in
theorem w_b_Sk_meetFrom_2 {X : CX} {KX : (Int32) ⊕ (Unit) → Prop} {a0 : Option Nat} {a1 : Option Nat} {a2 : Int32} {a3 : Int32} {s : MS} {rec : Int32 → Option ((Int32) ⊕ (Unit))} (ok : Ok X cX4_meetFrom RX4 rm_Sk_meetFrom 6 false) (hret : ∀ r : Int32, KX (.inl r) → Fin X (some .boolean) 0 0 false (some (vI r)) s) (hexit : KX (.inr ()) → G X s 0 0 59 [] []) (hrec : ∀ (v3 : Int32), ∀ y, rec v3 = some y → KX y → G X s 0 0 2 [(0, vR a0), (1, vR a1), (2, vI a2), (3, vI v3)] []) {res : (Int32) ⊕ (Unit)} (h : b_Sk_meetFrom_2 a0 a1 a2 a3 s rec = some res) (hk : KX res) : G X s 0 0 2 [(0, vR a0), (1, vR a1), (2, vI a2), (3, vI a3)] [] := by
  unfold b_Sk_meetFrom_2 at h
  refine g_iload_n (i := 3) 3 ok d_Sk_meetFrom_2 rfl rfl ?_
  refine g_aload_n (i := 0) 0 ok d_Sk_meetFrom_3 rfl rfl ?_
  obtain ⟨k1, hk2, h⟩ := bnd_go h
  refine g_getiN (s0 := 12) (j := 4) (ci := 2) (C := RX2) (T := TX2) (N := 7) ok hk2 lay_12 rfl inX2 (by decide) rfl tw_64 rfl d_Sk_meetFrom_4 ?_
  refine g_icmp_gt (tgt := 59) ok d_Sk_meetFrom_7 (by decide) (fun c3 => ?_) (fun c3 => ?_)
  · replace h := (if_pos c3).symm.trans h
    refine g_sub [] rfl ?_
    cases h
    exact hexit hk
  · replace h := (if_neg c3).symm.trans h
    refine g_aload_n (i := 0) 0 ok d_Sk_meetFrom_10 rfl rfl ?_
    refine g_iload_n (i := 3) 3 ok d_Sk_meetFrom_11 rfl rfl ?_
    obtain ⟨x5, hc6, h⟩ := bnd_go h
    refine g_invVN (rm2 := rm_Pa_placeOf) (As := [vI a3]) (rest := []) ok hk2 lay_12 rfl (c_Pa_placeOf X.1.2.1 (rf_self hk2) hc6) cm_Pa_placeOf cv_Pa_placeOf tw_410 ⟨rfl, rfl⟩ ⟨le_t rfl, le_t rfl⟩ ⟨rfl, le_t rfl⟩ ⟨le_t rfl, le_t rfl⟩ d_Sk_meetFrom_12 rfl (fun m4 => ?_)
    show G X s 0 0 15 [(0, vR a0), (1, vR a1), (2, vI a2), (3, vI a3)] [vI x5]
    refine g_istore (i := 4) [(4, vI x5), (0, vR a0), (1, vR a1), (2, vI a2), (3, vI a3)] ok d_Sk_meetFrom_15 (by decide) rfl ?_
    refine g_aload_n (i := 0) 1 ok d_Sk_meetFrom_17 rfl rfl ?_
    refine g_getiN (s0 := 12) (j := 3) (ci := 2) (C := RX2) (T := TX2) (N := 7) ok hk2 lay_12 rfl inX2 (by decide) rfl tw_62 rfl d_Sk_meetFrom_18 ?_
    refine g_iload_n (i := 3) 4 ok d_Sk_meetFrom_21 rfl rfl ?_
    refine g_iadd ok d_Sk_meetFrom_22 ?_
    obtain ⟨x7, e8⟩ : ∃ z, ((s.1 k1 3) + a3) = z := ⟨_, rfl⟩
    replace h := lt_go h e8
    rw [e8]
    refine g_istore (i := 5) [(5, vI x7), (4, vI x5), (0, vR a0), (1, vR a1), (2, vI a2), (3, vI a3)] ok d_Sk_meetFrom_23 (by decide) rfl ?_
    refine g_iload (i := 5) 0 ok d_Sk_meetFrom_25 rfl ?_
    refine g_iload_n (i := 2) 4 ok d_Sk_meetFrom_27 rfl rfl ?_
    refine g_icmp_lt (tgt := 53) ok d_Sk_meetFrom_28 (by decide) (fun c9 => ?_) (fun c9 => ?_)
    · replace h := (if_pos c9).symm.trans h
      obtain ⟨x10, e11⟩ : ∃ z, a3 + (1 : Int32) = z := ⟨_, rfl⟩
      replace h := lt_go h e11
      refine g_iinc (i := 3) (v := x10) 5 [(3, vI x10), (5, vI x7), (4, vI x5), (0, vR a0), (1, vR a1), (2, vI a2)] ok d_Sk_meetFrom_53 rfl (by rw [← e11]; rfl) (by decide) rfl ?_
      refine g_goto (tgt := 2) ok d_Sk_meetFrom_56 (by decide) ?_
      refine g_sub [3, 4, 5, 0] rfl ?_
      exact hrec x10 _ h hk
    · replace h := (if_neg c9).symm.trans h
      refine g_iload (i := 4) 1 ok d_Sk_meetFrom_31 rfl ?_
      refine g_invS (rm2 := rm_Sk_isOnGround) (As := [vI x5]) (rest := []) ok (c_Sk_isOnGround X.1.2.1) cm_Sk_isOnGround cs_Sk_isOnGround tw_184 ⟨rfl, rfl⟩ ⟨le_t rfl, le_t rfl⟩ ⟨rfl, le_t rfl⟩ ⟨le_t rfl, le_t rfl⟩ d_Sk_meetFrom_33 rfl (fun m12 => ?_)
      show G X s 0 0 36 [(5, vI x7), (4, vI x5), (0, vR a0), (1, vR a1), (2, vI a2), (3, vI a3)] [vI (f_Sk_isOnGround x5)]
      refine g_if_ne (tgt := 53) ok d_Sk_meetFrom_36 (by decide) (fun c13 => ?_) (fun c13 => ?_)
      · replace h := (if_pos c13).symm.trans h
        refine g_aload_n (i := 1) 3 ok d_Sk_meetFrom_39 rfl rfl ?_
        refine g_iload (i := 4) 1 ok d_Sk_meetFrom_40 rfl ?_
        refine g_iload (i := 5) 0 ok d_Sk_meetFrom_42 rfl ?_
        refine g_iload_n (i := 2) 4 ok d_Sk_meetFrom_44 rfl rfl ?_
        obtain ⟨x15, hc16, h⟩ := bnd_go h
        refine g_invS (rm2 := rm_Sk_isThereAbout) (As := [vR a1, vI x5, vI x7, vI a2]) (rest := []) ok (c_Sk_isThereAbout X.1.2.1 hc16) cm_Sk_isThereAbout cs_Sk_isThereAbout tw_555 ⟨rfl, rfl⟩ ⟨le_t rfl, le_t rfl⟩ ⟨rfl, le_t rfl⟩ ⟨le_t rfl, le_t rfl⟩ d_Sk_meetFrom_45 rfl (fun m14 => ?_)
        show G X s 0 0 48 [(5, vI x7), (4, vI x5), (0, vR a0), (1, vR a1), (2, vI a2), (3, vI a3)] [vI x15]
        refine g_if_eq (tgt := 53) ok d_Sk_meetFrom_48 (by decide) (fun c17 => ?_) (fun c17 => ?_)
        · replace h := (if_pos c17).symm.trans h
          obtain ⟨x18, e19⟩ : ∃ z, a3 + (1 : Int32) = z := ⟨_, rfl⟩
          replace h := lt_go h e19
          refine g_iinc (i := 3) (v := x18) 5 [(3, vI x18), (5, vI x7), (4, vI x5), (0, vR a0), (1, vR a1), (2, vI a2)] ok d_Sk_meetFrom_53 rfl (by rw [← e19]; rfl) (by decide) rfl ?_
          refine g_goto (tgt := 2) ok d_Sk_meetFrom_56 (by decide) ?_
          refine g_sub [3, 4, 5, 0] rfl ?_
          exact hrec x18 _ h hk
        · replace h := (if_neg c17).symm.trans h
          refine g_iconst (v := (1 : Int32)) ok d_Sk_meetFrom_51 (by decide) ?_
          cases h
          exact g_zret ok (hret _ hk) (Or.inr rfl) (by decide) (by decide) d_Sk_meetFrom_52
      · replace h := (if_neg c13).symm.trans h
        obtain ⟨x20, e21⟩ : ∃ z, a3 + (1 : Int32) = z := ⟨_, rfl⟩
        replace h := lt_go h e21
        refine g_iinc (i := 3) (v := x20) 5 [(3, vI x20), (5, vI x7), (4, vI x5), (0, vR a0), (1, vR a1), (2, vI a2)] ok d_Sk_meetFrom_53 rfl (by rw [← e21]; rfl) (by decide) rfl ?_
        refine g_goto (tgt := 2) ok d_Sk_meetFrom_56 (by decide) ?_
        refine g_sub [3, 4, 5, 0] rfl ?_
        exact hrec x20 _ h hk
theorem w_l_Sk_meetFrom_2 {X : CX} {KX : (Int32) ⊕ (Unit) → Prop} {a0 : Option Nat} {a1 : Option Nat} {a2 : Int32} {s : MS} (ok : Ok X cX4_meetFrom RX4 rm_Sk_meetFrom 6 false) (hret : ∀ r : Int32, KX (.inl r) → Fin X (some .boolean) 0 0 false (some (vI r)) s) (hexit : KX (.inr ()) → G X s 0 0 59 [] []) : ∀ (n : Nat) (a3 : Int32) {res : (Int32) ⊕ (Unit)}, l_Sk_meetFrom_2 a0 a1 a2 s n a3 = some res → KX res → G X s 0 0 2 [(0, vR a0), (1, vR a1), (2, vI a2), (3, vI a3)] [] := by
  intro n
  induction n with
  | zero => intro _ res h; cases h
  | succ n ih =>
    intro a3 res h hk
    exact w_b_Sk_meetFrom_2 ok hret hexit (fun v3 y h2 hk2 => ih v3 h2 hk2) h hk
set_option maxRecDepth 100000 in
set_option maxHeartbeats 4000000 in
theorem w_Sk_meetFrom {X : CX} {KX : Int32 → Prop} {a0 : Option Nat} {a1 : Option Nat} {a2 : Int32} {s : MS} (ok : Ok X cX4_meetFrom RX4 rm_Sk_meetFrom 6 false) (hret : ∀ r : Int32, KX r → Fin X (some .boolean) 0 0 false (some (vI r)) s)    {res : Int32} (h : f_Sk_meetFrom a0 a1 a2 s = some res) (hk : KX res) : G X s 0 0 0 [(0, vR a0), (1, vR a1), (2, vI a2)] [] := by
  unfold f_Sk_meetFrom at h
  refine g_iconst (v := (0 : Int32)) ok d_Sk_meetFrom_0 (by decide) ?_
  refine g_istore_n (i := 3) [(3, vI (0 : Int32)), (0, vR a0), (1, vR a1), (2, vI a2)] ok d_Sk_meetFrom_1 rfl (by decide) rfl ?_
  refine g_sub [1, 2, 3, 0] rfl ?_
  rcases el0_go h with ⟨r, hx, h⟩ | ⟨hx, h⟩
  · refine w_l_Sk_meetFrom_2 (KX := fun y => y = .inl r) ok (fun r2 he => ?_) (fun he => by cases he)  _ _ hx rfl
    cases he
    cases h
    exact hret _ hk
  · refine w_l_Sk_meetFrom_2 (KX := fun y => y = .inr ()) ok (fun r2 he => by cases he) (fun he => ?_)  _ _ hx rfl
    cases he
    refine g_iconst (v := (0 : Int32)) ok d_Sk_meetFrom_59 (by decide) ?_
    cases h
    exact g_zret ok (hret _ hk) (Or.inl rfl) (by decide) (by decide) d_Sk_meetFrom_60
theorem c_Sk_meetFrom (l : Launch) {a0 : Option Nat} {a1 : Option Nat} {a2 : Int32} {s : MS}  {r : Int32} (h : f_Sk_meetFrom a0 a1 a2 s = some r) : Ct l yX4_meetFrom (.code yX4_meetFrom cX4_meetFrom 6 (some .boolean)) rm_Sk_meetFrom 0 0 false [vR a0, vR a1, vI a2] s (some (vI r)) s :=
  Ct.of rfl (by decide +kernel) ⟨rfl, le_t rfl⟩ (fun X ok fn _ hI hl => w_Sk_meetFrom (KX := fun y => y = r) ok (fun y hy => by subst hy; exact fn) h rfl)
abbrev rm_Sk_pathInTheWay : Room := { frames := 4, cells := 0, slots := 0, locals := 90 }
theorem cm_Sk_pathInTheWay : cfM yX4_pathInTheWay cX4_pathInTheWay 4 (some .int) 1 := ⟨tw_548, tw_1, by decide, by decide, by decide +kernel⟩
theorem cv_Sk_pathInTheWay : cfV yX4_pathInTheWay := ⟨tw_547, ts_X4_pathInTheWay⟩
theorem d_Sk_pathInTheWay_0 : decode cX4_pathInTheWay 0 = .ok (.iconst 0, 1) := by decide +kernel
theorem d_Sk_pathInTheWay_1 : decode cX4_pathInTheWay 1 = .ok (.istore_n 2, 1) := by decide +kernel
theorem d_Sk_pathInTheWay_2 : decode cX4_pathInTheWay 2 = .ok (.iload_n 2, 1) := by decide +kernel
theorem d_Sk_pathInTheWay_3 : decode cX4_pathInTheWay 3 = .ok (.aload_n 0, 1) := by decide +kernel
theorem d_Sk_pathInTheWay_4 : decode cX4_pathInTheWay 4 = .ok (.getfield 30, 3) := by decide +kernel
theorem d_Sk_pathInTheWay_7 : decode cX4_pathInTheWay 7 = .ok (.arraylength, 1) := by decide +kernel
theorem d_Sk_pathInTheWay_8 : decode cX4_pathInTheWay 8 = .ok (.if_icmp .ge 39, 3) := by decide +kernel
theorem d_Sk_pathInTheWay_11 : decode cX4_pathInTheWay 11 = .ok (.aload_n 0, 1) := by decide +kernel
theorem d_Sk_pathInTheWay_12 : decode cX4_pathInTheWay 12 = .ok (.getfield 30, 3) := by decide +kernel
theorem d_Sk_pathInTheWay_15 : decode cX4_pathInTheWay 15 = .ok (.iload_n 2, 1) := by decide +kernel
theorem d_Sk_pathInTheWay_16 : decode cX4_pathInTheWay 16 = .ok (.aaload, 1) := by decide +kernel
theorem d_Sk_pathInTheWay_17 : decode cX4_pathInTheWay 17 = .ok (.astore_n 3, 1) := by decide +kernel
theorem d_Sk_pathInTheWay_18 : decode cX4_pathInTheWay 18 = .ok (.aload_n 3, 1) := by decide +kernel
theorem d_Sk_pathInTheWay_19 : decode cX4_pathInTheWay 19 = .ok (.ifnull 22, 3) := by decide +kernel
theorem d_Sk_pathInTheWay_22 : decode cX4_pathInTheWay 22 = .ok (.aload_n 1, 1) := by decide +kernel
theorem d_Sk_pathInTheWay_23 : decode cX4_pathInTheWay 23 = .ok (.aload_n 3, 1) := by decide +kernel
theorem d_Sk_pathInTheWay_24 : decode cX4_pathInTheWay 24 = .ok (.invokestatic 343, 3) := by decide +kernel
theorem d_Sk_pathInTheWay_27 : decode cX4_pathInTheWay 27 = .ok (.ifCond .eq 14, 3) := by decide +kernel
theorem d_Sk_pathInTheWay_30 : decode cX4_pathInTheWay 30 = .ok (.aload_n 1, 1) := by decide +kernel
theorem d_Sk_pathInTheWay_31 : decode cX4_pathInTheWay 31 = .ok (.aload_n 3, 1) := by decide +kernel
theorem d_Sk_pathInTheWay_32 : decode cX4_pathInTheWay 32 = .ok (.iconst 0, 1) := by decide +kernel
theorem d_Sk_pathInTheWay_33 : decode cX4_pathInTheWay 33 = .ok (.invokestatic 273, 3) := by decide +kernel
theorem d_Sk_pathInTheWay_36 : decode cX4_pathInTheWay 36 = .ok (.ifCond .eq 5, 3) := by decide +kernel
theorem d_Sk_pathInTheWay_39 : decode cX4_pathInTheWay 39 = .ok (.iload_n 2, 1) := by decide +kernel
theorem d_Sk_pathInTheWay_40 : decode cX4_pathInTheWay 40 = .ok (.ireturn, 1) := by decide +kernel
theorem d_Sk_pathInTheWay_41 : decode cX4_pathInTheWay 41 = .ok (.iinc 2 1, 3) := by decide +kernel
theorem d_Sk_pathInTheWay_44 : decode cX4_pathInTheWay 44 = .ok (.goto (-42), 3) := by decide +kernel
theorem d_Sk_pathInTheWay_47 : decode cX4_pathInTheWay 47 = .ok (.iconst (-1), 1) := by decide +kernel
theorem d_Sk_pathInTheWay_48 : decode cX4_pathInTheWay 48 = .ok (.ireturn, 1) := by decide +kernel
set_option maxRecDepth 100000 in
set_option maxHeartbeats 4000000 in
theorem w_b_Sk_pathInTheWay_2 {X : CX} {KX : (Int32) ⊕ (Unit) → Prop} {k : Nat} {a1 : Option Nat} {a2 : Int32} {s : MS} {rec : Int32 → Option ((Int32) ⊕ (Unit))} (ok : Ok X cX4_pathInTheWay RX4 rm_Sk_pathInTheWay 4 false) (hret : ∀ r : Int32, KX (.inl r) → Fin X (some .int) 0 0 false (some (vI r)) s) (hexit : KX (.inr ()) → G X s 0 0 47 [(0, vR (some k))] []) (hrec : ∀ (v2 : Int32), ∀ y, rec v2 = some y → KX y → G X s 0 0 2 [(0, vR (some k)), (1, vR a1), (2, vI v2)] []) (ht : rf s.2.2 0 (some k) = some k) {res : (Int32) ⊕ (Unit)} (h : b_Sk_pathInTheWay_2 k a1 a2 s rec = some res) (hk : KX res) : G X s 0 0 2 [(0, vR (some k)), (1, vR a1), (2, vI a2)] [] := by
  unfold b_Sk_pathInTheWay_2 at h
  refine g_iload_n (i := 2) 2 ok d_Sk_pathInTheWay_2 rfl rfl ?_
  refine g_aload_n (i := 0) 0 ok d_Sk_pathInTheWay_3 rfl rfl ?_
  refine g_getr (s0 := 0) (j := 3) (ci := 4) (C := RX4) (T := TX4) (N := 14) ok ht lay_0 rfl inX4 (by decide) rfl tw_85 rfl d_Sk_pathInTheWay_4 ?_
  obtain ⟨n1, hn2, h⟩ := bnd_go h
  refine g_alen ok hn2 (by decide) d_Sk_pathInTheWay_7 ?_
  refine g_icmp_ge (tgt := 47) ok d_Sk_pathInTheWay_8 (by decide) (fun c3 => ?_) (fun c3 => ?_)
  · replace h := (if_pos c3).symm.trans h
    refine g_aload_n (i := 0) 0 ok d_Sk_pathInTheWay_11 rfl rfl ?_
    refine g_getr (s0 := 0) (j := 3) (ci := 4) (C := RX4) (T := TX4) (N := 14) ok ht lay_0 rfl inX4 (by decide) rfl tw_85 rfl d_Sk_pathInTheWay_12 ?_
    refine g_iload_n (i := 2) 2 ok d_Sk_pathInTheWay_15 rfl rfl ?_
    obtain ⟨k4, hk5, h⟩ := bnd_go h
    refine g_aald5 ok hk5 d_Sk_pathInTheWay_16 ?_
    obtain ⟨x6, e7⟩ : ∃ z, (s.2.1 k4 a2.toNatClampNeg) = z := ⟨_, rfl⟩
    replace h := lt_go h e7
    rw [e7]
    refine g_astore_n (i := 3) [(3, vR x6), (0, vR (some k)), (1, vR a1), (2, vI a2)] ok d_Sk_pathInTheWay_17 rfl (by decide) rfl ?_
    refine g_aload_n (i := 3) 0 ok d_Sk_pathInTheWay_18 rfl rfl ?_
    refine g_ifnull (tgt := 41) ok d_Sk_pathInTheWay_19 (by decide) (fun c8 => ?_) (fun c8 => ?_)
    · replace h := (if_pos c8).symm.trans h
      obtain ⟨x9, e10⟩ : ∃ z, a2 + (1 : Int32) = z := ⟨_, rfl⟩
      replace h := lt_go h e10
      refine g_iinc (i := 2) (v := x9) 3 [(2, vI x9), (3, vR x6), (0, vR (some k)), (1, vR a1)] ok d_Sk_pathInTheWay_41 rfl (by rw [← e10]; rfl) (by decide) rfl ?_
      refine g_goto (tgt := 2) ok d_Sk_pathInTheWay_44 (by decide) ?_
      refine g_sub [2, 3, 0] rfl ?_
      exact hrec x9 _ h hk
    · replace h := (if_neg c8).symm.trans h
      refine g_aload_n (i := 1) 2 ok d_Sk_pathInTheWay_22 rfl rfl ?_
      refine g_aload_n (i := 3) 0 ok d_Sk_pathInTheWay_23 rfl rfl ?_
      obtain ⟨x12, hc13, h⟩ := bnd_go h
      refine g_invS (rm2 := rm_Sk_givesWay) (As := [vR a1, vR x6]) (rest := []) ok (c_Sk_givesWay X.1.2.1 hc13) cm_Sk_givesWay cs_Sk_givesWay tw_549 ⟨rfl, rfl⟩ ⟨le_t rfl, le_t rfl⟩ ⟨rfl, le_t rfl⟩ ⟨le_t rfl, le_t rfl⟩ d_Sk_pathInTheWay_24 rfl (fun m11 => ?_)
      show G X s 0 0 27 [(3, vR x6), (0, vR (some k)), (1, vR a1), (2, vI a2)] [vI x12]
      refine g_if_eq (tgt := 41) ok d_Sk_pathInTheWay_27 (by decide) (fun c14 => ?_) (fun c14 => ?_)
      · replace h := (if_pos c14).symm.trans h
        obtain ⟨x15, e16⟩ : ∃ z, a2 + (1 : Int32) = z := ⟨_, rfl⟩
        replace h := lt_go h e16
        refine g_iinc (i := 2) (v := x15) 3 [(2, vI x15), (3, vR x6), (0, vR (some k)), (1, vR a1)] ok d_Sk_pathInTheWay_41 rfl (by rw [← e16]; rfl) (by decide) rfl ?_
        refine g_goto (tgt := 2) ok d_Sk_pathInTheWay_44 (by decide) ?_
        refine g_sub [2, 3, 0] rfl ?_
        exact hrec x15 _ h hk
      · replace h := (if_neg c14).symm.trans h
        refine g_aload_n (i := 1) 2 ok d_Sk_pathInTheWay_30 rfl rfl ?_
        refine g_aload_n (i := 3) 0 ok d_Sk_pathInTheWay_31 rfl rfl ?_
        refine g_iconst (v := (0 : Int32)) ok d_Sk_pathInTheWay_32 (by decide) ?_
        obtain ⟨x18, hc19, h⟩ := bnd_go h
        refine g_invS (rm2 := rm_Sk_meetFrom) (As := [vR a1, vR x6, vI (0 : Int32)]) (rest := []) ok (c_Sk_meetFrom X.1.2.1 hc19) cm_Sk_meetFrom cs_Sk_meetFrom tw_552 ⟨rfl, rfl⟩ ⟨le_t rfl, le_t rfl⟩ ⟨rfl, le_t rfl⟩ ⟨le_t rfl, le_t rfl⟩ d_Sk_pathInTheWay_33 rfl (fun m17 => ?_)
        show G X s 0 0 36 [(3, vR x6), (0, vR (some k)), (1, vR a1), (2, vI a2)] [vI x18]
        refine g_if_eq (tgt := 41) ok d_Sk_pathInTheWay_36 (by decide) (fun c20 => ?_) (fun c20 => ?_)
        · replace h := (if_pos c20).symm.trans h
          obtain ⟨x21, e22⟩ : ∃ z, a2 + (1 : Int32) = z := ⟨_, rfl⟩
          replace h := lt_go h e22
          refine g_iinc (i := 2) (v := x21) 3 [(2, vI x21), (3, vR x6), (0, vR (some k)), (1, vR a1)] ok d_Sk_pathInTheWay_41 rfl (by rw [← e22]; rfl) (by decide) rfl ?_
          refine g_goto (tgt := 2) ok d_Sk_pathInTheWay_44 (by decide) ?_
          refine g_sub [2, 3, 0] rfl ?_
          exact hrec x21 _ h hk
        · replace h := (if_neg c20).symm.trans h
          refine g_iload_n (i := 2) 3 ok d_Sk_pathInTheWay_39 rfl rfl ?_
          cases h
          exact g_iret ok (hret _ hk) (by decide) (by decide) d_Sk_pathInTheWay_40
  · replace h := (if_neg c3).symm.trans h
    refine g_sub [0] rfl ?_
    cases h
    exact hexit hk
theorem w_l_Sk_pathInTheWay_2 {X : CX} {KX : (Int32) ⊕ (Unit) → Prop} {k : Nat} {a1 : Option Nat} {s : MS} (ok : Ok X cX4_pathInTheWay RX4 rm_Sk_pathInTheWay 4 false) (hret : ∀ r : Int32, KX (.inl r) → Fin X (some .int) 0 0 false (some (vI r)) s) (hexit : KX (.inr ()) → G X s 0 0 47 [(0, vR (some k))] []) (ht : rf s.2.2 0 (some k) = some k) : ∀ (n : Nat) (a2 : Int32) {res : (Int32) ⊕ (Unit)}, l_Sk_pathInTheWay_2 k a1 s n a2 = some res → KX res → G X s 0 0 2 [(0, vR (some k)), (1, vR a1), (2, vI a2)] [] := by
  intro n
  induction n with
  | zero => intro _ res h; cases h
  | succ n ih =>
    intro a2 res h hk
    exact w_b_Sk_pathInTheWay_2 ok hret hexit (fun v2 y h2 hk2 => ih v2 h2 hk2) ht h hk
set_option maxRecDepth 100000 in
set_option maxHeartbeats 4000000 in
theorem w_Sk_pathInTheWay {X : CX} {KX : Int32 → Prop} {k : Nat} {a1 : Option Nat} {s : MS} (ok : Ok X cX4_pathInTheWay RX4 rm_Sk_pathInTheWay 4 false) (hret : ∀ r : Int32, KX r → Fin X (some .int) 0 0 false (some (vI r)) s)   (ht : rf s.2.2 0 (some k) = some k) {res : Int32} (h : f_Sk_pathInTheWay k a1 s = some res) (hk : KX res) : G X s 0 0 0 [(0, vR (some k)), (1, vR a1)] [] := by
  unfold f_Sk_pathInTheWay at h
  refine g_iconst (v := (0 : Int32)) ok d_Sk_pathInTheWay_0 (by decide) ?_
  refine g_istore_n (i := 2) [(2, vI (0 : Int32)), (0, vR (some k)), (1, vR a1)] ok d_Sk_pathInTheWay_1 rfl (by decide) rfl ?_
  refine g_sub [1, 2, 0] rfl ?_
  rcases el0_go h with ⟨r, hx, h⟩ | ⟨hx, h⟩
  · refine w_l_Sk_pathInTheWay_2 (KX := fun y => y = .inl r) ok (fun r2 he => ?_) (fun he => by cases he) ht _ _ hx rfl
    cases he
    cases h
    exact hret _ hk
  · refine w_l_Sk_pathInTheWay_2 (KX := fun y => y = .inr ()) ok (fun r2 he => by cases he) (fun he => ?_) ht _ _ hx rfl
    cases he
    refine g_iconst (v := (-1 : Int32)) ok d_Sk_pathInTheWay_47 (by decide) ?_
    cases h
    exact g_iret ok (hret _ hk) (by decide) (by decide) d_Sk_pathInTheWay_48
theorem c_Sk_pathInTheWay (l : Launch) {k : Nat} {a1 : Option Nat} {s : MS} (ht : rf s.2.2 0 (some k) = some k) {r : Int32} (h : f_Sk_pathInTheWay k a1 s = some r) : Ct l yX4_pathInTheWay (.code yX4_pathInTheWay cX4_pathInTheWay 4 (some .int)) rm_Sk_pathInTheWay 0 0 false [vR (some k), vR a1] s (some (vI r)) s :=
  Ct.of rfl (by decide +kernel) ⟨rfl, le_t rfl⟩ (fun X ok fn _ hI hl => w_Sk_pathInTheWay (KX := fun y => y = r) ok (fun y hy => by subst hy; exact fn) ht h rfl)
abbrev rm_Sk_withdrawThoseMet : Room := { frames := 4, cells := 0, slots := 0, locals := 90 }
theorem cm_Sk_withdrawThoseMet : cfM yX4_withdrawThoseMet cX4_withdrawThoseMet 6 none 1 := ⟨tw_565, tw_1, by decide, by decide, by decide +kernel⟩
theorem cv_Sk_withdrawThoseMet : cfV yX4_withdrawThoseMet := ⟨tw_564, ts_X4_withdrawThoseMet⟩
theorem d_Sk_withdrawThoseMet_0 : decode cX4_withdrawThoseMet 0 = .ok (.aload_n 0, 1) := by decide +kernel
theorem d_Sk_withdrawThoseMet_1 : decode cX4_withdrawThoseMet 1 = .ok (.getfield 30, 3) := by decide +kernel
theorem d_Sk_withdrawThoseMet_4 : decode cX4_withdrawThoseMet 4 = .ok (.astore_n 2, 1) := by decide +kernel
theorem d_Sk_withdrawThoseMet_5 : decode cX4_withdrawThoseMet 5 = .ok (.aload_n 2, 1) := by decide +kernel
theorem d_Sk_withdrawThoseMet_6 : decode cX4_withdrawThoseMet 6 = .ok (.arraylength, 1) := by decide +kernel
theorem d_Sk_withdrawThoseMet_7 : decode cX4_withdrawThoseMet 7 = .ok (.istore_n 3, 1) := by decide +kernel
theorem d_Sk_withdrawThoseMet_8 : decode cX4_withdrawThoseMet 8 = .ok (.iconst 0, 1) := by decide +kernel
theorem d_Sk_withdrawThoseMet_9 : decode cX4_withdrawThoseMet 9 = .ok (.istore 4, 2) := by decide +kernel
theorem d_Sk_withdrawThoseMet_11 : decode cX4_withdrawThoseMet 11 = .ok (.iload 4, 2) := by decide +kernel
theorem d_Sk_withdrawThoseMet_13 : decode cX4_withdrawThoseMet 13 = .ok (.iload_n 3, 1) := by decide +kernel
theorem d_Sk_withdrawThoseMet_14 : decode cX4_withdrawThoseMet 14 = .ok (.if_icmp .ge 45, 3) := by decide +kernel
theorem d_Sk_withdrawThoseMet_17 : decode cX4_withdrawThoseMet 17 = .ok (.aload_n 2, 1) := by decide +kernel
theorem d_Sk_withdrawThoseMet_18 : decode cX4_withdrawThoseMet 18 = .ok (.iload 4, 2) := by decide +kernel
theorem d_Sk_withdrawThoseMet_20 : decode cX4_withdrawThoseMet 20 = .ok (.aaload, 1) := by decide +kernel
theorem d_Sk_withdrawThoseMet_21 : decode cX4_withdrawThoseMet 21 = .ok (.astore 5, 2) := by decide +kernel
theorem d_Sk_withdrawThoseMet_23 : decode cX4_withdrawThoseMet 23 = .ok (.aload 5, 2) := by decide +kernel
theorem d_Sk_withdrawThoseMet_25 : decode cX4_withdrawThoseMet 25 = .ok (.ifnull 28, 3) := by decide +kernel
theorem d_Sk_withdrawThoseMet_28 : decode cX4_withdrawThoseMet 28 = .ok (.aload 5, 2) := by decide +kernel
theorem d_Sk_withdrawThoseMet_30 : decode cX4_withdrawThoseMet 30 = .ok (.getfield 214, 3) := by decide +kernel
theorem d_Sk_withdrawThoseMet_33 : decode cX4_withdrawThoseMet 33 = .ok (.ifCond .ne 20, 3) := by decide +kernel
theorem d_Sk_withdrawThoseMet_36 : decode cX4_withdrawThoseMet 36 = .ok (.aload_n 1, 1) := by decide +kernel
theorem d_Sk_withdrawThoseMet_37 : decode cX4_withdrawThoseMet 37 = .ok (.aload 5, 2) := by decide +kernel
theorem d_Sk_withdrawThoseMet_39 : decode cX4_withdrawThoseMet 39 = .ok (.iconst 0, 1) := by decide +kernel
theorem d_Sk_withdrawThoseMet_40 : decode cX4_withdrawThoseMet 40 = .ok (.invokestatic 273, 3) := by decide +kernel
theorem d_Sk_withdrawThoseMet_43 : decode cX4_withdrawThoseMet 43 = .ok (.ifCond .eq 10, 3) := by decide +kernel
theorem d_Sk_withdrawThoseMet_46 : decode cX4_withdrawThoseMet 46 = .ok (.aload_n 0, 1) := by decide +kernel
theorem d_Sk_withdrawThoseMet_47 : decode cX4_withdrawThoseMet 47 = .ok (.aload 5, 2) := by decide +kernel
theorem d_Sk_withdrawThoseMet_49 : decode cX4_withdrawThoseMet 49 = .ok (.iconst 3, 1) := by decide +kernel
theorem d_Sk_withdrawThoseMet_50 : decode cX4_withdrawThoseMet 50 = .ok (.invokevirtual 217, 3) := by decide +kernel
theorem d_Sk_withdrawThoseMet_53 : decode cX4_withdrawThoseMet 53 = .ok (.iinc 4 1, 3) := by decide +kernel
theorem d_Sk_withdrawThoseMet_56 : decode cX4_withdrawThoseMet 56 = .ok (.goto (-45), 3) := by decide +kernel
theorem d_Sk_withdrawThoseMet_59 : decode cX4_withdrawThoseMet 59 = .ok (.return_, 1) := by decide +kernel
set_option maxRecDepth 100000 in
set_option maxHeartbeats 4000000 in
theorem w_b_Sk_withdrawThoseMet_11 {X : CX} {KX : MS → Prop} {k : Nat} {a1 : Option Nat} {a2 : Option Nat} {a3 : Int32} {a4 : Int32} {s : MS} {rec : Int32 → MS → Option (MS)} {sb : MS} (ok : Ok X cX4_withdrawThoseMet RX4 rm_Sk_withdrawThoseMet 6 false) (hexit : ∀ (z : MS), KX z → (∀ q, dm sb q → dm z q) → G X z 0 0 59 [(0, vR (some k))] []) (hrec : ∀ (v4 : Int32) (z : MS), (∀ q, dm sb q → dm z q) → ∀ y, rec v4 z = some y → KX y → G X z 0 0 11 [(0, vR (some k)), (1, vR a1), (2, vR a2), (3, vI a3), (4, vI v4)] []) (mb : ∀ q, dm sb q → dm s q) (ht : rf s.2.2 0 (some k) = some k) {res : MS} (h : b_Sk_withdrawThoseMet_11 k a1 a2 a3 a4 s rec = some res) (hk : KX res) : G X s 0 0 11 [(0, vR (some k)), (1, vR a1), (2, vR a2), (3, vI a3), (4, vI a4)] [] := by
  unfold b_Sk_withdrawThoseMet_11 at h
  refine g_iload (i := 4) 4 ok d_Sk_withdrawThoseMet_11 rfl ?_
  refine g_iload_n (i := 3) 3 ok d_Sk_withdrawThoseMet_13 rfl rfl ?_
  refine g_icmp_ge (tgt := 59) ok d_Sk_withdrawThoseMet_14 (by decide) (fun c7 => ?_) (fun c7 => ?_)
  · replace h := (if_pos c7).symm.trans h
    refine g_aload_n (i := 2) 2 ok d_Sk_withdrawThoseMet_17 rfl rfl ?_
    refine g_iload (i := 4) 4 ok d_Sk_withdrawThoseMet_18 rfl ?_
    obtain ⟨k8, hk9, h⟩ := bnd_go h
    refine g_aald5 ok hk9 d_Sk_withdrawThoseMet_20 ?_
    obtain ⟨x10, e11⟩ : ∃ z, (s.2.1 k8 a4.toNatClampNeg) = z := ⟨_, rfl⟩
    replace h := lt_go h e11
    rw [e11]
    refine g_astore (i := 5) [(5, vR x10), (0, vR (some k)), (1, vR a1), (2, vR a2), (3, vI a3), (4, vI a4)] ok d_Sk_withdrawThoseMet_21 (by decide) rfl ?_
    refine g_aload (i := 5) 0 ok d_Sk_withdrawThoseMet_23 rfl ?_
    refine g_ifnull (tgt := 53) ok d_Sk_withdrawThoseMet_25 (by decide) (fun c12 => ?_) (fun c12 => ?_)
    · replace h := (if_pos c12).symm.trans h
      obtain ⟨x13, e14⟩ : ∃ z, a4 + (1 : Int32) = z := ⟨_, rfl⟩
      replace h := lt_go h e14
      refine g_iinc (i := 4) (v := x13) 5 [(4, vI x13), (5, vR x10), (0, vR (some k)), (1, vR a1), (2, vR a2), (3, vI a3)] ok d_Sk_withdrawThoseMet_53 rfl (by rw [← e14]; rfl) (by decide) rfl ?_
      refine g_goto (tgt := 11) ok d_Sk_withdrawThoseMet_56 (by decide) ?_
      refine g_sub [2, 3, 4, 5, 0] rfl ?_
      exact hrec x13 s mb _ h hk
    · replace h := (if_neg c12).symm.trans h
      refine g_aload (i := 5) 0 ok d_Sk_withdrawThoseMet_28 rfl ?_
      obtain ⟨k15, hk16, h⟩ := bnd_go h
      refine g_getiN (s0 := 12) (j := 6) (ci := 2) (C := RX2) (T := TX2) (N := 7) ok hk16 lay_12 rfl inX2 (by decide) rfl tw_66 rfl d_Sk_withdrawThoseMet_30 ?_
      refine g_if_ne (tgt := 53) ok d_Sk_withdrawThoseMet_33 (by decide) (fun c17 => ?_) (fun c17 => ?_)
      · replace h := (if_pos c17).symm.trans h
        refine g_aload_n (i := 1) 2 ok d_Sk_withdrawThoseMet_36 rfl rfl ?_
        refine g_aload (i := 5) 0 ok d_Sk_withdrawThoseMet_37 rfl ?_
        refine g_iconst (v := (0 : Int32)) ok d_Sk_withdrawThoseMet_39 (by decide) ?_
        obtain ⟨x19, hc20, h⟩ := bnd_go h
        refine g_invS (rm2 := rm_Sk_meetFrom) (As := [vR a1, vR x10, vI (0 : Int32)]) (rest := []) ok (c_Sk_meetFrom X.1.2.1 hc20) cm_Sk_meetFrom cs_Sk_meetFrom tw_552 ⟨rfl, rfl⟩ ⟨le_t rfl, le_t rfl⟩ ⟨rfl, le_t rfl⟩ ⟨le_t rfl, le_t rfl⟩ d_Sk_withdrawThoseMet_40 rfl (fun m18 => ?_)
        show G X s 0 0 43 [(5, vR x10), (0, vR (some k)), (1, vR a1), (2, vR a2), (3, vI a3), (4, vI a4)] [vI x19]
        refine g_if_eq (tgt := 53) ok d_Sk_withdrawThoseMet_43 (by decide) (fun c21 => ?_) (fun c21 => ?_)
        · replace h := (if_pos c21).symm.trans h
          obtain ⟨x22, e23⟩ : ∃ z, a4 + (1 : Int32) = z := ⟨_, rfl⟩
          replace h := lt_go h e23
          refine g_iinc (i := 4) (v := x22) 5 [(4, vI x22), (5, vR x10), (0, vR (some k)), (1, vR a1), (2, vR a2), (3, vI a3)] ok d_Sk_withdrawThoseMet_53 rfl (by rw [← e23]; rfl) (by decide) rfl ?_
          refine g_goto (tgt := 11) ok d_Sk_withdrawThoseMet_56 (by decide) ?_
          refine g_sub [2, 3, 4, 5, 0] rfl ?_
          exact hrec x22 s mb _ h hk
        · replace h := (if_neg c21).symm.trans h
          refine g_aload_n (i := 0) 1 ok d_Sk_withdrawThoseMet_46 rfl rfl ?_
          refine g_aload (i := 5) 0 ok d_Sk_withdrawThoseMet_47 rfl ?_
          refine g_iconst (v := (3 : Int32)) ok d_Sk_withdrawThoseMet_49 (by decide) ?_
          obtain ⟨s26, hc25, h⟩ := bnd_go h
          refine g_invV (rm2 := rm_Sk_finish) (As := [vR x10, vI (3 : Int32)]) (rest := []) ok ht lay_0 rfl (c_Sk_finish X.1.2.1 (rf_self ht) hc25) cm_Sk_finish cv_Sk_finish tw_411 ⟨rfl, rfl⟩ ⟨le_t rfl, le_t rfl⟩ ⟨rfl, le_t rfl⟩ ⟨le_t rfl, le_t rfl⟩ d_Sk_withdrawThoseMet_50 rfl (fun m24 => ?_)
          show G X s26 0 0 53 [(5, vR x10), (0, vR (some k)), (1, vR a1), (2, vR a2), (3, vI a3), (4, vI a4)] []
          obtain ⟨x27, e28⟩ : ∃ z, a4 + (1 : Int32) = z := ⟨_, rfl⟩
          replace h := lt_go h e28
          refine g_iinc (i := 4) (v := x27) 5 [(4, vI x27), (5, vR x10), (0, vR (some k)), (1, vR a1), (2, vR a2), (3, vI a3)] ok d_Sk_withdrawThoseMet_53 rfl (by rw [← e28]; rfl) (by decide) rfl ?_
          refine g_goto (tgt := 11) ok d_Sk_withdrawThoseMet_56 (by decide) ?_
          refine g_sub [2, 3, 4, 5, 0] rfl ?_
          exact hrec x27 s26 (fun z hz => m24 z (mb z hz)) _ h hk
      · replace h := (if_neg c17).symm.trans h
        obtain ⟨x29, e30⟩ : ∃ z, a4 + (1 : Int32) = z := ⟨_, rfl⟩
        replace h := lt_go h e30
        refine g_iinc (i := 4) (v := x29) 5 [(4, vI x29), (5, vR x10), (0, vR (some k)), (1, vR a1), (2, vR a2), (3, vI a3)] ok d_Sk_withdrawThoseMet_53 rfl (by rw [← e30]; rfl) (by decide) rfl ?_
        refine g_goto (tgt := 11) ok d_Sk_withdrawThoseMet_56 (by decide) ?_
        refine g_sub [2, 3, 4, 5, 0] rfl ?_
        exact hrec x29 s mb _ h hk
  · replace h := (if_neg c7).symm.trans h
    refine g_sub [0] rfl ?_
    cases h
    exact hexit s hk mb
theorem wx_l_Sk_withdrawThoseMet_11 {X : CX} {KX : MS → Prop} {k : Nat} {a1 : Option Nat} {a2 : Option Nat} {a3 : Int32} {sb : MS} (ok : Ok X cX4_withdrawThoseMet RX4 rm_Sk_withdrawThoseMet 6 false) (hexit : ∀ (z : MS), KX z → (∀ q, dm sb q → dm z q) → G X z 0 0 59 [(0, vR (some k))] []) (htb : rf sb.2.2 0 (some k) = some k) : ∀ (n : Nat) (a4 : Int32) (s : MS), (∀ q, dm sb q → dm s q) → ∀ (res : MS), l_Sk_withdrawThoseMet_11 k a1 a2 a3 n a4 s = some res → KX res → G X s 0 0 11 [(0, vR (some k)), (1, vR a1), (2, vR a2), (3, vI a3), (4, vI a4)] [] := by
  intro n
  induction n with
  | zero => intro _ s _ res h; cases h
  | succ n ih =>
    intro a4 s mb res h hk
    exact w_b_Sk_withdrawThoseMet_11 ok hexit (fun v4 z hz y h2 hk2 => ih v4 z hz y h2 hk2) mb (rf_mono mb htb) h hk
theorem w_l_Sk_withdrawThoseMet_11 {X : CX} {KX : MS → Prop} {k : Nat} {a1 : Option Nat} {a2 : Option Nat} {a3 : Int32} {sb : MS} (ok : Ok X cX4_withdrawThoseMet RX4 rm_Sk_withdrawThoseMet 6 false) (hexit : ∀ (z : MS), KX z → (∀ q, dm sb q → dm z q) → G X z 0 0 59 [(0, vR (some k))] []) (mb : ∀ q, dm sb q → dm sb q) (htb : rf sb.2.2 0 (some k) = some k) (n : Nat) (a4 : Int32) {res : MS} (h : l_Sk_withdrawThoseMet_11 k a1 a2 a3 n a4 sb = some res) (hk : KX res) : G X sb 0 0 11 [(0, vR (some k)), (1, vR a1), (2, vR a2), (3, vI a3), (4, vI a4)] [] := wx_l_Sk_withdrawThoseMet_11 ok hexit htb n a4 sb mb res h hk
set_option maxRecDepth 100000 in
set_option maxHeartbeats 4000000 in
theorem w_Sk_withdrawThoseMet {X : CX} {KX : MS → Prop} {k : Nat} {a1 : Option Nat} {s : MS} (ok : Ok X cX4_withdrawThoseMet RX4 rm_Sk_withdrawThoseMet 6 false) (hret : ∀ r : MS, KX r → Fin X none 0 0 false none r)   (ht : rf s.2.2 0 (some k) = some k) {res : MS} (h : f_Sk_withdrawThoseMet k a1 s = some res) (hk : KX res) : G X s 0 0 0 [(0, vR (some k)), (1, vR a1)] [] := by
  unfold f_Sk_withdrawThoseMet at h
  refine g_aload_n (i := 0) 0 ok d_Sk_withdrawThoseMet_0 rfl rfl ?_
  refine g_getr (s0 := 0) (j := 3) (ci := 4) (C := RX4) (T := TX4) (N := 14) ok ht lay_0 rfl inX4 (by decide) rfl tw_85 rfl d_Sk_withdrawThoseMet_1 ?_
  obtain ⟨x1, e2⟩ : ∃ z, (s.2.1 k 3) = z := ⟨_, rfl⟩
  replace h := lt_go h e2
  rw [e2]
  refine g_astore_n (i := 2) [(2, vR x1), (0, vR (some k)), (1, vR a1)] ok d_Sk_withdrawThoseMet_4 rfl (by decide) rfl ?_
  refine g_aload_n (i := 2) 0 ok d_Sk_withdrawThoseMet_5 rfl rfl ?_
  obtain ⟨n3, hn4, h⟩ := bnd_go h
  refine g_alen ok hn4 (by decide) d_Sk_withdrawThoseMet_6 ?_
  obtain ⟨x5, e6⟩ : ∃ z, (Int32.ofNat n3) = z := ⟨_, rfl⟩
  replace h := lt_go h e6
  rw [e6]
  refine g_istore_n (i := 3) [(3, vI x5), (2, vR x1), (0, vR (some k)), (1, vR a1)] ok d_Sk_withdrawThoseMet_7 rfl (by decide) rfl ?_
  refine g_iconst (v := (0 : Int32)) ok d_Sk_withdrawThoseMet_8 (by decide) ?_
  refine g_istore (i := 4) [(4, vI (0 : Int32)), (3, vI x5), (2, vR x1), (0, vR (some k)), (1, vR a1)] ok d_Sk_withdrawThoseMet_9 (by decide) rfl ?_
  refine g_sub [3, 4, 2, 1, 0] rfl ?_
  obtain ⟨s32, hx, h⟩ := bnd_go h
  refine w_l_Sk_withdrawThoseMet_11 (KX := fun y => y = s32) ok (fun y0 he m31 => ?_) (fun _ hz => hz) ht _ _ hx rfl
  cases he
  cases h
  exact g_vret ok (hret _ hk) (by decide) (by decide) d_Sk_withdrawThoseMet_59
theorem c_Sk_withdrawThoseMet (l : Launch) {k : Nat} {a1 : Option Nat} {s : MS} (ht : rf s.2.2 0 (some k) = some k) {z : MS} (h : f_Sk_withdrawThoseMet k a1 s = some z) : Ct l yX4_withdrawThoseMet (.code yX4_withdrawThoseMet cX4_withdrawThoseMet 6 none) rm_Sk_withdrawThoseMet 0 0 false [vR (some k), vR a1] s none z :=
  Ct.of rfl (by decide +kernel) ⟨rfl, le_t rfl⟩ (fun X ok fn _ hI hl => w_Sk_withdrawThoseMet (KX := fun y => y = z) ok (fun y hy => by subst hy; exact fn) ht h rfl)
abbrev rm_Sk_accept : Room := { frames := 5, cells := 2, slots := 88, locals := 115 }
theorem cm_Sk_accept : cfM yX4_accept cX4_accept 3 (some .int) 1 := ⟨tw_561, tw_1, by decide, by decide, by decide +kernel⟩
theorem cv_Sk_accept : cfV yX4_accept := ⟨tw_560, ts_X4_accept⟩
theorem d_Sk_accept_0 : decode cX4_accept 0 = .ok (.aload_n 0, 1) := by decide +kernel
theorem d_Sk_accept_1 : decode cX4_accept 1 = .ok (.aload_n 0, 1) := by decide +kernel
theorem d_Sk_accept_2 : decode cX4_accept 2 = .ok (.getfield 39, 3) := by decide +kernel
theorem d_Sk_accept_5 : decode cX4_accept 5 = .ok (.invokevirtual 323, 3) := by decide +kernel
theorem d_Sk_accept_8 : decode cX4_accept 8 = .ok (.aload_n 0, 1) := by decide +kernel
theorem d_Sk_accept_9 : decode cX4_accept 9 = .ok (.getfield 70, 3) := by decide +kernel
theorem d_Sk_accept_12 : decode cX4_accept 12 = .ok (.istore_n 2, 1) := by decide +kernel
theorem d_Sk_accept_13 : decode cX4_accept 13 = .ok (.iload_n 2, 1) := by decide +kernel
theorem d_Sk_accept_14 : decode cX4_accept 14 = .ok (.ifCond .lt 32, 3) := by decide +kernel
theorem d_Sk_accept_17 : decode cX4_accept 17 = .ok (.iload_n 2, 1) := by decide +kernel
theorem d_Sk_accept_18 : decode cX4_accept 18 = .ok (.aload_n 0, 1) := by decide +kernel
theorem d_Sk_accept_19 : decode cX4_accept 19 = .ok (.getfield 30, 3) := by decide +kernel
theorem d_Sk_accept_22 : decode cX4_accept 22 = .ok (.arraylength, 1) := by decide +kernel
theorem d_Sk_accept_23 : decode cX4_accept 23 = .ok (.if_icmp .ge 23, 3) := by decide +kernel
theorem d_Sk_accept_26 : decode cX4_accept 26 = .ok (.aload_n 0, 1) := by decide +kernel
theorem d_Sk_accept_27 : decode cX4_accept 27 = .ok (.getfield 30, 3) := by decide +kernel
theorem d_Sk_accept_30 : decode cX4_accept 30 = .ok (.iload_n 2, 1) := by decide +kernel
theorem d_Sk_accept_31 : decode cX4_accept 31 = .ok (.aload_n 0, 1) := by decide +kernel
theorem d_Sk_accept_32 : decode cX4_accept 32 = .ok (.getfield 39, 3) := by decide +kernel
theorem d_Sk_accept_35 : decode cX4_accept 35 = .ok (.aastore, 1) := by decide +kernel
theorem d_Sk_accept_36 : decode cX4_accept 36 = .ok (.aload_n 0, 1) := by decide +kernel
theorem d_Sk_accept_37 : decode cX4_accept 37 = .ok (.dup, 1) := by decide +kernel
theorem d_Sk_accept_38 : decode cX4_accept 38 = .ok (.getfield 70, 3) := by decide +kernel
theorem d_Sk_accept_41 : decode cX4_accept 41 = .ok (.iconst 1, 1) := by decide +kernel
theorem d_Sk_accept_42 : decode cX4_accept 42 = .ok (.iadd, 1) := by decide +kernel
theorem d_Sk_accept_43 : decode cX4_accept 43 = .ok (.putfield 70, 3) := by decide +kernel
theorem d_Sk_accept_46 : decode cX4_accept 46 = .ok (.aload_n 0, 1) := by decide +kernel
theorem d_Sk_accept_47 : decode cX4_accept 47 = .ok (.getfield 39, 3) := by decide +kernel
theorem d_Sk_accept_50 : decode cX4_accept 50 = .ok (.iconst 0, 1) := by decide +kernel
theorem d_Sk_accept_51 : decode cX4_accept 51 = .ok (.putfield 214, 3) := by decide +kernel
theorem d_Sk_accept_54 : decode cX4_accept 54 = .ok (.aload_n 1, 1) := by decide +kernel
theorem d_Sk_accept_55 : decode cX4_accept 55 = .ok (.iload_n 2, 1) := by decide +kernel
theorem d_Sk_accept_56 : decode cX4_accept 56 = .ok (.putfield 284, 3) := by decide +kernel
theorem d_Sk_accept_59 : decode cX4_accept 59 = .ok (.aload_n 0, 1) := by decide +kernel
theorem d_Sk_accept_60 : decode cX4_accept 60 = .ok (.iconst 0, 1) := by decide +kernel
theorem d_Sk_accept_61 : decode cX4_accept 61 = .ok (.putfield 152, 3) := by decide +kernel
theorem d_Sk_accept_64 : decode cX4_accept 64 = .ok (.aload_n 0, 1) := by decide +kernel
theorem d_Sk_accept_65 : decode cX4_accept 65 = .ok (.new 28, 3) := by decide +kernel
theorem d_Sk_accept_68 : decode cX4_accept 68 = .ok (.dup, 1) := by decide +kernel
theorem d_Sk_accept_69 : decode cX4_accept 69 = .ok (.invokespecial 38, 3) := by decide +kernel
theorem d_Sk_accept_72 : decode cX4_accept 72 = .ok (.putfield 39, 3) := by decide +kernel
theorem d_Sk_accept_75 : decode cX4_accept 75 = .ok (.iload_n 2, 1) := by decide +kernel
theorem d_Sk_accept_76 : decode cX4_accept 76 = .ok (.ireturn, 1) := by decide +kernel
set_option maxRecDepth 100000 in
set_option maxHeartbeats 4000000 in
theorem w_j_Sk_accept_46 {X : CX} {KX : Int32 × MS → Prop} {k : Nat} {a1 : Option Nat} {a2 : Int32} {s : MS} (ok : Ok X cX4_accept RX4 rm_Sk_accept 3 true) (hret : ∀ r : Int32 × MS, KX r → Fin X (some .int) 2 88 true (some (vI r.1)) r.2) (ht : rf s.2.2 0 (some k) = some k) {res : Int32 × MS} (h : j_Sk_accept_46 k a1 a2 s = some res) (hk : KX res) : G X s 0 0 46 [(0, vR (some k)), (1, vR a1), (2, vI a2)] [] := by
  unfold j_Sk_accept_46 at h
  refine g_aload_n (i := 0) 0 ok d_Sk_accept_46 rfl rfl ?_
  refine g_getr (s0 := 0) (j := 5) (ci := 4) (C := RX4) (T := TX4) (N := 14) ok ht lay_0 rfl inX4 (by decide) rfl tw_87 rfl d_Sk_accept_47 ?_
  refine g_iconst (v := (0 : Int32)) ok d_Sk_accept_50 (by decide) ?_
  obtain ⟨k7, hk8, h⟩ := bnd_go h
  refine g_putiN (s0 := 12) (j := 6) (ci := 2) (C := RX2) (T := TX2) (N := 7) ok hk8 lay_12 rfl inX2 (by decide) rfl tw_66 rfl tyX2_ok nmX2 rfl (Or.inl rfl) d_Sk_accept_51 ?_
  obtain ⟨s9, e10⟩ : ∃ z, wi s k7 6 (0 : Int32) = z := ⟨_, rfl⟩
  replace h := lt_go h e10
  have m11 := mo_wi e10
  rw [e10]
  refine g_aload_n (i := 1) 1 ok d_Sk_accept_54 rfl rfl ?_
  refine g_iload_n (i := 2) 2 ok d_Sk_accept_55 rfl rfl ?_
  obtain ⟨k12, hk13, h⟩ := bnd_go h
  refine g_putiN (s0 := 11) (j := 5) (ci := 1) (C := RX1) (T := TX1) (N := 7) ok hk13 lay_11 rfl inX1 (by decide) rfl tw_456 rfl tyX1_ok nmX1 rfl (Or.inl rfl) d_Sk_accept_56 ?_
  obtain ⟨s14, e15⟩ : ∃ z, wi s9 k12 5 a2 = z := ⟨_, rfl⟩
  replace h := lt_go h e15
  have m16 := mo_wi e15
  rw [e15]
  refine g_aload_n (i := 0) 0 ok d_Sk_accept_59 rfl rfl ?_
  refine g_iconst (v := (0 : Int32)) ok d_Sk_accept_60 (by decide) ?_
  refine g_puti (s0 := 0) (j := 9) (ci := 4) (C := RX4) (T := TX4) (N := 14) ok (rf_mono m16 (rf_mono m11 ht)) lay_0 rfl inX4 (by decide) rfl tw_91 rfl tyX4_ok nmX4 rfl (Or.inl rfl) d_Sk_accept_61 ?_
  obtain ⟨s17, e18⟩ : ∃ z, wi s14 k 9 (0 : Int32) = z := ⟨_, rfl⟩
  replace h := lt_go h e18
  have m19 := mo_wi e18
  rw [e18]
  refine g_aload_n (i := 0) 0 ok d_Sk_accept_64 rfl rfl ?_
  refine g_sub [0, 2] rfl ?_
  obtain ⟨o20, e21⟩ : ∃ z, nid s17 12 = z := ⟨_, rfl⟩
  replace h := lt_go h e21
  refine g_new (s0 := 12) (ci := 2) (C := RX2) (T := TX2) (N := 7) (ty := tyX2) ok (by decide) lay_12 rfl inX2 tyX2_ok hdfX2 tw_51 tw_53 tw_3 ⟨(rk_of (rf_mono m19 (rf_mono m16 (rf_mono m11 ht)))), ⟨trivial, trivial⟩⟩ ⟨(rk_of (rf_mono m19 (rf_mono m16 (rf_mono m11 ht)))), trivial⟩ (by decide) (by decide) d_Sk_accept_65 ?_
  rw [e21]
  obtain ⟨s22, e23⟩ : ∃ z, nw s17 12 = z := ⟨_, rfl⟩
  replace h := lt_go h e23
  have m24 := mo_nw (by decide) e23
  rw [e23]
  have hk25 : rf s22.2.2 12 (some o20) = some o20 := by rw [← e21]; exact rf_new (by decide) e23
  refine g_dup ok d_Sk_accept_68 rfl ?_
  obtain ⟨s28, hc27, h⟩ := bnd_go h
  refine g_invINA (rm2 := rm_Pa_init) (As := []) (rest := [vR (some o20), vR (some k)]) ok hk25 (c_Pa_init X.1.2.1 (rf_self hk25) hc27) cm_Pa_init ci_Pa_init tw_54 ⟨rfl, rfl⟩ ⟨le_t rfl, le_t rfl⟩ ⟨rfl, le_t rfl⟩ ⟨le_t rfl, le_t rfl⟩ ⟨(rk_of (rf_mono m24 (rf_mono m19 (rf_mono m16 (rf_mono m11 ht))))), ⟨trivial, trivial⟩⟩ ⟨(rk_of hk25), ⟨(rk_of (rf_mono m24 (rf_mono m19 (rf_mono m16 (rf_mono m11 ht))))), trivial⟩⟩ d_Sk_accept_69 rfl (fun m26 => ?_)
  show G X s28 2 88 72 [(0, vR (some k)), (2, vI a2)] [vR (some o20), vR (some k)]
  refine g_putr (s0 := 0) (j := 5) (ci := 4) (C := RX4) (T := TX4) (N := 14) ok (rf_mono m26 (rf_mono m24 (rf_mono m19 (rf_mono m16 (rf_mono m11 ht))))) lay_0 rfl inX4 (by decide) rfl tw_87 rfl tyX4_ok nmX4 rfl (Or.inl ⟨_, rfl⟩) (rf_dm (rf_mono m26 hk25)) d_Sk_accept_72 ?_
  obtain ⟨s29, e30⟩ : ∃ z, wr s28 k 5 (some o20) = z := ⟨_, rfl⟩
  replace h := lt_go h e30
  have m31 := mo_wr e30
  rw [e30]
  refine g_iload_n (i := 2) 1 ok d_Sk_accept_75 rfl rfl ?_
  cases h
  exact g_iret ok (hret _ hk) (by decide) (by decide) d_Sk_accept_76
set_option maxRecDepth 100000 in
set_option maxHeartbeats 4000000 in
theorem w_Sk_accept {X : CX} {KX : Int32 × MS → Prop} {k : Nat} {a1 : Option Nat} {s : MS} (ok : Ok X cX4_accept RX4 rm_Sk_accept 3 true) (hret : ∀ r : Int32 × MS, KX r → Fin X (some .int) 2 88 true (some (vI r.1)) r.2)   (ht : rf s.2.2 0 (some k) = some k) {res : Int32 × MS} (h : f_Sk_accept k a1 s = some res) (hk : KX res) : G X s 0 0 0 [(0, vR (some k)), (1, vR a1)] [] := by
  unfold f_Sk_accept at h
  refine g_aload_n (i := 0) 0 ok d_Sk_accept_0 rfl rfl ?_
  refine g_aload_n (i := 0) 0 ok d_Sk_accept_1 rfl rfl ?_
  refine g_getr (s0 := 0) (j := 5) (ci := 4) (C := RX4) (T := TX4) (N := 14) ok ht lay_0 rfl inX4 (by decide) rfl tw_87 rfl d_Sk_accept_2 ?_
  obtain ⟨s3, hc2, h⟩ := bnd_go h
  refine g_invV (rm2 := rm_Sk_withdrawThoseMet) (As := [vR (s.2.1 k 5)]) (rest := []) ok ht lay_0 rfl (c_Sk_withdrawThoseMet X.1.2.1 (rf_self ht) hc2) cm_Sk_withdrawThoseMet cv_Sk_withdrawThoseMet tw_562 ⟨rfl, rfl⟩ ⟨le_t rfl, le_t rfl⟩ ⟨rfl, le_t rfl⟩ ⟨le_t rfl, le_t rfl⟩ d_Sk_accept_5 rfl (fun m1 => ?_)
  show G X s3 0 0 8 [(0, vR (some k)), (1, vR a1)] []
  refine g_aload_n (i := 0) 0 ok d_Sk_accept_8 rfl rfl ?_
  refine g_geti (s0 := 0) (j := 8) (ci := 4) (C := RX4) (T := TX4) (N := 14) ok (rf_mono m1 ht) lay_0 rfl inX4 (by decide) rfl tw_90 rfl d_Sk_accept_9 ?_
  obtain ⟨x4, e5⟩ : ∃ z, (s3.1 k 8) = z := ⟨_, rfl⟩
  replace h := lt_go h e5
  rw [e5]
  refine g_istore_n (i := 2) [(2, vI x4), (0, vR (some k)), (1, vR a1)] ok d_Sk_accept_12 rfl (by decide) rfl ?_
  refine g_iload_n (i := 2) 0 ok d_Sk_accept_13 rfl rfl ?_
  refine g_if_lt (tgt := 46) ok d_Sk_accept_14 (by decide) (fun c6 => ?_) (fun c6 => ?_)
  · replace h := (if_pos c6).symm.trans h
    refine g_sub [1, 2, 0] rfl ?_
    exact w_j_Sk_accept_46 ok hret (rf_mono m1 ht) h hk
  · replace h := (if_neg c6).symm.trans h
    refine g_iload_n (i := 2) 0 ok d_Sk_accept_17 rfl rfl ?_
    refine g_aload_n (i := 0) 1 ok d_Sk_accept_18 rfl rfl ?_
    refine g_getr (s0 := 0) (j := 3) (ci := 4) (C := RX4) (T := TX4) (N := 14) ok (rf_mono m1 ht) lay_0 rfl inX4 (by decide) rfl tw_85 rfl d_Sk_accept_19 ?_
    obtain ⟨n32, hn33, h⟩ := bnd_go h
    refine g_alen ok hn33 (by decide) d_Sk_accept_22 ?_
    refine g_icmp_ge (tgt := 46) ok d_Sk_accept_23 (by decide) (fun c34 => ?_) (fun c34 => ?_)
    · replace h := (if_pos c34).symm.trans h
      refine g_aload_n (i := 0) 1 ok d_Sk_accept_26 rfl rfl ?_
      refine g_getr (s0 := 0) (j := 3) (ci := 4) (C := RX4) (T := TX4) (N := 14) ok (rf_mono m1 ht) lay_0 rfl inX4 (by decide) rfl tw_85 rfl d_Sk_accept_27 ?_
      refine g_iload_n (i := 2) 0 ok d_Sk_accept_30 rfl rfl ?_
      refine g_aload_n (i := 0) 1 ok d_Sk_accept_31 rfl rfl ?_
      refine g_getr (s0 := 0) (j := 5) (ci := 4) (C := RX4) (T := TX4) (N := 14) ok (rf_mono m1 ht) lay_0 rfl inX4 (by decide) rfl tw_87 rfl d_Sk_accept_32 ?_
      obtain ⟨k37, hk38, h⟩ := bnd_go h
      obtain ⟨k35, hk36, h⟩ := bnd_go h
      refine g_aast5 ok hk36 hk38 lay_12 rfl d_Sk_accept_35 ?_
      obtain ⟨s39, e40⟩ : ∃ z, wr s3 k35 x4.toNatClampNeg (s3.2.1 k 5) = z := ⟨_, rfl⟩
      replace h := lt_go h e40
      have m41 := mo_wr e40
      rw [e40]
      refine g_aload_n (i := 0) 1 ok d_Sk_accept_36 rfl rfl ?_
      refine g_dup ok d_Sk_accept_37 rfl ?_
      refine g_geti (s0 := 0) (j := 8) (ci := 4) (C := RX4) (T := TX4) (N := 14) ok (rf_mono m41 (rf_mono m1 ht)) lay_0 rfl inX4 (by decide) rfl tw_90 rfl d_Sk_accept_38 ?_
      refine g_iconst (v := (1 : Int32)) ok d_Sk_accept_41 (by decide) ?_
      refine g_iadd ok d_Sk_accept_42 ?_
      refine g_puti (s0 := 0) (j := 8) (ci := 4) (C := RX4) (T := TX4) (N := 14) ok (rf_mono m41 (rf_mono m1 ht)) lay_0 rfl inX4 (by decide) rfl tw_90 rfl tyX4_ok nmX4 rfl (Or.inl rfl) d_Sk_accept_43 ?_
      obtain ⟨s42, e43⟩ : ∃ z, wi s39 k 8 ((s39.1 k 8) + (1 : Int32)) = z := ⟨_, rfl⟩
      replace h := lt_go h e43
      have m44 := mo_wi e43
      rw [e43]
      refine g_sub [1, 2, 0] rfl ?_
      exact w_j_Sk_accept_46 ok hret (rf_mono m44 (rf_mono m41 (rf_mono m1 ht))) h hk
    · replace h := (if_neg c34).symm.trans h
      refine g_sub [1, 2, 0] rfl ?_
      exact w_j_Sk_accept_46 ok hret (rf_mono m1 ht) h hk
theorem c_Sk_accept (l : Launch) {k : Nat} {a1 : Option Nat} {s : MS} (ht : rf s.2.2 0 (some k) = some k) {r : Int32} {z : MS} (h : f_Sk_accept k a1 s = some (r, z)) : Ct l yX4_accept (.code yX4_accept cX4_accept 3 (some .int)) rm_Sk_accept 2 88 true [vR (some k), vR a1] s (some (vI r)) z :=
  Ct.of rfl (by decide +kernel) ⟨rfl, le_t rfl⟩ (fun X ok fn _ hI hl => w_Sk_accept (KX := fun y => y = (r, z)) ok (fun y hy => by subst hy; exact fn) ht h rfl)
abbrev rm_Sk_why : Room := { frames := 0, cells := 0, slots := 0, locals := 0 }
theorem cm_Sk_why : cfM yX4_why cX4_why 1 (some .int) 0 := ⟨tw_132, tw_1, by decide, by decide, by decide +kernel⟩
theorem cv_Sk_why : cfV yX4_why := ⟨tw_130, tw_131⟩
theorem d_Sk_why_0 : decode cX4_why 0 = .ok (.aload_n 0, 1) := by decide +kernel
theorem d_Sk_why_1 : decode cX4_why 1 = .ok (.getfield 43, 3) := by decide +kernel
theorem d_Sk_why_4 : decode cX4_why 4 = .ok (.ireturn, 1) := by decide +kernel
set_option maxRecDepth 100000 in
set_option maxHeartbeats 4000000 in
theorem w_Sk_why {X : CX} {KX : Int32 → Prop} {k : Nat} {s : MS} (ok : Ok X cX4_why RX4 rm_Sk_why 1 false) (hret : ∀ r : Int32, KX r → Fin X (some .int) 0 0 false (some (vI r)) s)   (ht : rf s.2.2 0 (some k) = some k) {res : Int32} (h : f_Sk_why k s = some res) (hk : KX res) : G X s 0 0 0 [(0, vR (some k))] [] := by
  unfold f_Sk_why at h
  refine g_aload_n (i := 0) 0 ok d_Sk_why_0 rfl rfl ?_
  refine g_geti (s0 := 0) (j := 12) (ci := 4) (C := RX4) (T := TX4) (N := 14) ok ht lay_0 rfl inX4 (by decide) rfl tw_94 rfl d_Sk_why_1 ?_
  cases h
  exact g_iret ok (hret _ hk) (by decide) (by decide) d_Sk_why_4
theorem c_Sk_why (l : Launch) {k : Nat} {s : MS} (ht : rf s.2.2 0 (some k) = some k) {r : Int32} (h : f_Sk_why k s = some r) : Ct l yX4_why (.code yX4_why cX4_why 1 (some .int)) rm_Sk_why 0 0 false [vR (some k)] s (some (vI r)) s :=
  Ct.of rfl (by decide +kernel) ⟨rfl, le_t rfl⟩ (fun X ok fn _ hI hl => w_Sk_why (KX := fun y => y = r) ok (fun y hy => by subst hy; exact fn) ht h rfl)
abbrev rm_Sk_pathOf : Room := { frames := 1, cells := 0, slots := 0, locals := 22 }
theorem cm_Sk_pathOf : cfM yX4_pathOf cX4_pathOf 2 (some (.object "SkyLanes$Path")) 1 := ⟨tw_148, tw_1, by decide, by decide, by decide +kernel⟩
theorem cv_Sk_pathOf : cfV yX4_pathOf := ⟨tw_147, ts_X4_pathOf⟩
theorem d_Sk_pathOf_0 : decode cX4_pathOf 0 = .ok (.iload_n 1, 1) := by decide +kernel
theorem d_Sk_pathOf_1 : decode cX4_pathOf 1 = .ok (.iconst 0, 1) := by decide +kernel
theorem d_Sk_pathOf_2 : decode cX4_pathOf 2 = .ok (.aload_n 0, 1) := by decide +kernel
theorem d_Sk_pathOf_3 : decode cX4_pathOf 3 = .ok (.getfield 30, 3) := by decide +kernel
theorem d_Sk_pathOf_6 : decode cX4_pathOf 6 = .ok (.arraylength, 1) := by decide +kernel
theorem d_Sk_pathOf_7 : decode cX4_pathOf 7 = .ok (.iconst 1, 1) := by decide +kernel
theorem d_Sk_pathOf_8 : decode cX4_pathOf 8 = .ok (.isub, 1) := by decide +kernel
theorem d_Sk_pathOf_9 : decode cX4_pathOf 9 = .ok (.invokestatic 58, 3) := by decide +kernel
theorem d_Sk_pathOf_12 : decode cX4_pathOf 12 = .ok (.ifCond .eq 7, 3) := by decide +kernel
theorem d_Sk_pathOf_15 : decode cX4_pathOf 15 = .ok (.aconst_null, 1) := by decide +kernel
theorem d_Sk_pathOf_16 : decode cX4_pathOf 16 = .ok (.goto 9, 3) := by decide +kernel
theorem d_Sk_pathOf_19 : decode cX4_pathOf 19 = .ok (.aload_n 0, 1) := by decide +kernel
theorem d_Sk_pathOf_20 : decode cX4_pathOf 20 = .ok (.getfield 30, 3) := by decide +kernel
theorem d_Sk_pathOf_23 : decode cX4_pathOf 23 = .ok (.iload_n 1, 1) := by decide +kernel
theorem d_Sk_pathOf_24 : decode cX4_pathOf 24 = .ok (.aaload, 1) := by decide +kernel
theorem d_Sk_pathOf_25 : decode cX4_pathOf 25 = .ok (.areturn, 1) := by decide +kernel
set_option maxRecDepth 100000 in
set_option maxHeartbeats 4000000 in
theorem w_Sk_pathOf {X : CX} {KX : Option Nat → Prop} {k : Nat} {a1 : Int32} {s : MS} (ok : Ok X cX4_pathOf RX4 rm_Sk_pathOf 2 false) (hret : ∀ r : Option Nat, KX r → Fin X (some (.object "SkyLanes$Path")) 0 0 false (some (vR r)) s)   (ht : rf s.2.2 0 (some k) = some k) {res : Option Nat} (h : f_Sk_pathOf k a1 s = some res) (hk : KX res) : G X s 0 0 0 [(0, vR (some k)), (1, vI a1)] [] := by
  unfold f_Sk_pathOf at h
  refine g_iload_n (i := 1) 1 ok d_Sk_pathOf_0 rfl rfl ?_
  refine g_iconst (v := (0 : Int32)) ok d_Sk_pathOf_1 (by decide) ?_
  refine g_aload_n (i := 0) 0 ok d_Sk_pathOf_2 rfl rfl ?_
  refine g_getr (s0 := 0) (j := 3) (ci := 4) (C := RX4) (T := TX4) (N := 14) ok ht lay_0 rfl inX4 (by decide) rfl tw_85 rfl d_Sk_pathOf_3 ?_
  obtain ⟨n1, hn2, h⟩ := bnd_go h
  refine g_alen ok hn2 (by decide) d_Sk_pathOf_6 ?_
  refine g_iconst (v := (1 : Int32)) ok d_Sk_pathOf_7 (by decide) ?_
  refine g_isub ok d_Sk_pathOf_8 ?_
  refine g_invS (rm2 := rm_Sk_isOut) (As := [vI a1, vI (0 : Int32), vI ((Int32.ofNat n1) - (1 : Int32))]) (rest := []) ok (c_Sk_isOut X.1.2.1) cm_Sk_isOut cs_Sk_isOut tw_149 ⟨rfl, rfl⟩ ⟨le_t rfl, le_t rfl⟩ ⟨rfl, le_t rfl⟩ ⟨le_t rfl, le_t rfl⟩ d_Sk_pathOf_9 rfl (fun m3 => ?_)
  show G X s 0 0 12 [(0, vR (some k)), (1, vI a1)] [vI (f_Sk_isOut a1 (0 : Int32) ((Int32.ofNat n1) - (1 : Int32)))]
  refine g_if_eq (tgt := 19) ok d_Sk_pathOf_12 (by decide) (fun c4 => ?_) (fun c4 => ?_)
  · replace h := (if_pos c4).symm.trans h
    refine g_aload_n (i := 0) 0 ok d_Sk_pathOf_19 rfl rfl ?_
    refine g_getr (s0 := 0) (j := 3) (ci := 4) (C := RX4) (T := TX4) (N := 14) ok ht lay_0 rfl inX4 (by decide) rfl tw_85 rfl d_Sk_pathOf_20 ?_
    refine g_iload_n (i := 1) 1 ok d_Sk_pathOf_23 rfl rfl ?_
    obtain ⟨k5, hk6, h⟩ := bnd_go h
    refine g_aald5 ok hk6 d_Sk_pathOf_24 ?_
    cases h
    exact g_aret ok (hret _ hk) (by decide) (by decide) d_Sk_pathOf_25
  · replace h := (if_neg c4).symm.trans h
    refine g_null ok d_Sk_pathOf_15 ?_
    refine g_goto (tgt := 25) ok d_Sk_pathOf_16 (by decide) ?_
    cases h
    exact g_aret ok (hret _ hk) (by decide) (by decide) d_Sk_pathOf_25
theorem c_Sk_pathOf (l : Launch) {k : Nat} {a1 : Int32} {s : MS} (ht : rf s.2.2 0 (some k) = some k) {r : Option Nat} (h : f_Sk_pathOf k a1 s = some r) : Ct l yX4_pathOf (.code yX4_pathOf cX4_pathOf 2 (some (.object "SkyLanes$Path"))) rm_Sk_pathOf 0 0 false [vR (some k), vI a1] s (some (vR r)) s :=
  Ct.of rfl (by decide +kernel) ⟨rfl, le_t rfl⟩ (fun X ok fn _ hI hl => w_Sk_pathOf (KX := fun y => y = r) ok (fun y hy => by subst hy; exact fn) ht h rfl)
abbrev rm_Sk_chargeParked : Room := { frames := 2, cells := 0, slots := 0, locals := 42 }
theorem cm_Sk_chargeParked : cfM yX4_chargeParked cX4_chargeParked 5 none 0 := ⟨tw_582, tw_1, by decide, by decide, by decide +kernel⟩
theorem cv_Sk_chargeParked : cfV yX4_chargeParked := ⟨tw_581, ts_X4_chargeParked⟩
theorem d_Sk_chargeParked_0 : decode cX4_chargeParked 0 = .ok (.aload_n 0, 1) := by decide +kernel
theorem d_Sk_chargeParked_1 : decode cX4_chargeParked 1 = .ok (.getfield 24, 3) := by decide +kernel
theorem d_Sk_chargeParked_4 : decode cX4_chargeParked 4 = .ok (.astore_n 1, 1) := by decide +kernel
theorem d_Sk_chargeParked_5 : decode cX4_chargeParked 5 = .ok (.aload_n 1, 1) := by decide +kernel
theorem d_Sk_chargeParked_6 : decode cX4_chargeParked 6 = .ok (.arraylength, 1) := by decide +kernel
theorem d_Sk_chargeParked_7 : decode cX4_chargeParked 7 = .ok (.istore_n 2, 1) := by decide +kernel
theorem d_Sk_chargeParked_8 : decode cX4_chargeParked 8 = .ok (.iconst 0, 1) := by decide +kernel
theorem d_Sk_chargeParked_9 : decode cX4_chargeParked 9 = .ok (.istore_n 3, 1) := by decide +kernel
theorem d_Sk_chargeParked_10 : decode cX4_chargeParked 10 = .ok (.iload_n 3, 1) := by decide +kernel
theorem d_Sk_chargeParked_11 : decode cX4_chargeParked 11 = .ok (.iload_n 2, 1) := by decide +kernel
theorem d_Sk_chargeParked_12 : decode cX4_chargeParked 12 = .ok (.if_icmp .ge 38, 3) := by decide +kernel
theorem d_Sk_chargeParked_15 : decode cX4_chargeParked 15 = .ok (.aload_n 1, 1) := by decide +kernel
theorem d_Sk_chargeParked_16 : decode cX4_chargeParked 16 = .ok (.iload_n 3, 1) := by decide +kernel
theorem d_Sk_chargeParked_17 : decode cX4_chargeParked 17 = .ok (.aaload, 1) := by decide +kernel
theorem d_Sk_chargeParked_18 : decode cX4_chargeParked 18 = .ok (.astore 4, 2) := by decide +kernel
theorem d_Sk_chargeParked_20 : decode cX4_chargeParked 20 = .ok (.aload 4, 2) := by decide +kernel
theorem d_Sk_chargeParked_22 : decode cX4_chargeParked 22 = .ok (.ifnull 22, 3) := by decide +kernel
theorem d_Sk_chargeParked_25 : decode cX4_chargeParked 25 = .ok (.aload 4, 2) := by decide +kernel
theorem d_Sk_chargeParked_27 : decode cX4_chargeParked 27 = .ok (.getfield 163, 3) := by decide +kernel
theorem d_Sk_chargeParked_30 : decode cX4_chargeParked 30 = .ok (.ifCond .ne 14, 3) := by decide +kernel
theorem d_Sk_chargeParked_33 : decode cX4_chargeParked 33 = .ok (.aload 4, 2) := by decide +kernel
theorem d_Sk_chargeParked_35 : decode cX4_chargeParked 35 = .ok (.aload 4, 2) := by decide +kernel
theorem d_Sk_chargeParked_37 : decode cX4_chargeParked 37 = .ok (.iconst 1, 1) := by decide +kernel
theorem d_Sk_chargeParked_38 : decode cX4_chargeParked 38 = .ok (.invokevirtual 308, 3) := by decide +kernel
theorem d_Sk_chargeParked_41 : decode cX4_chargeParked 41 = .ok (.putfield 243, 3) := by decide +kernel
theorem d_Sk_chargeParked_44 : decode cX4_chargeParked 44 = .ok (.iinc 3 1, 3) := by decide +kernel
theorem d_Sk_chargeParked_47 : decode cX4_chargeParked 47 = .ok (.goto (-37), 3) := by decide +kernel
theorem d_Sk_chargeParked_50 : decode cX4_chargeParked 50 = .ok (.return_, 1) := by decide +kernel
set_option maxRecDepth 100000 in
set_option maxHeartbeats 4000000 in
theorem w_b_Sk_chargeParked_10 {X : CX} {KX : MS → Prop} {k : Nat} {a1 : Option Nat} {a2 : Int32} {a3 : Int32} {s : MS} {rec : Int32 → MS → Option (MS)} {sb : MS} (ok : Ok X cX4_chargeParked RX4 rm_Sk_chargeParked 5 false) (hexit : ∀ (z : MS), KX z → (∀ q, dm sb q → dm z q) → G X z 0 0 50 [(0, vR (some k))] []) (hrec : ∀ (v3 : Int32) (z : MS), (∀ q, dm sb q → dm z q) → ∀ y, rec v3 z = some y → KX y → G X z 0 0 10 [(0, vR (some k)), (1, vR a1), (2, vI a2), (3, vI v3)] []) (mb : ∀ q, dm sb q → dm s q) (ht : rf s.2.2 0 (some k) = some k) {res : MS} (h : b_Sk_chargeParked_10 k a1 a2 a3 s rec = some res) (hk : KX res) : G X s 0 0 10 [(0, vR (some k)), (1, vR a1), (2, vI a2), (3, vI a3)] [] := by
  unfold b_Sk_chargeParked_10 at h
  refine g_iload_n (i := 3) 3 ok d_Sk_chargeParked_10 rfl rfl ?_
  refine g_iload_n (i := 2) 2 ok d_Sk_chargeParked_11 rfl rfl ?_
  refine g_icmp_ge (tgt := 50) ok d_Sk_chargeParked_12 (by decide) (fun c7 => ?_) (fun c7 => ?_)
  · replace h := (if_pos c7).symm.trans h
    refine g_aload_n (i := 1) 1 ok d_Sk_chargeParked_15 rfl rfl ?_
    refine g_iload_n (i := 3) 3 ok d_Sk_chargeParked_16 rfl rfl ?_
    obtain ⟨k8, hk9, h⟩ := bnd_go h
    refine g_aald4 ok hk9 d_Sk_chargeParked_17 ?_
    obtain ⟨x10, e11⟩ : ∃ z, (s.2.1 k8 a3.toNatClampNeg) = z := ⟨_, rfl⟩
    replace h := lt_go h e11
    rw [e11]
    refine g_astore (i := 4) [(4, vR x10), (0, vR (some k)), (1, vR a1), (2, vI a2), (3, vI a3)] ok d_Sk_chargeParked_18 (by decide) rfl ?_
    refine g_aload (i := 4) 0 ok d_Sk_chargeParked_20 rfl ?_
    refine g_ifnull (tgt := 44) ok d_Sk_chargeParked_22 (by decide) (fun c12 => ?_) (fun c12 => ?_)
    · replace h := (if_pos c12).symm.trans h
      obtain ⟨x13, e14⟩ : ∃ z, a3 + (1 : Int32) = z := ⟨_, rfl⟩
      replace h := lt_go h e14
      refine g_iinc (i := 3) (v := x13) 4 [(3, vI x13), (4, vR x10), (0, vR (some k)), (1, vR a1), (2, vI a2)] ok d_Sk_chargeParked_44 rfl (by rw [← e14]; rfl) (by decide) rfl ?_
      refine g_goto (tgt := 10) ok d_Sk_chargeParked_47 (by decide) ?_
      refine g_sub [2, 3, 4, 0] rfl ?_
      exact hrec x13 s mb _ h hk
    · replace h := (if_neg c12).symm.trans h
      refine g_aload (i := 4) 0 ok d_Sk_chargeParked_25 rfl ?_
      obtain ⟨k15, hk16, h⟩ := bnd_go h
      refine g_getiN (s0 := 11) (j := 4) (ci := 1) (C := RX1) (T := TX1) (N := 7) ok hk16 lay_11 rfl inX1 (by decide) rfl tw_454 rfl d_Sk_chargeParked_27 ?_
      refine g_if_ne (tgt := 44) ok d_Sk_chargeParked_30 (by decide) (fun c17 => ?_) (fun c17 => ?_)
      · replace h := (if_pos c17).symm.trans h
        refine g_aload (i := 4) 0 ok d_Sk_chargeParked_33 rfl ?_
        refine g_aload (i := 4) 0 ok d_Sk_chargeParked_35 rfl ?_
        refine g_iconst (v := (1 : Int32)) ok d_Sk_chargeParked_37 (by decide) ?_
        obtain ⟨x19, hc20, h⟩ := bnd_go h
        refine g_invVN (rm2 := rm_Ma_batteryAfter) (As := [vI (1 : Int32)]) (rest := [vR x10]) ok hk16 lay_11 rfl (c_Ma_batteryAfter X.1.2.1 (rf_self hk16) hc20) cm_Ma_batteryAfter cv_Ma_batteryAfter tw_514 ⟨rfl, rfl⟩ ⟨le_t rfl, le_t rfl⟩ ⟨rfl, le_t rfl⟩ ⟨le_t rfl, le_t rfl⟩ d_Sk_chargeParked_38 rfl (fun m18 => ?_)
        show G X s 0 0 41 [(4, vR x10), (0, vR (some k)), (1, vR a1), (2, vI a2), (3, vI a3)] [vI x19, vR x10]
        refine g_putiN (s0 := 11) (j := 2) (ci := 1) (C := RX1) (T := TX1) (N := 7) ok hk16 lay_11 rfl inX1 (by decide) rfl tw_450 rfl tyX1_ok nmX1 rfl (Or.inl rfl) d_Sk_chargeParked_41 ?_
        obtain ⟨s21, e22⟩ : ∃ z, wi s k15 2 x19 = z := ⟨_, rfl⟩
        replace h := lt_go h e22
        have m23 := mo_wi e22
        rw [e22]
        obtain ⟨x24, e25⟩ : ∃ z, a3 + (1 : Int32) = z := ⟨_, rfl⟩
        replace h := lt_go h e25
        refine g_iinc (i := 3) (v := x24) 4 [(3, vI x24), (4, vR x10), (0, vR (some k)), (1, vR a1), (2, vI a2)] ok d_Sk_chargeParked_44 rfl (by rw [← e25]; rfl) (by decide) rfl ?_
        refine g_goto (tgt := 10) ok d_Sk_chargeParked_47 (by decide) ?_
        refine g_sub [2, 3, 4, 0] rfl ?_
        exact hrec x24 s21 (fun z hz => m23 z (mb z hz)) _ h hk
      · replace h := (if_neg c17).symm.trans h
        obtain ⟨x26, e27⟩ : ∃ z, a3 + (1 : Int32) = z := ⟨_, rfl⟩
        replace h := lt_go h e27
        refine g_iinc (i := 3) (v := x26) 4 [(3, vI x26), (4, vR x10), (0, vR (some k)), (1, vR a1), (2, vI a2)] ok d_Sk_chargeParked_44 rfl (by rw [← e27]; rfl) (by decide) rfl ?_
        refine g_goto (tgt := 10) ok d_Sk_chargeParked_47 (by decide) ?_
        refine g_sub [2, 3, 4, 0] rfl ?_
        exact hrec x26 s mb _ h hk
  · replace h := (if_neg c7).symm.trans h
    refine g_sub [0] rfl ?_
    cases h
    exact hexit s hk mb
theorem wx_l_Sk_chargeParked_10 {X : CX} {KX : MS → Prop} {k : Nat} {a1 : Option Nat} {a2 : Int32} {sb : MS} (ok : Ok X cX4_chargeParked RX4 rm_Sk_chargeParked 5 false) (hexit : ∀ (z : MS), KX z → (∀ q, dm sb q → dm z q) → G X z 0 0 50 [(0, vR (some k))] []) (htb : rf sb.2.2 0 (some k) = some k) : ∀ (n : Nat) (a3 : Int32) (s : MS), (∀ q, dm sb q → dm s q) → ∀ (res : MS), l_Sk_chargeParked_10 k a1 a2 n a3 s = some res → KX res → G X s 0 0 10 [(0, vR (some k)), (1, vR a1), (2, vI a2), (3, vI a3)] [] := by
  intro n
  induction n with
  | zero => intro _ s _ res h; cases h
  | succ n ih =>
    intro a3 s mb res h hk
    exact w_b_Sk_chargeParked_10 ok hexit (fun v3 z hz y h2 hk2 => ih v3 z hz y h2 hk2) mb (rf_mono mb htb) h hk
theorem w_l_Sk_chargeParked_10 {X : CX} {KX : MS → Prop} {k : Nat} {a1 : Option Nat} {a2 : Int32} {sb : MS} (ok : Ok X cX4_chargeParked RX4 rm_Sk_chargeParked 5 false) (hexit : ∀ (z : MS), KX z → (∀ q, dm sb q → dm z q) → G X z 0 0 50 [(0, vR (some k))] []) (mb : ∀ q, dm sb q → dm sb q) (htb : rf sb.2.2 0 (some k) = some k) (n : Nat) (a3 : Int32) {res : MS} (h : l_Sk_chargeParked_10 k a1 a2 n a3 sb = some res) (hk : KX res) : G X sb 0 0 10 [(0, vR (some k)), (1, vR a1), (2, vI a2), (3, vI a3)] [] := wx_l_Sk_chargeParked_10 ok hexit htb n a3 sb mb res h hk
set_option maxRecDepth 100000 in
set_option maxHeartbeats 4000000 in
theorem w_Sk_chargeParked {X : CX} {KX : MS → Prop} {k : Nat} {s : MS} (ok : Ok X cX4_chargeParked RX4 rm_Sk_chargeParked 5 false) (hret : ∀ r : MS, KX r → Fin X none 0 0 false none r)   (ht : rf s.2.2 0 (some k) = some k) {res : MS} (h : f_Sk_chargeParked k s = some res) (hk : KX res) : G X s 0 0 0 [(0, vR (some k))] [] := by
  unfold f_Sk_chargeParked at h
  refine g_aload_n (i := 0) 0 ok d_Sk_chargeParked_0 rfl rfl ?_
  refine g_getr (s0 := 0) (j := 2) (ci := 4) (C := RX4) (T := TX4) (N := 14) ok ht lay_0 rfl inX4 (by decide) rfl tw_84 rfl d_Sk_chargeParked_1 ?_
  obtain ⟨x1, e2⟩ : ∃ z, (s.2.1 k 2) = z := ⟨_, rfl⟩
  replace h := lt_go h e2
  rw [e2]
  refine g_astore_n (i := 1) [(1, vR x1), (0, vR (some k))] ok d_Sk_chargeParked_4 rfl (by decide) rfl ?_
  refine g_aload_n (i := 1) 0 ok d_Sk_chargeParked_5 rfl rfl ?_
  obtain ⟨n3, hn4, h⟩ := bnd_go h
  refine g_alen ok hn4 (by decide) d_Sk_chargeParked_6 ?_
  obtain ⟨x5, e6⟩ : ∃ z, (Int32.ofNat n3) = z := ⟨_, rfl⟩
  replace h := lt_go h e6
  rw [e6]
  refine g_istore_n (i := 2) [(2, vI x5), (1, vR x1), (0, vR (some k))] ok d_Sk_chargeParked_7 rfl (by decide) rfl ?_
  refine g_iconst (v := (0 : Int32)) ok d_Sk_chargeParked_8 (by decide) ?_
  refine g_istore_n (i := 3) [(3, vI (0 : Int32)), (2, vI x5), (1, vR x1), (0, vR (some k))] ok d_Sk_chargeParked_9 rfl (by decide) rfl ?_
  refine g_sub [3, 2, 1, 0] rfl ?_
  obtain ⟨s29, hx, h⟩ := bnd_go h
  refine w_l_Sk_chargeParked_10 (KX := fun y => y = s29) ok (fun y0 he m28 => ?_) (fun _ hz => hz) ht _ _ hx rfl
  cases he
  cases h
  exact g_vret ok (hret _ hk) (by decide) (by decide) d_Sk_chargeParked_50
theorem c_Sk_chargeParked (l : Launch) {k : Nat} {s : MS} (ht : rf s.2.2 0 (some k) = some k) {z : MS} (h : f_Sk_chargeParked k s = some z) : Ct l yX4_chargeParked (.code yX4_chargeParked cX4_chargeParked 5 none) rm_Sk_chargeParked 0 0 false [vR (some k)] s none z :=
  Ct.of rfl (by decide +kernel) ⟨rfl, le_t rfl⟩ (fun X ok fn _ hI hl => w_Sk_chargeParked (KX := fun y => y = z) ok (fun y hy => by subst hy; exact fn) ht h rfl)
abbrev rm_Sk_beginPaths : Room := { frames := 2, cells := 0, slots := 0, locals := 43 }
theorem cm_Sk_beginPaths : cfM yX4_beginPaths cX4_beginPaths 6 none 0 := ⟨tw_586, tw_1, by decide, by decide, by decide +kernel⟩
theorem cv_Sk_beginPaths : cfV yX4_beginPaths := ⟨tw_585, ts_X4_beginPaths⟩
theorem d_Sk_beginPaths_0 : decode cX4_beginPaths 0 = .ok (.aload_n 0, 1) := by decide +kernel
theorem d_Sk_beginPaths_1 : decode cX4_beginPaths 1 = .ok (.getfield 30, 3) := by decide +kernel
theorem d_Sk_beginPaths_4 : decode cX4_beginPaths 4 = .ok (.astore_n 1, 1) := by decide +kernel
theorem d_Sk_beginPaths_5 : decode cX4_beginPaths 5 = .ok (.aload_n 1, 1) := by decide +kernel
theorem d_Sk_beginPaths_6 : decode cX4_beginPaths 6 = .ok (.arraylength, 1) := by decide +kernel
theorem d_Sk_beginPaths_7 : decode cX4_beginPaths 7 = .ok (.istore_n 2, 1) := by decide +kernel
theorem d_Sk_beginPaths_8 : decode cX4_beginPaths 8 = .ok (.iconst 0, 1) := by decide +kernel
theorem d_Sk_beginPaths_9 : decode cX4_beginPaths 9 = .ok (.istore_n 3, 1) := by decide +kernel
theorem d_Sk_beginPaths_10 : decode cX4_beginPaths 10 = .ok (.iload_n 3, 1) := by decide +kernel
theorem d_Sk_beginPaths_11 : decode cX4_beginPaths 11 = .ok (.iload_n 2, 1) := by decide +kernel
theorem d_Sk_beginPaths_12 : decode cX4_beginPaths 12 = .ok (.if_icmp .ge 71, 3) := by decide +kernel
theorem d_Sk_beginPaths_15 : decode cX4_beginPaths 15 = .ok (.aload_n 1, 1) := by decide +kernel
theorem d_Sk_beginPaths_16 : decode cX4_beginPaths 16 = .ok (.iload_n 3, 1) := by decide +kernel
theorem d_Sk_beginPaths_17 : decode cX4_beginPaths 17 = .ok (.aaload, 1) := by decide +kernel
theorem d_Sk_beginPaths_18 : decode cX4_beginPaths 18 = .ok (.astore 4, 2) := by decide +kernel
theorem d_Sk_beginPaths_20 : decode cX4_beginPaths 20 = .ok (.aload 4, 2) := by decide +kernel
theorem d_Sk_beginPaths_22 : decode cX4_beginPaths 22 = .ok (.ifnull 23, 3) := by decide +kernel
theorem d_Sk_beginPaths_25 : decode cX4_beginPaths 25 = .ok (.aload 4, 2) := by decide +kernel
theorem d_Sk_beginPaths_27 : decode cX4_beginPaths 27 = .ok (.getfield 214, 3) := by decide +kernel
theorem d_Sk_beginPaths_30 : decode cX4_beginPaths 30 = .ok (.ifCond .ne 15, 3) := by decide +kernel
theorem d_Sk_beginPaths_33 : decode cX4_beginPaths 33 = .ok (.aload 4, 2) := by decide +kernel
theorem d_Sk_beginPaths_35 : decode cX4_beginPaths 35 = .ok (.getfield 195, 3) := by decide +kernel
theorem d_Sk_beginPaths_38 : decode cX4_beginPaths 38 = .ok (.aload_n 0, 1) := by decide +kernel
theorem d_Sk_beginPaths_39 : decode cX4_beginPaths 39 = .ok (.getfield 182, 3) := by decide +kernel
theorem d_Sk_beginPaths_42 : decode cX4_beginPaths 42 = .ok (.if_icmp .eq 7, 3) := by decide +kernel
theorem d_Sk_beginPaths_45 : decode cX4_beginPaths 45 = .ok (.aconst_null, 1) := by decide +kernel
theorem d_Sk_beginPaths_46 : decode cX4_beginPaths 46 = .ok (.goto 12, 3) := by decide +kernel
theorem d_Sk_beginPaths_49 : decode cX4_beginPaths 49 = .ok (.aload_n 0, 1) := by decide +kernel
theorem d_Sk_beginPaths_50 : decode cX4_beginPaths 50 = .ok (.aload 4, 2) := by decide +kernel
theorem d_Sk_beginPaths_52 : decode cX4_beginPaths 52 = .ok (.getfield 192, 3) := by decide +kernel
theorem d_Sk_beginPaths_55 : decode cX4_beginPaths 55 = .ok (.invokevirtual 157, 3) := by decide +kernel
theorem d_Sk_beginPaths_58 : decode cX4_beginPaths 58 = .ok (.astore 5, 2) := by decide +kernel
theorem d_Sk_beginPaths_60 : decode cX4_beginPaths 60 = .ok (.aload 5, 2) := by decide +kernel
theorem d_Sk_beginPaths_62 : decode cX4_beginPaths 62 = .ok (.ifnull 15, 3) := by decide +kernel
theorem d_Sk_beginPaths_65 : decode cX4_beginPaths 65 = .ok (.aload 4, 2) := by decide +kernel
theorem d_Sk_beginPaths_67 : decode cX4_beginPaths 67 = .ok (.iconst 1, 1) := by decide +kernel
theorem d_Sk_beginPaths_68 : decode cX4_beginPaths 68 = .ok (.putfield 214, 3) := by decide +kernel
theorem d_Sk_beginPaths_71 : decode cX4_beginPaths 71 = .ok (.aload 5, 2) := by decide +kernel
theorem d_Sk_beginPaths_73 : decode cX4_beginPaths 73 = .ok (.iconst 1, 1) := by decide +kernel
theorem d_Sk_beginPaths_74 : decode cX4_beginPaths 74 = .ok (.putfield 163, 3) := by decide +kernel
theorem d_Sk_beginPaths_77 : decode cX4_beginPaths 77 = .ok (.iinc 3 1, 3) := by decide +kernel
theorem d_Sk_beginPaths_80 : decode cX4_beginPaths 80 = .ok (.goto (-70), 3) := by decide +kernel
theorem d_Sk_beginPaths_83 : decode cX4_beginPaths 83 = .ok (.return_, 1) := by decide +kernel
set_option maxRecDepth 100000 in
set_option maxHeartbeats 4000000 in
theorem w_j_Sk_beginPaths_58 {X : CX} {KX : MS → Prop} {k : Nat} {a1 : Option Nat} {a2 : Int32} {a3 : Int32} {a4 : Option Nat} {t0 : Option Nat} {s : MS} {rec : Int32 → MS → Option (MS)} {sb : MS} (ok : Ok X cX4_beginPaths RX4 rm_Sk_beginPaths 6 false) (hexit : ∀ (z : MS), KX z → (∀ q, dm sb q → dm z q) → G X z 0 0 83 [(0, vR (some k))] []) (hrec : ∀ (v3 : Int32) (z : MS), (∀ q, dm sb q → dm z q) → ∀ y, rec v3 z = some y → KX y → G X z 0 0 10 [(0, vR (some k)), (1, vR a1), (2, vI a2), (3, vI v3)] []) (mb : ∀ q, dm sb q → dm s q) (ht : rf s.2.2 0 (some k) = some k) {res : MS} (h : j_Sk_beginPaths_58 k a1 a2 a3 a4 t0 s rec = some res) (hk : KX res) : G X s 0 0 58 [(0, vR (some k)), (1, vR a1), (2, vI a2), (3, vI a3), (4, vR a4)] [vR t0] := by
  unfold j_Sk_beginPaths_58 at h
  refine g_astore (i := 5) [(5, vR t0), (0, vR (some k)), (1, vR a1), (2, vI a2), (3, vI a3), (4, vR a4)] ok d_Sk_beginPaths_58 (by decide) rfl ?_
  refine g_aload (i := 5) 0 ok d_Sk_beginPaths_60 rfl ?_
  refine g_ifnull (tgt := 77) ok d_Sk_beginPaths_62 (by decide) (fun c13 => ?_) (fun c13 => ?_)
  · replace h := (if_pos c13).symm.trans h
    obtain ⟨x14, e15⟩ : ∃ z, a3 + (1 : Int32) = z := ⟨_, rfl⟩
    replace h := lt_go h e15
    refine g_iinc (i := 3) (v := x14) 4 [(3, vI x14), (5, vR t0), (0, vR (some k)), (1, vR a1), (2, vI a2), (4, vR a4)] ok d_Sk_beginPaths_77 rfl (by rw [← e15]; rfl) (by decide) rfl ?_
    refine g_goto (tgt := 10) ok d_Sk_beginPaths_80 (by decide) ?_
    refine g_sub [2, 3, 4, 0] rfl ?_
    exact hrec x14 s mb _ h hk
  · replace h := (if_neg c13).symm.trans h
    refine g_aload (i := 4) 5 ok d_Sk_beginPaths_65 rfl ?_
    refine g_iconst (v := (1 : Int32)) ok d_Sk_beginPaths_67 (by decide) ?_
    obtain ⟨k16, hk17, h⟩ := bnd_go h
    refine g_putiN (s0 := 12) (j := 6) (ci := 2) (C := RX2) (T := TX2) (N := 7) ok hk17 lay_12 rfl inX2 (by decide) rfl tw_66 rfl tyX2_ok nmX2 rfl (Or.inl rfl) d_Sk_beginPaths_68 ?_
    obtain ⟨s18, e19⟩ : ∃ z, wi s k16 6 (1 : Int32) = z := ⟨_, rfl⟩
    replace h := lt_go h e19
    have m20 := mo_wi e19
    rw [e19]
    refine g_aload (i := 5) 0 ok d_Sk_beginPaths_71 rfl ?_
    refine g_iconst (v := (1 : Int32)) ok d_Sk_beginPaths_73 (by decide) ?_
    obtain ⟨k21, hk22, h⟩ := bnd_go h
    refine g_putiN (s0 := 11) (j := 4) (ci := 1) (C := RX1) (T := TX1) (N := 7) ok hk22 lay_11 rfl inX1 (by decide) rfl tw_454 rfl tyX1_ok nmX1 rfl (Or.inl rfl) d_Sk_beginPaths_74 ?_
    obtain ⟨s23, e24⟩ : ∃ z, wi s18 k21 4 (1 : Int32) = z := ⟨_, rfl⟩
    replace h := lt_go h e24
    have m25 := mo_wi e24
    rw [e24]
    obtain ⟨x26, e27⟩ : ∃ z, a3 + (1 : Int32) = z := ⟨_, rfl⟩
    replace h := lt_go h e27
    refine g_iinc (i := 3) (v := x26) 4 [(3, vI x26), (5, vR t0), (0, vR (some k)), (1, vR a1), (2, vI a2), (4, vR a4)] ok d_Sk_beginPaths_77 rfl (by rw [← e27]; rfl) (by decide) rfl ?_
    refine g_goto (tgt := 10) ok d_Sk_beginPaths_80 (by decide) ?_
    refine g_sub [2, 3, 4, 0] rfl ?_
    exact hrec x26 s23 (fun z hz => m25 z ((fun z hz => m20 z (mb z hz)) z hz)) _ h hk
set_option maxRecDepth 100000 in
set_option maxHeartbeats 4000000 in
theorem w_j_Sk_beginPaths_45 {X : CX} {KX : MS → Prop} {k : Nat} {a1 : Option Nat} {a2 : Int32} {a3 : Int32} {a4 : Option Nat} {s : MS} {rec : Int32 → MS → Option (MS)} {sb : MS} (ok : Ok X cX4_beginPaths RX4 rm_Sk_beginPaths 6 false) (hexit : ∀ (z : MS), KX z → (∀ q, dm sb q → dm z q) → G X z 0 0 83 [(0, vR (some k))] []) (hrec : ∀ (v3 : Int32) (z : MS), (∀ q, dm sb q → dm z q) → ∀ y, rec v3 z = some y → KX y → G X z 0 0 10 [(0, vR (some k)), (1, vR a1), (2, vI a2), (3, vI v3)] []) (mb : ∀ q, dm sb q → dm s q) (ht : rf s.2.2 0 (some k) = some k) {res : MS} (h : j_Sk_beginPaths_45 k a1 a2 a3 a4 s rec = some res) (hk : KX res) : G X s 0 0 45 [(0, vR (some k)), (1, vR a1), (2, vI a2), (3, vI a3), (4, vR a4)] [] := by
  unfold j_Sk_beginPaths_45 at h
  refine g_null ok d_Sk_beginPaths_45 ?_
  refine g_goto (tgt := 58) ok d_Sk_beginPaths_46 (by decide) ?_
  exact w_j_Sk_beginPaths_58 ok hexit hrec mb ht h hk
set_option maxRecDepth 100000 in
set_option maxHeartbeats 4000000 in
theorem w_b_Sk_beginPaths_10 {X : CX} {KX : MS → Prop} {k : Nat} {a1 : Option Nat} {a2 : Int32} {a3 : Int32} {s : MS} {rec : Int32 → MS → Option (MS)} {sb : MS} (ok : Ok X cX4_beginPaths RX4 rm_Sk_beginPaths 6 false) (hexit : ∀ (z : MS), KX z → (∀ q, dm sb q → dm z q) → G X z 0 0 83 [(0, vR (some k))] []) (hrec : ∀ (v3 : Int32) (z : MS), (∀ q, dm sb q → dm z q) → ∀ y, rec v3 z = some y → KX y → G X z 0 0 10 [(0, vR (some k)), (1, vR a1), (2, vI a2), (3, vI v3)] []) (mb : ∀ q, dm sb q → dm s q) (ht : rf s.2.2 0 (some k) = some k) {res : MS} (h : b_Sk_beginPaths_10 k a1 a2 a3 s rec = some res) (hk : KX res) : G X s 0 0 10 [(0, vR (some k)), (1, vR a1), (2, vI a2), (3, vI a3)] [] := by
  unfold b_Sk_beginPaths_10 at h
  refine g_iload_n (i := 3) 3 ok d_Sk_beginPaths_10 rfl rfl ?_
  refine g_iload_n (i := 2) 2 ok d_Sk_beginPaths_11 rfl rfl ?_
  refine g_icmp_ge (tgt := 83) ok d_Sk_beginPaths_12 (by decide) (fun c7 => ?_) (fun c7 => ?_)
  · replace h := (if_pos c7).symm.trans h
    refine g_aload_n (i := 1) 1 ok d_Sk_beginPaths_15 rfl rfl ?_
    refine g_iload_n (i := 3) 3 ok d_Sk_beginPaths_16 rfl rfl ?_
    obtain ⟨k8, hk9, h⟩ := bnd_go h
    refine g_aald5 ok hk9 d_Sk_beginPaths_17 ?_
    obtain ⟨x10, e11⟩ : ∃ z, (s.2.1 k8 a3.toNatClampNeg) = z := ⟨_, rfl⟩
    replace h := lt_go h e11
    rw [e11]
    refine g_astore (i := 4) [(4, vR x10), (0, vR (some k)), (1, vR a1), (2, vI a2), (3, vI a3)] ok d_Sk_beginPaths_18 (by decide) rfl ?_
    refine g_aload (i := 4) 0 ok d_Sk_beginPaths_20 rfl ?_
    refine g_ifnull (tgt := 45) ok d_Sk_beginPaths_22 (by decide) (fun c12 => ?_) (fun c12 => ?_)
    · replace h := (if_pos c12).symm.trans h
      refine g_sub [1, 2, 3, 4, 0] rfl ?_
      exact w_j_Sk_beginPaths_45 ok hexit hrec mb ht h hk
    · replace h := (if_neg c12).symm.trans h
      refine g_aload (i := 4) 0 ok d_Sk_beginPaths_25 rfl ?_
      obtain ⟨k28, hk29, h⟩ := bnd_go h
      refine g_getiN (s0 := 12) (j := 6) (ci := 2) (C := RX2) (T := TX2) (N := 7) ok hk29 lay_12 rfl inX2 (by decide) rfl tw_66 rfl d_Sk_beginPaths_27 ?_
      refine g_if_ne (tgt := 45) ok d_Sk_beginPaths_30 (by decide) (fun c30 => ?_) (fun c30 => ?_)
      · replace h := (if_pos c30).symm.trans h
        refine g_aload (i := 4) 0 ok d_Sk_beginPaths_33 rfl ?_
        refine g_getiN (s0 := 12) (j := 3) (ci := 2) (C := RX2) (T := TX2) (N := 7) ok hk29 lay_12 rfl inX2 (by decide) rfl tw_62 rfl d_Sk_beginPaths_35 ?_
        refine g_aload_n (i := 0) 1 ok d_Sk_beginPaths_38 rfl rfl ?_
        refine g_geti (s0 := 0) (j := 10) (ci := 4) (C := RX4) (T := TX4) (N := 14) ok ht lay_0 rfl inX4 (by decide) rfl tw_92 rfl d_Sk_beginPaths_39 ?_
        refine g_icmp_eq (tgt := 49) ok d_Sk_beginPaths_42 (by decide) (fun c31 => ?_) (fun c31 => ?_)
        · replace h := (if_pos c31).symm.trans h
          refine g_aload_n (i := 0) 1 ok d_Sk_beginPaths_49 rfl rfl ?_
          refine g_aload (i := 4) 0 ok d_Sk_beginPaths_50 rfl ?_
          refine g_getiN (s0 := 12) (j := 2) (ci := 2) (C := RX2) (T := TX2) (N := 7) ok hk29 lay_12 rfl inX2 (by decide) rfl tw_60 rfl d_Sk_beginPaths_52 ?_
          obtain ⟨x33, hc34, h⟩ := bnd_go h
          refine g_invV (rm2 := rm_Sk_machineOf) (As := [vI (s.1 k28 2)]) (rest := []) ok ht lay_0 rfl (c_Sk_machineOf X.1.2.1 (rf_self ht) hc34) cm_Sk_machineOf cv_Sk_machineOf tw_415 ⟨rfl, rfl⟩ ⟨le_t rfl, le_t rfl⟩ ⟨rfl, le_t rfl⟩ ⟨le_t rfl, le_t rfl⟩ d_Sk_beginPaths_55 rfl (fun m32 => ?_)
          show G X s 0 0 58 [(4, vR x10), (0, vR (some k)), (1, vR a1), (2, vI a2), (3, vI a3)] [vR x33]
          refine g_sub [1, 2, 3, 4, 0] rfl ?_
          exact w_j_Sk_beginPaths_58 ok hexit hrec mb ht h hk
        · replace h := (if_neg c31).symm.trans h
          refine g_sub [1, 2, 3, 4, 0] rfl ?_
          exact w_j_Sk_beginPaths_45 ok hexit hrec mb ht h hk
      · replace h := (if_neg c30).symm.trans h
        refine g_sub [1, 2, 3, 4, 0] rfl ?_
        exact w_j_Sk_beginPaths_45 ok hexit hrec mb ht h hk
  · replace h := (if_neg c7).symm.trans h
    refine g_sub [0] rfl ?_
    cases h
    exact hexit s hk mb
theorem wx_l_Sk_beginPaths_10 {X : CX} {KX : MS → Prop} {k : Nat} {a1 : Option Nat} {a2 : Int32} {sb : MS} (ok : Ok X cX4_beginPaths RX4 rm_Sk_beginPaths 6 false) (hexit : ∀ (z : MS), KX z → (∀ q, dm sb q → dm z q) → G X z 0 0 83 [(0, vR (some k))] []) (htb : rf sb.2.2 0 (some k) = some k) : ∀ (n : Nat) (a3 : Int32) (s : MS), (∀ q, dm sb q → dm s q) → ∀ (res : MS), l_Sk_beginPaths_10 k a1 a2 n a3 s = some res → KX res → G X s 0 0 10 [(0, vR (some k)), (1, vR a1), (2, vI a2), (3, vI a3)] [] := by
  intro n
  induction n with
  | zero => intro _ s _ res h; cases h
  | succ n ih =>
    intro a3 s mb res h hk
    exact w_b_Sk_beginPaths_10 ok hexit (fun v3 z hz y h2 hk2 => ih v3 z hz y h2 hk2) mb (rf_mono mb htb) h hk
theorem w_l_Sk_beginPaths_10 {X : CX} {KX : MS → Prop} {k : Nat} {a1 : Option Nat} {a2 : Int32} {sb : MS} (ok : Ok X cX4_beginPaths RX4 rm_Sk_beginPaths 6 false) (hexit : ∀ (z : MS), KX z → (∀ q, dm sb q → dm z q) → G X z 0 0 83 [(0, vR (some k))] []) (mb : ∀ q, dm sb q → dm sb q) (htb : rf sb.2.2 0 (some k) = some k) (n : Nat) (a3 : Int32) {res : MS} (h : l_Sk_beginPaths_10 k a1 a2 n a3 sb = some res) (hk : KX res) : G X sb 0 0 10 [(0, vR (some k)), (1, vR a1), (2, vI a2), (3, vI a3)] [] := wx_l_Sk_beginPaths_10 ok hexit htb n a3 sb mb res h hk
set_option maxRecDepth 100000 in
set_option maxHeartbeats 4000000 in
theorem w_Sk_beginPaths {X : CX} {KX : MS → Prop} {k : Nat} {s : MS} (ok : Ok X cX4_beginPaths RX4 rm_Sk_beginPaths 6 false) (hret : ∀ r : MS, KX r → Fin X none 0 0 false none r)   (ht : rf s.2.2 0 (some k) = some k) {res : MS} (h : f_Sk_beginPaths k s = some res) (hk : KX res) : G X s 0 0 0 [(0, vR (some k))] [] := by
  unfold f_Sk_beginPaths at h
  refine g_aload_n (i := 0) 0 ok d_Sk_beginPaths_0 rfl rfl ?_
  refine g_getr (s0 := 0) (j := 3) (ci := 4) (C := RX4) (T := TX4) (N := 14) ok ht lay_0 rfl inX4 (by decide) rfl tw_85 rfl d_Sk_beginPaths_1 ?_
  obtain ⟨x1, e2⟩ : ∃ z, (s.2.1 k 3) = z := ⟨_, rfl⟩
  replace h := lt_go h e2
  rw [e2]
  refine g_astore_n (i := 1) [(1, vR x1), (0, vR (some k))] ok d_Sk_beginPaths_4 rfl (by decide) rfl ?_
  refine g_aload_n (i := 1) 0 ok d_Sk_beginPaths_5 rfl rfl ?_
  obtain ⟨n3, hn4, h⟩ := bnd_go h
  refine g_alen ok hn4 (by decide) d_Sk_beginPaths_6 ?_
  obtain ⟨x5, e6⟩ : ∃ z, (Int32.ofNat n3) = z := ⟨_, rfl⟩
  replace h := lt_go h e6
  rw [e6]
  refine g_istore_n (i := 2) [(2, vI x5), (1, vR x1), (0, vR (some k))] ok d_Sk_beginPaths_7 rfl (by decide) rfl ?_
  refine g_iconst (v := (0 : Int32)) ok d_Sk_beginPaths_8 (by decide) ?_
  refine g_istore_n (i := 3) [(3, vI (0 : Int32)), (2, vI x5), (1, vR x1), (0, vR (some k))] ok d_Sk_beginPaths_9 rfl (by decide) rfl ?_
  refine g_sub [3, 2, 1, 0] rfl ?_
  obtain ⟨s36, hx, h⟩ := bnd_go h
  refine w_l_Sk_beginPaths_10 (KX := fun y => y = s36) ok (fun y0 he m35 => ?_) (fun _ hz => hz) ht _ _ hx rfl
  cases he
  cases h
  exact g_vret ok (hret _ hk) (by decide) (by decide) d_Sk_beginPaths_83
theorem c_Sk_beginPaths (l : Launch) {k : Nat} {s : MS} (ht : rf s.2.2 0 (some k) = some k) {z : MS} (h : f_Sk_beginPaths k s = some z) : Ct l yX4_beginPaths (.code yX4_beginPaths cX4_beginPaths 6 none) rm_Sk_beginPaths 0 0 false [vR (some k)] s none z :=
  Ct.of rfl (by decide +kernel) ⟨rfl, le_t rfl⟩ (fun X ok fn _ hI hl => w_Sk_beginPaths (KX := fun y => y = z) ok (fun y hy => by subst hy; exact fn) ht h rfl)
abbrev rm_Sk_flownBy : Room := { frames := 2, cells := 0, slots := 0, locals := 43 }
theorem cm_Sk_flownBy : cfM yX4_flownBy cX4_flownBy 2 (some (.object "SkyLanes$Path")) 1 := ⟨tw_144, tw_1, by decide, by decide, by decide +kernel⟩
theorem cv_Sk_flownBy : cfV yX4_flownBy := ⟨tw_143, ts_X4_flownBy⟩
theorem d_Sk_flownBy_0 : decode cX4_flownBy 0 = .ok (.aload_n 1, 1) := by decide +kernel
theorem d_Sk_flownBy_1 : decode cX4_flownBy 1 = .ok (.ifnull 11, 3) := by decide +kernel
theorem d_Sk_flownBy_4 : decode cX4_flownBy 4 = .ok (.aload_n 1, 1) := by decide +kernel
theorem d_Sk_flownBy_5 : decode cX4_flownBy 5 = .ok (.getfield 163, 3) := by decide +kernel
theorem d_Sk_flownBy_8 : decode cX4_flownBy 8 = .ok (.iconst 1, 1) := by decide +kernel
theorem d_Sk_flownBy_9 : decode cX4_flownBy 9 = .ok (.if_icmp .eq 7, 3) := by decide +kernel
theorem d_Sk_flownBy_12 : decode cX4_flownBy 12 = .ok (.aconst_null, 1) := by decide +kernel
theorem d_Sk_flownBy_13 : decode cX4_flownBy 13 = .ok (.goto 11, 3) := by decide +kernel
theorem d_Sk_flownBy_16 : decode cX4_flownBy 16 = .ok (.aload_n 0, 1) := by decide +kernel
theorem d_Sk_flownBy_17 : decode cX4_flownBy 17 = .ok (.aload_n 1, 1) := by decide +kernel
theorem d_Sk_flownBy_18 : decode cX4_flownBy 18 = .ok (.getfield 284, 3) := by decide +kernel
theorem d_Sk_flownBy_21 : decode cX4_flownBy 21 = .ok (.invokevirtual 208, 3) := by decide +kernel
theorem d_Sk_flownBy_24 : decode cX4_flownBy 24 = .ok (.areturn, 1) := by decide +kernel
set_option maxRecDepth 100000 in
set_option maxHeartbeats 4000000 in
theorem w_Sk_flownBy {X : CX} {KX : Option Nat → Prop} {k : Nat} {a1 : Option Nat} {s : MS} (ok : Ok X cX4_flownBy RX4 rm_Sk_flownBy 2 false) (hret : ∀ r : Option Nat, KX r → Fin X (some (.object "SkyLanes$Path")) 0 0 false (some (vR r)) s)   (ht : rf s.2.2 0 (some k) = some k) {res : Option Nat} (h : f_Sk_flownBy k a1 s = some res) (hk : KX res) : G X s 0 0 0 [(0, vR (some k)), (1, vR a1)] [] := by
  unfold f_Sk_flownBy at h
  refine g_aload_n (i := 1) 1 ok d_Sk_flownBy_0 rfl rfl ?_
  refine g_ifnull (tgt := 12) ok d_Sk_flownBy_1 (by decide) (fun c1 => ?_) (fun c1 => ?_)
  · replace h := (if_pos c1).symm.trans h
    refine g_null ok d_Sk_flownBy_12 ?_
    refine g_goto (tgt := 24) ok d_Sk_flownBy_13 (by decide) ?_
    cases h
    exact g_aret ok (hret _ hk) (by decide) (by decide) d_Sk_flownBy_24
  · replace h := (if_neg c1).symm.trans h
    refine g_aload_n (i := 1) 1 ok d_Sk_flownBy_4 rfl rfl ?_
    obtain ⟨k2, hk3, h⟩ := bnd_go h
    refine g_getiN (s0 := 11) (j := 4) (ci := 1) (C := RX1) (T := TX1) (N := 7) ok hk3 lay_11 rfl inX1 (by decide) rfl tw_454 rfl d_Sk_flownBy_5 ?_
    refine g_iconst (v := (1 : Int32)) ok d_Sk_flownBy_8 (by decide) ?_
    refine g_icmp_eq (tgt := 16) ok d_Sk_flownBy_9 (by decide) (fun c4 => ?_) (fun c4 => ?_)
    · replace h := (if_pos c4).symm.trans h
      refine g_aload_n (i := 0) 0 ok d_Sk_flownBy_16 rfl rfl ?_
      refine g_aload_n (i := 1) 1 ok d_Sk_flownBy_17 rfl rfl ?_
      refine g_getiN (s0 := 11) (j := 5) (ci := 1) (C := RX1) (T := TX1) (N := 7) ok hk3 lay_11 rfl inX1 (by decide) rfl tw_456 rfl d_Sk_flownBy_18 ?_
      obtain ⟨x6, hc7, h⟩ := bnd_go h
      refine g_invV (rm2 := rm_Sk_pathOf) (As := [vI (s.1 k2 5)]) (rest := []) ok ht lay_0 rfl (c_Sk_pathOf X.1.2.1 (rf_self ht) hc7) cm_Sk_pathOf cv_Sk_pathOf tw_145 ⟨rfl, rfl⟩ ⟨le_t rfl, le_t rfl⟩ ⟨rfl, le_t rfl⟩ ⟨le_t rfl, le_t rfl⟩ d_Sk_flownBy_21 rfl (fun m5 => ?_)
      show G X s 0 0 24 [(0, vR (some k)), (1, vR a1)] [vR x6]
      cases h
      exact g_aret ok (hret _ hk) (by decide) (by decide) d_Sk_flownBy_24
    · replace h := (if_neg c4).symm.trans h
      refine g_null ok d_Sk_flownBy_12 ?_
      refine g_goto (tgt := 24) ok d_Sk_flownBy_13 (by decide) ?_
      cases h
      exact g_aret ok (hret _ hk) (by decide) (by decide) d_Sk_flownBy_24
theorem c_Sk_flownBy (l : Launch) {k : Nat} {a1 : Option Nat} {s : MS} (ht : rf s.2.2 0 (some k) = some k) {r : Option Nat} (h : f_Sk_flownBy k a1 s = some r) : Ct l yX4_flownBy (.code yX4_flownBy cX4_flownBy 2 (some (.object "SkyLanes$Path"))) rm_Sk_flownBy 0 0 false [vR (some k), vR a1] s (some (vR r)) s :=
  Ct.of rfl (by decide +kernel) ⟨rfl, le_t rfl⟩ (fun X ok fn _ hI hl => w_Sk_flownBy (KX := fun y => y = r) ok (fun y hy => by subst hy; exact fn) ht h rfl)
abbrev rm_Sk_moveTo : Room := { frames := 2, cells := 0, slots := 0, locals := 46 }
theorem cm_Sk_moveTo : cfM yX4_moveTo cX4_moveTo 3 none 2 := ⟨tw_594, tw_1, by decide, by decide, by decide +kernel⟩
theorem cv_Sk_moveTo : cfV yX4_moveTo := ⟨tw_593, ts_X4_moveTo⟩
theorem d_Sk_moveTo_0 : decode cX4_moveTo 0 = .ok (.aload_n 1, 1) := by decide +kernel
theorem d_Sk_moveTo_1 : decode cX4_moveTo 1 = .ok (.dup, 1) := by decide +kernel
theorem d_Sk_moveTo_2 : decode cX4_moveTo 2 = .ok (.getfield 243, 3) := by decide +kernel
theorem d_Sk_moveTo_5 : decode cX4_moveTo 5 = .ok (.aload_n 0, 1) := by decide +kernel
theorem d_Sk_moveTo_6 : decode cX4_moveTo 6 = .ok (.getfield 10, 3) := by decide +kernel
theorem d_Sk_moveTo_9 : decode cX4_moveTo 9 = .ok (.aload_n 1, 1) := by decide +kernel
theorem d_Sk_moveTo_10 : decode cX4_moveTo 10 = .ok (.getfield 166, 3) := by decide +kernel
theorem d_Sk_moveTo_13 : decode cX4_moveTo 13 = .ok (.iload_n 2, 1) := by decide +kernel
theorem d_Sk_moveTo_14 : decode cX4_moveTo 14 = .ok (.aload_n 0, 1) := by decide +kernel
theorem d_Sk_moveTo_15 : decode cX4_moveTo 15 = .ok (.getfield 10, 3) := by decide +kernel
theorem d_Sk_moveTo_18 : decode cX4_moveTo 18 = .ok (.getfield 106, 3) := by decide +kernel
theorem d_Sk_moveTo_21 : decode cX4_moveTo 21 = .ok (.invokevirtual 178, 3) := by decide +kernel
theorem d_Sk_moveTo_24 : decode cX4_moveTo 24 = .ok (.isub, 1) := by decide +kernel
theorem d_Sk_moveTo_25 : decode cX4_moveTo 25 = .ok (.putfield 243, 3) := by decide +kernel
theorem d_Sk_moveTo_28 : decode cX4_moveTo 28 = .ok (.aload_n 1, 1) := by decide +kernel
theorem d_Sk_moveTo_29 : decode cX4_moveTo 29 = .ok (.iload_n 2, 1) := by decide +kernel
theorem d_Sk_moveTo_30 : decode cX4_moveTo 30 = .ok (.putfield 166, 3) := by decide +kernel
theorem d_Sk_moveTo_33 : decode cX4_moveTo 33 = .ok (.return_, 1) := by decide +kernel
set_option maxRecDepth 100000 in
set_option maxHeartbeats 4000000 in
theorem w_Sk_moveTo {X : CX} {KX : MS → Prop} {k : Nat} {a1 : Option Nat} {a2 : Int32} {s : MS} (ok : Ok X cX4_moveTo RX4 rm_Sk_moveTo 3 false) (hret : ∀ r : MS, KX r → Fin X none 0 0 false none r)   (ht : rf s.2.2 0 (some k) = some k) {res : MS} (h : f_Sk_moveTo k a1 a2 s = some res) (hk : KX res) : G X s 0 0 0 [(0, vR (some k)), (1, vR a1), (2, vI a2)] [] := by
  unfold f_Sk_moveTo at h
  refine g_aload_n (i := 1) 1 ok d_Sk_moveTo_0 rfl rfl ?_
  refine g_dup ok d_Sk_moveTo_1 rfl ?_
  obtain ⟨k1, hk2, h⟩ := bnd_go h
  refine g_getiN (s0 := 11) (j := 2) (ci := 1) (C := RX1) (T := TX1) (N := 7) ok hk2 lay_11 rfl inX1 (by decide) rfl tw_450 rfl d_Sk_moveTo_2 ?_
  refine g_aload_n (i := 0) 0 ok d_Sk_moveTo_5 rfl rfl ?_
  refine g_getr (s0 := 0) (j := 0) (ci := 4) (C := RX4) (T := TX4) (N := 14) ok ht lay_0 rfl inX4 (by decide) rfl tw_82 rfl d_Sk_moveTo_6 ?_
  refine g_aload_n (i := 1) 1 ok d_Sk_moveTo_9 rfl rfl ?_
  refine g_getiN (s0 := 11) (j := 3) (ci := 1) (C := RX1) (T := TX1) (N := 7) ok hk2 lay_11 rfl inX1 (by decide) rfl tw_452 rfl d_Sk_moveTo_10 ?_
  refine g_iload_n (i := 2) 2 ok d_Sk_moveTo_13 rfl rfl ?_
  refine g_aload_n (i := 0) 0 ok d_Sk_moveTo_14 rfl rfl ?_
  refine g_getr (s0 := 0) (j := 0) (ci := 4) (C := RX4) (T := TX4) (N := 14) ok ht lay_0 rfl inX4 (by decide) rfl tw_82 rfl d_Sk_moveTo_15 ?_
  obtain ⟨k3, hk4, h⟩ := bnd_go h
  refine g_getrN (s0 := 1) (j := 3) (ci := 0) (C := RX0) (T := TX0) (N := 5) ok hk4 lay_1 rfl inX0 (by decide) rfl tw_32 rfl d_Sk_moveTo_18 ?_
  obtain ⟨x6, hc7, h⟩ := bnd_go h
  refine g_invVN (rm2 := rm_Ci_taken) (As := [vI (s.1 k1 3), vI a2, vR (s.2.1 k3 3)]) (rest := [vI (s.1 k1 2), vR a1]) ok hk4 lay_1 rfl (c_Ci_taken X.1.2.1 (rf_self hk4) hc7) cm_Ci_taken cv_Ci_taken tw_523 ⟨rfl, rfl⟩ ⟨le_t rfl, le_t rfl⟩ ⟨rfl, le_t rfl⟩ ⟨le_t rfl, le_t rfl⟩ d_Sk_moveTo_21 rfl (fun m5 => ?_)
  show G X s 0 0 24 [(0, vR (some k)), (1, vR a1), (2, vI a2)] [vI x6, vI (s.1 k1 2), vR a1]
  refine g_isub ok d_Sk_moveTo_24 ?_
  refine g_putiN (s0 := 11) (j := 2) (ci := 1) (C := RX1) (T := TX1) (N := 7) ok hk2 lay_11 rfl inX1 (by decide) rfl tw_450 rfl tyX1_ok nmX1 rfl (Or.inl rfl) d_Sk_moveTo_25 ?_
  obtain ⟨s8, e9⟩ : ∃ z, wi s k1 2 ((s.1 k1 2) - x6) = z := ⟨_, rfl⟩
  replace h := lt_go h e9
  have m10 := mo_wi e9
  rw [e9]
  refine g_aload_n (i := 1) 1 ok d_Sk_moveTo_28 rfl rfl ?_
  refine g_iload_n (i := 2) 2 ok d_Sk_moveTo_29 rfl rfl ?_
  refine g_putiN (s0 := 11) (j := 3) (ci := 1) (C := RX1) (T := TX1) (N := 7) ok (rf_mono m10 hk2) lay_11 rfl inX1 (by decide) rfl tw_452 rfl tyX1_ok nmX1 rfl (Or.inl rfl) d_Sk_moveTo_30 ?_
  obtain ⟨s11, e12⟩ : ∃ z, wi s8 k1 3 a2 = z := ⟨_, rfl⟩
  replace h := lt_go h e12
  have m13 := mo_wi e12
  rw [e12]
  cases h
  exact g_vret ok (hret _ hk) (by decide) (by decide) d_Sk_moveTo_33
theorem c_Sk_moveTo (l : Launch) {k : Nat} {a1 : Option Nat} {a2 : Int32} {s : MS} (ht : rf s.2.2 0 (some k) = some k) {z : MS} (h : f_Sk_moveTo k a1 a2 s = some z) : Ct l yX4_moveTo (.code yX4_moveTo cX4_moveTo 3 none) rm_Sk_moveTo 0 0 false [vR (some k), vR a1, vI a2] s none z :=
  Ct.of rfl (by decide +kernel) ⟨rfl, le_t rfl⟩ (fun X ok fn _ hI hl => w_Sk_moveTo (KX := fun y => y = z) ok (fun y hy => by subst hy; exact fn) ht h rfl)
abbrev rm_Sk_isUnderWay : Room := { frames := 0, cells := 0, slots := 0, locals := 0 }
theorem cm_Sk_isUnderWay : cfM yX4_isUnderWay cX4_isUnderWay 1 (some .boolean) 1 := ⟨tw_597, tw_1, by decide, by decide, by decide +kernel⟩
theorem cs_Sk_isUnderWay : cfS yX4_isUnderWay := tw_596
theorem d_Sk_isUnderWay_0 : decode cX4_isUnderWay 0 = .ok (.aload_n 0, 1) := by decide +kernel
theorem d_Sk_isUnderWay_1 : decode cX4_isUnderWay 1 = .ok (.ifnull 23, 3) := by decide +kernel
theorem d_Sk_isUnderWay_4 : decode cX4_isUnderWay 4 = .ok (.aload_n 0, 1) := by decide +kernel
theorem d_Sk_isUnderWay_5 : decode cX4_isUnderWay 5 = .ok (.getfield 163, 3) := by decide +kernel
theorem d_Sk_isUnderWay_8 : decode cX4_isUnderWay 8 = .ok (.iconst 1, 1) := by decide +kernel
theorem d_Sk_isUnderWay_9 : decode cX4_isUnderWay 9 = .ok (.if_icmp .eq 11, 3) := by decide +kernel
theorem d_Sk_isUnderWay_12 : decode cX4_isUnderWay 12 = .ok (.aload_n 0, 1) := by decide +kernel
theorem d_Sk_isUnderWay_13 : decode cX4_isUnderWay 13 = .ok (.getfield 163, 3) := by decide +kernel
theorem d_Sk_isUnderWay_16 : decode cX4_isUnderWay 16 = .ok (.iconst 2, 1) := by decide +kernel
theorem d_Sk_isUnderWay_17 : decode cX4_isUnderWay 17 = .ok (.if_icmp .ne 7, 3) := by decide +kernel
theorem d_Sk_isUnderWay_20 : decode cX4_isUnderWay 20 = .ok (.iconst 1, 1) := by decide +kernel
theorem d_Sk_isUnderWay_21 : decode cX4_isUnderWay 21 = .ok (.goto 4, 3) := by decide +kernel
theorem d_Sk_isUnderWay_24 : decode cX4_isUnderWay 24 = .ok (.iconst 0, 1) := by decide +kernel
theorem d_Sk_isUnderWay_25 : decode cX4_isUnderWay 25 = .ok (.ireturn, 1) := by decide +kernel
set_option maxRecDepth 100000 in
set_option maxHeartbeats 4000000 in
theorem w_Sk_isUnderWay {X : CX} {KX : Int32 → Prop} {a0 : Option Nat} {s : MS} (ok : Ok X cX4_isUnderWay RX4 rm_Sk_isUnderWay 1 false) (hret : ∀ r : Int32, KX r → Fin X (some .boolean) 0 0 false (some (vI r)) s)    {res : Int32} (h : f_Sk_isUnderWay a0 s = some res) (hk : KX res) : G X s 0 0 0 [(0, vR a0)] [] := by
  unfold f_Sk_isUnderWay at h
  refine g_aload_n (i := 0) 0 ok d_Sk_isUnderWay_0 rfl rfl ?_
  refine g_ifnull (tgt := 24) ok d_Sk_isUnderWay_1 (by decide) (fun c1 => ?_) (fun c1 => ?_)
  · replace h := (if_pos c1).symm.trans h
    refine g_iconst (v := (0 : Int32)) ok d_Sk_isUnderWay_24 (by decide) ?_
    cases h
    exact g_zret ok (hret _ hk) (Or.inl rfl) (by decide) (by decide) d_Sk_isUnderWay_25
  · replace h := (if_neg c1).symm.trans h
    refine g_aload_n (i := 0) 0 ok d_Sk_isUnderWay_4 rfl rfl ?_
    obtain ⟨k2, hk3, h⟩ := bnd_go h
    refine g_getiN (s0 := 11) (j := 4) (ci := 1) (C := RX1) (T := TX1) (N := 7) ok hk3 lay_11 rfl inX1 (by decide) rfl tw_454 rfl d_Sk_isUnderWay_5 ?_
    refine g_iconst (v := (1 : Int32)) ok d_Sk_isUnderWay_8 (by decide) ?_
    refine g_icmp_eq (tgt := 20) ok d_Sk_isUnderWay_9 (by decide) (fun c4 => ?_) (fun c4 => ?_)
    · replace h := (if_pos c4).symm.trans h
      refine g_iconst (v := (1 : Int32)) ok d_Sk_isUnderWay_20 (by decide) ?_
      refine g_goto (tgt := 25) ok d_Sk_isUnderWay_21 (by decide) ?_
      cases h
      exact g_zret ok (hret _ hk) (Or.inr rfl) (by decide) (by decide) d_Sk_isUnderWay_25
    · replace h := (if_neg c4).symm.trans h
      refine g_aload_n (i := 0) 0 ok d_Sk_isUnderWay_12 rfl rfl ?_
      refine g_getiN (s0 := 11) (j := 4) (ci := 1) (C := RX1) (T := TX1) (N := 7) ok hk3 lay_11 rfl inX1 (by decide) rfl tw_454 rfl d_Sk_isUnderWay_13 ?_
      refine g_iconst (v := (2 : Int32)) ok d_Sk_isUnderWay_16 (by decide) ?_
      refine g_icmp_ne (tgt := 24) ok d_Sk_isUnderWay_17 (by decide) (fun c5 => ?_) (fun c5 => ?_)
      · replace h := (if_pos c5).symm.trans h
        refine g_iconst (v := (1 : Int32)) ok d_Sk_isUnderWay_20 (by decide) ?_
        refine g_goto (tgt := 25) ok d_Sk_isUnderWay_21 (by decide) ?_
        cases h
        exact g_zret ok (hret _ hk) (Or.inr rfl) (by decide) (by decide) d_Sk_isUnderWay_25
      · replace h := (if_neg c5).symm.trans h
        refine g_iconst (v := (0 : Int32)) ok d_Sk_isUnderWay_24 (by decide) ?_
        cases h
        exact g_zret ok (hret _ hk) (Or.inl rfl) (by decide) (by decide) d_Sk_isUnderWay_25
theorem c_Sk_isUnderWay (l : Launch) {a0 : Option Nat} {s : MS}  {r : Int32} (h : f_Sk_isUnderWay a0 s = some r) : Ct l yX4_isUnderWay (.code yX4_isUnderWay cX4_isUnderWay 1 (some .boolean)) rm_Sk_isUnderWay 0 0 false [vR a0] s (some (vI r)) s :=
  Ct.of rfl (by decide +kernel) ⟨rfl, le_t rfl⟩ (fun X ok fn _ hI hl => w_Sk_isUnderWay (KX := fun y => y = r) ok (fun y hy => by subst hy; exact fn) h rfl)
abbrev rm_Sk_bringDown : Room := { frames := 3, cells := 0, slots := 0, locals := 66 }
theorem cm_Sk_bringDown : cfM yX4_bringDown cX4_bringDown 3 none 1 := ⟨tw_601, tw_1, by decide, by decide, by decide +kernel⟩
theorem cv_Sk_bringDown : cfV yX4_bringDown := ⟨tw_600, ts_X4_bringDown⟩
theorem d_Sk_bringDown_0 : decode cX4_bringDown 0 = .ok (.aload_n 0, 1) := by decide +kernel
theorem d_Sk_bringDown_1 : decode cX4_bringDown 1 = .ok (.aload_n 1, 1) := by decide +kernel
theorem d_Sk_bringDown_2 : decode cX4_bringDown 2 = .ok (.invokevirtual 228, 3) := by decide +kernel
theorem d_Sk_bringDown_5 : decode cX4_bringDown 5 = .ok (.astore_n 2, 1) := by decide +kernel
theorem d_Sk_bringDown_6 : decode cX4_bringDown 6 = .ok (.aload_n 2, 1) := by decide +kernel
theorem d_Sk_bringDown_7 : decode cX4_bringDown 7 = .ok (.ifnull 9, 3) := by decide +kernel
theorem d_Sk_bringDown_10 : decode cX4_bringDown 10 = .ok (.aload_n 0, 1) := by decide +kernel
theorem d_Sk_bringDown_11 : decode cX4_bringDown 11 = .ok (.aload_n 2, 1) := by decide +kernel
theorem d_Sk_bringDown_12 : decode cX4_bringDown 12 = .ok (.iconst 4, 1) := by decide +kernel
theorem d_Sk_bringDown_13 : decode cX4_bringDown 13 = .ok (.invokevirtual 217, 3) := by decide +kernel
theorem d_Sk_bringDown_16 : decode cX4_bringDown 16 = .ok (.aload_n 1, 1) := by decide +kernel
theorem d_Sk_bringDown_17 : decode cX4_bringDown 17 = .ok (.iconst 3, 1) := by decide +kernel
theorem d_Sk_bringDown_18 : decode cX4_bringDown 18 = .ok (.putfield 163, 3) := by decide +kernel
theorem d_Sk_bringDown_21 : decode cX4_bringDown 21 = .ok (.return_, 1) := by decide +kernel
set_option maxRecDepth 100000 in
set_option maxHeartbeats 4000000 in
theorem w_Sk_bringDown {X : CX} {KX : MS → Prop} {k : Nat} {a1 : Option Nat} {s : MS} (ok : Ok X cX4_bringDown RX4 rm_Sk_bringDown 3 false) (hret : ∀ r : MS, KX r → Fin X none 0 0 false none r)   (ht : rf s.2.2 0 (some k) = some k) {res : MS} (h : f_Sk_bringDown k a1 s = some res) (hk : KX res) : G X s 0 0 0 [(0, vR (some k)), (1, vR a1)] [] := by
  unfold f_Sk_bringDown at h
  refine g_aload_n (i := 0) 0 ok d_Sk_bringDown_0 rfl rfl ?_
  refine g_aload_n (i := 1) 1 ok d_Sk_bringDown_1 rfl rfl ?_
  obtain ⟨x2, hc3, h⟩ := bnd_go h
  refine g_invV (rm2 := rm_Sk_flownBy) (As := [vR a1]) (rest := []) ok ht lay_0 rfl (c_Sk_flownBy X.1.2.1 (rf_self ht) hc3) cm_Sk_flownBy cv_Sk_flownBy tw_141 ⟨rfl, rfl⟩ ⟨le_t rfl, le_t rfl⟩ ⟨rfl, le_t rfl⟩ ⟨le_t rfl, le_t rfl⟩ d_Sk_bringDown_2 rfl (fun m1 => ?_)
  show G X s 0 0 5 [(0, vR (some k)), (1, vR a1)] [vR x2]
  refine g_astore_n (i := 2) [(2, vR x2), (0, vR (some k)), (1, vR a1)] ok d_Sk_bringDown_5 rfl (by decide) rfl ?_
  refine g_aload_n (i := 2) 0 ok d_Sk_bringDown_6 rfl rfl ?_
  refine g_ifnull (tgt := 16) ok d_Sk_bringDown_7 (by decide) (fun c4 => ?_) (fun c4 => ?_)
  · replace h := (if_pos c4).symm.trans h
    refine g_aload_n (i := 1) 2 ok d_Sk_bringDown_16 rfl rfl ?_
    refine g_iconst (v := (3 : Int32)) ok d_Sk_bringDown_17 (by decide) ?_
    obtain ⟨k5, hk6, h⟩ := bnd_go h
    refine g_putiN (s0 := 11) (j := 4) (ci := 1) (C := RX1) (T := TX1) (N := 7) ok hk6 lay_11 rfl inX1 (by decide) rfl tw_454 rfl tyX1_ok nmX1 rfl (Or.inl rfl) d_Sk_bringDown_18 ?_
    obtain ⟨s7, e8⟩ : ∃ z, wi s k5 4 (3 : Int32) = z := ⟨_, rfl⟩
    replace h := lt_go h e8
    have m9 := mo_wi e8
    rw [e8]
    cases h
    exact g_vret ok (hret _ hk) (by decide) (by decide) d_Sk_bringDown_21
  · replace h := (if_neg c4).symm.trans h
    refine g_aload_n (i := 0) 1 ok d_Sk_bringDown_10 rfl rfl ?_
    refine g_aload_n (i := 2) 0 ok d_Sk_bringDown_11 rfl rfl ?_
    refine g_iconst (v := (4 : Int32)) ok d_Sk_bringDown_12 (by decide) ?_
    obtain ⟨s12, hc11, h⟩ := bnd_go h
    refine g_invV (rm2 := rm_Sk_finish) (As := [vR x2, vI (4 : Int32)]) (rest := []) ok ht lay_0 rfl (c_Sk_finish X.1.2.1 (rf_self ht) hc11) cm_Sk_finish cv_Sk_finish tw_411 ⟨rfl, rfl⟩ ⟨le_t rfl, le_t rfl⟩ ⟨rfl, le_t rfl⟩ ⟨le_t rfl, le_t rfl⟩ d_Sk_bringDown_13 rfl (fun m10 => ?_)
    show G X s12 0 0 16 [(2, vR x2), (0, vR (some k)), (1, vR a1)] []
    refine g_aload_n (i := 1) 2 ok d_Sk_bringDown_16 rfl rfl ?_
    refine g_iconst (v := (3 : Int32)) ok d_Sk_bringDown_17 (by decide) ?_
    obtain ⟨k13, hk14, h⟩ := bnd_go h
    refine g_putiN (s0 := 11) (j := 4) (ci := 1) (C := RX1) (T := TX1) (N := 7) ok hk14 lay_11 rfl inX1 (by decide) rfl tw_454 rfl tyX1_ok nmX1 rfl (Or.inl rfl) d_Sk_bringDown_18 ?_
    obtain ⟨s15, e16⟩ : ∃ z, wi s12 k13 4 (3 : Int32) = z := ⟨_, rfl⟩
    replace h := lt_go h e16
    have m17 := mo_wi e16
    rw [e16]
    cases h
    exact g_vret ok (hret _ hk) (by decide) (by decide) d_Sk_bringDown_21
theorem c_Sk_bringDown (l : Launch) {k : Nat} {a1 : Option Nat} {s : MS} (ht : rf s.2.2 0 (some k) = some k) {z : MS} (h : f_Sk_bringDown k a1 s = some z) : Ct l yX4_bringDown (.code yX4_bringDown cX4_bringDown 3 none) rm_Sk_bringDown 0 0 false [vR (some k), vR a1] s none z :=
  Ct.of rfl (by decide +kernel) ⟨rfl, le_t rfl⟩ (fun X ok fn _ hI hl => w_Sk_bringDown (KX := fun y => y = z) ok (fun y hy => by subst hy; exact fn) ht h rfl)
abbrev rm_Sk_isTogether : Room := { frames := 2, cells := 0, slots := 0, locals := 43 }
theorem cm_Sk_isTogether : cfM yX4_isTogether cX4_isTogether 5 (some .boolean) 1 := ⟨tw_609, tw_1, by decide, by decide, by decide +kernel⟩
theorem cv_Sk_isTogether : cfV yX4_isTogether := ⟨tw_608, ts_X4_isTogether⟩
theorem d_Sk_isTogether_0 : decode cX4_isTogether 0 = .ok (.aload_n 0, 1) := by decide +kernel
theorem d_Sk_isTogether_1 : decode cX4_isTogether 1 = .ok (.iload_n 1, 1) := by decide +kernel
theorem d_Sk_isTogether_2 : decode cX4_isTogether 2 = .ok (.invokevirtual 157, 3) := by decide +kernel
theorem d_Sk_isTogether_5 : decode cX4_isTogether 5 = .ok (.astore_n 2, 1) := by decide +kernel
theorem d_Sk_isTogether_6 : decode cX4_isTogether 6 = .ok (.aload_n 2, 1) := by decide +kernel
theorem d_Sk_isTogether_7 : decode cX4_isTogether 7 = .ok (.ifnull 20, 3) := by decide +kernel
theorem d_Sk_isTogether_10 : decode cX4_isTogether 10 = .ok (.aload_n 2, 1) := by decide +kernel
theorem d_Sk_isTogether_11 : decode cX4_isTogether 11 = .ok (.invokestatic 383, 3) := by decide +kernel
theorem d_Sk_isTogether_14 : decode cX4_isTogether 14 = .ok (.ifCond .eq 13, 3) := by decide +kernel
theorem d_Sk_isTogether_17 : decode cX4_isTogether 17 = .ok (.aload_n 2, 1) := by decide +kernel
theorem d_Sk_isTogether_18 : decode cX4_isTogether 18 = .ok (.getfield 166, 3) := by decide +kernel
theorem d_Sk_isTogether_21 : decode cX4_isTogether 21 = .ok (.invokestatic 232, 3) := by decide +kernel
theorem d_Sk_isTogether_24 : decode cX4_isTogether 24 = .ok (.ifCond .eq 5, 3) := by decide +kernel
theorem d_Sk_isTogether_27 : decode cX4_isTogether 27 = .ok (.iconst 0, 1) := by decide +kernel
theorem d_Sk_isTogether_28 : decode cX4_isTogether 28 = .ok (.ireturn, 1) := by decide +kernel
theorem d_Sk_isTogether_29 : decode cX4_isTogether 29 = .ok (.iconst 0, 1) := by decide +kernel
theorem d_Sk_isTogether_30 : decode cX4_isTogether 30 = .ok (.istore_n 3, 1) := by decide +kernel
theorem d_Sk_isTogether_31 : decode cX4_isTogether 31 = .ok (.iload_n 3, 1) := by decide +kernel
theorem d_Sk_isTogether_32 : decode cX4_isTogether 32 = .ok (.aload_n 0, 1) := by decide +kernel
theorem d_Sk_isTogether_33 : decode cX4_isTogether 33 = .ok (.getfield 24, 3) := by decide +kernel
theorem d_Sk_isTogether_36 : decode cX4_isTogether 36 = .ok (.arraylength, 1) := by decide +kernel
theorem d_Sk_isTogether_37 : decode cX4_isTogether 37 = .ok (.if_icmp .ge 49, 3) := by decide +kernel
theorem d_Sk_isTogether_40 : decode cX4_isTogether 40 = .ok (.aload_n 0, 1) := by decide +kernel
theorem d_Sk_isTogether_41 : decode cX4_isTogether 41 = .ok (.getfield 24, 3) := by decide +kernel
theorem d_Sk_isTogether_44 : decode cX4_isTogether 44 = .ok (.iload_n 3, 1) := by decide +kernel
theorem d_Sk_isTogether_45 : decode cX4_isTogether 45 = .ok (.aaload, 1) := by decide +kernel
theorem d_Sk_isTogether_46 : decode cX4_isTogether 46 = .ok (.astore 4, 2) := by decide +kernel
theorem d_Sk_isTogether_48 : decode cX4_isTogether 48 = .ok (.iload_n 3, 1) := by decide +kernel
theorem d_Sk_isTogether_49 : decode cX4_isTogether 49 = .ok (.iload_n 1, 1) := by decide +kernel
theorem d_Sk_isTogether_50 : decode cX4_isTogether 50 = .ok (.if_icmp .eq 30, 3) := by decide +kernel
theorem d_Sk_isTogether_53 : decode cX4_isTogether 53 = .ok (.aload 4, 2) := by decide +kernel
theorem d_Sk_isTogether_55 : decode cX4_isTogether 55 = .ok (.ifnull 25, 3) := by decide +kernel
theorem d_Sk_isTogether_58 : decode cX4_isTogether 58 = .ok (.aload 4, 2) := by decide +kernel
theorem d_Sk_isTogether_60 : decode cX4_isTogether 60 = .ok (.invokestatic 383, 3) := by decide +kernel
theorem d_Sk_isTogether_63 : decode cX4_isTogether 63 = .ok (.ifCond .eq 17, 3) := by decide +kernel
theorem d_Sk_isTogether_66 : decode cX4_isTogether 66 = .ok (.aload 4, 2) := by decide +kernel
theorem d_Sk_isTogether_68 : decode cX4_isTogether 68 = .ok (.getfield 166, 3) := by decide +kernel
theorem d_Sk_isTogether_71 : decode cX4_isTogether 71 = .ok (.aload_n 2, 1) := by decide +kernel
theorem d_Sk_isTogether_72 : decode cX4_isTogether 72 = .ok (.getfield 166, 3) := by decide +kernel
theorem d_Sk_isTogether_75 : decode cX4_isTogether 75 = .ok (.if_icmp .ne 5, 3) := by decide +kernel
theorem d_Sk_isTogether_78 : decode cX4_isTogether 78 = .ok (.iconst 1, 1) := by decide +kernel
theorem d_Sk_isTogether_79 : decode cX4_isTogether 79 = .ok (.ireturn, 1) := by decide +kernel
theorem d_Sk_isTogether_80 : decode cX4_isTogether 80 = .ok (.iinc 3 1, 3) := by decide +kernel
theorem d_Sk_isTogether_83 : decode cX4_isTogether 83 = .ok (.goto (-52), 3) := by decide +kernel
theorem d_Sk_isTogether_86 : decode cX4_isTogether 86 = .ok (.iconst 0, 1) := by decide +kernel
theorem d_Sk_isTogether_87 : decode cX4_isTogether 87 = .ok (.ireturn, 1) := by decide +kernel
set_option maxRecDepth 100000 in
set_option maxHeartbeats 4000000 in
theorem w_b_Sk_isTogether_31 {X : CX} {KX : (Int32) ⊕ (Unit) → Prop} {k : Nat} {a1 : Int32} {a2 : Option Nat} {a3 : Int32} {s : MS} {rec : Int32 → Option ((Int32) ⊕ (Unit))} (ok : Ok X cX4_isTogether RX4 rm_Sk_isTogether 5 false) (hret : ∀ r : Int32, KX (.inl r) → Fin X (some .boolean) 0 0 false (some (vI r)) s) (hexit : KX (.inr ()) → G X s 0 0 86 [(0, vR (some k))] []) (hrec : ∀ (v3 : Int32), ∀ y, rec v3 = some y → KX y → G X s 0 0 31 [(0, vR (some k)), (1, vI a1), (2, vR a2), (3, vI v3)] []) (ht : rf s.2.2 0 (some k) = some k) {res : (Int32) ⊕ (Unit)} (h : b_Sk_isTogether_31 k a1 a2 a3 s rec = some res) (hk : KX res) : G X s 0 0 31 [(0, vR (some k)), (1, vI a1), (2, vR a2), (3, vI a3)] [] := by
  unfold b_Sk_isTogether_31 at h
  refine g_iload_n (i := 3) 3 ok d_Sk_isTogether_31 rfl rfl ?_
  refine g_aload_n (i := 0) 0 ok d_Sk_isTogether_32 rfl rfl ?_
  refine g_getr (s0 := 0) (j := 2) (ci := 4) (C := RX4) (T := TX4) (N := 14) ok ht lay_0 rfl inX4 (by decide) rfl tw_84 rfl d_Sk_isTogether_33 ?_
  obtain ⟨n13, hn14, h⟩ := bnd_go h
  refine g_alen ok hn14 (by decide) d_Sk_isTogether_36 ?_
  refine g_icmp_ge (tgt := 86) ok d_Sk_isTogether_37 (by decide) (fun c15 => ?_) (fun c15 => ?_)
  · replace h := (if_pos c15).symm.trans h
    refine g_aload_n (i := 0) 0 ok d_Sk_isTogether_40 rfl rfl ?_
    refine g_getr (s0 := 0) (j := 2) (ci := 4) (C := RX4) (T := TX4) (N := 14) ok ht lay_0 rfl inX4 (by decide) rfl tw_84 rfl d_Sk_isTogether_41 ?_
    refine g_iload_n (i := 3) 3 ok d_Sk_isTogether_44 rfl rfl ?_
    obtain ⟨k16, hk17, h⟩ := bnd_go h
    refine g_aald4 ok hk17 d_Sk_isTogether_45 ?_
    obtain ⟨x18, e19⟩ : ∃ z, (s.2.1 k16 a3.toNatClampNeg) = z := ⟨_, rfl⟩
    replace h := lt_go h e19
    rw [e19]
    refine g_astore (i := 4) [(4, vR x18), (0, vR (some k)), (1, vI a1), (2, vR a2), (3, vI a3)] ok d_Sk_isTogether_46 (by decide) rfl ?_
    refine g_iload_n (i := 3) 4 ok d_Sk_isTogether_48 rfl rfl ?_
    refine g_iload_n (i := 1) 2 ok d_Sk_isTogether_49 rfl rfl ?_
    refine g_icmp_eq (tgt := 80) ok d_Sk_isTogether_50 (by decide) (fun c20 => ?_) (fun c20 => ?_)
    · replace h := (if_pos c20).symm.trans h
      obtain ⟨x21, e22⟩ : ∃ z, a3 + (1 : Int32) = z := ⟨_, rfl⟩
      replace h := lt_go h e22
      refine g_iinc (i := 3) (v := x21) 4 [(3, vI x21), (4, vR x18), (0, vR (some k)), (1, vI a1), (2, vR a2)] ok d_Sk_isTogether_80 rfl (by rw [← e22]; rfl) (by decide) rfl ?_
      refine g_goto (tgt := 31) ok d_Sk_isTogether_83 (by decide) ?_
      refine g_sub [2, 3, 4, 0] rfl ?_
      exact hrec x21 _ h hk
    · replace h := (if_neg c20).symm.trans h
      refine g_aload (i := 4) 0 ok d_Sk_isTogether_53 rfl ?_
      refine g_ifnull (tgt := 80) ok d_Sk_isTogether_55 (by decide) (fun c23 => ?_) (fun c23 => ?_)
      · replace h := (if_pos c23).symm.trans h
        obtain ⟨x24, e25⟩ : ∃ z, a3 + (1 : Int32) = z := ⟨_, rfl⟩
        replace h := lt_go h e25
        refine g_iinc (i := 3) (v := x24) 4 [(3, vI x24), (4, vR x18), (0, vR (some k)), (1, vI a1), (2, vR a2)] ok d_Sk_isTogether_80 rfl (by rw [← e25]; rfl) (by decide) rfl ?_
        refine g_goto (tgt := 31) ok d_Sk_isTogether_83 (by decide) ?_
        refine g_sub [2, 3, 4, 0] rfl ?_
        exact hrec x24 _ h hk
      · replace h := (if_neg c23).symm.trans h
        refine g_aload (i := 4) 0 ok d_Sk_isTogether_58 rfl ?_
        obtain ⟨x27, hc28, h⟩ := bnd_go h
        refine g_invS (rm2 := rm_Sk_isUnderWay) (As := [vR x18]) (rest := []) ok (c_Sk_isUnderWay X.1.2.1 hc28) cm_Sk_isUnderWay cs_Sk_isUnderWay tw_595 ⟨rfl, rfl⟩ ⟨le_t rfl, le_t rfl⟩ ⟨rfl, le_t rfl⟩ ⟨le_t rfl, le_t rfl⟩ d_Sk_isTogether_60 rfl (fun m26 => ?_)
        show G X s 0 0 63 [(4, vR x18), (0, vR (some k)), (1, vI a1), (2, vR a2), (3, vI a3)] [vI x27]
        refine g_if_eq (tgt := 80) ok d_Sk_isTogether_63 (by decide) (fun c29 => ?_) (fun c29 => ?_)
        · replace h := (if_pos c29).symm.trans h
          obtain ⟨x30, e31⟩ : ∃ z, a3 + (1 : Int32) = z := ⟨_, rfl⟩
          replace h := lt_go h e31
          refine g_iinc (i := 3) (v := x30) 4 [(3, vI x30), (4, vR x18), (0, vR (some k)), (1, vI a1), (2, vR a2)] ok d_Sk_isTogether_80 rfl (by rw [← e31]; rfl) (by decide) rfl ?_
          refine g_goto (tgt := 31) ok d_Sk_isTogether_83 (by decide) ?_
          refine g_sub [2, 3, 4, 0] rfl ?_
          exact hrec x30 _ h hk
        · replace h := (if_neg c29).symm.trans h
          refine g_aload (i := 4) 0 ok d_Sk_isTogether_66 rfl ?_
          obtain ⟨k32, hk33, h⟩ := bnd_go h
          refine g_getiN (s0 := 11) (j := 3) (ci := 1) (C := RX1) (T := TX1) (N := 7) ok hk33 lay_11 rfl inX1 (by decide) rfl tw_452 rfl d_Sk_isTogether_68 ?_
          refine g_aload_n (i := 2) 3 ok d_Sk_isTogether_71 rfl rfl ?_
          obtain ⟨k34, hk35, h⟩ := bnd_go h
          refine g_getiN (s0 := 11) (j := 3) (ci := 1) (C := RX1) (T := TX1) (N := 7) ok hk35 lay_11 rfl inX1 (by decide) rfl tw_452 rfl d_Sk_isTogether_72 ?_
          refine g_icmp_ne (tgt := 80) ok d_Sk_isTogether_75 (by decide) (fun c36 => ?_) (fun c36 => ?_)
          · replace h := (if_pos c36).symm.trans h
            refine g_iconst (v := (1 : Int32)) ok d_Sk_isTogether_78 (by decide) ?_
            cases h
            exact g_zret ok (hret _ hk) (Or.inr rfl) (by decide) (by decide) d_Sk_isTogether_79
          · replace h := (if_neg c36).symm.trans h
            obtain ⟨x37, e38⟩ : ∃ z, a3 + (1 : Int32) = z := ⟨_, rfl⟩
            replace h := lt_go h e38
            refine g_iinc (i := 3) (v := x37) 4 [(3, vI x37), (4, vR x18), (0, vR (some k)), (1, vI a1), (2, vR a2)] ok d_Sk_isTogether_80 rfl (by rw [← e38]; rfl) (by decide) rfl ?_
            refine g_goto (tgt := 31) ok d_Sk_isTogether_83 (by decide) ?_
            refine g_sub [2, 3, 4, 0] rfl ?_
            exact hrec x37 _ h hk
  · replace h := (if_neg c15).symm.trans h
    refine g_sub [0] rfl ?_
    cases h
    exact hexit hk
theorem w_l_Sk_isTogether_31 {X : CX} {KX : (Int32) ⊕ (Unit) → Prop} {k : Nat} {a1 : Int32} {a2 : Option Nat} {s : MS} (ok : Ok X cX4_isTogether RX4 rm_Sk_isTogether 5 false) (hret : ∀ r : Int32, KX (.inl r) → Fin X (some .boolean) 0 0 false (some (vI r)) s) (hexit : KX (.inr ()) → G X s 0 0 86 [(0, vR (some k))] []) (ht : rf s.2.2 0 (some k) = some k) : ∀ (n : Nat) (a3 : Int32) {res : (Int32) ⊕ (Unit)}, l_Sk_isTogether_31 k a1 a2 s n a3 = some res → KX res → G X s 0 0 31 [(0, vR (some k)), (1, vI a1), (2, vR a2), (3, vI a3)] [] := by
  intro n
  induction n with
  | zero => intro _ res h; cases h
  | succ n ih =>
    intro a3 res h hk
    exact w_b_Sk_isTogether_31 ok hret hexit (fun v3 y h2 hk2 => ih v3 h2 hk2) ht h hk
set_option maxRecDepth 100000 in
set_option maxHeartbeats 4000000 in
theorem w_Sk_isTogether {X : CX} {KX : Int32 → Prop} {k : Nat} {a1 : Int32} {s : MS} (ok : Ok X cX4_isTogether RX4 rm_Sk_isTogether 5 false) (hret : ∀ r : Int32, KX r → Fin X (some .boolean) 0 0 false (some (vI r)) s)   (ht : rf s.2.2 0 (some k) = some k) {res : Int32} (h : f_Sk_isTogether k a1 s = some res) (hk : KX res) : G X s 0 0 0 [(0, vR (some k)), (1, vI a1)] [] := by
  unfold f_Sk_isTogether at h
  refine g_aload_n (i := 0) 0 ok d_Sk_isTogether_0 rfl rfl ?_
  refine g_iload_n (i := 1) 1 ok d_Sk_isTogether_1 rfl rfl ?_
  obtain ⟨x2, hc3, h⟩ := bnd_go h
  refine g_invV (rm2 := rm_Sk_machineOf) (As := [vI a1]) (rest := []) ok ht lay_0 rfl (c_Sk_machineOf X.1.2.1 (rf_self ht) hc3) cm_Sk_machineOf cv_Sk_machineOf tw_415 ⟨rfl, rfl⟩ ⟨le_t rfl, le_t rfl⟩ ⟨rfl, le_t rfl⟩ ⟨le_t rfl, le_t rfl⟩ d_Sk_isTogether_2 rfl (fun m1 => ?_)
  show G X s 0 0 5 [(0, vR (some k)), (1, vI a1)] [vR x2]
  refine g_astore_n (i := 2) [(2, vR x2), (0, vR (some k)), (1, vI a1)] ok d_Sk_isTogether_5 rfl (by decide) rfl ?_
  refine g_aload_n (i := 2) 0 ok d_Sk_isTogether_6 rfl rfl ?_
  refine g_ifnull (tgt := 27) ok d_Sk_isTogether_7 (by decide) (fun c4 => ?_) (fun c4 => ?_)
  · replace h := (if_pos c4).symm.trans h
    refine g_iconst (v := (0 : Int32)) ok d_Sk_isTogether_27 (by decide) ?_
    cases h
    exact g_zret ok (hret _ hk) (Or.inl rfl) (by decide) (by decide) d_Sk_isTogether_28
  · replace h := (if_neg c4).symm.trans h
    refine g_aload_n (i := 2) 0 ok d_Sk_isTogether_10 rfl rfl ?_
    obtain ⟨x6, hc7, h⟩ := bnd_go h
    refine g_invS (rm2 := rm_Sk_isUnderWay) (As := [vR x2]) (rest := []) ok (c_Sk_isUnderWay X.1.2.1 hc7) cm_Sk_isUnderWay cs_Sk_isUnderWay tw_595 ⟨rfl, rfl⟩ ⟨le_t rfl, le_t rfl⟩ ⟨rfl, le_t rfl⟩ ⟨le_t rfl, le_t rfl⟩ d_Sk_isTogether_11 rfl (fun m5 => ?_)
    show G X s 0 0 14 [(2, vR x2), (0, vR (some k)), (1, vI a1)] [vI x6]
    refine g_if_eq (tgt := 27) ok d_Sk_isTogether_14 (by decide) (fun c8 => ?_) (fun c8 => ?_)
    · replace h := (if_pos c8).symm.trans h
      refine g_iconst (v := (0 : Int32)) ok d_Sk_isTogether_27 (by decide) ?_
      cases h
      exact g_zret ok (hret _ hk) (Or.inl rfl) (by decide) (by decide) d_Sk_isTogether_28
    · replace h := (if_neg c8).symm.trans h
      refine g_aload_n (i := 2) 0 ok d_Sk_isTogether_17 rfl rfl ?_
      obtain ⟨k9, hk10, h⟩ := bnd_go h
      refine g_getiN (s0 := 11) (j := 3) (ci := 1) (C := RX1) (T := TX1) (N := 7) ok hk10 lay_11 rfl inX1 (by decide) rfl tw_452 rfl d_Sk_isTogether_18 ?_
      refine g_invS (rm2 := rm_Sk_isOnGround) (As := [vI (s.1 k9 3)]) (rest := []) ok (c_Sk_isOnGround X.1.2.1) cm_Sk_isOnGround cs_Sk_isOnGround tw_184 ⟨rfl, rfl⟩ ⟨le_t rfl, le_t rfl⟩ ⟨rfl, le_t rfl⟩ ⟨le_t rfl, le_t rfl⟩ d_Sk_isTogether_21 rfl (fun m11 => ?_)
      show G X s 0 0 24 [(2, vR x2), (0, vR (some k)), (1, vI a1)] [vI (f_Sk_isOnGround (s.1 k9 3))]
      refine g_if_eq (tgt := 29) ok d_Sk_isTogether_24 (by decide) (fun c12 => ?_) (fun c12 => ?_)
      · replace h := (if_pos c12).symm.trans h
        refine g_iconst (v := (0 : Int32)) ok d_Sk_isTogether_29 (by decide) ?_
        refine g_istore_n (i := 3) [(3, vI (0 : Int32)), (2, vR x2), (0, vR (some k)), (1, vI a1)] ok d_Sk_isTogether_30 rfl (by decide) rfl ?_
        refine g_sub [2, 3, 1, 0] rfl ?_
        rcases el0_go h with ⟨r, hx, h⟩ | ⟨hx, h⟩
        · refine w_l_Sk_isTogether_31 (KX := fun y => y = .inl r) ok (fun r2 he => ?_) (fun he => by cases he) ht _ _ hx rfl
          cases he
          cases h
          exact hret _ hk
        · refine w_l_Sk_isTogether_31 (KX := fun y => y = .inr ()) ok (fun r2 he => by cases he) (fun he => ?_) ht _ _ hx rfl
          cases he
          refine g_iconst (v := (0 : Int32)) ok d_Sk_isTogether_86 (by decide) ?_
          cases h
          exact g_zret ok (hret _ hk) (Or.inl rfl) (by decide) (by decide) d_Sk_isTogether_87
      · replace h := (if_neg c12).symm.trans h
        refine g_iconst (v := (0 : Int32)) ok d_Sk_isTogether_27 (by decide) ?_
        cases h
        exact g_zret ok (hret _ hk) (Or.inl rfl) (by decide) (by decide) d_Sk_isTogether_28
theorem c_Sk_isTogether (l : Launch) {k : Nat} {a1 : Int32} {s : MS} (ht : rf s.2.2 0 (some k) = some k) {r : Int32} (h : f_Sk_isTogether k a1 s = some r) : Ct l yX4_isTogether (.code yX4_isTogether cX4_isTogether 5 (some .boolean)) rm_Sk_isTogether 0 0 false [vR (some k), vI a1] s (some (vI r)) s :=
  Ct.of rfl (by decide +kernel) ⟨rfl, le_t rfl⟩ (fun X ok fn _ hI hl => w_Sk_isTogether (KX := fun y => y = r) ok (fun y hy => by subst hy; exact fn) ht h rfl)
abbrev rm_Sk_meetsAnyOther : Room := { frames := 4, cells := 0, slots := 0, locals := 90 }
theorem cm_Sk_meetsAnyOther : cfM yX4_meetsAnyOther cX4_meetsAnyOther 6 (some .boolean) 1 := ⟨tw_642, tw_1, by decide, by decide, by decide +kernel⟩
theorem cv_Sk_meetsAnyOther : cfV yX4_meetsAnyOther := ⟨tw_641, ts_X4_meetsAnyOther⟩
theorem d_Sk_meetsAnyOther_0 : decode cX4_meetsAnyOther 0 = .ok (.aload_n 0, 1) := by decide +kernel
theorem d_Sk_meetsAnyOther_1 : decode cX4_meetsAnyOther 1 = .ok (.getfield 30, 3) := by decide +kernel
theorem d_Sk_meetsAnyOther_4 : decode cX4_meetsAnyOther 4 = .ok (.astore_n 2, 1) := by decide +kernel
theorem d_Sk_meetsAnyOther_5 : decode cX4_meetsAnyOther 5 = .ok (.aload_n 2, 1) := by decide +kernel
theorem d_Sk_meetsAnyOther_6 : decode cX4_meetsAnyOther 6 = .ok (.arraylength, 1) := by decide +kernel
theorem d_Sk_meetsAnyOther_7 : decode cX4_meetsAnyOther 7 = .ok (.istore_n 3, 1) := by decide +kernel
theorem d_Sk_meetsAnyOther_8 : decode cX4_meetsAnyOther 8 = .ok (.iconst 0, 1) := by decide +kernel
theorem d_Sk_meetsAnyOther_9 : decode cX4_meetsAnyOther 9 = .ok (.istore 4, 2) := by decide +kernel
theorem d_Sk_meetsAnyOther_11 : decode cX4_meetsAnyOther 11 = .ok (.iload 4, 2) := by decide +kernel
theorem d_Sk_meetsAnyOther_13 : decode cX4_meetsAnyOther 13 = .ok (.iload_n 3, 1) := by decide +kernel
theorem d_Sk_meetsAnyOther_14 : decode cX4_meetsAnyOther 14 = .ok (.if_icmp .ge 64, 3) := by decide +kernel
theorem d_Sk_meetsAnyOther_17 : decode cX4_meetsAnyOther 17 = .ok (.aload_n 2, 1) := by decide +kernel
theorem d_Sk_meetsAnyOther_18 : decode cX4_meetsAnyOther 18 = .ok (.iload 4, 2) := by decide +kernel
theorem d_Sk_meetsAnyOther_20 : decode cX4_meetsAnyOther 20 = .ok (.aaload, 1) := by decide +kernel
theorem d_Sk_meetsAnyOther_21 : decode cX4_meetsAnyOther 21 = .ok (.astore 5, 2) := by decide +kernel
theorem d_Sk_meetsAnyOther_23 : decode cX4_meetsAnyOther 23 = .ok (.aload 5, 2) := by decide +kernel
theorem d_Sk_meetsAnyOther_25 : decode cX4_meetsAnyOther 25 = .ok (.ifnull 47, 3) := by decide +kernel
theorem d_Sk_meetsAnyOther_28 : decode cX4_meetsAnyOther 28 = .ok (.aload 5, 2) := by decide +kernel
theorem d_Sk_meetsAnyOther_30 : decode cX4_meetsAnyOther 30 = .ok (.getfield 189, 3) := by decide +kernel
theorem d_Sk_meetsAnyOther_33 : decode cX4_meetsAnyOther 33 = .ok (.aload_n 1, 1) := by decide +kernel
theorem d_Sk_meetsAnyOther_34 : decode cX4_meetsAnyOther 34 = .ok (.getfield 189, 3) := by decide +kernel
theorem d_Sk_meetsAnyOther_37 : decode cX4_meetsAnyOther 37 = .ok (.if_icmp .eq 35, 3) := by decide +kernel
theorem d_Sk_meetsAnyOther_40 : decode cX4_meetsAnyOther 40 = .ok (.aload 5, 2) := by decide +kernel
theorem d_Sk_meetsAnyOther_42 : decode cX4_meetsAnyOther 42 = .ok (.getfield 214, 3) := by decide +kernel
theorem d_Sk_meetsAnyOther_45 : decode cX4_meetsAnyOther 45 = .ok (.iconst 1, 1) := by decide +kernel
theorem d_Sk_meetsAnyOther_46 : decode cX4_meetsAnyOther 46 = .ok (.if_icmp .eq 11, 3) := by decide +kernel
theorem d_Sk_meetsAnyOther_49 : decode cX4_meetsAnyOther 49 = .ok (.aload 5, 2) := by decide +kernel
theorem d_Sk_meetsAnyOther_51 : decode cX4_meetsAnyOther 51 = .ok (.getfield 214, 3) := by decide +kernel
theorem d_Sk_meetsAnyOther_54 : decode cX4_meetsAnyOther 54 = .ok (.ifCond .ne 18, 3) := by decide +kernel
theorem d_Sk_meetsAnyOther_57 : decode cX4_meetsAnyOther 57 = .ok (.aload_n 1, 1) := by decide +kernel
theorem d_Sk_meetsAnyOther_58 : decode cX4_meetsAnyOther 58 = .ok (.aload 5, 2) := by decide +kernel
theorem d_Sk_meetsAnyOther_60 : decode cX4_meetsAnyOther 60 = .ok (.aload_n 0, 1) := by decide +kernel
theorem d_Sk_meetsAnyOther_61 : decode cX4_meetsAnyOther 61 = .ok (.getfield 182, 3) := by decide +kernel
theorem d_Sk_meetsAnyOther_64 : decode cX4_meetsAnyOther 64 = .ok (.invokestatic 273, 3) := by decide +kernel
theorem d_Sk_meetsAnyOther_67 : decode cX4_meetsAnyOther 67 = .ok (.ifCond .eq 5, 3) := by decide +kernel
theorem d_Sk_meetsAnyOther_70 : decode cX4_meetsAnyOther 70 = .ok (.iconst 1, 1) := by decide +kernel
theorem d_Sk_meetsAnyOther_71 : decode cX4_meetsAnyOther 71 = .ok (.ireturn, 1) := by decide +kernel
theorem d_Sk_meetsAnyOther_72 : decode cX4_meetsAnyOther 72 = .ok (.iinc 4 1, 3) := by decide +kernel
theorem d_Sk_meetsAnyOther_75 : decode cX4_meetsAnyOther 75 = .ok (.goto (-64), 3) := by decide +kernel
theorem d_Sk_meetsAnyOther_78 : decode cX4_meetsAnyOther 78 = .ok (.iconst 0, 1) := by decide +kernel
theorem d_Sk_meetsAnyOther_79 : decode cX4_meetsAnyOther 79 = .ok (.ireturn, 1) := by decide +kernel
set_option maxRecDepth 100000 in
set_option maxHeartbeats 4000000 in
theorem w_j_Sk_meetsAnyOther_57 {X : CX} {KX : (Int32) ⊕ (Unit) → Prop} {k : Nat} {a1 : Option Nat} {a2 : Option Nat} {a3 : Int32} {a4 : Int32} {a5 : Option Nat} {s : MS} {rec : Int32 → Option ((Int32) ⊕ (Unit))} (ok : Ok X cX4_meetsAnyOther RX4 rm_Sk_meetsAnyOther 6 false) (hret : ∀ r : Int32, KX (.inl r) → Fin X (some .boolean) 0 0 false (some (vI r)) s) (hexit : KX (.inr ()) → G X s 0 0 78 [(0, vR (some k))] []) (hrec : ∀ (v4 : Int32), ∀ y, rec v4 = some y → KX y → G X s 0 0 11 [(0, vR (some k)), (1, vR a1), (2, vR a2), (3, vI a3), (4, vI v4)] []) (ht : rf s.2.2 0 (some k) = some k) {res : (Int32) ⊕ (Unit)} (h : j_Sk_meetsAnyOther_57 k a1 a2 a3 a4 a5 s rec = some res) (hk : KX res) : G X s 0 0 57 [(0, vR (some k)), (1, vR a1), (2, vR a2), (3, vI a3), (4, vI a4), (5, vR a5)] [] := by
  unfold j_Sk_meetsAnyOther_57 at h
  refine g_aload_n (i := 1) 1 ok d_Sk_meetsAnyOther_57 rfl rfl ?_
  refine g_aload (i := 5) 5 ok d_Sk_meetsAnyOther_58 rfl ?_
  refine g_aload_n (i := 0) 0 ok d_Sk_meetsAnyOther_60 rfl rfl ?_
  refine g_geti (s0 := 0) (j := 10) (ci := 4) (C := RX4) (T := TX4) (N := 14) ok ht lay_0 rfl inX4 (by decide) rfl tw_92 rfl d_Sk_meetsAnyOther_61 ?_
  obtain ⟨x24, hc25, h⟩ := bnd_go h
  refine g_invS (rm2 := rm_Sk_meetFrom) (As := [vR a1, vR a5, vI (s.1 k 10)]) (rest := []) ok (c_Sk_meetFrom X.1.2.1 hc25) cm_Sk_meetFrom cs_Sk_meetFrom tw_552 ⟨rfl, rfl⟩ ⟨le_t rfl, le_t rfl⟩ ⟨rfl, le_t rfl⟩ ⟨le_t rfl, le_t rfl⟩ d_Sk_meetsAnyOther_64 rfl (fun m23 => ?_)
  show G X s 0 0 67 [(0, vR (some k)), (1, vR a1), (2, vR a2), (3, vI a3), (4, vI a4), (5, vR a5)] [vI x24]
  refine g_if_eq (tgt := 72) ok d_Sk_meetsAnyOther_67 (by decide) (fun c26 => ?_) (fun c26 => ?_)
  · replace h := (if_pos c26).symm.trans h
    obtain ⟨x27, e28⟩ : ∃ z, a4 + (1 : Int32) = z := ⟨_, rfl⟩
    replace h := lt_go h e28
    refine g_iinc (i := 4) (v := x27) 4 [(4, vI x27), (0, vR (some k)), (1, vR a1), (2, vR a2), (3, vI a3), (5, vR a5)] ok d_Sk_meetsAnyOther_72 rfl (by rw [← e28]; rfl) (by decide) rfl ?_
    refine g_goto (tgt := 11) ok d_Sk_meetsAnyOther_75 (by decide) ?_
    refine g_sub [1, 2, 3, 4, 0] rfl ?_
    exact hrec x27 _ h hk
  · replace h := (if_neg c26).symm.trans h
    refine g_iconst (v := (1 : Int32)) ok d_Sk_meetsAnyOther_70 (by decide) ?_
    cases h
    exact g_zret ok (hret _ hk) (Or.inr rfl) (by decide) (by decide) d_Sk_meetsAnyOther_71
set_option maxRecDepth 100000 in
set_option maxHeartbeats 4000000 in
theorem w_b_Sk_meetsAnyOther_11 {X : CX} {KX : (Int32) ⊕ (Unit) → Prop} {k : Nat} {a1 : Option Nat} {a2 : Option Nat} {a3 : Int32} {a4 : Int32} {s : MS} {rec : Int32 → Option ((Int32) ⊕ (Unit))} (ok : Ok X cX4_meetsAnyOther RX4 rm_Sk_meetsAnyOther 6 false) (hret : ∀ r : Int32, KX (.inl r) → Fin X (some .boolean) 0 0 false (some (vI r)) s) (hexit : KX (.inr ()) → G X s 0 0 78 [(0, vR (some k))] []) (hrec : ∀ (v4 : Int32), ∀ y, rec v4 = some y → KX y → G X s 0 0 11 [(0, vR (some k)), (1, vR a1), (2, vR a2), (3, vI a3), (4, vI v4)] []) (ht : rf s.2.2 0 (some k) = some k) {res : (Int32) ⊕ (Unit)} (h : b_Sk_meetsAnyOther_11 k a1 a2 a3 a4 s rec = some res) (hk : KX res) : G X s 0 0 11 [(0, vR (some k)), (1, vR a1), (2, vR a2), (3, vI a3), (4, vI a4)] [] := by
  unfold b_Sk_meetsAnyOther_11 at h
  refine g_iload (i := 4) 4 ok d_Sk_meetsAnyOther_11 rfl ?_
  refine g_iload_n (i := 3) 3 ok d_Sk_meetsAnyOther_13 rfl rfl ?_
  refine g_icmp_ge (tgt := 78) ok d_Sk_meetsAnyOther_14 (by decide) (fun c7 => ?_) (fun c7 => ?_)
  · replace h := (if_pos c7).symm.trans h
    refine g_aload_n (i := 2) 2 ok d_Sk_meetsAnyOther_17 rfl rfl ?_
    refine g_iload (i := 4) 4 ok d_Sk_meetsAnyOther_18 rfl ?_
    obtain ⟨k8, hk9, h⟩ := bnd_go h
    refine g_aald5 ok hk9 d_Sk_meetsAnyOther_20 ?_
    obtain ⟨x10, e11⟩ : ∃ z, (s.2.1 k8 a4.toNatClampNeg) = z := ⟨_, rfl⟩
    replace h := lt_go h e11
    rw [e11]
    refine g_astore (i := 5) [(5, vR x10), (0, vR (some k)), (1, vR a1), (2, vR a2), (3, vI a3), (4, vI a4)] ok d_Sk_meetsAnyOther_21 (by decide) rfl ?_
    refine g_aload (i := 5) 0 ok d_Sk_meetsAnyOther_23 rfl ?_
    refine g_ifnull (tgt := 72) ok d_Sk_meetsAnyOther_25 (by decide) (fun c12 => ?_) (fun c12 => ?_)
    · replace h := (if_pos c12).symm.trans h
      obtain ⟨x13, e14⟩ : ∃ z, a4 + (1 : Int32) = z := ⟨_, rfl⟩
      replace h := lt_go h e14
      refine g_iinc (i := 4) (v := x13) 5 [(4, vI x13), (5, vR x10), (0, vR (some k)), (1, vR a1), (2, vR a2), (3, vI a3)] ok d_Sk_meetsAnyOther_72 rfl (by rw [← e14]; rfl) (by decide) rfl ?_
      refine g_goto (tgt := 11) ok d_Sk_meetsAnyOther_75 (by decide) ?_
      refine g_sub [2, 3, 4, 5, 0] rfl ?_
      exact hrec x13 _ h hk
    · replace h := (if_neg c12).symm.trans h
      refine g_aload (i := 5) 0 ok d_Sk_meetsAnyOther_28 rfl ?_
      obtain ⟨k15, hk16, h⟩ := bnd_go h
      refine g_getiN (s0 := 12) (j := 1) (ci := 2) (C := RX2) (T := TX2) (N := 7) ok hk16 lay_12 rfl inX2 (by decide) rfl tw_59 rfl d_Sk_meetsAnyOther_30 ?_
      refine g_aload_n (i := 1) 2 ok d_Sk_meetsAnyOther_33 rfl rfl ?_
      obtain ⟨k17, hk18, h⟩ := bnd_go h
      refine g_getiN (s0 := 12) (j := 1) (ci := 2) (C := RX2) (T := TX2) (N := 7) ok hk18 lay_12 rfl inX2 (by decide) rfl tw_59 rfl d_Sk_meetsAnyOther_34 ?_
      refine g_icmp_eq (tgt := 72) ok d_Sk_meetsAnyOther_37 (by decide) (fun c19 => ?_) (fun c19 => ?_)
      · replace h := (if_pos c19).symm.trans h
        obtain ⟨x20, e21⟩ : ∃ z, a4 + (1 : Int32) = z := ⟨_, rfl⟩
        replace h := lt_go h e21
        refine g_iinc (i := 4) (v := x20) 5 [(4, vI x20), (5, vR x10), (0, vR (some k)), (1, vR a1), (2, vR a2), (3, vI a3)] ok d_Sk_meetsAnyOther_72 rfl (by rw [← e21]; rfl) (by decide) rfl ?_
        refine g_goto (tgt := 11) ok d_Sk_meetsAnyOther_75 (by decide) ?_
        refine g_sub [2, 3, 4, 5, 0] rfl ?_
        exact hrec x20 _ h hk
      · replace h := (if_neg c19).symm.trans h
        refine g_aload (i := 5) 0 ok d_Sk_meetsAnyOther_40 rfl ?_
        refine g_getiN (s0 := 12) (j := 6) (ci := 2) (C := RX2) (T := TX2) (N := 7) ok hk16 lay_12 rfl inX2 (by decide) rfl tw_66 rfl d_Sk_meetsAnyOther_42 ?_
        refine g_iconst (v := (1 : Int32)) ok d_Sk_meetsAnyOther_45 (by decide) ?_
        refine g_icmp_eq (tgt := 57) ok d_Sk_meetsAnyOther_46 (by decide) (fun c22 => ?_) (fun c22 => ?_)
        · replace h := (if_pos c22).symm.trans h
          refine g_sub [1, 2, 3, 4, 5, 0] rfl ?_
          exact w_j_Sk_meetsAnyOther_57 ok hret hexit hrec ht h hk
        · replace h := (if_neg c22).symm.trans h
          refine g_aload (i := 5) 0 ok d_Sk_meetsAnyOther_49 rfl ?_
          refine g_getiN (s0 := 12) (j := 6) (ci := 2) (C := RX2) (T := TX2) (N := 7) ok hk16 lay_12 rfl inX2 (by decide) rfl tw_66 rfl d_Sk_meetsAnyOther_51 ?_
          refine g_if_ne (tgt := 72) ok d_Sk_meetsAnyOther_54 (by decide) (fun c29 => ?_) (fun c29 => ?_)
          · replace h := (if_pos c29).symm.trans h
            refine g_sub [1, 2, 3, 4, 5, 0] rfl ?_
            exact w_j_Sk_meetsAnyOther_57 ok hret hexit hrec ht h hk
          · replace h := (if_neg c29).symm.trans h
            obtain ⟨x30, e31⟩ : ∃ z, a4 + (1 : Int32) = z := ⟨_, rfl⟩
            replace h := lt_go h e31
            refine g_iinc (i := 4) (v := x30) 5 [(4, vI x30), (5, vR x10), (0, vR (some k)), (1, vR a1), (2, vR a2), (3, vI a3)] ok d_Sk_meetsAnyOther_72 rfl (by rw [← e31]; rfl) (by decide) rfl ?_
            refine g_goto (tgt := 11) ok d_Sk_meetsAnyOther_75 (by decide) ?_
            refine g_sub [2, 3, 4, 5, 0] rfl ?_
            exact hrec x30 _ h hk
  · replace h := (if_neg c7).symm.trans h
    refine g_sub [0] rfl ?_
    cases h
    exact hexit hk
theorem w_l_Sk_meetsAnyOther_11 {X : CX} {KX : (Int32) ⊕ (Unit) → Prop} {k : Nat} {a1 : Option Nat} {a2 : Option Nat} {a3 : Int32} {s : MS} (ok : Ok X cX4_meetsAnyOther RX4 rm_Sk_meetsAnyOther 6 false) (hret : ∀ r : Int32, KX (.inl r) → Fin X (some .boolean) 0 0 false (some (vI r)) s) (hexit : KX (.inr ()) → G X s 0 0 78 [(0, vR (some k))] []) (ht : rf s.2.2 0 (some k) = some k) : ∀ (n : Nat) (a4 : Int32) {res : (Int32) ⊕ (Unit)}, l_Sk_meetsAnyOther_11 k a1 a2 a3 s n a4 = some res → KX res → G X s 0 0 11 [(0, vR (some k)), (1, vR a1), (2, vR a2), (3, vI a3), (4, vI a4)] [] := by
  intro n
  induction n with
  | zero => intro _ res h; cases h
  | succ n ih =>
    intro a4 res h hk
    exact w_b_Sk_meetsAnyOther_11 ok hret hexit (fun v4 y h2 hk2 => ih v4 h2 hk2) ht h hk
set_option maxRecDepth 100000 in
set_option maxHeartbeats 4000000 in
theorem w_Sk_meetsAnyOther {X : CX} {KX : Int32 → Prop} {k : Nat} {a1 : Option Nat} {s : MS} (ok : Ok X cX4_meetsAnyOther RX4 rm_Sk_meetsAnyOther 6 false) (hret : ∀ r : Int32, KX r → Fin X (some .boolean) 0 0 false (some (vI r)) s)   (ht : rf s.2.2 0 (some k) = some k) {res : Int32} (h : f_Sk_meetsAnyOther k a1 s = some res) (hk : KX res) : G X s 0 0 0 [(0, vR (some k)), (1, vR a1)] [] := by
  unfold f_Sk_meetsAnyOther at h
  refine g_aload_n (i := 0) 0 ok d_Sk_meetsAnyOther_0 rfl rfl ?_
  refine g_getr (s0 := 0) (j := 3) (ci := 4) (C := RX4) (T := TX4) (N := 14) ok ht lay_0 rfl inX4 (by decide) rfl tw_85 rfl d_Sk_meetsAnyOther_1 ?_
  obtain ⟨x1, e2⟩ : ∃ z, (s.2.1 k 3) = z := ⟨_, rfl⟩
  replace h := lt_go h e2
  rw [e2]
  refine g_astore_n (i := 2) [(2, vR x1), (0, vR (some k)), (1, vR a1)] ok d_Sk_meetsAnyOther_4 rfl (by decide) rfl ?_
  refine g_aload_n (i := 2) 0 ok d_Sk_meetsAnyOther_5 rfl rfl ?_
  obtain ⟨n3, hn4, h⟩ := bnd_go h
  refine g_alen ok hn4 (by decide) d_Sk_meetsAnyOther_6 ?_
  obtain ⟨x5, e6⟩ : ∃ z, (Int32.ofNat n3) = z := ⟨_, rfl⟩
  replace h := lt_go h e6
  rw [e6]
  refine g_istore_n (i := 3) [(3, vI x5), (2, vR x1), (0, vR (some k)), (1, vR a1)] ok d_Sk_meetsAnyOther_7 rfl (by decide) rfl ?_
  refine g_iconst (v := (0 : Int32)) ok d_Sk_meetsAnyOther_8 (by decide) ?_
  refine g_istore (i := 4) [(4, vI (0 : Int32)), (3, vI x5), (2, vR x1), (0, vR (some k)), (1, vR a1)] ok d_Sk_meetsAnyOther_9 (by decide) rfl ?_
  refine g_sub [3, 4, 2, 1, 0] rfl ?_
  rcases el0_go h with ⟨r, hx, h⟩ | ⟨hx, h⟩
  · refine w_l_Sk_meetsAnyOther_11 (KX := fun y => y = .inl r) ok (fun r2 he => ?_) (fun he => by cases he) ht _ _ hx rfl
    cases he
    cases h
    exact hret _ hk
  · refine w_l_Sk_meetsAnyOther_11 (KX := fun y => y = .inr ()) ok (fun r2 he => by cases he) (fun he => ?_) ht _ _ hx rfl
    cases he
    refine g_iconst (v := (0 : Int32)) ok d_Sk_meetsAnyOther_78 (by decide) ?_
    cases h
    exact g_zret ok (hret _ hk) (Or.inl rfl) (by decide) (by decide) d_Sk_meetsAnyOther_79
theorem c_Sk_meetsAnyOther (l : Launch) {k : Nat} {a1 : Option Nat} {s : MS} (ht : rf s.2.2 0 (some k) = some k) {r : Int32} (h : f_Sk_meetsAnyOther k a1 s = some r) : Ct l yX4_meetsAnyOther (.code yX4_meetsAnyOther cX4_meetsAnyOther 6 (some .boolean)) rm_Sk_meetsAnyOther 0 0 false [vR (some k), vR a1] s (some (vI r)) s :=
  Ct.of rfl (by decide +kernel) ⟨rfl, le_t rfl⟩ (fun X ok fn _ hI hl => w_Sk_meetsAnyOther (KX := fun y => y = r) ok (fun y hy => by subst hy; exact fn) ht h rfl)
abbrev rm_Sk_time : Room := { frames := 0, cells := 0, slots := 0, locals := 0 }
theorem cm_Sk_time : cfM yX4_time cX4_time 1 (some .int) 0 := ⟨tw_136, tw_1, by decide, by decide, by decide +kernel⟩
theorem cv_Sk_time : cfV yX4_time := ⟨tw_134, tw_135⟩
theorem d_Sk_time_0 : decode cX4_time 0 = .ok (.aload_n 0, 1) := by decide +kernel
theorem d_Sk_time_1 : decode cX4_time 1 = .ok (.getfield 182, 3) := by decide +kernel
theorem d_Sk_time_4 : decode cX4_time 4 = .ok (.ireturn, 1) := by decide +kernel
set_option maxRecDepth 100000 in
set_option maxHeartbeats 4000000 in
theorem w_Sk_time {X : CX} {KX : Int32 → Prop} {k : Nat} {s : MS} (ok : Ok X cX4_time RX4 rm_Sk_time 1 false) (hret : ∀ r : Int32, KX r → Fin X (some .int) 0 0 false (some (vI r)) s)   (ht : rf s.2.2 0 (some k) = some k) {res : Int32} (h : f_Sk_time k s = some res) (hk : KX res) : G X s 0 0 0 [(0, vR (some k))] [] := by
  unfold f_Sk_time at h
  refine g_aload_n (i := 0) 0 ok d_Sk_time_0 rfl rfl ?_
  refine g_geti (s0 := 0) (j := 10) (ci := 4) (C := RX4) (T := TX4) (N := 14) ok ht lay_0 rfl inX4 (by decide) rfl tw_92 rfl d_Sk_time_1 ?_
  cases h
  exact g_iret ok (hret _ hk) (by decide) (by decide) d_Sk_time_4
theorem c_Sk_time (l : Launch) {k : Nat} {s : MS} (ht : rf s.2.2 0 (some k) = some k) {r : Int32} (h : f_Sk_time k s = some r) : Ct l yX4_time (.code yX4_time cX4_time 1 (some .int)) rm_Sk_time 0 0 false [vR (some k)] s (some (vI r)) s :=
  Ct.of rfl (by decide +kernel) ⟨rfl, le_t rfl⟩ (fun X ok fn _ hI hl => w_Sk_time (KX := fun y => y = r) ok (fun y hy => by subst hy; exact fn) ht h rfl)
abbrev rm_Sk_comesIntoRoom : Room := { frames := 2, cells := 0, slots := 0, locals := 44 }
theorem cm_Sk_comesIntoRoom : cfM yX4_comesIntoRoom cX4_comesIntoRoom 7 (some .boolean) 1 := ⟨tw_155, tw_1, by decide, by decide, by decide +kernel⟩
theorem cv_Sk_comesIntoRoom : cfV yX4_comesIntoRoom := ⟨tw_154, ts_X4_comesIntoRoom⟩
theorem d_Sk_comesIntoRoom_0 : decode cX4_comesIntoRoom 0 = .ok (.aload_n 0, 1) := by decide +kernel
theorem d_Sk_comesIntoRoom_1 : decode cX4_comesIntoRoom 1 = .ok (.getfield 182, 3) := by decide +kernel
theorem d_Sk_comesIntoRoom_4 : decode cX4_comesIntoRoom 4 = .ok (.iconst 1, 1) := by decide +kernel
theorem d_Sk_comesIntoRoom_5 : decode cX4_comesIntoRoom 5 = .ok (.iadd, 1) := by decide +kernel
theorem d_Sk_comesIntoRoom_6 : decode cX4_comesIntoRoom 6 = .ok (.istore_n 2, 1) := by decide +kernel
theorem d_Sk_comesIntoRoom_7 : decode cX4_comesIntoRoom 7 = .ok (.iload_n 2, 1) := by decide +kernel
theorem d_Sk_comesIntoRoom_8 : decode cX4_comesIntoRoom 8 = .ok (.aload_n 0, 1) := by decide +kernel
theorem d_Sk_comesIntoRoom_9 : decode cX4_comesIntoRoom 9 = .ok (.getfield 182, 3) := by decide +kernel
theorem d_Sk_comesIntoRoom_12 : decode cX4_comesIntoRoom 12 = .ok (.bipush 10, 2) := by decide +kernel
theorem d_Sk_comesIntoRoom_14 : decode cX4_comesIntoRoom 14 = .ok (.iadd, 1) := by decide +kernel
theorem d_Sk_comesIntoRoom_15 : decode cX4_comesIntoRoom 15 = .ok (.if_icmp .gt 61, 3) := by decide +kernel
theorem d_Sk_comesIntoRoom_18 : decode cX4_comesIntoRoom 18 = .ok (.aload_n 0, 1) := by decide +kernel
theorem d_Sk_comesIntoRoom_19 : decode cX4_comesIntoRoom 19 = .ok (.getfield 18, 3) := by decide +kernel
theorem d_Sk_comesIntoRoom_22 : decode cX4_comesIntoRoom 22 = .ok (.astore_n 3, 1) := by decide +kernel
theorem d_Sk_comesIntoRoom_23 : decode cX4_comesIntoRoom 23 = .ok (.aload_n 3, 1) := by decide +kernel
theorem d_Sk_comesIntoRoom_24 : decode cX4_comesIntoRoom 24 = .ok (.arraylength, 1) := by decide +kernel
theorem d_Sk_comesIntoRoom_25 : decode cX4_comesIntoRoom 25 = .ok (.istore 4, 2) := by decide +kernel
theorem d_Sk_comesIntoRoom_27 : decode cX4_comesIntoRoom 27 = .ok (.iconst 0, 1) := by decide +kernel
theorem d_Sk_comesIntoRoom_28 : decode cX4_comesIntoRoom 28 = .ok (.istore 5, 2) := by decide +kernel
theorem d_Sk_comesIntoRoom_30 : decode cX4_comesIntoRoom 30 = .ok (.iload 5, 2) := by decide +kernel
theorem d_Sk_comesIntoRoom_32 : decode cX4_comesIntoRoom 32 = .ok (.iload 4, 2) := by decide +kernel
theorem d_Sk_comesIntoRoom_34 : decode cX4_comesIntoRoom 34 = .ok (.if_icmp .ge 36, 3) := by decide +kernel
theorem d_Sk_comesIntoRoom_37 : decode cX4_comesIntoRoom 37 = .ok (.aload_n 3, 1) := by decide +kernel
theorem d_Sk_comesIntoRoom_38 : decode cX4_comesIntoRoom 38 = .ok (.iload 5, 2) := by decide +kernel
theorem d_Sk_comesIntoRoom_40 : decode cX4_comesIntoRoom 40 = .ok (.aaload, 1) := by decide +kernel
theorem d_Sk_comesIntoRoom_41 : decode cX4_comesIntoRoom 41 = .ok (.astore 6, 2) := by decide +kernel
theorem d_Sk_comesIntoRoom_43 : decode cX4_comesIntoRoom 43 = .ok (.aload 6, 2) := by decide +kernel
theorem d_Sk_comesIntoRoom_45 : decode cX4_comesIntoRoom 45 = .ok (.ifnull 19, 3) := by decide +kernel
theorem d_Sk_comesIntoRoom_48 : decode cX4_comesIntoRoom 48 = .ok (.aload 6, 2) := by decide +kernel
theorem d_Sk_comesIntoRoom_50 : decode cX4_comesIntoRoom 50 = .ok (.aload_n 1, 1) := by decide +kernel
theorem d_Sk_comesIntoRoom_51 : decode cX4_comesIntoRoom 51 = .ok (.iload_n 2, 1) := by decide +kernel
theorem d_Sk_comesIntoRoom_52 : decode cX4_comesIntoRoom 52 = .ok (.invokevirtual 270, 3) := by decide +kernel
theorem d_Sk_comesIntoRoom_55 : decode cX4_comesIntoRoom 55 = .ok (.iload_n 2, 1) := by decide +kernel
theorem d_Sk_comesIntoRoom_56 : decode cX4_comesIntoRoom 56 = .ok (.invokevirtual 339, 3) := by decide +kernel
theorem d_Sk_comesIntoRoom_59 : decode cX4_comesIntoRoom 59 = .ok (.ifCond .eq 5, 3) := by decide +kernel
theorem d_Sk_comesIntoRoom_62 : decode cX4_comesIntoRoom 62 = .ok (.iconst 1, 1) := by decide +kernel
theorem d_Sk_comesIntoRoom_63 : decode cX4_comesIntoRoom 63 = .ok (.ireturn, 1) := by decide +kernel
theorem d_Sk_comesIntoRoom_64 : decode cX4_comesIntoRoom 64 = .ok (.iinc 5 1, 3) := by decide +kernel
theorem d_Sk_comesIntoRoom_67 : decode cX4_comesIntoRoom 67 = .ok (.goto (-37), 3) := by decide +kernel
theorem d_Sk_comesIntoRoom_70 : decode cX4_comesIntoRoom 70 = .ok (.iinc 2 1, 3) := by decide +kernel
theorem d_Sk_comesIntoRoom_73 : decode cX4_comesIntoRoom 73 = .ok (.goto (-66), 3) := by decide +kernel
theorem d_Sk_comesIntoRoom_76 : decode cX4_comesIntoRoom 76 = .ok (.iconst 0, 1) := by decide +kernel
theorem d_Sk_comesIntoRoom_77 : decode cX4_comesIntoRoom 77 = .ok (.ireturn, 1) := by decide +kernel
set_option maxRecDepth 100000 in
set_option maxHeartbeats 4000000 in
theorem w_b_Sk_comesIntoRoom_30 {X : CX} {KX : (Int32) ⊕ (Unit) → Prop} {k : Nat} {a1 : Option Nat} {a2 : Int32} {a3 : Option Nat} {a4 : Int32} {a5 : Int32} {s : MS} {rec : Int32 → Option ((Int32) ⊕ (Unit))} (ok : Ok X cX4_comesIntoRoom RX4 rm_Sk_comesIntoRoom 7 false) (hret : ∀ r : Int32, KX (.inl r) → Fin X (some .boolean) 0 0 false (some (vI r)) s) (hexit : KX (.inr ()) → G X s 0 0 70 [(0, vR (some k)), (1, vR a1), (2, vI a2)] []) (hrec : ∀ (v5 : Int32), ∀ y, rec v5 = some y → KX y → G X s 0 0 30 [(0, vR (some k)), (1, vR a1), (2, vI a2), (3, vR a3), (4, vI a4), (5, vI v5)] []) (ht : rf s.2.2 0 (some k) = some k) {res : (Int32) ⊕ (Unit)} (h : b_Sk_comesIntoRoom_30 k a1 a2 a3 a4 a5 s rec = some res) (hk : KX res) : G X s 0 0 30 [(0, vR (some k)), (1, vR a1), (2, vI a2), (3, vR a3), (4, vI a4), (5, vI a5)] [] := by
  unfold b_Sk_comesIntoRoom_30 at h
  refine g_iload (i := 5) 5 ok d_Sk_comesIntoRoom_30 rfl ?_
  refine g_iload (i := 4) 4 ok d_Sk_comesIntoRoom_32 rfl ?_
  refine g_icmp_ge (tgt := 70) ok d_Sk_comesIntoRoom_34 (by decide) (fun c10 => ?_) (fun c10 => ?_)
  · replace h := (if_pos c10).symm.trans h
    refine g_aload_n (i := 3) 3 ok d_Sk_comesIntoRoom_37 rfl rfl ?_
    refine g_iload (i := 5) 5 ok d_Sk_comesIntoRoom_38 rfl ?_
    obtain ⟨k11, hk12, h⟩ := bnd_go h
    refine g_aald3 ok hk12 d_Sk_comesIntoRoom_40 ?_
    obtain ⟨x13, e14⟩ : ∃ z, (s.2.1 k11 a5.toNatClampNeg) = z := ⟨_, rfl⟩
    replace h := lt_go h e14
    rw [e14]
    refine g_astore (i := 6) [(6, vR x13), (0, vR (some k)), (1, vR a1), (2, vI a2), (3, vR a3), (4, vI a4), (5, vI a5)] ok d_Sk_comesIntoRoom_41 (by decide) rfl ?_
    refine g_aload (i := 6) 0 ok d_Sk_comesIntoRoom_43 rfl ?_
    refine g_ifnull (tgt := 64) ok d_Sk_comesIntoRoom_45 (by decide) (fun c15 => ?_) (fun c15 => ?_)
    · replace h := (if_pos c15).symm.trans h
      obtain ⟨x16, e17⟩ : ∃ z, a5 + (1 : Int32) = z := ⟨_, rfl⟩
      replace h := lt_go h e17
      refine g_iinc (i := 5) (v := x16) 6 [(5, vI x16), (6, vR x13), (0, vR (some k)), (1, vR a1), (2, vI a2), (3, vR a3), (4, vI a4)] ok d_Sk_comesIntoRoom_64 rfl (by rw [← e17]; rfl) (by decide) rfl ?_
      refine g_goto (tgt := 30) ok d_Sk_comesIntoRoom_67 (by decide) ?_
      refine g_sub [2, 3, 4, 5, 6, 0] rfl ?_
      exact hrec x16 _ h hk
    · replace h := (if_neg c15).symm.trans h
      refine g_aload (i := 6) 0 ok d_Sk_comesIntoRoom_48 rfl ?_
      refine g_aload_n (i := 1) 2 ok d_Sk_comesIntoRoom_50 rfl rfl ?_
      refine g_iload_n (i := 2) 3 ok d_Sk_comesIntoRoom_51 rfl rfl ?_
      obtain ⟨k18, hk19, h⟩ := bnd_go h
      obtain ⟨x21, hc22, h⟩ := bnd_go h
      refine g_invVN (rm2 := rm_Pa_placeWhen) (As := [vI a2]) (rest := [vR x13]) ok hk19 lay_12 rfl (c_Pa_placeWhen X.1.2.1 (rf_self hk19) hc22) cm_Pa_placeWhen cv_Pa_placeWhen tw_156 ⟨rfl, rfl⟩ ⟨le_t rfl, le_t rfl⟩ ⟨rfl, le_t rfl⟩ ⟨le_t rfl, le_t rfl⟩ d_Sk_comesIntoRoom_52 rfl (fun m20 => ?_)
      show G X s 0 0 55 [(6, vR x13), (0, vR (some k)), (1, vR a1), (2, vI a2), (3, vR a3), (4, vI a4), (5, vI a5)] [vI x21, vR x13]
      refine g_iload_n (i := 2) 3 ok d_Sk_comesIntoRoom_55 rfl rfl ?_
      obtain ⟨k23, hk24, h⟩ := bnd_go h
      obtain ⟨x26, hc27, h⟩ := bnd_go h
      refine g_invVN (rm2 := rm_Ro_isClosedAt) (As := [vI x21, vI a2]) (rest := []) ok hk24 lay_10 rfl (c_Ro_isClosedAt X.1.2.1 (rf_self hk24) hc27) cm_Ro_isClosedAt cv_Ro_isClosedAt tw_164 ⟨rfl, rfl⟩ ⟨le_t rfl, le_t rfl⟩ ⟨rfl, le_t rfl⟩ ⟨le_t rfl, le_t rfl⟩ d_Sk_comesIntoRoom_56 rfl (fun m25 => ?_)
      show G X s 0 0 59 [(6, vR x13), (0, vR (some k)), (1, vR a1), (2, vI a2), (3, vR a3), (4, vI a4), (5, vI a5)] [vI x26]
      refine g_if_eq (tgt := 64) ok d_Sk_comesIntoRoom_59 (by decide) (fun c28 => ?_) (fun c28 => ?_)
      · replace h := (if_pos c28).symm.trans h
        obtain ⟨x29, e30⟩ : ∃ z, a5 + (1 : Int32) = z := ⟨_, rfl⟩
        replace h := lt_go h e30
        refine g_iinc (i := 5) (v := x29) 6 [(5, vI x29), (6, vR x13), (0, vR (some k)), (1, vR a1), (2, vI a2), (3, vR a3), (4, vI a4)] ok d_Sk_comesIntoRoom_64 rfl (by rw [← e30]; rfl) (by decide) rfl ?_
        refine g_goto (tgt := 30) ok d_Sk_comesIntoRoom_67 (by decide) ?_
        refine g_sub [2, 3, 4, 5, 6, 0] rfl ?_
        exact hrec x29 _ h hk
      · replace h := (if_neg c28).symm.trans h
        refine g_iconst (v := (1 : Int32)) ok d_Sk_comesIntoRoom_62 (by decide) ?_
        cases h
        exact g_zret ok (hret _ hk) (Or.inr rfl) (by decide) (by decide) d_Sk_comesIntoRoom_63
  · replace h := (if_neg c10).symm.trans h
    refine g_sub [0, 1, 2] rfl ?_
    cases h
    exact hexit hk
theorem w_l_Sk_comesIntoRoom_30 {X : CX} {KX : (Int32) ⊕ (Unit) → Prop} {k : Nat} {a1 : Option Nat} {a2 : Int32} {a3 : Option Nat} {a4 : Int32} {s : MS} (ok : Ok X cX4_comesIntoRoom RX4 rm_Sk_comesIntoRoom 7 false) (hret : ∀ r : Int32, KX (.inl r) → Fin X (some .boolean) 0 0 false (some (vI r)) s) (hexit : KX (.inr ()) → G X s 0 0 70 [(0, vR (some k)), (1, vR a1), (2, vI a2)] []) (ht : rf s.2.2 0 (some k) = some k) : ∀ (n : Nat) (a5 : Int32) {res : (Int32) ⊕ (Unit)}, l_Sk_comesIntoRoom_30 k a1 a2 a3 a4 s n a5 = some res → KX res → G X s 0 0 30 [(0, vR (some k)), (1, vR a1), (2, vI a2), (3, vR a3), (4, vI a4), (5, vI a5)] [] := by
  intro n
  induction n with
  | zero => intro _ res h; cases h
  | succ n ih =>
    intro a5 res h hk
    exact w_b_Sk_comesIntoRoom_30 ok hret hexit (fun v5 y h2 hk2 => ih v5 h2 hk2) ht h hk
set_option maxRecDepth 100000 in
set_option maxHeartbeats 4000000 in
theorem w_b_Sk_comesIntoRoom_7 {X : CX} {KX : (Int32) ⊕ (Unit) → Prop} {k : Nat} {a1 : Option Nat} {a2 : Int32} {s : MS} {rec : Int32 → Option ((Int32) ⊕ (Unit))} (ok : Ok X cX4_comesIntoRoom RX4 rm_Sk_comesIntoRoom 7 false) (hret : ∀ r : Int32, KX (.inl r) → Fin X (some .boolean) 0 0 false (some (vI r)) s) (hexit : KX (.inr ()) → G X s 0 0 76 [(0, vR (some k))] []) (hrec : ∀ (v2 : Int32), ∀ y, rec v2 = some y → KX y → G X s 0 0 7 [(0, vR (some k)), (1, vR a1), (2, vI v2)] []) (ht : rf s.2.2 0 (some k) = some k) {res : (Int32) ⊕ (Unit)} (h : b_Sk_comesIntoRoom_7 k a1 a2 s rec = some res) (hk : KX res) : G X s 0 0 7 [(0, vR (some k)), (1, vR a1), (2, vI a2)] [] := by
  unfold b_Sk_comesIntoRoom_7 at h
  refine g_iload_n (i := 2) 2 ok d_Sk_comesIntoRoom_7 rfl rfl ?_
  refine g_aload_n (i := 0) 0 ok d_Sk_comesIntoRoom_8 rfl rfl ?_
  refine g_geti (s0 := 0) (j := 10) (ci := 4) (C := RX4) (T := TX4) (N := 14) ok ht lay_0 rfl inX4 (by decide) rfl tw_92 rfl d_Sk_comesIntoRoom_9 ?_
  refine g_bipush (v := (10 : Int32)) ok d_Sk_comesIntoRoom_12 (by decide) ?_
  refine g_iadd ok d_Sk_comesIntoRoom_14 ?_
  refine g_icmp_gt (tgt := 76) ok d_Sk_comesIntoRoom_15 (by decide) (fun c3 => ?_) (fun c3 => ?_)
  · replace h := (if_pos c3).symm.trans h
    refine g_sub [0] rfl ?_
    cases h
    exact hexit hk
  · replace h := (if_neg c3).symm.trans h
    refine g_aload_n (i := 0) 0 ok d_Sk_comesIntoRoom_18 rfl rfl ?_
    refine g_getr (s0 := 0) (j := 1) (ci := 4) (C := RX4) (T := TX4) (N := 14) ok ht lay_0 rfl inX4 (by decide) rfl tw_83 rfl d_Sk_comesIntoRoom_19 ?_
    obtain ⟨x4, e5⟩ : ∃ z, (s.2.1 k 1) = z := ⟨_, rfl⟩
    replace h := lt_go h e5
    rw [e5]
    refine g_astore_n (i := 3) [(3, vR x4), (0, vR (some k)), (1, vR a1), (2, vI a2)] ok d_Sk_comesIntoRoom_22 rfl (by decide) rfl ?_
    refine g_aload_n (i := 3) 0 ok d_Sk_comesIntoRoom_23 rfl rfl ?_
    obtain ⟨n6, hn7, h⟩ := bnd_go h
    refine g_alen ok hn7 (by decide) d_Sk_comesIntoRoom_24 ?_
    obtain ⟨x8, e9⟩ : ∃ z, (Int32.ofNat n6) = z := ⟨_, rfl⟩
    replace h := lt_go h e9
    rw [e9]
    refine g_istore (i := 4) [(4, vI x8), (3, vR x4), (0, vR (some k)), (1, vR a1), (2, vI a2)] ok d_Sk_comesIntoRoom_25 (by decide) rfl ?_
    refine g_iconst (v := (0 : Int32)) ok d_Sk_comesIntoRoom_27 (by decide) ?_
    refine g_istore (i := 5) [(5, vI (0 : Int32)), (4, vI x8), (3, vR x4), (0, vR (some k)), (1, vR a1), (2, vI a2)] ok d_Sk_comesIntoRoom_28 (by decide) rfl ?_
    refine g_sub [3, 4, 5, 2, 1, 0] rfl ?_
    rcases el0_go h with ⟨r, hx, h⟩ | ⟨hx, h⟩
    · refine w_l_Sk_comesIntoRoom_30 (KX := fun y => y = .inl r) ok (fun r2 he => ?_) (fun he => by cases he) ht _ _ hx rfl
      cases he
      cases h
      exact hret _ hk
    · refine w_l_Sk_comesIntoRoom_30 (KX := fun y => y = .inr ()) ok (fun r2 he => by cases he) (fun he => ?_) ht _ _ hx rfl
      cases he
      obtain ⟨x31, e32⟩ : ∃ z, a2 + (1 : Int32) = z := ⟨_, rfl⟩
      replace h := lt_go h e32
      refine g_iinc (i := 2) (v := x31) 2 [(2, vI x31), (0, vR (some k)), (1, vR a1)] ok d_Sk_comesIntoRoom_70 rfl (by rw [← e32]; rfl) (by decide) rfl ?_
      refine g_goto (tgt := 7) ok d_Sk_comesIntoRoom_73 (by decide) ?_
      refine g_sub [1, 2, 0] rfl ?_
      exact hrec x31 _ h hk
theorem w_l_Sk_comesIntoRoom_7 {X : CX} {KX : (Int32) ⊕ (Unit) → Prop} {k : Nat} {a1 : Option Nat} {s : MS} (ok : Ok X cX4_comesIntoRoom RX4 rm_Sk_comesIntoRoom 7 false) (hret : ∀ r : Int32, KX (.inl r) → Fin X (some .boolean) 0 0 false (some (vI r)) s) (hexit : KX (.inr ()) → G X s 0 0 76 [(0, vR (some k))] []) (ht : rf s.2.2 0 (some k) = some k) : ∀ (n : Nat) (a2 : Int32) {res : (Int32) ⊕ (Unit)}, l_Sk_comesIntoRoom_7 k a1 s n a2 = some res → KX res → G X s 0 0 7 [(0, vR (some k)), (1, vR a1), (2, vI a2)] [] := by
  intro n
  induction n with
  | zero => intro _ res h; cases h
  | succ n ih =>
    intro a2 res h hk
    exact w_b_Sk_comesIntoRoom_7 ok hret hexit (fun v2 y h2 hk2 => ih v2 h2 hk2) ht h hk
set_option maxRecDepth 100000 in
set_option maxHeartbeats 4000000 in
theorem w_Sk_comesIntoRoom {X : CX} {KX : Int32 → Prop} {k : Nat} {a1 : Option Nat} {s : MS} (ok : Ok X cX4_comesIntoRoom RX4 rm_Sk_comesIntoRoom 7 false) (hret : ∀ r : Int32, KX r → Fin X (some .boolean) 0 0 false (some (vI r)) s)   (ht : rf s.2.2 0 (some k) = some k) {res : Int32} (h : f_Sk_comesIntoRoom k a1 s = some res) (hk : KX res) : G X s 0 0 0 [(0, vR (some k)), (1, vR a1)] [] := by
  unfold f_Sk_comesIntoRoom at h
  refine g_aload_n (i := 0) 0 ok d_Sk_comesIntoRoom_0 rfl rfl ?_
  refine g_geti (s0 := 0) (j := 10) (ci := 4) (C := RX4) (T := TX4) (N := 14) ok ht lay_0 rfl inX4 (by decide) rfl tw_92 rfl d_Sk_comesIntoRoom_1 ?_
  refine g_iconst (v := (1 : Int32)) ok d_Sk_comesIntoRoom_4 (by decide) ?_
  refine g_iadd ok d_Sk_comesIntoRoom_5 ?_
  obtain ⟨x1, e2⟩ : ∃ z, ((s.1 k 10) + (1 : Int32)) = z := ⟨_, rfl⟩
  replace h := lt_go h e2
  rw [e2]
  refine g_istore_n (i := 2) [(2, vI x1), (0, vR (some k)), (1, vR a1)] ok d_Sk_comesIntoRoom_6 rfl (by decide) rfl ?_
  refine g_sub [1, 2, 0] rfl ?_
  rcases el0_go h with ⟨r, hx, h⟩ | ⟨hx, h⟩
  · refine w_l_Sk_comesIntoRoom_7 (KX := fun y => y = .inl r) ok (fun r2 he => ?_) (fun he => by cases he) ht _ _ hx rfl
    cases he
    cases h
    exact hret _ hk
  · refine w_l_Sk_comesIntoRoom_7 (KX := fun y => y = .inr ()) ok (fun r2 he => by cases he) (fun he => ?_) ht _ _ hx rfl
    cases he
    refine g_iconst (v := (0 : Int32)) ok d_Sk_comesIntoRoom_76 (by decide) ?_
    cases h
    exact g_zret ok (hret _ hk) (Or.inl rfl) (by decide) (by decide) d_Sk_comesIntoRoom_77
theorem c_Sk_comesIntoRoom (l : Launch) {k : Nat} {a1 : Option Nat} {s : MS} (ht : rf s.2.2 0 (some k) = some k) {r : Int32} (h : f_Sk_comesIntoRoom k a1 s = some r) : Ct l yX4_comesIntoRoom (.code yX4_comesIntoRoom cX4_comesIntoRoom 7 (some .boolean)) rm_Sk_comesIntoRoom 0 0 false [vR (some k), vR a1] s (some (vI r)) s :=
  Ct.of rfl (by decide +kernel) ⟨rfl, le_t rfl⟩ (fun X ok fn _ hI hl => w_Sk_comesIntoRoom (KX := fun y => y = r) ok (fun y hy => by subst hy; exact fn) ht h rfl)
abbrev rm_Sk_isSameInAir : Room := { frames := 1, cells := 0, slots := 0, locals := 20 }
theorem cm_Sk_isSameInAir : cfM yX4_isSameInAir cX4_isSameInAir 2 (some .boolean) 2 := ⟨tw_727, tw_1, by decide, by decide, by decide +kernel⟩
theorem cs_Sk_isSameInAir : cfS yX4_isSameInAir := tw_726
theorem d_Sk_isSameInAir_0 : decode cX4_isSameInAir 0 = .ok (.iload_n 0, 1) := by decide +kernel
theorem d_Sk_isSameInAir_1 : decode cX4_isSameInAir 1 = .ok (.iload_n 1, 1) := by decide +kernel
theorem d_Sk_isSameInAir_2 : decode cX4_isSameInAir 2 = .ok (.if_icmp .ne 14, 3) := by decide +kernel
theorem d_Sk_isSameInAir_5 : decode cX4_isSameInAir 5 = .ok (.iload_n 0, 1) := by decide +kernel
theorem d_Sk_isSameInAir_6 : decode cX4_isSameInAir 6 = .ok (.invokestatic 232, 3) := by decide +kernel
theorem d_Sk_isSameInAir_9 : decode cX4_isSameInAir 9 = .ok (.ifCond .ne 7, 3) := by decide +kernel
theorem d_Sk_isSameInAir_12 : decode cX4_isSameInAir 12 = .ok (.iconst 1, 1) := by decide +kernel
theorem d_Sk_isSameInAir_13 : decode cX4_isSameInAir 13 = .ok (.goto 4, 3) := by decide +kernel
theorem d_Sk_isSameInAir_16 : decode cX4_isSameInAir 16 = .ok (.iconst 0, 1) := by decide +kernel
theorem d_Sk_isSameInAir_17 : decode cX4_isSameInAir 17 = .ok (.ireturn, 1) := by decide +kernel
set_option maxRecDepth 100000 in
set_option maxHeartbeats 4000000 in
theorem w_Sk_isSameInAir {X : CX} {KX : Int32 → Prop} {a0 : Int32} {a1 : Int32} {s : MS} (ok : Ok X cX4_isSameInAir RX4 rm_Sk_isSameInAir 2 false) (hret : ∀ r : Int32, KX r → Fin X (some .boolean) 0 0 false (some (vI r)) s)    {res : Int32} (h : f_Sk_isSameInAir a0 a1 = res) (hk : KX res) : G X s 0 0 0 [(0, vI a0), (1, vI a1)] [] := by
  unfold f_Sk_isSameInAir at h
  refine g_iload_n (i := 0) 0 ok d_Sk_isSameInAir_0 rfl rfl ?_
  refine g_iload_n (i := 1) 1 ok d_Sk_isSameInAir_1 rfl rfl ?_
  refine g_icmp_ne (tgt := 16) ok d_Sk_isSameInAir_2 (by decide) (fun c1 => ?_) (fun c1 => ?_)
  · replace h := (if_pos c1).symm.trans h
    refine g_iload_n (i := 0) 0 ok d_Sk_isSameInAir_5 rfl rfl ?_
    refine g_invS (rm2 := rm_Sk_isOnGround) (As := [vI a0]) (rest := []) ok (c_Sk_isOnGround X.1.2.1) cm_Sk_isOnGround cs_Sk_isOnGround tw_184 ⟨rfl, rfl⟩ ⟨le_t rfl, le_t rfl⟩ ⟨rfl, le_t rfl⟩ ⟨le_t rfl, le_t rfl⟩ d_Sk_isSameInAir_6 rfl (fun m2 => ?_)
    show G X s 0 0 9 [(0, vI a0), (1, vI a1)] [vI (f_Sk_isOnGround a0)]
    refine g_if_ne (tgt := 16) ok d_Sk_isSameInAir_9 (by decide) (fun c3 => ?_) (fun c3 => ?_)
    · replace h := (if_pos c3).symm.trans h
      refine g_iconst (v := (1 : Int32)) ok d_Sk_isSameInAir_12 (by decide) ?_
      refine g_goto (tgt := 17) ok d_Sk_isSameInAir_13 (by decide) ?_
      subst h
      exact g_zret ok (hret _ hk) (Or.inr rfl) (by decide) (by decide) d_Sk_isSameInAir_17
    · replace h := (if_neg c3).symm.trans h
      refine g_iconst (v := (0 : Int32)) ok d_Sk_isSameInAir_16 (by decide) ?_
      subst h
      exact g_zret ok (hret _ hk) (Or.inl rfl) (by decide) (by decide) d_Sk_isSameInAir_17
  · replace h := (if_neg c1).symm.trans h
    refine g_iconst (v := (0 : Int32)) ok d_Sk_isSameInAir_16 (by decide) ?_
    subst h
    exact g_zret ok (hret _ hk) (Or.inl rfl) (by decide) (by decide) d_Sk_isSameInAir_17
theorem c_Sk_isSameInAir (l : Launch) {a0 : Int32} {a1 : Int32} {s : MS} : Ct l yX4_isSameInAir (.code yX4_isSameInAir cX4_isSameInAir 2 (some .boolean)) rm_Sk_isSameInAir 0 0 false [vI a0, vI a1] s (some (vI (f_Sk_isSameInAir a0 a1))) s :=
  Ct.of rfl (by decide +kernel) ⟨rfl, le_t rfl⟩ (fun X ok fn _ hI hl => w_Sk_isSameInAir (KX := fun y => y = f_Sk_isSameInAir a0 a1) ok (fun y hy => by subst hy; exact fn) rfl rfl)
theorem zb_Sk_isSameInAir {a0 : Int32} {a1 : Int32} : f_Sk_isSameInAir a0 a1 = 0 ∨ f_Sk_isSameInAir a0 a1 = 1 := by
  unfold f_Sk_isSameInAir
  repeat' split
  all_goals first | exact Or.inl rfl | exact Or.inr rfl | exact zb_Sk_isOnGround
abbrev rm_Sk_withdrawnPaths : Room := { frames := 0, cells := 0, slots := 0, locals := 0 }
theorem cm_Sk_withdrawnPaths : cfM yX4_withdrawnPaths cX4_withdrawnPaths 6 (some .int) 0 := ⟨tw_675, tw_1, by decide, by decide, by decide +kernel⟩
theorem cv_Sk_withdrawnPaths : cfV yX4_withdrawnPaths := ⟨tw_674, ts_X4_withdrawnPaths⟩
theorem d_Sk_withdrawnPaths_0 : decode cX4_withdrawnPaths 0 = .ok (.iconst 0, 1) := by decide +kernel
theorem d_Sk_withdrawnPaths_1 : decode cX4_withdrawnPaths 1 = .ok (.istore_n 1, 1) := by decide +kernel
theorem d_Sk_withdrawnPaths_2 : decode cX4_withdrawnPaths 2 = .ok (.aload_n 0, 1) := by decide +kernel
theorem d_Sk_withdrawnPaths_3 : decode cX4_withdrawnPaths 3 = .ok (.getfield 30, 3) := by decide +kernel
theorem d_Sk_withdrawnPaths_6 : decode cX4_withdrawnPaths 6 = .ok (.astore_n 2, 1) := by decide +kernel
theorem d_Sk_withdrawnPaths_7 : decode cX4_withdrawnPaths 7 = .ok (.aload_n 2, 1) := by decide +kernel
theorem d_Sk_withdrawnPaths_8 : decode cX4_withdrawnPaths 8 = .ok (.arraylength, 1) := by decide +kernel
theorem d_Sk_withdrawnPaths_9 : decode cX4_withdrawnPaths 9 = .ok (.istore_n 3, 1) := by decide +kernel
theorem d_Sk_withdrawnPaths_10 : decode cX4_withdrawnPaths 10 = .ok (.iconst 0, 1) := by decide +kernel
theorem d_Sk_withdrawnPaths_11 : decode cX4_withdrawnPaths 11 = .ok (.istore 4, 2) := by decide +kernel
theorem d_Sk_withdrawnPaths_13 : decode cX4_withdrawnPaths 13 = .ok (.iload 4, 2) := by decide +kernel
theorem d_Sk_withdrawnPaths_15 : decode cX4_withdrawnPaths 15 = .ok (.iload_n 3, 1) := by decide +kernel
theorem d_Sk_withdrawnPaths_16 : decode cX4_withdrawnPaths 16 = .ok (.if_icmp .ge 32, 3) := by decide +kernel
theorem d_Sk_withdrawnPaths_19 : decode cX4_withdrawnPaths 19 = .ok (.aload_n 2, 1) := by decide +kernel
theorem d_Sk_withdrawnPaths_20 : decode cX4_withdrawnPaths 20 = .ok (.iload 4, 2) := by decide +kernel
theorem d_Sk_withdrawnPaths_22 : decode cX4_withdrawnPaths 22 = .ok (.aaload, 1) := by decide +kernel
theorem d_Sk_withdrawnPaths_23 : decode cX4_withdrawnPaths 23 = .ok (.astore 5, 2) := by decide +kernel
theorem d_Sk_withdrawnPaths_25 : decode cX4_withdrawnPaths 25 = .ok (.aload 5, 2) := by decide +kernel
theorem d_Sk_withdrawnPaths_27 : decode cX4_withdrawnPaths 27 = .ok (.ifnull 15, 3) := by decide +kernel
theorem d_Sk_withdrawnPaths_30 : decode cX4_withdrawnPaths 30 = .ok (.aload 5, 2) := by decide +kernel
theorem d_Sk_withdrawnPaths_32 : decode cX4_withdrawnPaths 32 = .ok (.getfield 214, 3) := by decide +kernel
theorem d_Sk_withdrawnPaths_35 : decode cX4_withdrawnPaths 35 = .ok (.iconst 3, 1) := by decide +kernel
theorem d_Sk_withdrawnPaths_36 : decode cX4_withdrawnPaths 36 = .ok (.if_icmp .ne 6, 3) := by decide +kernel
theorem d_Sk_withdrawnPaths_39 : decode cX4_withdrawnPaths 39 = .ok (.iinc 1 1, 3) := by decide +kernel
theorem d_Sk_withdrawnPaths_42 : decode cX4_withdrawnPaths 42 = .ok (.iinc 4 1, 3) := by decide +kernel
theorem d_Sk_withdrawnPaths_45 : decode cX4_withdrawnPaths 45 = .ok (.goto (-32), 3) := by decide +kernel
theorem d_Sk_withdrawnPaths_48 : decode cX4_withdrawnPaths 48 = .ok (.iload_n 1, 1) := by decide +kernel
theorem d_Sk_withdrawnPaths_49 : decode cX4_withdrawnPaths 49 = .ok (.ireturn, 1) := by decide +kernel
set_option maxRecDepth 100000 in
set_option maxHeartbeats 4000000 in
theorem w_b_Sk_withdrawnPaths_13 {X : CX} {KX : Int32 → Prop} {k : Nat} {a1 : Int32} {a2 : Option Nat} {a3 : Int32} {a4 : Int32} {s : MS} {rec : Int32 → Int32 → Option (Int32)} (ok : Ok X cX4_withdrawnPaths RX4 rm_Sk_withdrawnPaths 6 false) (hexit : ∀ (e1 : Int32), KX e1 → G X s 0 0 48 [(0, vR (some k)), (1, vI e1)] []) (hrec : ∀ (v1 : Int32) (v4 : Int32), ∀ y, rec v1 v4 = some y → KX y → G X s 0 0 13 [(0, vR (some k)), (1, vI v1), (2, vR a2), (3, vI a3), (4, vI v4)] []) (ht : rf s.2.2 0 (some k) = some k) {res : Int32} (h : b_Sk_withdrawnPaths_13 k a1 a2 a3 a4 s rec = some res) (hk : KX res) : G X s 0 0 13 [(0, vR (some k)), (1, vI a1), (2, vR a2), (3, vI a3), (4, vI a4)] [] := by
  unfold b_Sk_withdrawnPaths_13 at h
  refine g_iload (i := 4) 4 ok d_Sk_withdrawnPaths_13 rfl ?_
  refine g_iload_n (i := 3) 3 ok d_Sk_withdrawnPaths_15 rfl rfl ?_
  refine g_icmp_ge (tgt := 48) ok d_Sk_withdrawnPaths_16 (by decide) (fun c7 => ?_) (fun c7 => ?_)
  · replace h := (if_pos c7).symm.trans h
    refine g_aload_n (i := 2) 2 ok d_Sk_withdrawnPaths_19 rfl rfl ?_
    refine g_iload (i := 4) 4 ok d_Sk_withdrawnPaths_20 rfl ?_
    obtain ⟨k8, hk9, h⟩ := bnd_go h
    refine g_aald5 ok hk9 d_Sk_withdrawnPaths_22 ?_
    obtain ⟨x10, e11⟩ : ∃ z, (s.2.1 k8 a4.toNatClampNeg) = z := ⟨_, rfl⟩
    replace h := lt_go h e11
    rw [e11]
    refine g_astore (i := 5) [(5, vR x10), (0, vR (some k)), (1, vI a1), (2, vR a2), (3, vI a3), (4, vI a4)] ok d_Sk_withdrawnPaths_23 (by decide) rfl ?_
    refine g_aload (i := 5) 0 ok d_Sk_withdrawnPaths_25 rfl ?_
    refine g_ifnull (tgt := 42) ok d_Sk_withdrawnPaths_27 (by decide) (fun c12 => ?_) (fun c12 => ?_)
    · replace h := (if_pos c12).symm.trans h
      obtain ⟨x13, e14⟩ : ∃ z, a4 + (1 : Int32) = z := ⟨_, rfl⟩
      replace h := lt_go h e14
      refine g_iinc (i := 4) (v := x13) 5 [(4, vI x13), (5, vR x10), (0, vR (some k)), (1, vI a1), (2, vR a2), (3, vI a3)] ok d_Sk_withdrawnPaths_42 rfl (by rw [← e14]; rfl) (by decide) rfl ?_
      refine g_goto (tgt := 13) ok d_Sk_withdrawnPaths_45 (by decide) ?_
      refine g_sub [2, 3, 4, 5, 0] rfl ?_
      exact hrec a1 x13 _ h hk
    · replace h := (if_neg c12).symm.trans h
      refine g_aload (i := 5) 0 ok d_Sk_withdrawnPaths_30 rfl ?_
      obtain ⟨k15, hk16, h⟩ := bnd_go h
      refine g_getiN (s0 := 12) (j := 6) (ci := 2) (C := RX2) (T := TX2) (N := 7) ok hk16 lay_12 rfl inX2 (by decide) rfl tw_66 rfl d_Sk_withdrawnPaths_32 ?_
      refine g_iconst (v := (3 : Int32)) ok d_Sk_withdrawnPaths_35 (by decide) ?_
      refine g_icmp_ne (tgt := 42) ok d_Sk_withdrawnPaths_36 (by decide) (fun c17 => ?_) (fun c17 => ?_)
      · replace h := (if_pos c17).symm.trans h
        obtain ⟨x18, e19⟩ : ∃ z, a1 + (1 : Int32) = z := ⟨_, rfl⟩
        replace h := lt_go h e19
        refine g_iinc (i := 1) (v := x18) 2 [(1, vI x18), (5, vR x10), (0, vR (some k)), (2, vR a2), (3, vI a3), (4, vI a4)] ok d_Sk_withdrawnPaths_39 rfl (by rw [← e19]; rfl) (by decide) rfl ?_
        obtain ⟨x20, e21⟩ : ∃ z, a4 + (1 : Int32) = z := ⟨_, rfl⟩
        replace h := lt_go h e21
        refine g_iinc (i := 4) (v := x20) 5 [(4, vI x20), (1, vI x18), (5, vR x10), (0, vR (some k)), (2, vR a2), (3, vI a3)] ok d_Sk_withdrawnPaths_42 rfl (by rw [← e21]; rfl) (by decide) rfl ?_
        refine g_goto (tgt := 13) ok d_Sk_withdrawnPaths_45 (by decide) ?_
        refine g_sub [3, 1, 4, 5, 0] rfl ?_
        exact hrec x18 x20 _ h hk
      · replace h := (if_neg c17).symm.trans h
        obtain ⟨x22, e23⟩ : ∃ z, a4 + (1 : Int32) = z := ⟨_, rfl⟩
        replace h := lt_go h e23
        refine g_iinc (i := 4) (v := x22) 5 [(4, vI x22), (5, vR x10), (0, vR (some k)), (1, vI a1), (2, vR a2), (3, vI a3)] ok d_Sk_withdrawnPaths_42 rfl (by rw [← e23]; rfl) (by decide) rfl ?_
        refine g_goto (tgt := 13) ok d_Sk_withdrawnPaths_45 (by decide) ?_
        refine g_sub [2, 3, 4, 5, 0] rfl ?_
        exact hrec a1 x22 _ h hk
  · replace h := (if_neg c7).symm.trans h
    refine g_sub [0, 1] rfl ?_
    cases h
    exact hexit a1 hk
theorem w_l_Sk_withdrawnPaths_13 {X : CX} {KX : Int32 → Prop} {k : Nat} {a2 : Option Nat} {a3 : Int32} {s : MS} (ok : Ok X cX4_withdrawnPaths RX4 rm_Sk_withdrawnPaths 6 false) (hexit : ∀ (e1 : Int32), KX e1 → G X s 0 0 48 [(0, vR (some k)), (1, vI e1)] []) (ht : rf s.2.2 0 (some k) = some k) : ∀ (n : Nat) (a1 : Int32) (a4 : Int32) {res : Int32}, l_Sk_withdrawnPaths_13 k a2 a3 s n a1 a4 = some res → KX res → G X s 0 0 13 [(0, vR (some k)), (1, vI a1), (2, vR a2), (3, vI a3), (4, vI a4)] [] := by
  intro n
  induction n with
  | zero => intro _ _ res h; cases h
  | succ n ih =>
    intro a1 a4 res h hk
    exact w_b_Sk_withdrawnPaths_13 ok hexit (fun v1 v4 y h2 hk2 => ih v1 v4 h2 hk2) ht h hk
set_option maxRecDepth 100000 in
set_option maxHeartbeats 4000000 in
theorem w_Sk_withdrawnPaths {X : CX} {KX : Int32 → Prop} {k : Nat} {s : MS} (ok : Ok X cX4_withdrawnPaths RX4 rm_Sk_withdrawnPaths 6 false) (hret : ∀ r : Int32, KX r → Fin X (some .int) 0 0 false (some (vI r)) s)   (ht : rf s.2.2 0 (some k) = some k) {res : Int32} (h : f_Sk_withdrawnPaths k s = some res) (hk : KX res) : G X s 0 0 0 [(0, vR (some k))] [] := by
  unfold f_Sk_withdrawnPaths at h
  refine g_iconst (v := (0 : Int32)) ok d_Sk_withdrawnPaths_0 (by decide) ?_
  refine g_istore_n (i := 1) [(1, vI (0 : Int32)), (0, vR (some k))] ok d_Sk_withdrawnPaths_1 rfl (by decide) rfl ?_
  refine g_aload_n (i := 0) 1 ok d_Sk_withdrawnPaths_2 rfl rfl ?_
  refine g_getr (s0 := 0) (j := 3) (ci := 4) (C := RX4) (T := TX4) (N := 14) ok ht lay_0 rfl inX4 (by decide) rfl tw_85 rfl d_Sk_withdrawnPaths_3 ?_
  obtain ⟨x1, e2⟩ : ∃ z, (s.2.1 k 3) = z := ⟨_, rfl⟩
  replace h := lt_go h e2
  rw [e2]
  refine g_astore_n (i := 2) [(2, vR x1), (1, vI (0 : Int32)), (0, vR (some k))] ok d_Sk_withdrawnPaths_6 rfl (by decide) rfl ?_
  refine g_aload_n (i := 2) 0 ok d_Sk_withdrawnPaths_7 rfl rfl ?_
  obtain ⟨n3, hn4, h⟩ := bnd_go h
  refine g_alen ok hn4 (by decide) d_Sk_withdrawnPaths_8 ?_
  obtain ⟨x5, e6⟩ : ∃ z, (Int32.ofNat n3) = z := ⟨_, rfl⟩
  replace h := lt_go h e6
  rw [e6]
  refine g_istore_n (i := 3) [(3, vI x5), (2, vR x1), (1, vI (0 : Int32)), (0, vR (some k))] ok d_Sk_withdrawnPaths_9 rfl (by decide) rfl ?_
  refine g_iconst (v := (0 : Int32)) ok d_Sk_withdrawnPaths_10 (by decide) ?_
  refine g_istore (i := 4) [(4, vI (0 : Int32)), (3, vI x5), (2, vR x1), (1, vI (0 : Int32)), (0, vR (some k))] ok d_Sk_withdrawnPaths_11 (by decide) rfl ?_
  refine g_sub [4, 3, 2, 1, 0] rfl ?_
  obtain ⟨e24, hx, h⟩ := bnd_go h
  refine w_l_Sk_withdrawnPaths_13 (KX := fun y => y = e24) ok (fun y0 he => ?_) ht _ _ _ hx rfl
  cases he
  refine g_iload_n (i := 1) 1 ok d_Sk_withdrawnPaths_48 rfl rfl ?_
  cases h
  exact g_iret ok (hret _ hk) (by decide) (by decide) d_Sk_withdrawnPaths_49
theorem c_Sk_withdrawnPaths (l : Launch) {k : Nat} {s : MS} (ht : rf s.2.2 0 (some k) = some k) {r : Int32} (h : f_Sk_withdrawnPaths k s = some r) : Ct l yX4_withdrawnPaths (.code yX4_withdrawnPaths cX4_withdrawnPaths 6 (some .int)) rm_Sk_withdrawnPaths 0 0 false [vR (some k)] s (some (vI r)) s :=
  Ct.of rfl (by decide +kernel) ⟨rfl, le_t rfl⟩ (fun X ok fn _ hI hl => w_Sk_withdrawnPaths (KX := fun y => y = r) ok (fun y hy => by subst hy; exact fn) ht h rfl)
abbrev rm_Sk_machinesDown : Room := { frames := 0, cells := 0, slots := 0, locals := 0 }
theorem cm_Sk_machinesDown : cfM yX4_machinesDown cX4_machinesDown 6 (some .int) 0 := ⟨tw_679, tw_1, by decide, by decide, by decide +kernel⟩
theorem cv_Sk_machinesDown : cfV yX4_machinesDown := ⟨tw_678, ts_X4_machinesDown⟩
theorem d_Sk_machinesDown_0 : decode cX4_machinesDown 0 = .ok (.iconst 0, 1) := by decide +kernel
theorem d_Sk_machinesDown_1 : decode cX4_machinesDown 1 = .ok (.istore_n 1, 1) := by decide +kernel
theorem d_Sk_machinesDown_2 : decode cX4_machinesDown 2 = .ok (.aload_n 0, 1) := by decide +kernel
theorem d_Sk_machinesDown_3 : decode cX4_machinesDown 3 = .ok (.getfield 24, 3) := by decide +kernel
theorem d_Sk_machinesDown_6 : decode cX4_machinesDown 6 = .ok (.astore_n 2, 1) := by decide +kernel
theorem d_Sk_machinesDown_7 : decode cX4_machinesDown 7 = .ok (.aload_n 2, 1) := by decide +kernel
theorem d_Sk_machinesDown_8 : decode cX4_machinesDown 8 = .ok (.arraylength, 1) := by decide +kernel
theorem d_Sk_machinesDown_9 : decode cX4_machinesDown 9 = .ok (.istore_n 3, 1) := by decide +kernel
theorem d_Sk_machinesDown_10 : decode cX4_machinesDown 10 = .ok (.iconst 0, 1) := by decide +kernel
theorem d_Sk_machinesDown_11 : decode cX4_machinesDown 11 = .ok (.istore 4, 2) := by decide +kernel
theorem d_Sk_machinesDown_13 : decode cX4_machinesDown 13 = .ok (.iload 4, 2) := by decide +kernel
theorem d_Sk_machinesDown_15 : decode cX4_machinesDown 15 = .ok (.iload_n 3, 1) := by decide +kernel
theorem d_Sk_machinesDown_16 : decode cX4_machinesDown 16 = .ok (.if_icmp .ge 32, 3) := by decide +kernel
theorem d_Sk_machinesDown_19 : decode cX4_machinesDown 19 = .ok (.aload_n 2, 1) := by decide +kernel
theorem d_Sk_machinesDown_20 : decode cX4_machinesDown 20 = .ok (.iload 4, 2) := by decide +kernel
theorem d_Sk_machinesDown_22 : decode cX4_machinesDown 22 = .ok (.aaload, 1) := by decide +kernel
theorem d_Sk_machinesDown_23 : decode cX4_machinesDown 23 = .ok (.astore 5, 2) := by decide +kernel
theorem d_Sk_machinesDown_25 : decode cX4_machinesDown 25 = .ok (.aload 5, 2) := by decide +kernel
theorem d_Sk_machinesDown_27 : decode cX4_machinesDown 27 = .ok (.ifnull 15, 3) := by decide +kernel
theorem d_Sk_machinesDown_30 : decode cX4_machinesDown 30 = .ok (.aload 5, 2) := by decide +kernel
theorem d_Sk_machinesDown_32 : decode cX4_machinesDown 32 = .ok (.getfield 163, 3) := by decide +kernel
theorem d_Sk_machinesDown_35 : decode cX4_machinesDown 35 = .ok (.iconst 3, 1) := by decide +kernel
theorem d_Sk_machinesDown_36 : decode cX4_machinesDown 36 = .ok (.if_icmp .ne 6, 3) := by decide +kernel
theorem d_Sk_machinesDown_39 : decode cX4_machinesDown 39 = .ok (.iinc 1 1, 3) := by decide +kernel
theorem d_Sk_machinesDown_42 : decode cX4_machinesDown 42 = .ok (.iinc 4 1, 3) := by decide +kernel
theorem d_Sk_machinesDown_45 : decode cX4_machinesDown 45 = .ok (.goto (-32), 3) := by decide +kernel
theorem d_Sk_machinesDown_48 : decode cX4_machinesDown 48 = .ok (.iload_n 1, 1) := by decide +kernel
theorem d_Sk_machinesDown_49 : decode cX4_machinesDown 49 = .ok (.ireturn, 1) := by decide +kernel
set_option maxRecDepth 100000 in
set_option maxHeartbeats 4000000 in
theorem w_b_Sk_machinesDown_13 {X : CX} {KX : Int32 → Prop} {k : Nat} {a1 : Int32} {a2 : Option Nat} {a3 : Int32} {a4 : Int32} {s : MS} {rec : Int32 → Int32 → Option (Int32)} (ok : Ok X cX4_machinesDown RX4 rm_Sk_machinesDown 6 false) (hexit : ∀ (e1 : Int32), KX e1 → G X s 0 0 48 [(0, vR (some k)), (1, vI e1)] []) (hrec : ∀ (v1 : Int32) (v4 : Int32), ∀ y, rec v1 v4 = some y → KX y → G X s 0 0 13 [(0, vR (some k)), (1, vI v1), (2, vR a2), (3, vI a3), (4, vI v4)] []) (ht : rf s.2.2 0 (some k) = some k) {res : Int32} (h : b_Sk_machinesDown_13 k a1 a2 a3 a4 s rec = some res) (hk : KX res) : G X s 0 0 13 [(0, vR (some k)), (1, vI a1), (2, vR a2), (3, vI a3), (4, vI a4)] [] := by
  unfold b_Sk_machinesDown_13 at h
  refine g_iload (i := 4) 4 ok d_Sk_machinesDown_13 rfl ?_
  refine g_iload_n (i := 3) 3 ok d_Sk_machinesDown_15 rfl rfl ?_
  refine g_icmp_ge (tgt := 48) ok d_Sk_machinesDown_16 (by decide) (fun c7 => ?_) (fun c7 => ?_)
  · replace h := (if_pos c7).symm.trans h
    refine g_aload_n (i := 2) 2 ok d_Sk_machinesDown_19 rfl rfl ?_
    refine g_iload (i := 4) 4 ok d_Sk_machinesDown_20 rfl ?_
    obtain ⟨k8, hk9, h⟩ := bnd_go h
    refine g_aald4 ok hk9 d_Sk_machinesDown_22 ?_
    obtain ⟨x10, e11⟩ : ∃ z, (s.2.1 k8 a4.toNatClampNeg) = z := ⟨_, rfl⟩
    replace h := lt_go h e11
    rw [e11]
    refine g_astore (i := 5) [(5, vR x10), (0, vR (some k)), (1, vI a1), (2, vR a2), (3, vI a3), (4, vI a4)] ok d_Sk_machinesDown_23 (by decide) rfl ?_
    refine g_aload (i := 5) 0 ok d_Sk_machinesDown_25 rfl ?_
    refine g_ifnull (tgt := 42) ok d_Sk_machinesDown_27 (by decide) (fun c12 => ?_) (fun c12 => ?_)
    · replace h := (if_pos c12).symm.trans h
      obtain ⟨x13, e14⟩ : ∃ z, a4 + (1 : Int32) = z := ⟨_, rfl⟩
      replace h := lt_go h e14
      refine g_iinc (i := 4) (v := x13) 5 [(4, vI x13), (5, vR x10), (0, vR (some k)), (1, vI a1), (2, vR a2), (3, vI a3)] ok d_Sk_machinesDown_42 rfl (by rw [← e14]; rfl) (by decide) rfl ?_
      refine g_goto (tgt := 13) ok d_Sk_machinesDown_45 (by decide) ?_
      refine g_sub [2, 3, 4, 5, 0] rfl ?_
      exact hrec a1 x13 _ h hk
    · replace h := (if_neg c12).symm.trans h
      refine g_aload (i := 5) 0 ok d_Sk_machinesDown_30 rfl ?_
      obtain ⟨k15, hk16, h⟩ := bnd_go h
      refine g_getiN (s0 := 11) (j := 4) (ci := 1) (C := RX1) (T := TX1) (N := 7) ok hk16 lay_11 rfl inX1 (by decide) rfl tw_454 rfl d_Sk_machinesDown_32 ?_
      refine g_iconst (v := (3 : Int32)) ok d_Sk_machinesDown_35 (by decide) ?_
      refine g_icmp_ne (tgt := 42) ok d_Sk_machinesDown_36 (by decide) (fun c17 => ?_) (fun c17 => ?_)
      · replace h := (if_pos c17).symm.trans h
        obtain ⟨x18, e19⟩ : ∃ z, a1 + (1 : Int32) = z := ⟨_, rfl⟩
        replace h := lt_go h e19
        refine g_iinc (i := 1) (v := x18) 2 [(1, vI x18), (5, vR x10), (0, vR (some k)), (2, vR a2), (3, vI a3), (4, vI a4)] ok d_Sk_machinesDown_39 rfl (by rw [← e19]; rfl) (by decide) rfl ?_
        obtain ⟨x20, e21⟩ : ∃ z, a4 + (1 : Int32) = z := ⟨_, rfl⟩
        replace h := lt_go h e21
        refine g_iinc (i := 4) (v := x20) 5 [(4, vI x20), (1, vI x18), (5, vR x10), (0, vR (some k)), (2, vR a2), (3, vI a3)] ok d_Sk_machinesDown_42 rfl (by rw [← e21]; rfl) (by decide) rfl ?_
        refine g_goto (tgt := 13) ok d_Sk_machinesDown_45 (by decide) ?_
        refine g_sub [3, 1, 4, 5, 0] rfl ?_
        exact hrec x18 x20 _ h hk
      · replace h := (if_neg c17).symm.trans h
        obtain ⟨x22, e23⟩ : ∃ z, a4 + (1 : Int32) = z := ⟨_, rfl⟩
        replace h := lt_go h e23
        refine g_iinc (i := 4) (v := x22) 5 [(4, vI x22), (5, vR x10), (0, vR (some k)), (1, vI a1), (2, vR a2), (3, vI a3)] ok d_Sk_machinesDown_42 rfl (by rw [← e23]; rfl) (by decide) rfl ?_
        refine g_goto (tgt := 13) ok d_Sk_machinesDown_45 (by decide) ?_
        refine g_sub [2, 3, 4, 5, 0] rfl ?_
        exact hrec a1 x22 _ h hk
  · replace h := (if_neg c7).symm.trans h
    refine g_sub [0, 1] rfl ?_
    cases h
    exact hexit a1 hk
theorem w_l_Sk_machinesDown_13 {X : CX} {KX : Int32 → Prop} {k : Nat} {a2 : Option Nat} {a3 : Int32} {s : MS} (ok : Ok X cX4_machinesDown RX4 rm_Sk_machinesDown 6 false) (hexit : ∀ (e1 : Int32), KX e1 → G X s 0 0 48 [(0, vR (some k)), (1, vI e1)] []) (ht : rf s.2.2 0 (some k) = some k) : ∀ (n : Nat) (a1 : Int32) (a4 : Int32) {res : Int32}, l_Sk_machinesDown_13 k a2 a3 s n a1 a4 = some res → KX res → G X s 0 0 13 [(0, vR (some k)), (1, vI a1), (2, vR a2), (3, vI a3), (4, vI a4)] [] := by
  intro n
  induction n with
  | zero => intro _ _ res h; cases h
  | succ n ih =>
    intro a1 a4 res h hk
    exact w_b_Sk_machinesDown_13 ok hexit (fun v1 v4 y h2 hk2 => ih v1 v4 h2 hk2) ht h hk
set_option maxRecDepth 100000 in
set_option maxHeartbeats 4000000 in
theorem w_Sk_machinesDown {X : CX} {KX : Int32 → Prop} {k : Nat} {s : MS} (ok : Ok X cX4_machinesDown RX4 rm_Sk_machinesDown 6 false) (hret : ∀ r : Int32, KX r → Fin X (some .int) 0 0 false (some (vI r)) s)   (ht : rf s.2.2 0 (some k) = some k) {res : Int32} (h : f_Sk_machinesDown k s = some res) (hk : KX res) : G X s 0 0 0 [(0, vR (some k))] [] := by
  unfold f_Sk_machinesDown at h
  refine g_iconst (v := (0 : Int32)) ok d_Sk_machinesDown_0 (by decide) ?_
  refine g_istore_n (i := 1) [(1, vI (0 : Int32)), (0, vR (some k))] ok d_Sk_machinesDown_1 rfl (by decide) rfl ?_
  refine g_aload_n (i := 0) 1 ok d_Sk_machinesDown_2 rfl rfl ?_
  refine g_getr (s0 := 0) (j := 2) (ci := 4) (C := RX4) (T := TX4) (N := 14) ok ht lay_0 rfl inX4 (by decide) rfl tw_84 rfl d_Sk_machinesDown_3 ?_
  obtain ⟨x1, e2⟩ : ∃ z, (s.2.1 k 2) = z := ⟨_, rfl⟩
  replace h := lt_go h e2
  rw [e2]
  refine g_astore_n (i := 2) [(2, vR x1), (1, vI (0 : Int32)), (0, vR (some k))] ok d_Sk_machinesDown_6 rfl (by decide) rfl ?_
  refine g_aload_n (i := 2) 0 ok d_Sk_machinesDown_7 rfl rfl ?_
  obtain ⟨n3, hn4, h⟩ := bnd_go h
  refine g_alen ok hn4 (by decide) d_Sk_machinesDown_8 ?_
  obtain ⟨x5, e6⟩ : ∃ z, (Int32.ofNat n3) = z := ⟨_, rfl⟩
  replace h := lt_go h e6
  rw [e6]
  refine g_istore_n (i := 3) [(3, vI x5), (2, vR x1), (1, vI (0 : Int32)), (0, vR (some k))] ok d_Sk_machinesDown_9 rfl (by decide) rfl ?_
  refine g_iconst (v := (0 : Int32)) ok d_Sk_machinesDown_10 (by decide) ?_
  refine g_istore (i := 4) [(4, vI (0 : Int32)), (3, vI x5), (2, vR x1), (1, vI (0 : Int32)), (0, vR (some k))] ok d_Sk_machinesDown_11 (by decide) rfl ?_
  refine g_sub [4, 3, 2, 1, 0] rfl ?_
  obtain ⟨e24, hx, h⟩ := bnd_go h
  refine w_l_Sk_machinesDown_13 (KX := fun y => y = e24) ok (fun y0 he => ?_) ht _ _ _ hx rfl
  cases he
  refine g_iload_n (i := 1) 1 ok d_Sk_machinesDown_48 rfl rfl ?_
  cases h
  exact g_iret ok (hret _ hk) (by decide) (by decide) d_Sk_machinesDown_49
theorem c_Sk_machinesDown (l : Launch) {k : Nat} {s : MS} (ht : rf s.2.2 0 (some k) = some k) {r : Int32} (h : f_Sk_machinesDown k s = some r) : Ct l yX4_machinesDown (.code yX4_machinesDown cX4_machinesDown 6 (some .int)) rm_Sk_machinesDown 0 0 false [vR (some k)] s (some (vI r)) s :=
  Ct.of rfl (by decide +kernel) ⟨rfl, le_t rfl⟩ (fun X ok fn _ hI hl => w_Sk_machinesDown (KX := fun y => y = r) ok (fun y hy => by subst hy; exact fn) ht h rfl)
