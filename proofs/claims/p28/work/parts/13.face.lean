abbrev rm_Sk_tower : Room := { frames := 6, cells := 1, slots := 6, locals := 90 }
theorem cm_Sk_tower : cfM yX4_tower cX4_tower 4 (some .int) 2 := ⟨tw_199, tw_1, by decide, by decide, by decide +kernel⟩
theorem cv_Sk_tower : cfV yX4_tower := ⟨tw_197, tw_198⟩
theorem d_Sk_tower_0 : decode cX4_tower 0 = .ok (.iload_n 1, 1) := by decide +kernel
theorem d_Sk_tower_1 : decode cX4_tower 1 = .ok (.invokestatic 47, 3) := by decide +kernel
theorem d_Sk_tower_4 : decode cX4_tower 4 = .ok (.ifCond .eq 13, 3) := by decide +kernel
theorem d_Sk_tower_7 : decode cX4_tower 7 = .ok (.new 51, 3) := by decide +kernel
theorem d_Sk_tower_10 : decode cX4_tower 10 = .ok (.dup, 1) := by decide +kernel
theorem d_Sk_tower_11 : decode cX4_tower 11 = .ok (.ldc 53, 2) := by decide +kernel
theorem d_Sk_tower_13 : decode cX4_tower 13 = .ok (.invokespecial 55, 3) := by decide +kernel
theorem d_Sk_tower_16 : decode cX4_tower 16 = .ok (.athrow, 1) := by decide +kernel
theorem d_Sk_tower_17 : decode cX4_tower 17 = .ok (.iload_n 2, 1) := by decide +kernel
theorem d_Sk_tower_18 : decode cX4_tower 18 = .ok (.iconst 0, 1) := by decide +kernel
theorem d_Sk_tower_19 : decode cX4_tower 19 = .ok (.iconst 3, 1) := by decide +kernel
theorem d_Sk_tower_20 : decode cX4_tower 20 = .ok (.invokestatic 58, 3) := by decide +kernel
theorem d_Sk_tower_23 : decode cX4_tower 23 = .ok (.ifCond .eq 13, 3) := by decide +kernel
theorem d_Sk_tower_26 : decode cX4_tower 26 = .ok (.new 62, 3) := by decide +kernel
theorem d_Sk_tower_29 : decode cX4_tower 29 = .ok (.dup, 1) := by decide +kernel
theorem d_Sk_tower_30 : decode cX4_tower 30 = .ok (.ldc 64, 2) := by decide +kernel
theorem d_Sk_tower_32 : decode cX4_tower 32 = .ok (.invokespecial 66, 3) := by decide +kernel
theorem d_Sk_tower_35 : decode cX4_tower 35 = .ok (.athrow, 1) := by decide +kernel
theorem d_Sk_tower_36 : decode cX4_tower 36 = .ok (.aload_n 0, 1) := by decide +kernel
theorem d_Sk_tower_37 : decode cX4_tower 37 = .ok (.getfield 10, 3) := by decide +kernel
theorem d_Sk_tower_40 : decode cX4_tower 40 = .ok (.iload_n 1, 1) := by decide +kernel
theorem d_Sk_tower_41 : decode cX4_tower 41 = .ok (.invokevirtual 67, 3) := by decide +kernel
theorem d_Sk_tower_44 : decode cX4_tower 44 = .ok (.ifCond .ne 10, 3) := by decide +kernel
theorem d_Sk_tower_47 : decode cX4_tower 47 = .ok (.aload_n 0, 1) := by decide +kernel
theorem d_Sk_tower_48 : decode cX4_tower 48 = .ok (.getfield 70, 3) := by decide +kernel
theorem d_Sk_tower_51 : decode cX4_tower 51 = .ok (.ifCond .le 13, 3) := by decide +kernel
theorem d_Sk_tower_54 : decode cX4_tower 54 = .ok (.new 73, 3) := by decide +kernel
theorem d_Sk_tower_57 : decode cX4_tower 57 = .ok (.dup, 1) := by decide +kernel
theorem d_Sk_tower_58 : decode cX4_tower 58 = .ok (.ldc 75, 2) := by decide +kernel
theorem d_Sk_tower_60 : decode cX4_tower 60 = .ok (.invokespecial 77, 3) := by decide +kernel
theorem d_Sk_tower_63 : decode cX4_tower 63 = .ok (.athrow, 1) := by decide +kernel
theorem d_Sk_tower_64 : decode cX4_tower 64 = .ok (.aload_n 0, 1) := by decide +kernel
theorem d_Sk_tower_65 : decode cX4_tower 65 = .ok (.getfield 10, 3) := by decide +kernel
theorem d_Sk_tower_68 : decode cX4_tower 68 = .ok (.iload_n 1, 1) := by decide +kernel
theorem d_Sk_tower_69 : decode cX4_tower 69 = .ok (.invokevirtual 78, 3) := by decide +kernel
theorem d_Sk_tower_72 : decode cX4_tower 72 = .ok (.istore_n 3, 1) := by decide +kernel
theorem d_Sk_tower_73 : decode cX4_tower 73 = .ok (.aload_n 0, 1) := by decide +kernel
theorem d_Sk_tower_74 : decode cX4_tower 74 = .ok (.getfield 10, 3) := by decide +kernel
theorem d_Sk_tower_77 : decode cX4_tower 77 = .ok (.iload_n 1, 1) := by decide +kernel
theorem d_Sk_tower_78 : decode cX4_tower 78 = .ok (.iload_n 2, 1) := by decide +kernel
theorem d_Sk_tower_79 : decode cX4_tower 79 = .ok (.invokevirtual 82, 3) := by decide +kernel
theorem d_Sk_tower_82 : decode cX4_tower 82 = .ok (.iload_n 3, 1) := by decide +kernel
theorem d_Sk_tower_83 : decode cX4_tower 83 = .ok (.ireturn, 1) := by decide +kernel
set_option maxRecDepth 100000 in
set_option maxHeartbeats 4000000 in
theorem w_Sk_tower {X : CX} {KX : Nat × Int32 × MS → Prop} {k : Nat} {a1 : Int32} {a2 : Int32} {s : MS} (ok : Ok X cX4_tower RX4 rm_Sk_tower 4 false) (hret : ∀ r : Nat × Int32 × MS, KX r → Fix X (some .int) 1 6 false (tcode r.1) (some (vI r.2.1)) r.2.2)   (ht : rf s.2.2 0 (some k) = some k) {res : Nat × Int32 × MS} (h : f_Sk_tower k a1 a2 s = some res) (hk : KX res) : G X s 0 0 0 [(0, vR (some k)), (1, vI a1), (2, vI a2)] [] := by
  unfold f_Sk_tower at h
  refine g_iload_n (i := 1) 1 ok d_Sk_tower_0 rfl rfl ?_
  refine g_invS (rm2 := rm_Sk_isNoCell) (As := [vI a1]) (rest := []) ok (c_Sk_isNoCell X.1.2.1) cm_Sk_isNoCell cs_Sk_isNoCell tw_200 ⟨rfl, rfl⟩ ⟨le_t rfl, le_t rfl⟩ ⟨rfl, le_t rfl⟩ ⟨le_t rfl, le_t rfl⟩ d_Sk_tower_1 rfl (fun m1 => ?_)
  show G X s 0 0 4 [(0, vR (some k)), (1, vI a1), (2, vI a2)] [vI (f_Sk_isNoCell a1)]
  refine g_if_eq (tgt := 17) ok d_Sk_tower_4 (by decide) (fun c2 => ?_) (fun c2 => ?_)
  · replace h := (if_pos c2).symm.trans h
    refine g_iload_n (i := 2) 2 ok d_Sk_tower_17 rfl rfl ?_
    refine g_iconst (v := (0 : Int32)) ok d_Sk_tower_18 (by decide) ?_
    refine g_iconst (v := (3 : Int32)) ok d_Sk_tower_19 (by decide) ?_
    refine g_invS (rm2 := rm_Sk_isOut) (As := [vI a2, vI (0 : Int32), vI (3 : Int32)]) (rest := []) ok (c_Sk_isOut X.1.2.1) cm_Sk_isOut cs_Sk_isOut tw_149 ⟨rfl, rfl⟩ ⟨le_t rfl, le_t rfl⟩ ⟨rfl, le_t rfl⟩ ⟨le_t rfl, le_t rfl⟩ d_Sk_tower_20 rfl (fun m3 => ?_)
    show G X s 0 0 23 [(0, vR (some k)), (1, vI a1), (2, vI a2)] [vI (f_Sk_isOut a2 (0 : Int32) (3 : Int32))]
    refine g_if_eq (tgt := 36) ok d_Sk_tower_23 (by decide) (fun c4 => ?_) (fun c4 => ?_)
    · replace h := (if_pos c4).symm.trans h
      refine g_aload_n (i := 0) 0 ok d_Sk_tower_36 rfl rfl ?_
      refine g_getr (s0 := 0) (j := 0) (ci := 4) (C := RX4) (T := TX4) (N := 14) ok ht lay_0 rfl inX4 (by decide) rfl tw_82 rfl d_Sk_tower_37 ?_
      refine g_iload_n (i := 1) 1 ok d_Sk_tower_40 rfl rfl ?_
      obtain ⟨k5, hk6, h⟩ := bnd_go h
      obtain ⟨x8, hc9, h⟩ := bnd_go h
      refine g_invVN (rm2 := rm_Ci_isSpot) (As := [vI a1]) (rest := []) ok hk6 lay_1 rfl (c_Ci_isSpot X.1.2.1 (rf_self hk6) hc9) cm_Ci_isSpot cv_Ci_isSpot tw_287 ⟨rfl, rfl⟩ ⟨le_t rfl, le_t rfl⟩ ⟨rfl, le_t rfl⟩ ⟨le_t rfl, le_t rfl⟩ d_Sk_tower_41 rfl (fun m7 => ?_)
      show G X s 0 0 44 [(0, vR (some k)), (1, vI a1), (2, vI a2)] [vI x8]
      refine g_if_ne (tgt := 54) ok d_Sk_tower_44 (by decide) (fun c10 => ?_) (fun c10 => ?_)
      · replace h := (if_pos c10).symm.trans h
        refine g_aload_n (i := 0) 0 ok d_Sk_tower_47 rfl rfl ?_
        refine g_geti (s0 := 0) (j := 8) (ci := 4) (C := RX4) (T := TX4) (N := 14) ok ht lay_0 rfl inX4 (by decide) rfl tw_90 rfl d_Sk_tower_48 ?_
        refine g_if_le (tgt := 64) ok d_Sk_tower_51 (by decide) (fun c11 => ?_) (fun c11 => ?_)
        · replace h := (if_pos c11).symm.trans h
          cases h
          exact g_throw (ik := 73) (is := 75) (ic := 77) (cls := "java/lang/IllegalStateException") (text := "a spot, or a path was accepted") (names := xnames) ok (hret _ hk) xf_IllegalStateException xf_names tw_291 tw_9 (List.mem_of_getElem? (i := 2) rfl) xa_IllegalStateException xg_IllegalStateException d_Sk_tower_54 d_Sk_tower_57 d_Sk_tower_58 d_Sk_tower_60 d_Sk_tower_63 ⟨le_t rfl, le_t rfl⟩ rfl ⟨le_t rfl, le_t rfl⟩ (le_t rfl) (le_t rfl)
        · replace h := (if_neg c11).symm.trans h
          refine g_aload_n (i := 0) 0 ok d_Sk_tower_64 rfl rfl ?_
          refine g_getr (s0 := 0) (j := 0) (ci := 4) (C := RX4) (T := TX4) (N := 14) ok ht lay_0 rfl inX4 (by decide) rfl tw_82 rfl d_Sk_tower_65 ?_
          refine g_iload_n (i := 1) 1 ok d_Sk_tower_68 rfl rfl ?_
          obtain ⟨x13, hc14, h⟩ := bnd_go h
          refine g_invVN (rm2 := rm_Ci_heightOf) (As := [vI a1]) (rest := []) ok hk6 lay_1 rfl (c_Ci_heightOf X.1.2.1 (rf_self hk6) hc14) cm_Ci_heightOf cv_Ci_heightOf tw_307 ⟨rfl, rfl⟩ ⟨le_t rfl, le_t rfl⟩ ⟨rfl, le_t rfl⟩ ⟨le_t rfl, le_t rfl⟩ d_Sk_tower_69 rfl (fun m12 => ?_)
          show G X s 0 0 72 [(0, vR (some k)), (1, vI a1), (2, vI a2)] [vI x13]
          refine g_istore_n (i := 3) [(3, vI x13), (0, vR (some k)), (1, vI a1), (2, vI a2)] ok d_Sk_tower_72 rfl (by decide) rfl ?_
          refine g_aload_n (i := 0) 1 ok d_Sk_tower_73 rfl rfl ?_
          refine g_getr (s0 := 0) (j := 0) (ci := 4) (C := RX4) (T := TX4) (N := 14) ok ht lay_0 rfl inX4 (by decide) rfl tw_82 rfl d_Sk_tower_74 ?_
          refine g_iload_n (i := 1) 2 ok d_Sk_tower_77 rfl rfl ?_
          refine g_iload_n (i := 2) 3 ok d_Sk_tower_78 rfl rfl ?_
          obtain ⟨s17, hc16, h⟩ := bnd_go h
          refine g_invVN (rm2 := rm_Ci_setHeight) (As := [vI a1, vI a2]) (rest := []) ok hk6 lay_1 rfl (c_Ci_setHeight X.1.2.1 (rf_self hk6) hc16) cm_Ci_setHeight cv_Ci_setHeight tw_311 ⟨rfl, rfl⟩ ⟨le_t rfl, le_t rfl⟩ ⟨rfl, le_t rfl⟩ ⟨le_t rfl, le_t rfl⟩ d_Sk_tower_79 rfl (fun m15 => ?_)
          show G X s17 0 0 82 [(3, vI x13), (0, vR (some k)), (1, vI a1), (2, vI a2)] []
          refine g_iload_n (i := 3) 0 ok d_Sk_tower_82 rfl rfl ?_
          cases h
          exact g_iretX ok (hret _ hk) (by decide) (by decide) d_Sk_tower_83
      · replace h := (if_neg c10).symm.trans h
        cases h
        exact g_throw (ik := 73) (is := 75) (ic := 77) (cls := "java/lang/IllegalStateException") (text := "a spot, or a path was accepted") (names := xnames) ok (hret _ hk) xf_IllegalStateException xf_names tw_291 tw_9 (List.mem_of_getElem? (i := 2) rfl) xa_IllegalStateException xg_IllegalStateException d_Sk_tower_54 d_Sk_tower_57 d_Sk_tower_58 d_Sk_tower_60 d_Sk_tower_63 ⟨le_t rfl, le_t rfl⟩ rfl ⟨le_t rfl, le_t rfl⟩ (le_t rfl) (le_t rfl)
    · replace h := (if_neg c4).symm.trans h
      cases h
      exact g_throw (ik := 62) (is := 64) (ic := 66) (cls := "java/lang/IllegalArgumentException") (text := "height out of range") (names := xnames) ok (hret _ hk) xf_IllegalArgumentException xf_names tw_271 tw_8 (List.mem_of_getElem? (i := 1) rfl) xa_IllegalArgumentException xg_IllegalArgumentException d_Sk_tower_26 d_Sk_tower_29 d_Sk_tower_30 d_Sk_tower_32 d_Sk_tower_35 ⟨le_t rfl, le_t rfl⟩ rfl ⟨le_t rfl, le_t rfl⟩ (le_t rfl) (le_t rfl)
  · replace h := (if_neg c2).symm.trans h
    cases h
    exact g_throw (ik := 51) (is := 53) (ic := 55) (cls := "java/lang/IndexOutOfBoundsException") (text := "no such cell") (names := xnames) ok (hret _ hk) xf_IndexOutOfBoundsException xf_names tw_203 tw_7 (List.mem_of_getElem? (i := 0) rfl) xa_IndexOutOfBoundsException xg_IndexOutOfBoundsException d_Sk_tower_7 d_Sk_tower_10 d_Sk_tower_11 d_Sk_tower_13 d_Sk_tower_16 ⟨le_t rfl, le_t rfl⟩ rfl ⟨le_t rfl, le_t rfl⟩ (le_t rfl) (le_t rfl)
theorem c_Sk_tower {l : Launch} (hl : l.stackTraces = false) {k : Nat} {a1 : Int32} {a2 : Int32} {s : MS} (ht : rf s.2.2 0 (some k) = some k) {t : Nat} {r : Int32} {z : MS} (h : f_Sk_tower k a1 a2 s = some (t, r, z)) : Cx l yX4_tower (.code yX4_tower cX4_tower 4 (some .int)) rm_Sk_tower 1 6 false [vR (some k), vI a1, vI a2] s (tcode t) (some (vI r)) z :=
  Cx.of hl rfl (by decide +kernel) ⟨rfl, le_t rfl⟩ (fun X ok fn _ _ => w_Sk_tower (KX := fun y => y = (t, r, z)) ok (fun y hy => by subst hy; exact fn) ht h rfl)
abbrev rm_Sk_spot : Room := { frames := 6, cells := 1, slots := 6, locals := 90 }
theorem cm_Sk_spot : cfM yX4_spot cX4_spot 2 (some .int) 1 := ⟨tw_324, tw_1, by decide, by decide, by decide +kernel⟩
theorem cv_Sk_spot : cfV yX4_spot := ⟨tw_322, tw_323⟩
theorem d_Sk_spot_0 : decode cX4_spot 0 = .ok (.iload_n 1, 1) := by decide +kernel
theorem d_Sk_spot_1 : decode cX4_spot 1 = .ok (.invokestatic 47, 3) := by decide +kernel
theorem d_Sk_spot_4 : decode cX4_spot 4 = .ok (.ifCond .eq 13, 3) := by decide +kernel
theorem d_Sk_spot_7 : decode cX4_spot 7 = .ok (.new 51, 3) := by decide +kernel
theorem d_Sk_spot_10 : decode cX4_spot 10 = .ok (.dup, 1) := by decide +kernel
theorem d_Sk_spot_11 : decode cX4_spot 11 = .ok (.ldc 53, 2) := by decide +kernel
theorem d_Sk_spot_13 : decode cX4_spot 13 = .ok (.invokespecial 55, 3) := by decide +kernel
theorem d_Sk_spot_16 : decode cX4_spot 16 = .ok (.athrow, 1) := by decide +kernel
theorem d_Sk_spot_17 : decode cX4_spot 17 = .ok (.aload_n 0, 1) := by decide +kernel
theorem d_Sk_spot_18 : decode cX4_spot 18 = .ok (.getfield 10, 3) := by decide +kernel
theorem d_Sk_spot_21 : decode cX4_spot 21 = .ok (.iload_n 1, 1) := by decide +kernel
theorem d_Sk_spot_22 : decode cX4_spot 22 = .ok (.invokevirtual 67, 3) := by decide +kernel
theorem d_Sk_spot_25 : decode cX4_spot 25 = .ok (.ifCond .ne 26, 3) := by decide +kernel
theorem d_Sk_spot_28 : decode cX4_spot 28 = .ok (.aload_n 0, 1) := by decide +kernel
theorem d_Sk_spot_29 : decode cX4_spot 29 = .ok (.getfield 10, 3) := by decide +kernel
theorem d_Sk_spot_32 : decode cX4_spot 32 = .ok (.iload_n 1, 1) := by decide +kernel
theorem d_Sk_spot_33 : decode cX4_spot 33 = .ok (.invokevirtual 78, 3) := by decide +kernel
theorem d_Sk_spot_36 : decode cX4_spot 36 = .ok (.ifCond .gt 15, 3) := by decide +kernel
theorem d_Sk_spot_39 : decode cX4_spot 39 = .ok (.aload_n 0, 1) := by decide +kernel
theorem d_Sk_spot_40 : decode cX4_spot 40 = .ok (.getfield 10, 3) := by decide +kernel
theorem d_Sk_spot_43 : decode cX4_spot 43 = .ok (.getfield 86, 3) := by decide +kernel
theorem d_Sk_spot_46 : decode cX4_spot 46 = .ok (.bipush 8, 2) := by decide +kernel
theorem d_Sk_spot_48 : decode cX4_spot 48 = .ok (.if_icmp .lt 13, 3) := by decide +kernel
theorem d_Sk_spot_51 : decode cX4_spot 51 = .ok (.new 73, 3) := by decide +kernel
theorem d_Sk_spot_54 : decode cX4_spot 54 = .ok (.dup, 1) := by decide +kernel
theorem d_Sk_spot_55 : decode cX4_spot 55 = .ok (.ldc 89, 2) := by decide +kernel
theorem d_Sk_spot_57 : decode cX4_spot 57 = .ok (.invokespecial 77, 3) := by decide +kernel
theorem d_Sk_spot_60 : decode cX4_spot 60 = .ok (.athrow, 1) := by decide +kernel
theorem d_Sk_spot_61 : decode cX4_spot 61 = .ok (.aload_n 0, 1) := by decide +kernel
theorem d_Sk_spot_62 : decode cX4_spot 62 = .ok (.getfield 10, 3) := by decide +kernel
theorem d_Sk_spot_65 : decode cX4_spot 65 = .ok (.iload_n 1, 1) := by decide +kernel
theorem d_Sk_spot_66 : decode cX4_spot 66 = .ok (.invokevirtual 91, 3) := by decide +kernel
theorem d_Sk_spot_69 : decode cX4_spot 69 = .ok (.aload_n 0, 1) := by decide +kernel
theorem d_Sk_spot_70 : decode cX4_spot 70 = .ok (.getfield 10, 3) := by decide +kernel
theorem d_Sk_spot_73 : decode cX4_spot 73 = .ok (.getfield 86, 3) := by decide +kernel
theorem d_Sk_spot_76 : decode cX4_spot 76 = .ok (.ireturn, 1) := by decide +kernel
set_option maxRecDepth 100000 in
set_option maxHeartbeats 4000000 in
theorem w_Sk_spot {X : CX} {KX : Nat × Int32 × MS → Prop} {k : Nat} {a1 : Int32} {s : MS} (ok : Ok X cX4_spot RX4 rm_Sk_spot 2 false) (hret : ∀ r : Nat × Int32 × MS, KX r → Fix X (some .int) 1 6 false (tcode r.1) (some (vI r.2.1)) r.2.2)   (ht : rf s.2.2 0 (some k) = some k) {res : Nat × Int32 × MS} (h : f_Sk_spot k a1 s = some res) (hk : KX res) : G X s 0 0 0 [(0, vR (some k)), (1, vI a1)] [] := by
  unfold f_Sk_spot at h
  refine g_iload_n (i := 1) 1 ok d_Sk_spot_0 rfl rfl ?_
  refine g_invS (rm2 := rm_Sk_isNoCell) (As := [vI a1]) (rest := []) ok (c_Sk_isNoCell X.1.2.1) cm_Sk_isNoCell cs_Sk_isNoCell tw_200 ⟨rfl, rfl⟩ ⟨le_t rfl, le_t rfl⟩ ⟨rfl, le_t rfl⟩ ⟨le_t rfl, le_t rfl⟩ d_Sk_spot_1 rfl (fun m1 => ?_)
  show G X s 0 0 4 [(0, vR (some k)), (1, vI a1)] [vI (f_Sk_isNoCell a1)]
  refine g_if_eq (tgt := 17) ok d_Sk_spot_4 (by decide) (fun c2 => ?_) (fun c2 => ?_)
  · replace h := (if_pos c2).symm.trans h
    refine g_aload_n (i := 0) 0 ok d_Sk_spot_17 rfl rfl ?_
    refine g_getr (s0 := 0) (j := 0) (ci := 4) (C := RX4) (T := TX4) (N := 14) ok ht lay_0 rfl inX4 (by decide) rfl tw_82 rfl d_Sk_spot_18 ?_
    refine g_iload_n (i := 1) 1 ok d_Sk_spot_21 rfl rfl ?_
    obtain ⟨k3, hk4, h⟩ := bnd_go h
    obtain ⟨x6, hc7, h⟩ := bnd_go h
    refine g_invVN (rm2 := rm_Ci_isSpot) (As := [vI a1]) (rest := []) ok hk4 lay_1 rfl (c_Ci_isSpot X.1.2.1 (rf_self hk4) hc7) cm_Ci_isSpot cv_Ci_isSpot tw_287 ⟨rfl, rfl⟩ ⟨le_t rfl, le_t rfl⟩ ⟨rfl, le_t rfl⟩ ⟨le_t rfl, le_t rfl⟩ d_Sk_spot_22 rfl (fun m5 => ?_)
    show G X s 0 0 25 [(0, vR (some k)), (1, vI a1)] [vI x6]
    refine g_if_ne (tgt := 51) ok d_Sk_spot_25 (by decide) (fun c8 => ?_) (fun c8 => ?_)
    · replace h := (if_pos c8).symm.trans h
      refine g_aload_n (i := 0) 0 ok d_Sk_spot_28 rfl rfl ?_
      refine g_getr (s0 := 0) (j := 0) (ci := 4) (C := RX4) (T := TX4) (N := 14) ok ht lay_0 rfl inX4 (by decide) rfl tw_82 rfl d_Sk_spot_29 ?_
      refine g_iload_n (i := 1) 1 ok d_Sk_spot_32 rfl rfl ?_
      obtain ⟨x10, hc11, h⟩ := bnd_go h
      refine g_invVN (rm2 := rm_Ci_heightOf) (As := [vI a1]) (rest := []) ok hk4 lay_1 rfl (c_Ci_heightOf X.1.2.1 (rf_self hk4) hc11) cm_Ci_heightOf cv_Ci_heightOf tw_307 ⟨rfl, rfl⟩ ⟨le_t rfl, le_t rfl⟩ ⟨rfl, le_t rfl⟩ ⟨le_t rfl, le_t rfl⟩ d_Sk_spot_33 rfl (fun m9 => ?_)
      show G X s 0 0 36 [(0, vR (some k)), (1, vI a1)] [vI x10]
      refine g_if_gt (tgt := 51) ok d_Sk_spot_36 (by decide) (fun c12 => ?_) (fun c12 => ?_)
      · replace h := (if_pos c12).symm.trans h
        cases h
        exact g_throw (ik := 73) (is := 89) (ic := 77) (cls := "java/lang/IllegalStateException") (text := "a spot, a tower, or too many spots") (names := xnames) ok (hret _ hk) xf_IllegalStateException xf_names tw_291 tw_9 (List.mem_of_getElem? (i := 3) rfl) xa_IllegalStateException xg_IllegalStateException d_Sk_spot_51 d_Sk_spot_54 d_Sk_spot_55 d_Sk_spot_57 d_Sk_spot_60 ⟨le_t rfl, le_t rfl⟩ rfl ⟨le_t rfl, le_t rfl⟩ (le_t rfl) (le_t rfl)
      · replace h := (if_neg c12).symm.trans h
        refine g_aload_n (i := 0) 0 ok d_Sk_spot_39 rfl rfl ?_
        refine g_getr (s0 := 0) (j := 0) (ci := 4) (C := RX4) (T := TX4) (N := 14) ok ht lay_0 rfl inX4 (by decide) rfl tw_82 rfl d_Sk_spot_40 ?_
        refine g_getiN (s0 := 1) (j := 4) (ci := 0) (C := RX0) (T := TX0) (N := 5) ok hk4 lay_1 rfl inX0 (by decide) rfl tw_33 rfl d_Sk_spot_43 ?_
        refine g_bipush (v := (8 : Int32)) ok d_Sk_spot_46 (by decide) ?_
        refine g_icmp_lt (tgt := 61) ok d_Sk_spot_48 (by decide) (fun c13 => ?_) (fun c13 => ?_)
        · replace h := (if_pos c13).symm.trans h
          refine g_aload_n (i := 0) 0 ok d_Sk_spot_61 rfl rfl ?_
          refine g_getr (s0 := 0) (j := 0) (ci := 4) (C := RX4) (T := TX4) (N := 14) ok ht lay_0 rfl inX4 (by decide) rfl tw_82 rfl d_Sk_spot_62 ?_
          refine g_iload_n (i := 1) 1 ok d_Sk_spot_65 rfl rfl ?_
          obtain ⟨s16, hc15, h⟩ := bnd_go h
          refine g_invVN (rm2 := rm_Ci_addSpot) (As := [vI a1]) (rest := []) ok hk4 lay_1 rfl (c_Ci_addSpot X.1.2.1 (rf_self hk4) hc15) cm_Ci_addSpot cv_Ci_addSpot tw_326 ⟨rfl, rfl⟩ ⟨le_t rfl, le_t rfl⟩ ⟨rfl, le_t rfl⟩ ⟨le_t rfl, le_t rfl⟩ d_Sk_spot_66 rfl (fun m14 => ?_)
          show G X s16 0 0 69 [(0, vR (some k)), (1, vI a1)] []
          refine g_aload_n (i := 0) 0 ok d_Sk_spot_69 rfl rfl ?_
          refine g_getr (s0 := 0) (j := 0) (ci := 4) (C := RX4) (T := TX4) (N := 14) ok (rf_mono m14 ht) lay_0 rfl inX4 (by decide) rfl tw_82 rfl d_Sk_spot_70 ?_
          obtain ⟨k17, hk18, h⟩ := bnd_go h
          refine g_getiN (s0 := 1) (j := 4) (ci := 0) (C := RX0) (T := TX0) (N := 5) ok hk18 lay_1 rfl inX0 (by decide) rfl tw_33 rfl d_Sk_spot_73 ?_
          cases h
          exact g_iretX ok (hret _ hk) (by decide) (by decide) d_Sk_spot_76
        · replace h := (if_neg c13).symm.trans h
          cases h
          exact g_throw (ik := 73) (is := 89) (ic := 77) (cls := "java/lang/IllegalStateException") (text := "a spot, a tower, or too many spots") (names := xnames) ok (hret _ hk) xf_IllegalStateException xf_names tw_291 tw_9 (List.mem_of_getElem? (i := 3) rfl) xa_IllegalStateException xg_IllegalStateException d_Sk_spot_51 d_Sk_spot_54 d_Sk_spot_55 d_Sk_spot_57 d_Sk_spot_60 ⟨le_t rfl, le_t rfl⟩ rfl ⟨le_t rfl, le_t rfl⟩ (le_t rfl) (le_t rfl)
    · replace h := (if_neg c8).symm.trans h
      cases h
      exact g_throw (ik := 73) (is := 89) (ic := 77) (cls := "java/lang/IllegalStateException") (text := "a spot, a tower, or too many spots") (names := xnames) ok (hret _ hk) xf_IllegalStateException xf_names tw_291 tw_9 (List.mem_of_getElem? (i := 3) rfl) xa_IllegalStateException xg_IllegalStateException d_Sk_spot_51 d_Sk_spot_54 d_Sk_spot_55 d_Sk_spot_57 d_Sk_spot_60 ⟨le_t rfl, le_t rfl⟩ rfl ⟨le_t rfl, le_t rfl⟩ (le_t rfl) (le_t rfl)
  · replace h := (if_neg c2).symm.trans h
    cases h
    exact g_throw (ik := 51) (is := 53) (ic := 55) (cls := "java/lang/IndexOutOfBoundsException") (text := "no such cell") (names := xnames) ok (hret _ hk) xf_IndexOutOfBoundsException xf_names tw_203 tw_7 (List.mem_of_getElem? (i := 0) rfl) xa_IndexOutOfBoundsException xg_IndexOutOfBoundsException d_Sk_spot_7 d_Sk_spot_10 d_Sk_spot_11 d_Sk_spot_13 d_Sk_spot_16 ⟨le_t rfl, le_t rfl⟩ rfl ⟨le_t rfl, le_t rfl⟩ (le_t rfl) (le_t rfl)
theorem c_Sk_spot {l : Launch} (hl : l.stackTraces = false) {k : Nat} {a1 : Int32} {s : MS} (ht : rf s.2.2 0 (some k) = some k) {t : Nat} {r : Int32} {z : MS} (h : f_Sk_spot k a1 s = some (t, r, z)) : Cx l yX4_spot (.code yX4_spot cX4_spot 2 (some .int)) rm_Sk_spot 1 6 false [vR (some k), vI a1] s (tcode t) (some (vI r)) z :=
  Cx.of hl rfl (by decide +kernel) ⟨rfl, le_t rfl⟩ (fun X ok fn _ _ => w_Sk_spot (KX := fun y => y = (t, r, z)) ok (fun y hy => by subst hy; exact fn) ht h rfl)
abbrev rm_Sk_wind : Room := { frames := 6, cells := 1, slots := 6, locals := 90 }
theorem cm_Sk_wind : cfM yX4_wind cX4_wind 3 (some .int) 2 := ⟨tw_336, tw_1, by decide, by decide, by decide +kernel⟩
theorem cv_Sk_wind : cfV yX4_wind := ⟨tw_334, tw_335⟩
theorem d_Sk_wind_0 : decode cX4_wind 0 = .ok (.iload_n 1, 1) := by decide +kernel
theorem d_Sk_wind_1 : decode cX4_wind 1 = .ok (.iconst 1, 1) := by decide +kernel
theorem d_Sk_wind_2 : decode cX4_wind 2 = .ok (.iconst 3, 1) := by decide +kernel
theorem d_Sk_wind_3 : decode cX4_wind 3 = .ok (.invokestatic 58, 3) := by decide +kernel
theorem d_Sk_wind_6 : decode cX4_wind 6 = .ok (.ifCond .ne 12, 3) := by decide +kernel
theorem d_Sk_wind_9 : decode cX4_wind 9 = .ok (.iload_n 2, 1) := by decide +kernel
theorem d_Sk_wind_10 : decode cX4_wind 10 = .ok (.iconst 0, 1) := by decide +kernel
theorem d_Sk_wind_11 : decode cX4_wind 11 = .ok (.iconst 3, 1) := by decide +kernel
theorem d_Sk_wind_12 : decode cX4_wind 12 = .ok (.invokestatic 58, 3) := by decide +kernel
theorem d_Sk_wind_15 : decode cX4_wind 15 = .ok (.ifCond .eq 13, 3) := by decide +kernel
theorem d_Sk_wind_18 : decode cX4_wind 18 = .ok (.new 62, 3) := by decide +kernel
theorem d_Sk_wind_21 : decode cX4_wind 21 = .ok (.dup, 1) := by decide +kernel
theorem d_Sk_wind_22 : decode cX4_wind 22 = .ok (.ldc 95, 2) := by decide +kernel
theorem d_Sk_wind_24 : decode cX4_wind 24 = .ok (.invokespecial 66, 3) := by decide +kernel
theorem d_Sk_wind_27 : decode cX4_wind 27 = .ok (.athrow, 1) := by decide +kernel
theorem d_Sk_wind_28 : decode cX4_wind 28 = .ok (.aload_n 0, 1) := by decide +kernel
theorem d_Sk_wind_29 : decode cX4_wind 29 = .ok (.getfield 10, 3) := by decide +kernel
theorem d_Sk_wind_32 : decode cX4_wind 32 = .ok (.getfield 97, 3) := by decide +kernel
theorem d_Sk_wind_35 : decode cX4_wind 35 = .ok (.iload_n 1, 1) := by decide +kernel
theorem d_Sk_wind_36 : decode cX4_wind 36 = .ok (.iload_n 2, 1) := by decide +kernel
theorem d_Sk_wind_37 : decode cX4_wind 37 = .ok (.invokestatic 100, 3) := by decide +kernel
theorem d_Sk_wind_40 : decode cX4_wind 40 = .ok (.ireturn, 1) := by decide +kernel
set_option maxRecDepth 100000 in
set_option maxHeartbeats 4000000 in
theorem w_Sk_wind {X : CX} {KX : Nat × Int32 × MS → Prop} {k : Nat} {a1 : Int32} {a2 : Int32} {s : MS} (ok : Ok X cX4_wind RX4 rm_Sk_wind 3 false) (hret : ∀ r : Nat × Int32 × MS, KX r → Fix X (some .int) 1 6 false (tcode r.1) (some (vI r.2.1)) r.2.2)   (ht : rf s.2.2 0 (some k) = some k) {res : Nat × Int32 × MS} (h : f_Sk_wind k a1 a2 s = some res) (hk : KX res) : G X s 0 0 0 [(0, vR (some k)), (1, vI a1), (2, vI a2)] [] := by
  unfold f_Sk_wind at h
  refine g_iload_n (i := 1) 1 ok d_Sk_wind_0 rfl rfl ?_
  refine g_iconst (v := (1 : Int32)) ok d_Sk_wind_1 (by decide) ?_
  refine g_iconst (v := (3 : Int32)) ok d_Sk_wind_2 (by decide) ?_
  refine g_invS (rm2 := rm_Sk_isOut) (As := [vI a1, vI (1 : Int32), vI (3 : Int32)]) (rest := []) ok (c_Sk_isOut X.1.2.1) cm_Sk_isOut cs_Sk_isOut tw_149 ⟨rfl, rfl⟩ ⟨le_t rfl, le_t rfl⟩ ⟨rfl, le_t rfl⟩ ⟨le_t rfl, le_t rfl⟩ d_Sk_wind_3 rfl (fun m1 => ?_)
  show G X s 0 0 6 [(0, vR (some k)), (1, vI a1), (2, vI a2)] [vI (f_Sk_isOut a1 (1 : Int32) (3 : Int32))]
  refine g_if_ne (tgt := 18) ok d_Sk_wind_6 (by decide) (fun c2 => ?_) (fun c2 => ?_)
  · replace h := (if_pos c2).symm.trans h
    refine g_iload_n (i := 2) 2 ok d_Sk_wind_9 rfl rfl ?_
    refine g_iconst (v := (0 : Int32)) ok d_Sk_wind_10 (by decide) ?_
    refine g_iconst (v := (3 : Int32)) ok d_Sk_wind_11 (by decide) ?_
    refine g_invS (rm2 := rm_Sk_isOut) (As := [vI a2, vI (0 : Int32), vI (3 : Int32)]) (rest := []) ok (c_Sk_isOut X.1.2.1) cm_Sk_isOut cs_Sk_isOut tw_149 ⟨rfl, rfl⟩ ⟨le_t rfl, le_t rfl⟩ ⟨rfl, le_t rfl⟩ ⟨le_t rfl, le_t rfl⟩ d_Sk_wind_12 rfl (fun m3 => ?_)
    show G X s 0 0 15 [(0, vR (some k)), (1, vI a1), (2, vI a2)] [vI (f_Sk_isOut a2 (0 : Int32) (3 : Int32))]
    refine g_if_eq (tgt := 28) ok d_Sk_wind_15 (by decide) (fun c4 => ?_) (fun c4 => ?_)
    · replace h := (if_pos c4).symm.trans h
      refine g_aload_n (i := 0) 0 ok d_Sk_wind_28 rfl rfl ?_
      refine g_getr (s0 := 0) (j := 0) (ci := 4) (C := RX4) (T := TX4) (N := 14) ok ht lay_0 rfl inX4 (by decide) rfl tw_82 rfl d_Sk_wind_29 ?_
      obtain ⟨k5, hk6, h⟩ := bnd_go h
      refine g_getrN (s0 := 1) (j := 2) (ci := 0) (C := RX0) (T := TX0) (N := 5) ok hk6 lay_1 rfl inX0 (by decide) rfl tw_30 rfl d_Sk_wind_32 ?_
      refine g_iload_n (i := 1) 1 ok d_Sk_wind_35 rfl rfl ?_
      refine g_iload_n (i := 2) 2 ok d_Sk_wind_36 rfl rfl ?_
      obtain ⟨x10, s9, hc8, h⟩ := bnd2_go h
      refine g_invSN (rm2 := rm_Ci_tell) (As := [vR (s.2.1 k5 2), vI a1, vI a2]) (rest := []) ok (c_Ci_tell X.1.2.1 hc8) cm_Ci_tell cs_Ci_tell tw_338 ⟨rfl, rfl⟩ ⟨le_t rfl, le_t rfl⟩ ⟨rfl, le_t rfl⟩ ⟨le_t rfl, le_t rfl⟩ d_Sk_wind_37 rfl (fun m7 => ?_)
      show G X s9 0 0 40 [(0, vR (some k)), (1, vI a1), (2, vI a2)] [vI x10]
      cases h
      exact g_iretX ok (hret _ hk) (by decide) (by decide) d_Sk_wind_40
    · replace h := (if_neg c4).symm.trans h
      cases h
      exact g_throw (ik := 62) (is := 95) (ic := 66) (cls := "java/lang/IllegalArgumentException") (text := "layer or wind out of range") (names := xnames) ok (hret _ hk) xf_IllegalArgumentException xf_names tw_271 tw_8 (List.mem_of_getElem? (i := 4) rfl) xa_IllegalArgumentException xg_IllegalArgumentException d_Sk_wind_18 d_Sk_wind_21 d_Sk_wind_22 d_Sk_wind_24 d_Sk_wind_27 ⟨le_t rfl, le_t rfl⟩ rfl ⟨le_t rfl, le_t rfl⟩ (le_t rfl) (le_t rfl)
  · replace h := (if_neg c2).symm.trans h
    cases h
    exact g_throw (ik := 62) (is := 95) (ic := 66) (cls := "java/lang/IllegalArgumentException") (text := "layer or wind out of range") (names := xnames) ok (hret _ hk) xf_IllegalArgumentException xf_names tw_271 tw_8 (List.mem_of_getElem? (i := 4) rfl) xa_IllegalArgumentException xg_IllegalArgumentException d_Sk_wind_18 d_Sk_wind_21 d_Sk_wind_22 d_Sk_wind_24 d_Sk_wind_27 ⟨le_t rfl, le_t rfl⟩ rfl ⟨le_t rfl, le_t rfl⟩ (le_t rfl) (le_t rfl)
theorem c_Sk_wind {l : Launch} (hl : l.stackTraces = false) {k : Nat} {a1 : Int32} {a2 : Int32} {s : MS} (ht : rf s.2.2 0 (some k) = some k) {t : Nat} {r : Int32} {z : MS} (h : f_Sk_wind k a1 a2 s = some (t, r, z)) : Cx l yX4_wind (.code yX4_wind cX4_wind 3 (some .int)) rm_Sk_wind 1 6 false [vR (some k), vI a1, vI a2] s (tcode t) (some (vI r)) z :=
  Cx.of hl rfl (by decide +kernel) ⟨rfl, le_t rfl⟩ (fun X ok fn _ _ => w_Sk_wind (KX := fun y => y = (t, r, z)) ok (fun y hy => by subst hy; exact fn) ht h rfl)
abbrev rm_Sk_gust : Room := { frames := 6, cells := 1, slots := 6, locals := 90 }
theorem cm_Sk_gust : cfM yX4_gust cX4_gust 3 (some .int) 2 := ⟨tw_353, tw_1, by decide, by decide, by decide +kernel⟩
theorem cv_Sk_gust : cfV yX4_gust := ⟨tw_351, tw_352⟩
theorem d_Sk_gust_0 : decode cX4_gust 0 = .ok (.iload_n 1, 1) := by decide +kernel
theorem d_Sk_gust_1 : decode cX4_gust 1 = .ok (.iconst 1, 1) := by decide +kernel
theorem d_Sk_gust_2 : decode cX4_gust 2 = .ok (.iconst 3, 1) := by decide +kernel
theorem d_Sk_gust_3 : decode cX4_gust 3 = .ok (.invokestatic 58, 3) := by decide +kernel
theorem d_Sk_gust_6 : decode cX4_gust 6 = .ok (.ifCond .ne 12, 3) := by decide +kernel
theorem d_Sk_gust_9 : decode cX4_gust 9 = .ok (.iload_n 2, 1) := by decide +kernel
theorem d_Sk_gust_10 : decode cX4_gust 10 = .ok (.iconst 0, 1) := by decide +kernel
theorem d_Sk_gust_11 : decode cX4_gust 11 = .ok (.iconst 5, 1) := by decide +kernel
theorem d_Sk_gust_12 : decode cX4_gust 12 = .ok (.invokestatic 58, 3) := by decide +kernel
theorem d_Sk_gust_15 : decode cX4_gust 15 = .ok (.ifCond .eq 13, 3) := by decide +kernel
theorem d_Sk_gust_18 : decode cX4_gust 18 = .ok (.new 62, 3) := by decide +kernel
theorem d_Sk_gust_21 : decode cX4_gust 21 = .ok (.dup, 1) := by decide +kernel
theorem d_Sk_gust_22 : decode cX4_gust 22 = .ok (.ldc 104, 2) := by decide +kernel
theorem d_Sk_gust_24 : decode cX4_gust 24 = .ok (.invokespecial 66, 3) := by decide +kernel
theorem d_Sk_gust_27 : decode cX4_gust 27 = .ok (.athrow, 1) := by decide +kernel
theorem d_Sk_gust_28 : decode cX4_gust 28 = .ok (.aload_n 0, 1) := by decide +kernel
theorem d_Sk_gust_29 : decode cX4_gust 29 = .ok (.getfield 10, 3) := by decide +kernel
theorem d_Sk_gust_32 : decode cX4_gust 32 = .ok (.getfield 106, 3) := by decide +kernel
theorem d_Sk_gust_35 : decode cX4_gust 35 = .ok (.iload_n 1, 1) := by decide +kernel
theorem d_Sk_gust_36 : decode cX4_gust 36 = .ok (.iload_n 2, 1) := by decide +kernel
theorem d_Sk_gust_37 : decode cX4_gust 37 = .ok (.invokestatic 100, 3) := by decide +kernel
theorem d_Sk_gust_40 : decode cX4_gust 40 = .ok (.ireturn, 1) := by decide +kernel
set_option maxRecDepth 100000 in
set_option maxHeartbeats 4000000 in
theorem w_Sk_gust {X : CX} {KX : Nat × Int32 × MS → Prop} {k : Nat} {a1 : Int32} {a2 : Int32} {s : MS} (ok : Ok X cX4_gust RX4 rm_Sk_gust 3 false) (hret : ∀ r : Nat × Int32 × MS, KX r → Fix X (some .int) 1 6 false (tcode r.1) (some (vI r.2.1)) r.2.2)   (ht : rf s.2.2 0 (some k) = some k) {res : Nat × Int32 × MS} (h : f_Sk_gust k a1 a2 s = some res) (hk : KX res) : G X s 0 0 0 [(0, vR (some k)), (1, vI a1), (2, vI a2)] [] := by
  unfold f_Sk_gust at h
  refine g_iload_n (i := 1) 1 ok d_Sk_gust_0 rfl rfl ?_
  refine g_iconst (v := (1 : Int32)) ok d_Sk_gust_1 (by decide) ?_
  refine g_iconst (v := (3 : Int32)) ok d_Sk_gust_2 (by decide) ?_
  refine g_invS (rm2 := rm_Sk_isOut) (As := [vI a1, vI (1 : Int32), vI (3 : Int32)]) (rest := []) ok (c_Sk_isOut X.1.2.1) cm_Sk_isOut cs_Sk_isOut tw_149 ⟨rfl, rfl⟩ ⟨le_t rfl, le_t rfl⟩ ⟨rfl, le_t rfl⟩ ⟨le_t rfl, le_t rfl⟩ d_Sk_gust_3 rfl (fun m1 => ?_)
  show G X s 0 0 6 [(0, vR (some k)), (1, vI a1), (2, vI a2)] [vI (f_Sk_isOut a1 (1 : Int32) (3 : Int32))]
  refine g_if_ne (tgt := 18) ok d_Sk_gust_6 (by decide) (fun c2 => ?_) (fun c2 => ?_)
  · replace h := (if_pos c2).symm.trans h
    refine g_iload_n (i := 2) 2 ok d_Sk_gust_9 rfl rfl ?_
    refine g_iconst (v := (0 : Int32)) ok d_Sk_gust_10 (by decide) ?_
    refine g_iconst (v := (5 : Int32)) ok d_Sk_gust_11 (by decide) ?_
    refine g_invS (rm2 := rm_Sk_isOut) (As := [vI a2, vI (0 : Int32), vI (5 : Int32)]) (rest := []) ok (c_Sk_isOut X.1.2.1) cm_Sk_isOut cs_Sk_isOut tw_149 ⟨rfl, rfl⟩ ⟨le_t rfl, le_t rfl⟩ ⟨rfl, le_t rfl⟩ ⟨le_t rfl, le_t rfl⟩ d_Sk_gust_12 rfl (fun m3 => ?_)
    show G X s 0 0 15 [(0, vR (some k)), (1, vI a1), (2, vI a2)] [vI (f_Sk_isOut a2 (0 : Int32) (5 : Int32))]
    refine g_if_eq (tgt := 28) ok d_Sk_gust_15 (by decide) (fun c4 => ?_) (fun c4 => ?_)
    · replace h := (if_pos c4).symm.trans h
      refine g_aload_n (i := 0) 0 ok d_Sk_gust_28 rfl rfl ?_
      refine g_getr (s0 := 0) (j := 0) (ci := 4) (C := RX4) (T := TX4) (N := 14) ok ht lay_0 rfl inX4 (by decide) rfl tw_82 rfl d_Sk_gust_29 ?_
      obtain ⟨k5, hk6, h⟩ := bnd_go h
      refine g_getrN (s0 := 1) (j := 3) (ci := 0) (C := RX0) (T := TX0) (N := 5) ok hk6 lay_1 rfl inX0 (by decide) rfl tw_32 rfl d_Sk_gust_32 ?_
      refine g_iload_n (i := 1) 1 ok d_Sk_gust_35 rfl rfl ?_
      refine g_iload_n (i := 2) 2 ok d_Sk_gust_36 rfl rfl ?_
      obtain ⟨x10, s9, hc8, h⟩ := bnd2_go h
      refine g_invSN (rm2 := rm_Ci_tell) (As := [vR (s.2.1 k5 3), vI a1, vI a2]) (rest := []) ok (c_Ci_tell X.1.2.1 hc8) cm_Ci_tell cs_Ci_tell tw_338 ⟨rfl, rfl⟩ ⟨le_t rfl, le_t rfl⟩ ⟨rfl, le_t rfl⟩ ⟨le_t rfl, le_t rfl⟩ d_Sk_gust_37 rfl (fun m7 => ?_)
      show G X s9 0 0 40 [(0, vR (some k)), (1, vI a1), (2, vI a2)] [vI x10]
      cases h
      exact g_iretX ok (hret _ hk) (by decide) (by decide) d_Sk_gust_40
    · replace h := (if_neg c4).symm.trans h
      cases h
      exact g_throw (ik := 62) (is := 104) (ic := 66) (cls := "java/lang/IllegalArgumentException") (text := "layer or gust out of range") (names := xnames) ok (hret _ hk) xf_IllegalArgumentException xf_names tw_271 tw_8 (List.mem_of_getElem? (i := 5) rfl) xa_IllegalArgumentException xg_IllegalArgumentException d_Sk_gust_18 d_Sk_gust_21 d_Sk_gust_22 d_Sk_gust_24 d_Sk_gust_27 ⟨le_t rfl, le_t rfl⟩ rfl ⟨le_t rfl, le_t rfl⟩ (le_t rfl) (le_t rfl)
  · replace h := (if_neg c2).symm.trans h
    cases h
    exact g_throw (ik := 62) (is := 104) (ic := 66) (cls := "java/lang/IllegalArgumentException") (text := "layer or gust out of range") (names := xnames) ok (hret _ hk) xf_IllegalArgumentException xf_names tw_271 tw_8 (List.mem_of_getElem? (i := 5) rfl) xa_IllegalArgumentException xg_IllegalArgumentException d_Sk_gust_18 d_Sk_gust_21 d_Sk_gust_22 d_Sk_gust_24 d_Sk_gust_27 ⟨le_t rfl, le_t rfl⟩ rfl ⟨le_t rfl, le_t rfl⟩ (le_t rfl) (le_t rfl)
theorem c_Sk_gust {l : Launch} (hl : l.stackTraces = false) {k : Nat} {a1 : Int32} {a2 : Int32} {s : MS} (ht : rf s.2.2 0 (some k) = some k) {t : Nat} {r : Int32} {z : MS} (h : f_Sk_gust k a1 a2 s = some (t, r, z)) : Cx l yX4_gust (.code yX4_gust cX4_gust 3 (some .int)) rm_Sk_gust 1 6 false [vR (some k), vI a1, vI a2] s (tcode t) (some (vI r)) z :=
  Cx.of hl rfl (by decide +kernel) ⟨rfl, le_t rfl⟩ (fun X ok fn _ _ => w_Sk_gust (KX := fun y => y = (t, r, z)) ok (fun y hy => by subst hy; exact fn) ht h rfl)
abbrev rm_Sk_close : Room := { frames := 6, cells := 2, slots := 14, locals := 92 }
theorem cm_Sk_close : cfM yX4_close cX4_close 8 (some .int) 5 := ⟨tw_361, tw_1, by decide, by decide, by decide +kernel⟩
theorem cv_Sk_close : cfV yX4_close := ⟨tw_359, tw_360⟩
theorem d_Sk_close_0 : decode cX4_close 0 = .ok (.iload_n 1, 1) := by decide +kernel
theorem d_Sk_close_1 : decode cX4_close 1 = .ok (.invokestatic 47, 3) := by decide +kernel
theorem d_Sk_close_4 : decode cX4_close 4 = .ok (.ifCond .ne 10, 3) := by decide +kernel
theorem d_Sk_close_7 : decode cX4_close 7 = .ok (.iload_n 2, 1) := by decide +kernel
theorem d_Sk_close_8 : decode cX4_close 8 = .ok (.invokestatic 47, 3) := by decide +kernel
theorem d_Sk_close_11 : decode cX4_close 11 = .ok (.ifCond .eq 13, 3) := by decide +kernel
theorem d_Sk_close_14 : decode cX4_close 14 = .ok (.new 51, 3) := by decide +kernel
theorem d_Sk_close_17 : decode cX4_close 17 = .ok (.dup, 1) := by decide +kernel
theorem d_Sk_close_18 : decode cX4_close 18 = .ok (.ldc 53, 2) := by decide +kernel
theorem d_Sk_close_20 : decode cX4_close 20 = .ok (.invokespecial 55, 3) := by decide +kernel
theorem d_Sk_close_23 : decode cX4_close 23 = .ok (.athrow, 1) := by decide +kernel
theorem d_Sk_close_24 : decode cX4_close 24 = .ok (.iload_n 3, 1) := by decide +kernel
theorem d_Sk_close_25 : decode cX4_close 25 = .ok (.iconst 1, 1) := by decide +kernel
theorem d_Sk_close_26 : decode cX4_close 26 = .ok (.iconst 3, 1) := by decide +kernel
theorem d_Sk_close_27 : decode cX4_close 27 = .ok (.invokestatic 58, 3) := by decide +kernel
theorem d_Sk_close_30 : decode cX4_close 30 = .ok (.ifCond .ne 26, 3) := by decide +kernel
theorem d_Sk_close_33 : decode cX4_close 33 = .ok (.iload 4, 2) := by decide +kernel
theorem d_Sk_close_35 : decode cX4_close 35 = .ok (.iconst 0, 1) := by decide +kernel
theorem d_Sk_close_36 : decode cX4_close 36 = .ok (.ldc 109, 2) := by decide +kernel
theorem d_Sk_close_38 : decode cX4_close 38 = .ok (.invokestatic 58, 3) := by decide +kernel
theorem d_Sk_close_41 : decode cX4_close 41 = .ok (.ifCond .ne 15, 3) := by decide +kernel
theorem d_Sk_close_44 : decode cX4_close 44 = .ok (.iload 5, 2) := by decide +kernel
theorem d_Sk_close_46 : decode cX4_close 46 = .ok (.iload 4, 2) := by decide +kernel
theorem d_Sk_close_48 : decode cX4_close 48 = .ok (.ldc 109, 2) := by decide +kernel
theorem d_Sk_close_50 : decode cX4_close 50 = .ok (.invokestatic 58, 3) := by decide +kernel
theorem d_Sk_close_53 : decode cX4_close 53 = .ok (.ifCond .eq 13, 3) := by decide +kernel
theorem d_Sk_close_56 : decode cX4_close 56 = .ok (.new 62, 3) := by decide +kernel
theorem d_Sk_close_59 : decode cX4_close 59 = .ok (.dup, 1) := by decide +kernel
theorem d_Sk_close_60 : decode cX4_close 60 = .ok (.ldc 110, 2) := by decide +kernel
theorem d_Sk_close_62 : decode cX4_close 62 = .ok (.invokespecial 66, 3) := by decide +kernel
theorem d_Sk_close_65 : decode cX4_close 65 = .ok (.athrow, 1) := by decide +kernel
theorem d_Sk_close_66 : decode cX4_close 66 = .ok (.aload_n 0, 1) := by decide +kernel
theorem d_Sk_close_67 : decode cX4_close 67 = .ok (.getfield 112, 3) := by decide +kernel
theorem d_Sk_close_70 : decode cX4_close 70 = .ok (.istore 6, 2) := by decide +kernel
theorem d_Sk_close_72 : decode cX4_close 72 = .ok (.iload 6, 2) := by decide +kernel
theorem d_Sk_close_74 : decode cX4_close 74 = .ok (.iconst 0, 1) := by decide +kernel
theorem d_Sk_close_75 : decode cX4_close 75 = .ok (.aload_n 0, 1) := by decide +kernel
theorem d_Sk_close_76 : decode cX4_close 76 = .ok (.getfield 18, 3) := by decide +kernel
theorem d_Sk_close_79 : decode cX4_close 79 = .ok (.arraylength, 1) := by decide +kernel
theorem d_Sk_close_80 : decode cX4_close 80 = .ok (.iconst 1, 1) := by decide +kernel
theorem d_Sk_close_81 : decode cX4_close 81 = .ok (.isub, 1) := by decide +kernel
theorem d_Sk_close_82 : decode cX4_close 82 = .ok (.invokestatic 58, 3) := by decide +kernel
theorem d_Sk_close_85 : decode cX4_close 85 = .ok (.ifCond .eq 13, 3) := by decide +kernel
theorem d_Sk_close_88 : decode cX4_close 88 = .ok (.new 73, 3) := by decide +kernel
theorem d_Sk_close_91 : decode cX4_close 91 = .ok (.dup, 1) := by decide +kernel
theorem d_Sk_close_92 : decode cX4_close 92 = .ok (.ldc 115, 2) := by decide +kernel
theorem d_Sk_close_94 : decode cX4_close 94 = .ok (.invokespecial 77, 3) := by decide +kernel
theorem d_Sk_close_97 : decode cX4_close 97 = .ok (.athrow, 1) := by decide +kernel
theorem d_Sk_close_98 : decode cX4_close 98 = .ok (.new 16, 3) := by decide +kernel
theorem d_Sk_close_101 : decode cX4_close 101 = .ok (.dup, 1) := by decide +kernel
theorem d_Sk_close_102 : decode cX4_close 102 = .ok (.iload_n 1, 1) := by decide +kernel
theorem d_Sk_close_103 : decode cX4_close 103 = .ok (.iload_n 2, 1) := by decide +kernel
theorem d_Sk_close_104 : decode cX4_close 104 = .ok (.iload_n 3, 1) := by decide +kernel
theorem d_Sk_close_105 : decode cX4_close 105 = .ok (.invokespecial 117, 3) := by decide +kernel
theorem d_Sk_close_108 : decode cX4_close 108 = .ok (.astore 7, 2) := by decide +kernel
theorem d_Sk_close_110 : decode cX4_close 110 = .ok (.aload 7, 2) := by decide +kernel
theorem d_Sk_close_112 : decode cX4_close 112 = .ok (.iload 4, 2) := by decide +kernel
theorem d_Sk_close_114 : decode cX4_close 114 = .ok (.putfield 120, 3) := by decide +kernel
theorem d_Sk_close_117 : decode cX4_close 117 = .ok (.aload 7, 2) := by decide +kernel
theorem d_Sk_close_119 : decode cX4_close 119 = .ok (.iload 5, 2) := by decide +kernel
theorem d_Sk_close_121 : decode cX4_close 121 = .ok (.putfield 123, 3) := by decide +kernel
theorem d_Sk_close_124 : decode cX4_close 124 = .ok (.aload_n 0, 1) := by decide +kernel
theorem d_Sk_close_125 : decode cX4_close 125 = .ok (.getfield 18, 3) := by decide +kernel
theorem d_Sk_close_128 : decode cX4_close 128 = .ok (.iload 6, 2) := by decide +kernel
theorem d_Sk_close_130 : decode cX4_close 130 = .ok (.aload 7, 2) := by decide +kernel
theorem d_Sk_close_132 : decode cX4_close 132 = .ok (.aastore, 1) := by decide +kernel
theorem d_Sk_close_133 : decode cX4_close 133 = .ok (.aload_n 0, 1) := by decide +kernel
theorem d_Sk_close_134 : decode cX4_close 134 = .ok (.dup, 1) := by decide +kernel
theorem d_Sk_close_135 : decode cX4_close 135 = .ok (.getfield 112, 3) := by decide +kernel
theorem d_Sk_close_138 : decode cX4_close 138 = .ok (.iconst 1, 1) := by decide +kernel
theorem d_Sk_close_139 : decode cX4_close 139 = .ok (.iadd, 1) := by decide +kernel
theorem d_Sk_close_140 : decode cX4_close 140 = .ok (.putfield 112, 3) := by decide +kernel
theorem d_Sk_close_143 : decode cX4_close 143 = .ok (.aload_n 0, 1) := by decide +kernel
theorem d_Sk_close_144 : decode cX4_close 144 = .ok (.aload 7, 2) := by decide +kernel
theorem d_Sk_close_146 : decode cX4_close 146 = .ok (.invokevirtual 126, 3) := by decide +kernel
theorem d_Sk_close_149 : decode cX4_close 149 = .ok (.iload 6, 2) := by decide +kernel
theorem d_Sk_close_151 : decode cX4_close 151 = .ok (.ireturn, 1) := by decide +kernel
set_option maxRecDepth 100000 in
set_option maxHeartbeats 4000000 in
theorem w_Sk_close {X : CX} {KX : Nat × Int32 × MS → Prop} {k : Nat} {a1 : Int32} {a2 : Int32} {a3 : Int32} {a4 : Int32} {a5 : Int32} {s : MS} (ok : Ok X cX4_close RX4 rm_Sk_close 8 true) (hret : ∀ r : Nat × Int32 × MS, KX r → Fix X (some .int) 2 14 true (tcode r.1) (some (vI r.2.1)) r.2.2)   (ht : rf s.2.2 0 (some k) = some k) {res : Nat × Int32 × MS} (h : f_Sk_close k a1 a2 a3 a4 a5 s = some res) (hk : KX res) : G X s 0 0 0 [(0, vR (some k)), (1, vI a1), (2, vI a2), (3, vI a3), (4, vI a4), (5, vI a5)] [] := by
  unfold f_Sk_close at h
  refine g_iload_n (i := 1) 1 ok d_Sk_close_0 rfl rfl ?_
  refine g_invS (rm2 := rm_Sk_isNoCell) (As := [vI a1]) (rest := []) ok (c_Sk_isNoCell X.1.2.1) cm_Sk_isNoCell cs_Sk_isNoCell tw_200 ⟨rfl, rfl⟩ ⟨le_t rfl, le_t rfl⟩ ⟨rfl, le_t rfl⟩ ⟨le_t rfl, le_t rfl⟩ d_Sk_close_1 rfl (fun m1 => ?_)
  show G X s 0 0 4 [(0, vR (some k)), (1, vI a1), (2, vI a2), (3, vI a3), (4, vI a4), (5, vI a5)] [vI (f_Sk_isNoCell a1)]
  refine g_if_ne (tgt := 14) ok d_Sk_close_4 (by decide) (fun c2 => ?_) (fun c2 => ?_)
  · replace h := (if_pos c2).symm.trans h
    refine g_iload_n (i := 2) 2 ok d_Sk_close_7 rfl rfl ?_
    refine g_invS (rm2 := rm_Sk_isNoCell) (As := [vI a2]) (rest := []) ok (c_Sk_isNoCell X.1.2.1) cm_Sk_isNoCell cs_Sk_isNoCell tw_200 ⟨rfl, rfl⟩ ⟨le_t rfl, le_t rfl⟩ ⟨rfl, le_t rfl⟩ ⟨le_t rfl, le_t rfl⟩ d_Sk_close_8 rfl (fun m3 => ?_)
    show G X s 0 0 11 [(0, vR (some k)), (1, vI a1), (2, vI a2), (3, vI a3), (4, vI a4), (5, vI a5)] [vI (f_Sk_isNoCell a2)]
    refine g_if_eq (tgt := 24) ok d_Sk_close_11 (by decide) (fun c4 => ?_) (fun c4 => ?_)
    · replace h := (if_pos c4).symm.trans h
      refine g_iload_n (i := 3) 3 ok d_Sk_close_24 rfl rfl ?_
      refine g_iconst (v := (1 : Int32)) ok d_Sk_close_25 (by decide) ?_
      refine g_iconst (v := (3 : Int32)) ok d_Sk_close_26 (by decide) ?_
      refine g_invS (rm2 := rm_Sk_isOut) (As := [vI a3, vI (1 : Int32), vI (3 : Int32)]) (rest := []) ok (c_Sk_isOut X.1.2.1) cm_Sk_isOut cs_Sk_isOut tw_149 ⟨rfl, rfl⟩ ⟨le_t rfl, le_t rfl⟩ ⟨rfl, le_t rfl⟩ ⟨le_t rfl, le_t rfl⟩ d_Sk_close_27 rfl (fun m5 => ?_)
      show G X s 0 0 30 [(0, vR (some k)), (1, vI a1), (2, vI a2), (3, vI a3), (4, vI a4), (5, vI a5)] [vI (f_Sk_isOut a3 (1 : Int32) (3 : Int32))]
      refine g_if_ne (tgt := 56) ok d_Sk_close_30 (by decide) (fun c6 => ?_) (fun c6 => ?_)
      · replace h := (if_pos c6).symm.trans h
        refine g_iload (i := 4) 4 ok d_Sk_close_33 rfl ?_
        refine g_iconst (v := (0 : Int32)) ok d_Sk_close_35 (by decide) ?_
        refine g_ldc (v := (100000 : Int32)) ok d_Sk_close_36 tw_362 ?_
        refine g_invS (rm2 := rm_Sk_isOut) (As := [vI a4, vI (0 : Int32), vI (100000 : Int32)]) (rest := []) ok (c_Sk_isOut X.1.2.1) cm_Sk_isOut cs_Sk_isOut tw_149 ⟨rfl, rfl⟩ ⟨le_t rfl, le_t rfl⟩ ⟨rfl, le_t rfl⟩ ⟨le_t rfl, le_t rfl⟩ d_Sk_close_38 rfl (fun m7 => ?_)
        show G X s 0 0 41 [(0, vR (some k)), (1, vI a1), (2, vI a2), (3, vI a3), (4, vI a4), (5, vI a5)] [vI (f_Sk_isOut a4 (0 : Int32) (100000 : Int32))]
        refine g_if_ne (tgt := 56) ok d_Sk_close_41 (by decide) (fun c8 => ?_) (fun c8 => ?_)
        · replace h := (if_pos c8).symm.trans h
          refine g_iload (i := 5) 5 ok d_Sk_close_44 rfl ?_
          refine g_iload (i := 4) 4 ok d_Sk_close_46 rfl ?_
          refine g_ldc (v := (100000 : Int32)) ok d_Sk_close_48 tw_362 ?_
          refine g_invS (rm2 := rm_Sk_isOut) (As := [vI a5, vI a4, vI (100000 : Int32)]) (rest := []) ok (c_Sk_isOut X.1.2.1) cm_Sk_isOut cs_Sk_isOut tw_149 ⟨rfl, rfl⟩ ⟨le_t rfl, le_t rfl⟩ ⟨rfl, le_t rfl⟩ ⟨le_t rfl, le_t rfl⟩ d_Sk_close_50 rfl (fun m9 => ?_)
          show G X s 0 0 53 [(0, vR (some k)), (1, vI a1), (2, vI a2), (3, vI a3), (4, vI a4), (5, vI a5)] [vI (f_Sk_isOut a5 a4 (100000 : Int32))]
          refine g_if_eq (tgt := 66) ok d_Sk_close_53 (by decide) (fun c10 => ?_) (fun c10 => ?_)
          · replace h := (if_pos c10).symm.trans h
            refine g_aload_n (i := 0) 0 ok d_Sk_close_66 rfl rfl ?_
            refine g_geti (s0 := 0) (j := 6) (ci := 4) (C := RX4) (T := TX4) (N := 14) ok ht lay_0 rfl inX4 (by decide) rfl tw_88 rfl d_Sk_close_67 ?_
            obtain ⟨x11, e12⟩ : ∃ z, (s.1 k 6) = z := ⟨_, rfl⟩
            replace h := lt_go h e12
            rw [e12]
            refine g_istore (i := 6) [(6, vI x11), (0, vR (some k)), (1, vI a1), (2, vI a2), (3, vI a3), (4, vI a4), (5, vI a5)] ok d_Sk_close_70 (by decide) rfl ?_
            refine g_iload (i := 6) 0 ok d_Sk_close_72 rfl ?_
            refine g_iconst (v := (0 : Int32)) ok d_Sk_close_74 (by decide) ?_
            refine g_aload_n (i := 0) 1 ok d_Sk_close_75 rfl rfl ?_
            refine g_getr (s0 := 0) (j := 1) (ci := 4) (C := RX4) (T := TX4) (N := 14) ok ht lay_0 rfl inX4 (by decide) rfl tw_83 rfl d_Sk_close_76 ?_
            obtain ⟨n13, hn14, h⟩ := bnd_go h
            refine g_alen ok hn14 (by decide) d_Sk_close_79 ?_
            refine g_iconst (v := (1 : Int32)) ok d_Sk_close_80 (by decide) ?_
            refine g_isub ok d_Sk_close_81 ?_
            refine g_invS (rm2 := rm_Sk_isOut) (As := [vI x11, vI (0 : Int32), vI ((Int32.ofNat n13) - (1 : Int32))]) (rest := []) ok (c_Sk_isOut X.1.2.1) cm_Sk_isOut cs_Sk_isOut tw_149 ⟨rfl, rfl⟩ ⟨le_t rfl, le_t rfl⟩ ⟨rfl, le_t rfl⟩ ⟨le_t rfl, le_t rfl⟩ d_Sk_close_82 rfl (fun m15 => ?_)
            show G X s 0 0 85 [(6, vI x11), (0, vR (some k)), (1, vI a1), (2, vI a2), (3, vI a3), (4, vI a4), (5, vI a5)] [vI (f_Sk_isOut x11 (0 : Int32) ((Int32.ofNat n13) - (1 : Int32)))]
            refine g_if_eq (tgt := 98) ok d_Sk_close_85 (by decide) (fun c16 => ?_) (fun c16 => ?_)
            · replace h := (if_pos c16).symm.trans h
              obtain ⟨o17, e18⟩ : ∃ z, nid s 10 = z := ⟨_, rfl⟩
              replace h := lt_go h e18
              refine g_new (s0 := 10) (ci := 3) (C := RX3) (T := TX3) (N := 8) (ty := tyX3) ok (by decide) lay_10 rfl inX3 tyX3_ok hdfX3 tw_47 tw_167 tw_12 ⟨trivial, ⟨(rk_of ht), ⟨trivial, ⟨trivial, ⟨trivial, ⟨trivial, ⟨trivial, trivial⟩⟩⟩⟩⟩⟩⟩ trivial (by decide) (by decide) d_Sk_close_98 ?_
              rw [e18]
              obtain ⟨s19, e20⟩ : ∃ z, nw s 10 = z := ⟨_, rfl⟩
              replace h := lt_go h e20
              have m21 := mo_nw (by decide) e20
              rw [e20]
              have hk22 : rf s19.2.2 10 (some o17) = some o17 := by rw [← e18]; exact rf_new (by decide) e20
              refine g_dup ok d_Sk_close_101 rfl ?_
              refine g_iload_n (i := 1) 2 ok d_Sk_close_102 rfl rfl ?_
              refine g_iload_n (i := 2) 3 ok d_Sk_close_103 rfl rfl ?_
              refine g_iload_n (i := 3) 4 ok d_Sk_close_104 rfl rfl ?_
              obtain ⟨s25, hc24, h⟩ := bnd_go h
              refine g_invIN (rm2 := rm_Ro_init) (As := [vI a1, vI a2, vI a3]) (rest := [vR (some o17)]) ok hk22 (c_Ro_init X.1.2.1 (rf_self hk22) hc24) cm_Ro_init ci_Ro_init tw_365 ⟨rfl, rfl⟩ ⟨le_t rfl, le_t rfl⟩ ⟨rfl, le_t rfl⟩ ⟨le_t rfl, le_t rfl⟩ d_Sk_close_105 rfl (fun m23 => ?_)
              show G X s25 1 8 108 [(6, vI x11), (0, vR (some k)), (1, vI a1), (2, vI a2), (3, vI a3), (4, vI a4), (5, vI a5)] [vR (some o17)]
              obtain ⟨x26, e27⟩ : ∃ z, (some o17) = z := ⟨_, rfl⟩
              replace h := lt_go h e27
              rw [e27]
              refine g_astore (i := 7) [(7, vR x26), (6, vI x11), (0, vR (some k)), (1, vI a1), (2, vI a2), (3, vI a3), (4, vI a4), (5, vI a5)] ok d_Sk_close_108 (by decide) rfl ?_
              refine g_aload (i := 7) 0 ok d_Sk_close_110 rfl ?_
              refine g_iload (i := 4) 6 ok d_Sk_close_112 rfl ?_
              obtain ⟨k28, hk29, h⟩ := bnd_go h
              refine g_putiN (s0 := 10) (j := 5) (ci := 3) (C := RX3) (T := TX3) (N := 8) ok hk29 lay_10 rfl inX3 (by decide) rfl tw_381 rfl tyX3_ok nmX3 rfl (Or.inl rfl) d_Sk_close_114 ?_
              obtain ⟨s30, e31⟩ : ∃ z, wi s25 k28 5 a4 = z := ⟨_, rfl⟩
              replace h := lt_go h e31
              have m32 := mo_wi e31
              rw [e31]
              refine g_aload (i := 7) 0 ok d_Sk_close_117 rfl ?_
              refine g_iload (i := 5) 7 ok d_Sk_close_119 rfl ?_
              refine g_putiN (s0 := 10) (j := 6) (ci := 3) (C := RX3) (T := TX3) (N := 8) ok (rf_mono m32 hk29) lay_10 rfl inX3 (by decide) rfl tw_383 rfl tyX3_ok nmX3 rfl (Or.inl rfl) d_Sk_close_121 ?_
              obtain ⟨s33, e34⟩ : ∃ z, wi s30 k28 6 a5 = z := ⟨_, rfl⟩
              replace h := lt_go h e34
              have m35 := mo_wi e34
              rw [e34]
              refine g_aload_n (i := 0) 2 ok d_Sk_close_124 rfl rfl ?_
              refine g_getr (s0 := 0) (j := 1) (ci := 4) (C := RX4) (T := TX4) (N := 14) ok (rf_mono m35 (rf_mono m32 (rf_mono m23 (rf_mono m21 ht)))) lay_0 rfl inX4 (by decide) rfl tw_83 rfl d_Sk_close_125 ?_
              refine g_iload (i := 6) 1 ok d_Sk_close_128 rfl ?_
              refine g_aload (i := 7) 0 ok d_Sk_close_130 rfl ?_
              obtain ⟨k36, hk37, h⟩ := bnd_go h
              refine g_aast3 ok hk37 (rf_mono m35 (rf_mono m32 hk29)) lay_10 rfl d_Sk_close_132 ?_
              obtain ⟨s38, e39⟩ : ∃ z, wr s33 k36 x11.toNatClampNeg x26 = z := ⟨_, rfl⟩
              replace h := lt_go h e39
              have m40 := mo_wr e39
              rw [e39]
              refine g_aload_n (i := 0) 2 ok d_Sk_close_133 rfl rfl ?_
              refine g_dup ok d_Sk_close_134 rfl ?_
              refine g_geti (s0 := 0) (j := 6) (ci := 4) (C := RX4) (T := TX4) (N := 14) ok (rf_mono m40 (rf_mono m35 (rf_mono m32 (rf_mono m23 (rf_mono m21 ht))))) lay_0 rfl inX4 (by decide) rfl tw_88 rfl d_Sk_close_135 ?_
              refine g_iconst (v := (1 : Int32)) ok d_Sk_close_138 (by decide) ?_
              refine g_iadd ok d_Sk_close_139 ?_
              refine g_puti (s0 := 0) (j := 6) (ci := 4) (C := RX4) (T := TX4) (N := 14) ok (rf_mono m40 (rf_mono m35 (rf_mono m32 (rf_mono m23 (rf_mono m21 ht))))) lay_0 rfl inX4 (by decide) rfl tw_88 rfl tyX4_ok nmX4 rfl (Or.inl rfl) d_Sk_close_140 ?_
              obtain ⟨s41, e42⟩ : ∃ z, wi s38 k 6 ((s38.1 k 6) + (1 : Int32)) = z := ⟨_, rfl⟩
              replace h := lt_go h e42
              have m43 := mo_wi e42
              rw [e42]
              refine g_aload_n (i := 0) 2 ok d_Sk_close_143 rfl rfl ?_
              refine g_aload (i := 7) 0 ok d_Sk_close_144 rfl ?_
              obtain ⟨s46, hc45, h⟩ := bnd_go h
              refine g_invV (rm2 := rm_Sk_withdrawThoseIn) (As := [vR x26]) (rest := []) ok (rf_mono m43 (rf_mono m40 (rf_mono m35 (rf_mono m32 (rf_mono m23 (rf_mono m21 ht)))))) lay_0 rfl (c_Sk_withdrawThoseIn X.1.2.1 (rf_self (rf_mono m43 (rf_mono m40 (rf_mono m35 (rf_mono m32 (rf_mono m23 (rf_mono m21 ht))))))) hc45) cm_Sk_withdrawThoseIn cv_Sk_withdrawThoseIn tw_403 ⟨rfl, rfl⟩ ⟨le_t rfl, le_t rfl⟩ ⟨rfl, le_t rfl⟩ ⟨le_t rfl, le_t rfl⟩ d_Sk_close_146 rfl (fun m44 => ?_)
              show G X s46 1 8 149 [(7, vR x26), (6, vI x11), (0, vR (some k)), (1, vI a1), (2, vI a2), (3, vI a3), (4, vI a4), (5, vI a5)] []
              refine g_iload (i := 6) 1 ok d_Sk_close_149 rfl ?_
              cases h
              exact g_iretX ok (hret _ hk) (by decide) (by decide) d_Sk_close_151
            · replace h := (if_neg c16).symm.trans h
              cases h
              exact g_throw (ik := 73) (is := 115) (ic := 77) (cls := "java/lang/IllegalStateException") (text := "too many rooms") (names := xnames) ok (hret _ hk) xf_IllegalStateException xf_names tw_291 tw_9 (List.mem_of_getElem? (i := 7) rfl) xa_IllegalStateException xg_IllegalStateException d_Sk_close_88 d_Sk_close_91 d_Sk_close_92 d_Sk_close_94 d_Sk_close_97 ⟨le_t rfl, le_t rfl⟩ rfl ⟨le_t rfl, le_t rfl⟩ (le_t rfl) (le_t rfl)
          · replace h := (if_neg c10).symm.trans h
            cases h
            exact g_throw (ik := 62) (is := 110) (ic := 66) (cls := "java/lang/IllegalArgumentException") (text := "layer, from or to out of range") (names := xnames) ok (hret _ hk) xf_IllegalArgumentException xf_names tw_271 tw_8 (List.mem_of_getElem? (i := 6) rfl) xa_IllegalArgumentException xg_IllegalArgumentException d_Sk_close_56 d_Sk_close_59 d_Sk_close_60 d_Sk_close_62 d_Sk_close_65 ⟨le_t rfl, le_t rfl⟩ rfl ⟨le_t rfl, le_t rfl⟩ (le_t rfl) (le_t rfl)
        · replace h := (if_neg c8).symm.trans h
          cases h
          exact g_throw (ik := 62) (is := 110) (ic := 66) (cls := "java/lang/IllegalArgumentException") (text := "layer, from or to out of range") (names := xnames) ok (hret _ hk) xf_IllegalArgumentException xf_names tw_271 tw_8 (List.mem_of_getElem? (i := 6) rfl) xa_IllegalArgumentException xg_IllegalArgumentException d_Sk_close_56 d_Sk_close_59 d_Sk_close_60 d_Sk_close_62 d_Sk_close_65 ⟨le_t rfl, le_t rfl⟩ rfl ⟨le_t rfl, le_t rfl⟩ (le_t rfl) (le_t rfl)
      · replace h := (if_neg c6).symm.trans h
        cases h
        exact g_throw (ik := 62) (is := 110) (ic := 66) (cls := "java/lang/IllegalArgumentException") (text := "layer, from or to out of range") (names := xnames) ok (hret _ hk) xf_IllegalArgumentException xf_names tw_271 tw_8 (List.mem_of_getElem? (i := 6) rfl) xa_IllegalArgumentException xg_IllegalArgumentException d_Sk_close_56 d_Sk_close_59 d_Sk_close_60 d_Sk_close_62 d_Sk_close_65 ⟨le_t rfl, le_t rfl⟩ rfl ⟨le_t rfl, le_t rfl⟩ (le_t rfl) (le_t rfl)
    · replace h := (if_neg c4).symm.trans h
      cases h
      exact g_throw (ik := 51) (is := 53) (ic := 55) (cls := "java/lang/IndexOutOfBoundsException") (text := "no such cell") (names := xnames) ok (hret _ hk) xf_IndexOutOfBoundsException xf_names tw_203 tw_7 (List.mem_of_getElem? (i := 0) rfl) xa_IndexOutOfBoundsException xg_IndexOutOfBoundsException d_Sk_close_14 d_Sk_close_17 d_Sk_close_18 d_Sk_close_20 d_Sk_close_23 ⟨le_t rfl, le_t rfl⟩ rfl ⟨le_t rfl, le_t rfl⟩ (le_t rfl) (le_t rfl)
  · replace h := (if_neg c2).symm.trans h
    cases h
    exact g_throw (ik := 51) (is := 53) (ic := 55) (cls := "java/lang/IndexOutOfBoundsException") (text := "no such cell") (names := xnames) ok (hret _ hk) xf_IndexOutOfBoundsException xf_names tw_203 tw_7 (List.mem_of_getElem? (i := 0) rfl) xa_IndexOutOfBoundsException xg_IndexOutOfBoundsException d_Sk_close_14 d_Sk_close_17 d_Sk_close_18 d_Sk_close_20 d_Sk_close_23 ⟨le_t rfl, le_t rfl⟩ rfl ⟨le_t rfl, le_t rfl⟩ (le_t rfl) (le_t rfl)
theorem c_Sk_close {l : Launch} (hl : l.stackTraces = false) {k : Nat} {a1 : Int32} {a2 : Int32} {a3 : Int32} {a4 : Int32} {a5 : Int32} {s : MS} (ht : rf s.2.2 0 (some k) = some k) {t : Nat} {r : Int32} {z : MS} (h : f_Sk_close k a1 a2 a3 a4 a5 s = some (t, r, z)) : Cx l yX4_close (.code yX4_close cX4_close 8 (some .int)) rm_Sk_close 2 14 true [vR (some k), vI a1, vI a2, vI a3, vI a4, vI a5] s (tcode t) (some (vI r)) z :=
  Cx.of hl rfl (by decide +kernel) ⟨rfl, le_t rfl⟩ (fun X ok fn _ _ => w_Sk_close (KX := fun y => y = (t, r, z)) ok (fun y hy => by subst hy; exact fn) ht h rfl)
abbrev rm_Sk_open : Room := { frames := 6, cells := 1, slots := 6, locals := 90 }
theorem cm_Sk_open : cfM yX4_open cX4_open 3 none 1 := ⟨tw_425, tw_1, by decide, by decide, by decide +kernel⟩
theorem cv_Sk_open : cfV yX4_open := ⟨tw_423, tw_424⟩
theorem d_Sk_open_0 : decode cX4_open 0 = .ok (.aload_n 0, 1) := by decide +kernel
theorem d_Sk_open_1 : decode cX4_open 1 = .ok (.iload_n 1, 1) := by decide +kernel
theorem d_Sk_open_2 : decode cX4_open 2 = .ok (.invokevirtual 130, 3) := by decide +kernel
theorem d_Sk_open_5 : decode cX4_open 5 = .ok (.astore_n 2, 1) := by decide +kernel
theorem d_Sk_open_6 : decode cX4_open 6 = .ok (.aload_n 2, 1) := by decide +kernel
theorem d_Sk_open_7 : decode cX4_open 7 = .ok (.ifnonnull 13, 3) := by decide +kernel
theorem d_Sk_open_10 : decode cX4_open 10 = .ok (.new 51, 3) := by decide +kernel
theorem d_Sk_open_13 : decode cX4_open 13 = .ok (.dup, 1) := by decide +kernel
theorem d_Sk_open_14 : decode cX4_open 14 = .ok (.ldc 134, 2) := by decide +kernel
theorem d_Sk_open_16 : decode cX4_open 16 = .ok (.invokespecial 55, 3) := by decide +kernel
theorem d_Sk_open_19 : decode cX4_open 19 = .ok (.athrow, 1) := by decide +kernel
theorem d_Sk_open_20 : decode cX4_open 20 = .ok (.aload_n 2, 1) := by decide +kernel
theorem d_Sk_open_21 : decode cX4_open 21 = .ok (.getfield 136, 3) := by decide +kernel
theorem d_Sk_open_24 : decode cX4_open 24 = .ok (.ifCond .eq 13, 3) := by decide +kernel
theorem d_Sk_open_27 : decode cX4_open 27 = .ok (.new 73, 3) := by decide +kernel
theorem d_Sk_open_30 : decode cX4_open 30 = .ok (.dup, 1) := by decide +kernel
theorem d_Sk_open_31 : decode cX4_open 31 = .ok (.ldc 140, 2) := by decide +kernel
theorem d_Sk_open_33 : decode cX4_open 33 = .ok (.invokespecial 77, 3) := by decide +kernel
theorem d_Sk_open_36 : decode cX4_open 36 = .ok (.athrow, 1) := by decide +kernel
theorem d_Sk_open_37 : decode cX4_open 37 = .ok (.aload_n 2, 1) := by decide +kernel
theorem d_Sk_open_38 : decode cX4_open 38 = .ok (.iconst 1, 1) := by decide +kernel
theorem d_Sk_open_39 : decode cX4_open 39 = .ok (.putfield 136, 3) := by decide +kernel
theorem d_Sk_open_42 : decode cX4_open 42 = .ok (.return_, 1) := by decide +kernel
set_option maxRecDepth 100000 in
set_option maxHeartbeats 4000000 in
theorem w_Sk_open {X : CX} {KX : Nat × Int32 × MS → Prop} {k : Nat} {a1 : Int32} {s : MS} (ok : Ok X cX4_open RX4 rm_Sk_open 3 false) (hret : ∀ r : Nat × Int32 × MS, KX r → Fix X none 1 6 false (tcode r.1) none r.2.2)   (ht : rf s.2.2 0 (some k) = some k) {res : Nat × Int32 × MS} (h : f_Sk_open k a1 s = some res) (hk : KX res) : G X s 0 0 0 [(0, vR (some k)), (1, vI a1)] [] := by
  unfold f_Sk_open at h
  refine g_aload_n (i := 0) 0 ok d_Sk_open_0 rfl rfl ?_
  refine g_iload_n (i := 1) 1 ok d_Sk_open_1 rfl rfl ?_
  obtain ⟨x2, hc3, h⟩ := bnd_go h
  refine g_invV (rm2 := rm_Sk_roomOf) (As := [vI a1]) (rest := []) ok ht lay_0 rfl (c_Sk_roomOf X.1.2.1 (rf_self ht) hc3) cm_Sk_roomOf cv_Sk_roomOf tw_426 ⟨rfl, rfl⟩ ⟨le_t rfl, le_t rfl⟩ ⟨rfl, le_t rfl⟩ ⟨le_t rfl, le_t rfl⟩ d_Sk_open_2 rfl (fun m1 => ?_)
  show G X s 0 0 5 [(0, vR (some k)), (1, vI a1)] [vR x2]
  refine g_astore_n (i := 2) [(2, vR x2), (0, vR (some k)), (1, vI a1)] ok d_Sk_open_5 rfl (by decide) rfl ?_
  refine g_aload_n (i := 2) 0 ok d_Sk_open_6 rfl rfl ?_
  refine g_ifnonnull (tgt := 20) ok d_Sk_open_7 (by decide) (fun c4 => ?_) (fun c4 => ?_)
  · replace h := (if_pos c4).symm.trans h
    cases h
    exact g_throw (ik := 51) (is := 134) (ic := 55) (cls := "java/lang/IndexOutOfBoundsException") (text := "no such room") (names := xnames) ok (hret _ hk) xf_IndexOutOfBoundsException xf_names tw_203 tw_7 (List.mem_of_getElem? (i := 8) rfl) xa_IndexOutOfBoundsException xg_IndexOutOfBoundsException d_Sk_open_10 d_Sk_open_13 d_Sk_open_14 d_Sk_open_16 d_Sk_open_19 ⟨le_t rfl, le_t rfl⟩ rfl ⟨le_t rfl, le_t rfl⟩ (le_t rfl) (le_t rfl)
  · replace h := (if_neg c4).symm.trans h
    refine g_aload_n (i := 2) 0 ok d_Sk_open_20 rfl rfl ?_
    obtain ⟨k5, hk6, h⟩ := bnd_go h
    refine g_getiN (s0 := 10) (j := 7) (ci := 3) (C := RX3) (T := TX3) (N := 8) ok hk6 lay_10 rfl inX3 (by decide) rfl tw_385 rfl d_Sk_open_21 ?_
    refine g_if_eq (tgt := 37) ok d_Sk_open_24 (by decide) (fun c7 => ?_) (fun c7 => ?_)
    · replace h := (if_pos c7).symm.trans h
      refine g_aload_n (i := 2) 0 ok d_Sk_open_37 rfl rfl ?_
      refine g_iconst (v := (1 : Int32)) ok d_Sk_open_38 (by decide) ?_
      refine g_putiN (s0 := 10) (j := 7) (ci := 3) (C := RX3) (T := TX3) (N := 8) ok hk6 lay_10 rfl inX3 (by decide) rfl tw_385 rfl tyX3_ok nmX3 rfl (Or.inr ⟨rfl, Or.inr rfl⟩) d_Sk_open_39 ?_
      obtain ⟨s8, e9⟩ : ∃ z, wi s k5 7 (1 : Int32) = z := ⟨_, rfl⟩
      replace h := lt_go h e9
      have m10 := mo_wi e9
      rw [e9]
      cases h
      exact g_vretX ok (hret _ hk) (by decide) (by decide) d_Sk_open_42
    · replace h := (if_neg c7).symm.trans h
      cases h
      exact g_throw (ik := 73) (is := 140) (ic := 77) (cls := "java/lang/IllegalStateException") (text := "it was opened") (names := xnames) ok (hret _ hk) xf_IllegalStateException xf_names tw_291 tw_9 (List.mem_of_getElem? (i := 9) rfl) xa_IllegalStateException xg_IllegalStateException d_Sk_open_27 d_Sk_open_30 d_Sk_open_31 d_Sk_open_33 d_Sk_open_36 ⟨le_t rfl, le_t rfl⟩ rfl ⟨le_t rfl, le_t rfl⟩ (le_t rfl) (le_t rfl)
theorem c_Sk_open {l : Launch} (hl : l.stackTraces = false) {k : Nat} {a1 : Int32} {s : MS} (ht : rf s.2.2 0 (some k) = some k) {t : Nat} {r : Int32} {z : MS} (h : f_Sk_open k a1 s = some (t, r, z)) : Cx l yX4_open (.code yX4_open cX4_open 3 none) rm_Sk_open 1 6 false [vR (some k), vI a1] s (tcode t) none z :=
  Cx.of hl rfl (by decide +kernel) ⟨rfl, le_t rfl⟩ (fun X ok fn _ _ => w_Sk_open (KX := fun y => y = (t, r, z)) ok (fun y hy => by subst hy; exact fn) ht h rfl)
abbrev rm_Sk_machine : Room := { frames := 6, cells := 2, slots := 13, locals := 90 }
theorem cm_Sk_machine : cfM yX4_machine cX4_machine 5 (some .int) 3 := ⟨tw_438, tw_1, by decide, by decide, by decide +kernel⟩
theorem cv_Sk_machine : cfV yX4_machine := ⟨tw_436, tw_437⟩
theorem d_Sk_machine_0 : decode cX4_machine 0 = .ok (.iload_n 2, 1) := by decide +kernel
theorem d_Sk_machine_1 : decode cX4_machine 1 = .ok (.invokestatic 47, 3) := by decide +kernel
theorem d_Sk_machine_4 : decode cX4_machine 4 = .ok (.ifCond .eq 13, 3) := by decide +kernel
theorem d_Sk_machine_7 : decode cX4_machine 7 = .ok (.new 51, 3) := by decide +kernel
theorem d_Sk_machine_10 : decode cX4_machine 10 = .ok (.dup, 1) := by decide +kernel
theorem d_Sk_machine_11 : decode cX4_machine 11 = .ok (.ldc 53, 2) := by decide +kernel
theorem d_Sk_machine_13 : decode cX4_machine 13 = .ok (.invokespecial 55, 3) := by decide +kernel
theorem d_Sk_machine_16 : decode cX4_machine 16 = .ok (.athrow, 1) := by decide +kernel
theorem d_Sk_machine_17 : decode cX4_machine 17 = .ok (.iload_n 1, 1) := by decide +kernel
theorem d_Sk_machine_18 : decode cX4_machine 18 = .ok (.iconst 0, 1) := by decide +kernel
theorem d_Sk_machine_19 : decode cX4_machine 19 = .ok (.iconst 3, 1) := by decide +kernel
theorem d_Sk_machine_20 : decode cX4_machine 20 = .ok (.invokestatic 58, 3) := by decide +kernel
theorem d_Sk_machine_23 : decode cX4_machine 23 = .ok (.ifCond .ne 15, 3) := by decide +kernel
theorem d_Sk_machine_26 : decode cX4_machine 26 = .ok (.iload_n 3, 1) := by decide +kernel
theorem d_Sk_machine_27 : decode cX4_machine 27 = .ok (.bipush 20, 2) := by decide +kernel
theorem d_Sk_machine_29 : decode cX4_machine 29 = .ok (.sipush 200, 3) := by decide +kernel
theorem d_Sk_machine_32 : decode cX4_machine 32 = .ok (.invokestatic 58, 3) := by decide +kernel
theorem d_Sk_machine_35 : decode cX4_machine 35 = .ok (.ifCond .eq 13, 3) := by decide +kernel
theorem d_Sk_machine_38 : decode cX4_machine 38 = .ok (.new 62, 3) := by decide +kernel
theorem d_Sk_machine_41 : decode cX4_machine 41 = .ok (.dup, 1) := by decide +kernel
theorem d_Sk_machine_42 : decode cX4_machine 42 = .ok (.ldc 142, 2) := by decide +kernel
theorem d_Sk_machine_44 : decode cX4_machine 44 = .ok (.invokespecial 66, 3) := by decide +kernel
theorem d_Sk_machine_47 : decode cX4_machine 47 = .ok (.athrow, 1) := by decide +kernel
theorem d_Sk_machine_48 : decode cX4_machine 48 = .ok (.aload_n 0, 1) := by decide +kernel
theorem d_Sk_machine_49 : decode cX4_machine 49 = .ok (.getfield 144, 3) := by decide +kernel
theorem d_Sk_machine_52 : decode cX4_machine 52 = .ok (.istore 4, 2) := by decide +kernel
theorem d_Sk_machine_54 : decode cX4_machine 54 = .ok (.aload_n 0, 1) := by decide +kernel
theorem d_Sk_machine_55 : decode cX4_machine 55 = .ok (.getfield 10, 3) := by decide +kernel
theorem d_Sk_machine_58 : decode cX4_machine 58 = .ok (.iload_n 2, 1) := by decide +kernel
theorem d_Sk_machine_59 : decode cX4_machine 59 = .ok (.invokevirtual 67, 3) := by decide +kernel
theorem d_Sk_machine_62 : decode cX4_machine 62 = .ok (.ifCond .eq 19, 3) := by decide +kernel
theorem d_Sk_machine_65 : decode cX4_machine 65 = .ok (.iload 4, 2) := by decide +kernel
theorem d_Sk_machine_67 : decode cX4_machine 67 = .ok (.iconst 0, 1) := by decide +kernel
theorem d_Sk_machine_68 : decode cX4_machine 68 = .ok (.aload_n 0, 1) := by decide +kernel
theorem d_Sk_machine_69 : decode cX4_machine 69 = .ok (.getfield 24, 3) := by decide +kernel
theorem d_Sk_machine_72 : decode cX4_machine 72 = .ok (.arraylength, 1) := by decide +kernel
theorem d_Sk_machine_73 : decode cX4_machine 73 = .ok (.iconst 1, 1) := by decide +kernel
theorem d_Sk_machine_74 : decode cX4_machine 74 = .ok (.isub, 1) := by decide +kernel
theorem d_Sk_machine_75 : decode cX4_machine 75 = .ok (.invokestatic 58, 3) := by decide +kernel
theorem d_Sk_machine_78 : decode cX4_machine 78 = .ok (.ifCond .eq 13, 3) := by decide +kernel
theorem d_Sk_machine_81 : decode cX4_machine 81 = .ok (.new 73, 3) := by decide +kernel
theorem d_Sk_machine_84 : decode cX4_machine 84 = .ok (.dup, 1) := by decide +kernel
theorem d_Sk_machine_85 : decode cX4_machine 85 = .ok (.ldc 147, 2) := by decide +kernel
theorem d_Sk_machine_87 : decode cX4_machine 87 = .ok (.invokespecial 77, 3) := by decide +kernel
theorem d_Sk_machine_90 : decode cX4_machine 90 = .ok (.athrow, 1) := by decide +kernel
theorem d_Sk_machine_91 : decode cX4_machine 91 = .ok (.aload_n 0, 1) := by decide +kernel
theorem d_Sk_machine_92 : decode cX4_machine 92 = .ok (.getfield 24, 3) := by decide +kernel
theorem d_Sk_machine_95 : decode cX4_machine 95 = .ok (.iload 4, 2) := by decide +kernel
theorem d_Sk_machine_97 : decode cX4_machine 97 = .ok (.new 22, 3) := by decide +kernel
theorem d_Sk_machine_100 : decode cX4_machine 100 = .ok (.dup, 1) := by decide +kernel
theorem d_Sk_machine_101 : decode cX4_machine 101 = .ok (.iload_n 1, 1) := by decide +kernel
theorem d_Sk_machine_102 : decode cX4_machine 102 = .ok (.iload_n 2, 1) := by decide +kernel
theorem d_Sk_machine_103 : decode cX4_machine 103 = .ok (.iload_n 3, 1) := by decide +kernel
theorem d_Sk_machine_104 : decode cX4_machine 104 = .ok (.invokespecial 149, 3) := by decide +kernel
theorem d_Sk_machine_107 : decode cX4_machine 107 = .ok (.aastore, 1) := by decide +kernel
theorem d_Sk_machine_108 : decode cX4_machine 108 = .ok (.aload_n 0, 1) := by decide +kernel
theorem d_Sk_machine_109 : decode cX4_machine 109 = .ok (.dup, 1) := by decide +kernel
theorem d_Sk_machine_110 : decode cX4_machine 110 = .ok (.getfield 144, 3) := by decide +kernel
theorem d_Sk_machine_113 : decode cX4_machine 113 = .ok (.iconst 1, 1) := by decide +kernel
theorem d_Sk_machine_114 : decode cX4_machine 114 = .ok (.iadd, 1) := by decide +kernel
theorem d_Sk_machine_115 : decode cX4_machine 115 = .ok (.putfield 144, 3) := by decide +kernel
theorem d_Sk_machine_118 : decode cX4_machine 118 = .ok (.iload 4, 2) := by decide +kernel
theorem d_Sk_machine_120 : decode cX4_machine 120 = .ok (.ireturn, 1) := by decide +kernel
set_option maxRecDepth 100000 in
set_option maxHeartbeats 4000000 in
theorem w_Sk_machine {X : CX} {KX : Nat × Int32 × MS → Prop} {k : Nat} {a1 : Int32} {a2 : Int32} {a3 : Int32} {s : MS} (ok : Ok X cX4_machine RX4 rm_Sk_machine 5 true) (hret : ∀ r : Nat × Int32 × MS, KX r → Fix X (some .int) 2 13 true (tcode r.1) (some (vI r.2.1)) r.2.2)   (ht : rf s.2.2 0 (some k) = some k) {res : Nat × Int32 × MS} (h : f_Sk_machine k a1 a2 a3 s = some res) (hk : KX res) : G X s 0 0 0 [(0, vR (some k)), (1, vI a1), (2, vI a2), (3, vI a3)] [] := by
  unfold f_Sk_machine at h
  refine g_iload_n (i := 2) 2 ok d_Sk_machine_0 rfl rfl ?_
  refine g_invS (rm2 := rm_Sk_isNoCell) (As := [vI a2]) (rest := []) ok (c_Sk_isNoCell X.1.2.1) cm_Sk_isNoCell cs_Sk_isNoCell tw_200 ⟨rfl, rfl⟩ ⟨le_t rfl, le_t rfl⟩ ⟨rfl, le_t rfl⟩ ⟨le_t rfl, le_t rfl⟩ d_Sk_machine_1 rfl (fun m1 => ?_)
  show G X s 0 0 4 [(0, vR (some k)), (1, vI a1), (2, vI a2), (3, vI a3)] [vI (f_Sk_isNoCell a2)]
  refine g_if_eq (tgt := 17) ok d_Sk_machine_4 (by decide) (fun c2 => ?_) (fun c2 => ?_)
  · replace h := (if_pos c2).symm.trans h
    refine g_iload_n (i := 1) 1 ok d_Sk_machine_17 rfl rfl ?_
    refine g_iconst (v := (0 : Int32)) ok d_Sk_machine_18 (by decide) ?_
    refine g_iconst (v := (3 : Int32)) ok d_Sk_machine_19 (by decide) ?_
    refine g_invS (rm2 := rm_Sk_isOut) (As := [vI a1, vI (0 : Int32), vI (3 : Int32)]) (rest := []) ok (c_Sk_isOut X.1.2.1) cm_Sk_isOut cs_Sk_isOut tw_149 ⟨rfl, rfl⟩ ⟨le_t rfl, le_t rfl⟩ ⟨rfl, le_t rfl⟩ ⟨le_t rfl, le_t rfl⟩ d_Sk_machine_20 rfl (fun m3 => ?_)
    show G X s 0 0 23 [(0, vR (some k)), (1, vI a1), (2, vI a2), (3, vI a3)] [vI (f_Sk_isOut a1 (0 : Int32) (3 : Int32))]
    refine g_if_ne (tgt := 38) ok d_Sk_machine_23 (by decide) (fun c4 => ?_) (fun c4 => ?_)
    · replace h := (if_pos c4).symm.trans h
      refine g_iload_n (i := 3) 3 ok d_Sk_machine_26 rfl rfl ?_
      refine g_bipush (v := (20 : Int32)) ok d_Sk_machine_27 (by decide) ?_
      refine g_sipush (v := (200 : Int32)) ok d_Sk_machine_29 (by decide) ?_
      refine g_invS (rm2 := rm_Sk_isOut) (As := [vI a3, vI (20 : Int32), vI (200 : Int32)]) (rest := []) ok (c_Sk_isOut X.1.2.1) cm_Sk_isOut cs_Sk_isOut tw_149 ⟨rfl, rfl⟩ ⟨le_t rfl, le_t rfl⟩ ⟨rfl, le_t rfl⟩ ⟨le_t rfl, le_t rfl⟩ d_Sk_machine_32 rfl (fun m5 => ?_)
      show G X s 0 0 35 [(0, vR (some k)), (1, vI a1), (2, vI a2), (3, vI a3)] [vI (f_Sk_isOut a3 (20 : Int32) (200 : Int32))]
      refine g_if_eq (tgt := 48) ok d_Sk_machine_35 (by decide) (fun c6 => ?_) (fun c6 => ?_)
      · replace h := (if_pos c6).symm.trans h
        refine g_aload_n (i := 0) 0 ok d_Sk_machine_48 rfl rfl ?_
        refine g_geti (s0 := 0) (j := 7) (ci := 4) (C := RX4) (T := TX4) (N := 14) ok ht lay_0 rfl inX4 (by decide) rfl tw_89 rfl d_Sk_machine_49 ?_
        obtain ⟨x7, e8⟩ : ∃ z, (s.1 k 7) = z := ⟨_, rfl⟩
        replace h := lt_go h e8
        rw [e8]
        refine g_istore (i := 4) [(4, vI x7), (0, vR (some k)), (1, vI a1), (2, vI a2), (3, vI a3)] ok d_Sk_machine_52 (by decide) rfl ?_
        refine g_aload_n (i := 0) 1 ok d_Sk_machine_54 rfl rfl ?_
        refine g_getr (s0 := 0) (j := 0) (ci := 4) (C := RX4) (T := TX4) (N := 14) ok ht lay_0 rfl inX4 (by decide) rfl tw_82 rfl d_Sk_machine_55 ?_
        refine g_iload_n (i := 2) 3 ok d_Sk_machine_58 rfl rfl ?_
        obtain ⟨k9, hk10, h⟩ := bnd_go h
        obtain ⟨x12, hc13, h⟩ := bnd_go h
        refine g_invVN (rm2 := rm_Ci_isSpot) (As := [vI a2]) (rest := []) ok hk10 lay_1 rfl (c_Ci_isSpot X.1.2.1 (rf_self hk10) hc13) cm_Ci_isSpot cv_Ci_isSpot tw_287 ⟨rfl, rfl⟩ ⟨le_t rfl, le_t rfl⟩ ⟨rfl, le_t rfl⟩ ⟨le_t rfl, le_t rfl⟩ d_Sk_machine_59 rfl (fun m11 => ?_)
        show G X s 0 0 62 [(4, vI x7), (0, vR (some k)), (1, vI a1), (2, vI a2), (3, vI a3)] [vI x12]
        refine g_if_eq (tgt := 81) ok d_Sk_machine_62 (by decide) (fun c14 => ?_) (fun c14 => ?_)
        · replace h := (if_pos c14).symm.trans h
          cases h
          exact g_throw (ik := 73) (is := 147) (ic := 77) (cls := "java/lang/IllegalStateException") (text := "no spot, or too many machines") (names := xnames) ok (hret _ hk) xf_IllegalStateException xf_names tw_291 tw_9 (List.mem_of_getElem? (i := 11) rfl) xa_IllegalStateException xg_IllegalStateException d_Sk_machine_81 d_Sk_machine_84 d_Sk_machine_85 d_Sk_machine_87 d_Sk_machine_90 ⟨le_t rfl, le_t rfl⟩ rfl ⟨le_t rfl, le_t rfl⟩ (le_t rfl) (le_t rfl)
        · replace h := (if_neg c14).symm.trans h
          refine g_iload (i := 4) 0 ok d_Sk_machine_65 rfl ?_
          refine g_iconst (v := (0 : Int32)) ok d_Sk_machine_67 (by decide) ?_
          refine g_aload_n (i := 0) 1 ok d_Sk_machine_68 rfl rfl ?_
          refine g_getr (s0 := 0) (j := 2) (ci := 4) (C := RX4) (T := TX4) (N := 14) ok ht lay_0 rfl inX4 (by decide) rfl tw_84 rfl d_Sk_machine_69 ?_
          obtain ⟨n15, hn16, h⟩ := bnd_go h
          refine g_alen ok hn16 (by decide) d_Sk_machine_72 ?_
          refine g_iconst (v := (1 : Int32)) ok d_Sk_machine_73 (by decide) ?_
          refine g_isub ok d_Sk_machine_74 ?_
          refine g_invS (rm2 := rm_Sk_isOut) (As := [vI x7, vI (0 : Int32), vI ((Int32.ofNat n15) - (1 : Int32))]) (rest := []) ok (c_Sk_isOut X.1.2.1) cm_Sk_isOut cs_Sk_isOut tw_149 ⟨rfl, rfl⟩ ⟨le_t rfl, le_t rfl⟩ ⟨rfl, le_t rfl⟩ ⟨le_t rfl, le_t rfl⟩ d_Sk_machine_75 rfl (fun m17 => ?_)
          show G X s 0 0 78 [(4, vI x7), (0, vR (some k)), (1, vI a1), (2, vI a2), (3, vI a3)] [vI (f_Sk_isOut x7 (0 : Int32) ((Int32.ofNat n15) - (1 : Int32)))]
          refine g_if_eq (tgt := 91) ok d_Sk_machine_78 (by decide) (fun c18 => ?_) (fun c18 => ?_)
          · replace h := (if_pos c18).symm.trans h
            refine g_aload_n (i := 0) 1 ok d_Sk_machine_91 rfl rfl ?_
            refine g_getr (s0 := 0) (j := 2) (ci := 4) (C := RX4) (T := TX4) (N := 14) ok ht lay_0 rfl inX4 (by decide) rfl tw_84 rfl d_Sk_machine_92 ?_
            refine g_iload (i := 4) 0 ok d_Sk_machine_95 rfl ?_
            obtain ⟨n19, hn20, h⟩ := bnd_go h
            obtain ⟨o21, e22⟩ : ∃ z, nid s 11 = z := ⟨_, rfl⟩
            replace h := lt_go h e22
            refine g_new (s0 := 11) (ci := 1) (C := RX1) (T := TX1) (N := 7) (ty := tyX1) ok (by decide) lay_11 rfl inX1 tyX1_ok hdfX1 tw_49 tw_441 tw_10 ⟨trivial, ⟨(rk_of ht), ⟨trivial, ⟨trivial, ⟨trivial, trivial⟩⟩⟩⟩⟩ ⟨trivial, ⟨(rk_rl hn20), trivial⟩⟩ (by decide) (by decide) d_Sk_machine_97 ?_
            rw [e22]
            obtain ⟨s23, e24⟩ : ∃ z, nw s 11 = z := ⟨_, rfl⟩
            replace h := lt_go h e24
            have m25 := mo_nw (by decide) e24
            rw [e24]
            have hk26 : rf s23.2.2 11 (some o21) = some o21 := by rw [← e22]; exact rf_new (by decide) e24
            refine g_dup ok d_Sk_machine_100 rfl ?_
            refine g_iload_n (i := 1) 2 ok d_Sk_machine_101 rfl rfl ?_
            refine g_iload_n (i := 2) 3 ok d_Sk_machine_102 rfl rfl ?_
            refine g_iload_n (i := 3) 4 ok d_Sk_machine_103 rfl rfl ?_
            obtain ⟨s29, hc28, h⟩ := bnd_go h
            refine g_invIN (rm2 := rm_Ma_init) (As := [vI a1, vI a2, vI a3]) (rest := [vR (some o21), vI x7, vR (s.2.1 k 2)]) ok hk26 (c_Ma_init X.1.2.1 (rf_self hk26) hc28) cm_Ma_init ci_Ma_init tw_442 ⟨rfl, rfl⟩ ⟨le_t rfl, le_t rfl⟩ ⟨rfl, le_t rfl⟩ ⟨le_t rfl, le_t rfl⟩ d_Sk_machine_104 rfl (fun m27 => ?_)
            show G X s29 1 7 107 [(4, vI x7), (0, vR (some k)), (1, vI a1), (2, vI a2), (3, vI a3)] [vR (some o21), vI x7, vR (s.2.1 k 2)]
            obtain ⟨k30, hk31, h⟩ := bnd_go h
            refine g_aast4 ok hk31 (rf_mono m27 hk26) lay_11 rfl d_Sk_machine_107 ?_
            obtain ⟨s32, e33⟩ : ∃ z, wr s29 k30 x7.toNatClampNeg (some o21) = z := ⟨_, rfl⟩
            replace h := lt_go h e33
            have m34 := mo_wr e33
            rw [e33]
            refine g_aload_n (i := 0) 1 ok d_Sk_machine_108 rfl rfl ?_
            refine g_dup ok d_Sk_machine_109 rfl ?_
            refine g_geti (s0 := 0) (j := 7) (ci := 4) (C := RX4) (T := TX4) (N := 14) ok (rf_mono m34 (rf_mono m27 (rf_mono m25 ht))) lay_0 rfl inX4 (by decide) rfl tw_89 rfl d_Sk_machine_110 ?_
            refine g_iconst (v := (1 : Int32)) ok d_Sk_machine_113 (by decide) ?_
            refine g_iadd ok d_Sk_machine_114 ?_
            refine g_puti (s0 := 0) (j := 7) (ci := 4) (C := RX4) (T := TX4) (N := 14) ok (rf_mono m34 (rf_mono m27 (rf_mono m25 ht))) lay_0 rfl inX4 (by decide) rfl tw_89 rfl tyX4_ok nmX4 rfl (Or.inl rfl) d_Sk_machine_115 ?_
            obtain ⟨s35, e36⟩ : ∃ z, wi s32 k 7 ((s32.1 k 7) + (1 : Int32)) = z := ⟨_, rfl⟩
            replace h := lt_go h e36
            have m37 := mo_wi e36
            rw [e36]
            refine g_iload (i := 4) 0 ok d_Sk_machine_118 rfl ?_
            cases h
            exact g_iretX ok (hret _ hk) (by decide) (by decide) d_Sk_machine_120
          · replace h := (if_neg c18).symm.trans h
            cases h
            exact g_throw (ik := 73) (is := 147) (ic := 77) (cls := "java/lang/IllegalStateException") (text := "no spot, or too many machines") (names := xnames) ok (hret _ hk) xf_IllegalStateException xf_names tw_291 tw_9 (List.mem_of_getElem? (i := 11) rfl) xa_IllegalStateException xg_IllegalStateException d_Sk_machine_81 d_Sk_machine_84 d_Sk_machine_85 d_Sk_machine_87 d_Sk_machine_90 ⟨le_t rfl, le_t rfl⟩ rfl ⟨le_t rfl, le_t rfl⟩ (le_t rfl) (le_t rfl)
      · replace h := (if_neg c6).symm.trans h
        cases h
        exact g_throw (ik := 62) (is := 142) (ic := 66) (cls := "java/lang/IllegalArgumentException") (text := "firm or full out of range") (names := xnames) ok (hret _ hk) xf_IllegalArgumentException xf_names tw_271 tw_8 (List.mem_of_getElem? (i := 10) rfl) xa_IllegalArgumentException xg_IllegalArgumentException d_Sk_machine_38 d_Sk_machine_41 d_Sk_machine_42 d_Sk_machine_44 d_Sk_machine_47 ⟨le_t rfl, le_t rfl⟩ rfl ⟨le_t rfl, le_t rfl⟩ (le_t rfl) (le_t rfl)
    · replace h := (if_neg c4).symm.trans h
      cases h
      exact g_throw (ik := 62) (is := 142) (ic := 66) (cls := "java/lang/IllegalArgumentException") (text := "firm or full out of range") (names := xnames) ok (hret _ hk) xf_IllegalArgumentException xf_names tw_271 tw_8 (List.mem_of_getElem? (i := 10) rfl) xa_IllegalArgumentException xg_IllegalArgumentException d_Sk_machine_38 d_Sk_machine_41 d_Sk_machine_42 d_Sk_machine_44 d_Sk_machine_47 ⟨le_t rfl, le_t rfl⟩ rfl ⟨le_t rfl, le_t rfl⟩ (le_t rfl) (le_t rfl)
  · replace h := (if_neg c2).symm.trans h
    cases h
    exact g_throw (ik := 51) (is := 53) (ic := 55) (cls := "java/lang/IndexOutOfBoundsException") (text := "no such cell") (names := xnames) ok (hret _ hk) xf_IndexOutOfBoundsException xf_names tw_203 tw_7 (List.mem_of_getElem? (i := 0) rfl) xa_IndexOutOfBoundsException xg_IndexOutOfBoundsException d_Sk_machine_7 d_Sk_machine_10 d_Sk_machine_11 d_Sk_machine_13 d_Sk_machine_16 ⟨le_t rfl, le_t rfl⟩ rfl ⟨le_t rfl, le_t rfl⟩ (le_t rfl) (le_t rfl)
theorem c_Sk_machine {l : Launch} (hl : l.stackTraces = false) {k : Nat} {a1 : Int32} {a2 : Int32} {a3 : Int32} {s : MS} (ht : rf s.2.2 0 (some k) = some k) {t : Nat} {r : Int32} {z : MS} (h : f_Sk_machine k a1 a2 a3 s = some (t, r, z)) : Cx l yX4_machine (.code yX4_machine cX4_machine 5 (some .int)) rm_Sk_machine 2 13 true [vR (some k), vI a1, vI a2, vI a3] s (tcode t) (some (vI r)) z :=
  Cx.of hl rfl (by decide +kernel) ⟨rfl, le_t rfl⟩ (fun X ok fn _ _ => w_Sk_machine (KX := fun y => y = (t, r, z)) ok (fun y hy => by subst hy; exact fn) ht h rfl)
abbrev rm_Sk_move : Room := { frames := 6, cells := 1, slots := 6, locals := 90 }
theorem cm_Sk_move : cfM yX4_move cX4_move 4 (some .int) 2 := ⟨tw_737, tw_1, by decide, by decide, by decide +kernel⟩
theorem cv_Sk_move : cfV yX4_move := ⟨tw_735, tw_736⟩
theorem d_Sk_move_0 : decode cX4_move 0 = .ok (.iload_n 1, 1) := by decide +kernel
theorem d_Sk_move_1 : decode cX4_move 1 = .ok (.iconst 0, 1) := by decide +kernel
theorem d_Sk_move_2 : decode cX4_move 2 = .ok (.bipush 6, 2) := by decide +kernel
theorem d_Sk_move_4 : decode cX4_move 4 = .ok (.invokestatic 58, 3) := by decide +kernel
theorem d_Sk_move_7 : decode cX4_move 7 = .ok (.ifCond .ne 13, 3) := by decide +kernel
theorem d_Sk_move_10 : decode cX4_move 10 = .ok (.iload_n 2, 1) := by decide +kernel
theorem d_Sk_move_11 : decode cX4_move 11 = .ok (.iconst 1, 1) := by decide +kernel
theorem d_Sk_move_12 : decode cX4_move 12 = .ok (.bipush 10, 2) := by decide +kernel
theorem d_Sk_move_14 : decode cX4_move 14 = .ok (.invokestatic 58, 3) := by decide +kernel
theorem d_Sk_move_17 : decode cX4_move 17 = .ok (.ifCond .eq 13, 3) := by decide +kernel
theorem d_Sk_move_20 : decode cX4_move 20 = .ok (.new 62, 3) := by decide +kernel
theorem d_Sk_move_23 : decode cX4_move 23 = .ok (.dup, 1) := by decide +kernel
theorem d_Sk_move_24 : decode cX4_move 24 = .ok (.ldc 150, 2) := by decide +kernel
theorem d_Sk_move_26 : decode cX4_move 26 = .ok (.invokespecial 66, 3) := by decide +kernel
theorem d_Sk_move_29 : decode cX4_move 29 = .ok (.athrow, 1) := by decide +kernel
theorem d_Sk_move_30 : decode cX4_move 30 = .ok (.aload_n 0, 1) := by decide +kernel
theorem d_Sk_move_31 : decode cX4_move 31 = .ok (.getfield 152, 3) := by decide +kernel
theorem d_Sk_move_34 : decode cX4_move 34 = .ok (.iload_n 2, 1) := by decide +kernel
theorem d_Sk_move_35 : decode cX4_move 35 = .ok (.iadd, 1) := by decide +kernel
theorem d_Sk_move_36 : decode cX4_move 36 = .ok (.bipush 40, 2) := by decide +kernel
theorem d_Sk_move_38 : decode cX4_move 38 = .ok (.if_icmp .le 13, 3) := by decide +kernel
theorem d_Sk_move_41 : decode cX4_move 41 = .ok (.new 73, 3) := by decide +kernel
theorem d_Sk_move_44 : decode cX4_move 44 = .ok (.dup, 1) := by decide +kernel
theorem d_Sk_move_45 : decode cX4_move 45 = .ok (.ldc 155, 2) := by decide +kernel
theorem d_Sk_move_47 : decode cX4_move 47 = .ok (.invokespecial 77, 3) := by decide +kernel
theorem d_Sk_move_50 : decode cX4_move 50 = .ok (.athrow, 1) := by decide +kernel
theorem d_Sk_move_51 : decode cX4_move 51 = .ok (.iconst 0, 1) := by decide +kernel
theorem d_Sk_move_52 : decode cX4_move 52 = .ok (.istore_n 3, 1) := by decide +kernel
theorem d_Sk_move_53 : decode cX4_move 53 = .ok (.iload_n 3, 1) := by decide +kernel
theorem d_Sk_move_54 : decode cX4_move 54 = .ok (.iload_n 2, 1) := by decide +kernel
theorem d_Sk_move_55 : decode cX4_move 55 = .ok (.if_icmp .ge 48, 3) := by decide +kernel
theorem d_Sk_move_58 : decode cX4_move 58 = .ok (.aload_n 0, 1) := by decide +kernel
theorem d_Sk_move_59 : decode cX4_move 59 = .ok (.getfield 152, 3) := by decide +kernel
theorem d_Sk_move_62 : decode cX4_move 62 = .ok (.ifCond .lt 41, 3) := by decide +kernel
theorem d_Sk_move_65 : decode cX4_move 65 = .ok (.aload_n 0, 1) := by decide +kernel
theorem d_Sk_move_66 : decode cX4_move 66 = .ok (.getfield 152, 3) := by decide +kernel
theorem d_Sk_move_69 : decode cX4_move 69 = .ok (.aload_n 0, 1) := by decide +kernel
theorem d_Sk_move_70 : decode cX4_move 70 = .ok (.getfield 34, 3) := by decide +kernel
theorem d_Sk_move_73 : decode cX4_move 73 = .ok (.arraylength, 1) := by decide +kernel
theorem d_Sk_move_74 : decode cX4_move 74 = .ok (.if_icmp .ge 29, 3) := by decide +kernel
theorem d_Sk_move_77 : decode cX4_move 77 = .ok (.aload_n 0, 1) := by decide +kernel
theorem d_Sk_move_78 : decode cX4_move 78 = .ok (.getfield 34, 3) := by decide +kernel
theorem d_Sk_move_81 : decode cX4_move 81 = .ok (.aload_n 0, 1) := by decide +kernel
theorem d_Sk_move_82 : decode cX4_move 82 = .ok (.getfield 152, 3) := by decide +kernel
theorem d_Sk_move_85 : decode cX4_move 85 = .ok (.iload_n 1, 1) := by decide +kernel
theorem d_Sk_move_86 : decode cX4_move 86 = .ok (.iastore, 1) := by decide +kernel
theorem d_Sk_move_87 : decode cX4_move 87 = .ok (.aload_n 0, 1) := by decide +kernel
theorem d_Sk_move_88 : decode cX4_move 88 = .ok (.dup, 1) := by decide +kernel
theorem d_Sk_move_89 : decode cX4_move 89 = .ok (.getfield 152, 3) := by decide +kernel
theorem d_Sk_move_92 : decode cX4_move 92 = .ok (.iconst 1, 1) := by decide +kernel
theorem d_Sk_move_93 : decode cX4_move 93 = .ok (.iadd, 1) := by decide +kernel
theorem d_Sk_move_94 : decode cX4_move 94 = .ok (.putfield 152, 3) := by decide +kernel
theorem d_Sk_move_97 : decode cX4_move 97 = .ok (.iinc 3 1, 3) := by decide +kernel
theorem d_Sk_move_100 : decode cX4_move 100 = .ok (.goto (-47), 3) := by decide +kernel
theorem d_Sk_move_103 : decode cX4_move 103 = .ok (.aload_n 0, 1) := by decide +kernel
theorem d_Sk_move_104 : decode cX4_move 104 = .ok (.getfield 152, 3) := by decide +kernel
theorem d_Sk_move_107 : decode cX4_move 107 = .ok (.ireturn, 1) := by decide +kernel
set_option maxRecDepth 100000 in
set_option maxHeartbeats 4000000 in
theorem w_b_Sk_move_53 {X : CX} {KX : MS → Prop} {k : Nat} {a1 : Int32} {a2 : Int32} {a3 : Int32} {s : MS} {rec : Int32 → MS → Option (MS)} {sb : MS} (ok : Ok X cX4_move RX4 rm_Sk_move 4 false) (hexit : ∀ (z : MS), KX z → (∀ q, dm sb q → dm z q) → G X z 0 0 103 [(0, vR (some k))] []) (hrec : ∀ (v3 : Int32) (z : MS), (∀ q, dm sb q → dm z q) → ∀ y, rec v3 z = some y → KX y → G X z 0 0 53 [(0, vR (some k)), (1, vI a1), (2, vI a2), (3, vI v3)] []) (mb : ∀ q, dm sb q → dm s q) (ht : rf s.2.2 0 (some k) = some k) {res : MS} (h : b_Sk_move_53 k a1 a2 a3 s rec = some res) (hk : KX res) : G X s 0 0 53 [(0, vR (some k)), (1, vI a1), (2, vI a2), (3, vI a3)] [] := by
  unfold b_Sk_move_53 at h
  refine g_iload_n (i := 3) 3 ok d_Sk_move_53 rfl rfl ?_
  refine g_iload_n (i := 2) 2 ok d_Sk_move_54 rfl rfl ?_
  refine g_icmp_ge (tgt := 103) ok d_Sk_move_55 (by decide) (fun c6 => ?_) (fun c6 => ?_)
  · replace h := (if_pos c6).symm.trans h
    refine g_aload_n (i := 0) 0 ok d_Sk_move_58 rfl rfl ?_
    refine g_geti (s0 := 0) (j := 9) (ci := 4) (C := RX4) (T := TX4) (N := 14) ok ht lay_0 rfl inX4 (by decide) rfl tw_91 rfl d_Sk_move_59 ?_
    refine g_if_lt (tgt := 103) ok d_Sk_move_62 (by decide) (fun c7 => ?_) (fun c7 => ?_)
    · replace h := (if_pos c7).symm.trans h
      refine g_sub [0] rfl ?_
      cases h
      exact hexit s hk mb
    · replace h := (if_neg c7).symm.trans h
      refine g_aload_n (i := 0) 0 ok d_Sk_move_65 rfl rfl ?_
      refine g_geti (s0 := 0) (j := 9) (ci := 4) (C := RX4) (T := TX4) (N := 14) ok ht lay_0 rfl inX4 (by decide) rfl tw_91 rfl d_Sk_move_66 ?_
      refine g_aload_n (i := 0) 0 ok d_Sk_move_69 rfl rfl ?_
      refine g_getr (s0 := 0) (j := 4) (ci := 4) (C := RX4) (T := TX4) (N := 14) ok ht lay_0 rfl inX4 (by decide) rfl tw_86 rfl d_Sk_move_70 ?_
      obtain ⟨n8, hn9, h⟩ := bnd_go h
      refine g_alen ok hn9 (by decide) d_Sk_move_73 ?_
      refine g_icmp_ge (tgt := 103) ok d_Sk_move_74 (by decide) (fun c10 => ?_) (fun c10 => ?_)
      · replace h := (if_pos c10).symm.trans h
        refine g_aload_n (i := 0) 0 ok d_Sk_move_77 rfl rfl ?_
        refine g_getr (s0 := 0) (j := 4) (ci := 4) (C := RX4) (T := TX4) (N := 14) ok ht lay_0 rfl inX4 (by decide) rfl tw_86 rfl d_Sk_move_78 ?_
        refine g_aload_n (i := 0) 0 ok d_Sk_move_81 rfl rfl ?_
        refine g_geti (s0 := 0) (j := 9) (ci := 4) (C := RX4) (T := TX4) (N := 14) ok ht lay_0 rfl inX4 (by decide) rfl tw_91 rfl d_Sk_move_82 ?_
        refine g_iload_n (i := 1) 1 ok d_Sk_move_85 rfl rfl ?_
        obtain ⟨k11, hk12, h⟩ := bnd_go h
        refine g_iast ok hk12 d_Sk_move_86 ?_
        obtain ⟨s13, e14⟩ : ∃ z, wi s k11 (s.1 k 9).toNatClampNeg a1 = z := ⟨_, rfl⟩
        replace h := lt_go h e14
        have m15 := mo_wi e14
        rw [e14]
        refine g_aload_n (i := 0) 0 ok d_Sk_move_87 rfl rfl ?_
        refine g_dup ok d_Sk_move_88 rfl ?_
        refine g_geti (s0 := 0) (j := 9) (ci := 4) (C := RX4) (T := TX4) (N := 14) ok (rf_mono m15 ht) lay_0 rfl inX4 (by decide) rfl tw_91 rfl d_Sk_move_89 ?_
        refine g_iconst (v := (1 : Int32)) ok d_Sk_move_92 (by decide) ?_
        refine g_iadd ok d_Sk_move_93 ?_
        refine g_puti (s0 := 0) (j := 9) (ci := 4) (C := RX4) (T := TX4) (N := 14) ok (rf_mono m15 ht) lay_0 rfl inX4 (by decide) rfl tw_91 rfl tyX4_ok nmX4 rfl (Or.inl rfl) d_Sk_move_94 ?_
        obtain ⟨s16, e17⟩ : ∃ z, wi s13 k 9 ((s13.1 k 9) + (1 : Int32)) = z := ⟨_, rfl⟩
        replace h := lt_go h e17
        have m18 := mo_wi e17
        rw [e17]
        obtain ⟨x19, e20⟩ : ∃ z, a3 + (1 : Int32) = z := ⟨_, rfl⟩
        replace h := lt_go h e20
        refine g_iinc (i := 3) (v := x19) 3 [(3, vI x19), (0, vR (some k)), (1, vI a1), (2, vI a2)] ok d_Sk_move_97 rfl (by rw [← e20]; rfl) (by decide) rfl ?_
        refine g_goto (tgt := 53) ok d_Sk_move_100 (by decide) ?_
        refine g_sub [1, 2, 3, 0] rfl ?_
        exact hrec x19 s16 (fun z hz => m18 z ((fun z hz => m15 z (mb z hz)) z hz)) _ h hk
      · replace h := (if_neg c10).symm.trans h
        refine g_sub [0] rfl ?_
        cases h
        exact hexit s hk mb
  · replace h := (if_neg c6).symm.trans h
    refine g_sub [0] rfl ?_
    cases h
    exact hexit s hk mb
theorem wx_l_Sk_move_53 {X : CX} {KX : MS → Prop} {k : Nat} {a1 : Int32} {a2 : Int32} {sb : MS} (ok : Ok X cX4_move RX4 rm_Sk_move 4 false) (hexit : ∀ (z : MS), KX z → (∀ q, dm sb q → dm z q) → G X z 0 0 103 [(0, vR (some k))] []) (htb : rf sb.2.2 0 (some k) = some k) : ∀ (n : Nat) (a3 : Int32) (s : MS), (∀ q, dm sb q → dm s q) → ∀ (res : MS), l_Sk_move_53 k a1 a2 n a3 s = some res → KX res → G X s 0 0 53 [(0, vR (some k)), (1, vI a1), (2, vI a2), (3, vI a3)] [] := by
  intro n
  induction n with
  | zero => intro _ s _ res h; cases h
  | succ n ih =>
    intro a3 s mb res h hk
    exact w_b_Sk_move_53 ok hexit (fun v3 z hz y h2 hk2 => ih v3 z hz y h2 hk2) mb (rf_mono mb htb) h hk
theorem w_l_Sk_move_53 {X : CX} {KX : MS → Prop} {k : Nat} {a1 : Int32} {a2 : Int32} {sb : MS} (ok : Ok X cX4_move RX4 rm_Sk_move 4 false) (hexit : ∀ (z : MS), KX z → (∀ q, dm sb q → dm z q) → G X z 0 0 103 [(0, vR (some k))] []) (mb : ∀ q, dm sb q → dm sb q) (htb : rf sb.2.2 0 (some k) = some k) (n : Nat) (a3 : Int32) {res : MS} (h : l_Sk_move_53 k a1 a2 n a3 sb = some res) (hk : KX res) : G X sb 0 0 53 [(0, vR (some k)), (1, vI a1), (2, vI a2), (3, vI a3)] [] := wx_l_Sk_move_53 ok hexit htb n a3 sb mb res h hk
set_option maxRecDepth 100000 in
set_option maxHeartbeats 4000000 in
theorem w_Sk_move {X : CX} {KX : Nat × Int32 × MS → Prop} {k : Nat} {a1 : Int32} {a2 : Int32} {s : MS} (ok : Ok X cX4_move RX4 rm_Sk_move 4 false) (hret : ∀ r : Nat × Int32 × MS, KX r → Fix X (some .int) 1 6 false (tcode r.1) (some (vI r.2.1)) r.2.2)   (ht : rf s.2.2 0 (some k) = some k) {res : Nat × Int32 × MS} (h : f_Sk_move k a1 a2 s = some res) (hk : KX res) : G X s 0 0 0 [(0, vR (some k)), (1, vI a1), (2, vI a2)] [] := by
  unfold f_Sk_move at h
  refine g_iload_n (i := 1) 1 ok d_Sk_move_0 rfl rfl ?_
  refine g_iconst (v := (0 : Int32)) ok d_Sk_move_1 (by decide) ?_
  refine g_bipush (v := (6 : Int32)) ok d_Sk_move_2 (by decide) ?_
  refine g_invS (rm2 := rm_Sk_isOut) (As := [vI a1, vI (0 : Int32), vI (6 : Int32)]) (rest := []) ok (c_Sk_isOut X.1.2.1) cm_Sk_isOut cs_Sk_isOut tw_149 ⟨rfl, rfl⟩ ⟨le_t rfl, le_t rfl⟩ ⟨rfl, le_t rfl⟩ ⟨le_t rfl, le_t rfl⟩ d_Sk_move_4 rfl (fun m1 => ?_)
  show G X s 0 0 7 [(0, vR (some k)), (1, vI a1), (2, vI a2)] [vI (f_Sk_isOut a1 (0 : Int32) (6 : Int32))]
  refine g_if_ne (tgt := 20) ok d_Sk_move_7 (by decide) (fun c2 => ?_) (fun c2 => ?_)
  · replace h := (if_pos c2).symm.trans h
    refine g_iload_n (i := 2) 2 ok d_Sk_move_10 rfl rfl ?_
    refine g_iconst (v := (1 : Int32)) ok d_Sk_move_11 (by decide) ?_
    refine g_bipush (v := (10 : Int32)) ok d_Sk_move_12 (by decide) ?_
    refine g_invS (rm2 := rm_Sk_isOut) (As := [vI a2, vI (1 : Int32), vI (10 : Int32)]) (rest := []) ok (c_Sk_isOut X.1.2.1) cm_Sk_isOut cs_Sk_isOut tw_149 ⟨rfl, rfl⟩ ⟨le_t rfl, le_t rfl⟩ ⟨rfl, le_t rfl⟩ ⟨le_t rfl, le_t rfl⟩ d_Sk_move_14 rfl (fun m3 => ?_)
    show G X s 0 0 17 [(0, vR (some k)), (1, vI a1), (2, vI a2)] [vI (f_Sk_isOut a2 (1 : Int32) (10 : Int32))]
    refine g_if_eq (tgt := 30) ok d_Sk_move_17 (by decide) (fun c4 => ?_) (fun c4 => ?_)
    · replace h := (if_pos c4).symm.trans h
      refine g_aload_n (i := 0) 0 ok d_Sk_move_30 rfl rfl ?_
      refine g_geti (s0 := 0) (j := 9) (ci := 4) (C := RX4) (T := TX4) (N := 14) ok ht lay_0 rfl inX4 (by decide) rfl tw_91 rfl d_Sk_move_31 ?_
      refine g_iload_n (i := 2) 2 ok d_Sk_move_34 rfl rfl ?_
      refine g_iadd ok d_Sk_move_35 ?_
      refine g_bipush (v := (40 : Int32)) ok d_Sk_move_36 (by decide) ?_
      refine g_icmp_le (tgt := 51) ok d_Sk_move_38 (by decide) (fun c5 => ?_) (fun c5 => ?_)
      · replace h := (if_pos c5).symm.trans h
        cases h
        exact g_throw (ik := 73) (is := 155) (ic := 77) (cls := "java/lang/IllegalStateException") (text := "too many moves") (names := xnames) ok (hret _ hk) xf_IllegalStateException xf_names tw_291 tw_9 (List.mem_of_getElem? (i := 22) rfl) xa_IllegalStateException xg_IllegalStateException d_Sk_move_41 d_Sk_move_44 d_Sk_move_45 d_Sk_move_47 d_Sk_move_50 ⟨le_t rfl, le_t rfl⟩ rfl ⟨le_t rfl, le_t rfl⟩ (le_t rfl) (le_t rfl)
      · replace h := (if_neg c5).symm.trans h
        refine g_iconst (v := (0 : Int32)) ok d_Sk_move_51 (by decide) ?_
        refine g_istore_n (i := 3) [(3, vI (0 : Int32)), (0, vR (some k)), (1, vI a1), (2, vI a2)] ok d_Sk_move_52 rfl (by decide) rfl ?_
        refine g_sub [1, 2, 3, 0] rfl ?_
        obtain ⟨s22, hx, h⟩ := bnd_go h
        refine w_l_Sk_move_53 (KX := fun y => y = s22) ok (fun y0 he m21 => ?_) (fun _ hz => hz) ht _ _ hx rfl
        cases he
        refine g_aload_n (i := 0) 0 ok d_Sk_move_103 rfl rfl ?_
        refine g_geti (s0 := 0) (j := 9) (ci := 4) (C := RX4) (T := TX4) (N := 14) ok (rf_mono m21 ht) lay_0 rfl inX4 (by decide) rfl tw_91 rfl d_Sk_move_104 ?_
        cases h
        exact g_iretX ok (hret _ hk) (by decide) (by decide) d_Sk_move_107
    · replace h := (if_neg c4).symm.trans h
      cases h
      exact g_throw (ik := 62) (is := 150) (ic := 66) (cls := "java/lang/IllegalArgumentException") (text := "move or times out of range") (names := xnames) ok (hret _ hk) xf_IllegalArgumentException xf_names tw_271 tw_8 (List.mem_of_getElem? (i := 21) rfl) xa_IllegalArgumentException xg_IllegalArgumentException d_Sk_move_20 d_Sk_move_23 d_Sk_move_24 d_Sk_move_26 d_Sk_move_29 ⟨le_t rfl, le_t rfl⟩ rfl ⟨le_t rfl, le_t rfl⟩ (le_t rfl) (le_t rfl)
  · replace h := (if_neg c2).symm.trans h
    cases h
    exact g_throw (ik := 62) (is := 150) (ic := 66) (cls := "java/lang/IllegalArgumentException") (text := "move or times out of range") (names := xnames) ok (hret _ hk) xf_IllegalArgumentException xf_names tw_271 tw_8 (List.mem_of_getElem? (i := 21) rfl) xa_IllegalArgumentException xg_IllegalArgumentException d_Sk_move_20 d_Sk_move_23 d_Sk_move_24 d_Sk_move_26 d_Sk_move_29 ⟨le_t rfl, le_t rfl⟩ rfl ⟨le_t rfl, le_t rfl⟩ (le_t rfl) (le_t rfl)
theorem c_Sk_move {l : Launch} (hl : l.stackTraces = false) {k : Nat} {a1 : Int32} {a2 : Int32} {s : MS} (ht : rf s.2.2 0 (some k) = some k) {t : Nat} {r : Int32} {z : MS} (h : f_Sk_move k a1 a2 s = some (t, r, z)) : Cx l yX4_move (.code yX4_move cX4_move 4 (some .int)) rm_Sk_move 1 6 false [vR (some k), vI a1, vI a2] s (tcode t) (some (vI r)) z :=
  Cx.of hl rfl (by decide +kernel) ⟨rfl, le_t rfl⟩ (fun X ok fn _ _ => w_Sk_move (KX := fun y => y = (t, r, z)) ok (fun y hy => by subst hy; exact fn) ht h rfl)
abbrev rm_Sk_takes : Room := { frames := 6, cells := 1, slots := 6, locals := 90 }
theorem cm_Sk_takes : cfM yX4_takes cX4_takes 5 (some .int) 1 := ⟨tw_703, tw_1, by decide, by decide, by decide +kernel⟩
theorem cv_Sk_takes : cfV yX4_takes := ⟨tw_701, tw_702⟩
theorem d_Sk_takes_0 : decode cX4_takes 0 = .ok (.aload_n 0, 1) := by decide +kernel
theorem d_Sk_takes_1 : decode cX4_takes 1 = .ok (.iload_n 1, 1) := by decide +kernel
theorem d_Sk_takes_2 : decode cX4_takes 2 = .ok (.invokevirtual 157, 3) := by decide +kernel
theorem d_Sk_takes_5 : decode cX4_takes 5 = .ok (.astore_n 2, 1) := by decide +kernel
theorem d_Sk_takes_6 : decode cX4_takes 6 = .ok (.aload_n 2, 1) := by decide +kernel
theorem d_Sk_takes_7 : decode cX4_takes 7 = .ok (.ifnonnull 13, 3) := by decide +kernel
theorem d_Sk_takes_10 : decode cX4_takes 10 = .ok (.new 51, 3) := by decide +kernel
theorem d_Sk_takes_13 : decode cX4_takes 13 = .ok (.dup, 1) := by decide +kernel
theorem d_Sk_takes_14 : decode cX4_takes 14 = .ok (.ldc 161, 2) := by decide +kernel
theorem d_Sk_takes_16 : decode cX4_takes 16 = .ok (.invokespecial 55, 3) := by decide +kernel
theorem d_Sk_takes_19 : decode cX4_takes 19 = .ok (.athrow, 1) := by decide +kernel
theorem d_Sk_takes_20 : decode cX4_takes 20 = .ok (.aload_n 2, 1) := by decide +kernel
theorem d_Sk_takes_21 : decode cX4_takes 21 = .ok (.getfield 163, 3) := by decide +kernel
theorem d_Sk_takes_24 : decode cX4_takes 24 = .ok (.ifCond .ne 15, 3) := by decide +kernel
theorem d_Sk_takes_27 : decode cX4_takes 27 = .ok (.aload_n 0, 1) := by decide +kernel
theorem d_Sk_takes_28 : decode cX4_takes 28 = .ok (.aload_n 2, 1) := by decide +kernel
theorem d_Sk_takes_29 : decode cX4_takes 29 = .ok (.getfield 166, 3) := by decide +kernel
theorem d_Sk_takes_32 : decode cX4_takes 32 = .ok (.invokevirtual 169, 3) := by decide +kernel
theorem d_Sk_takes_35 : decode cX4_takes 35 = .ok (.iconst (-1), 1) := by decide +kernel
theorem d_Sk_takes_36 : decode cX4_takes 36 = .ok (.if_icmp .eq 5, 3) := by decide +kernel
theorem d_Sk_takes_39 : decode cX4_takes 39 = .ok (.iconst (-1), 1) := by decide +kernel
theorem d_Sk_takes_40 : decode cX4_takes 40 = .ok (.ireturn, 1) := by decide +kernel
theorem d_Sk_takes_41 : decode cX4_takes 41 = .ok (.iconst 0, 1) := by decide +kernel
theorem d_Sk_takes_42 : decode cX4_takes 42 = .ok (.istore_n 3, 1) := by decide +kernel
theorem d_Sk_takes_43 : decode cX4_takes 43 = .ok (.iconst 1, 1) := by decide +kernel
theorem d_Sk_takes_44 : decode cX4_takes 44 = .ok (.istore 4, 2) := by decide +kernel
theorem d_Sk_takes_46 : decode cX4_takes 46 = .ok (.iload 4, 2) := by decide +kernel
theorem d_Sk_takes_48 : decode cX4_takes 48 = .ok (.aload_n 0, 1) := by decide +kernel
theorem d_Sk_takes_49 : decode cX4_takes 49 = .ok (.getfield 39, 3) := by decide +kernel
theorem d_Sk_takes_52 : decode cX4_takes 52 = .ok (.getfield 172, 3) := by decide +kernel
theorem d_Sk_takes_55 : decode cX4_takes 55 = .ok (.if_icmp .gt 46, 3) := by decide +kernel
theorem d_Sk_takes_58 : decode cX4_takes 58 = .ok (.iload_n 3, 1) := by decide +kernel
theorem d_Sk_takes_59 : decode cX4_takes 59 = .ok (.aload_n 0, 1) := by decide +kernel
theorem d_Sk_takes_60 : decode cX4_takes 60 = .ok (.getfield 10, 3) := by decide +kernel
theorem d_Sk_takes_63 : decode cX4_takes 63 = .ok (.aload_n 0, 1) := by decide +kernel
theorem d_Sk_takes_64 : decode cX4_takes 64 = .ok (.getfield 39, 3) := by decide +kernel
theorem d_Sk_takes_67 : decode cX4_takes 67 = .ok (.iload 4, 2) := by decide +kernel
theorem d_Sk_takes_69 : decode cX4_takes 69 = .ok (.iconst 1, 1) := by decide +kernel
theorem d_Sk_takes_70 : decode cX4_takes 70 = .ok (.isub, 1) := by decide +kernel
theorem d_Sk_takes_71 : decode cX4_takes 71 = .ok (.invokevirtual 175, 3) := by decide +kernel
theorem d_Sk_takes_74 : decode cX4_takes 74 = .ok (.aload_n 0, 1) := by decide +kernel
theorem d_Sk_takes_75 : decode cX4_takes 75 = .ok (.getfield 39, 3) := by decide +kernel
theorem d_Sk_takes_78 : decode cX4_takes 78 = .ok (.iload 4, 2) := by decide +kernel
theorem d_Sk_takes_80 : decode cX4_takes 80 = .ok (.invokevirtual 175, 3) := by decide +kernel
theorem d_Sk_takes_83 : decode cX4_takes 83 = .ok (.aload_n 0, 1) := by decide +kernel
theorem d_Sk_takes_84 : decode cX4_takes 84 = .ok (.getfield 10, 3) := by decide +kernel
theorem d_Sk_takes_87 : decode cX4_takes 87 = .ok (.getfield 97, 3) := by decide +kernel
theorem d_Sk_takes_90 : decode cX4_takes 90 = .ok (.invokevirtual 178, 3) := by decide +kernel
theorem d_Sk_takes_93 : decode cX4_takes 93 = .ok (.iadd, 1) := by decide +kernel
theorem d_Sk_takes_94 : decode cX4_takes 94 = .ok (.istore_n 3, 1) := by decide +kernel
theorem d_Sk_takes_95 : decode cX4_takes 95 = .ok (.iinc 4 1, 3) := by decide +kernel
theorem d_Sk_takes_98 : decode cX4_takes 98 = .ok (.goto (-52), 3) := by decide +kernel
theorem d_Sk_takes_101 : decode cX4_takes 101 = .ok (.iload_n 3, 1) := by decide +kernel
theorem d_Sk_takes_102 : decode cX4_takes 102 = .ok (.ireturn, 1) := by decide +kernel
set_option maxRecDepth 100000 in
set_option maxHeartbeats 4000000 in
theorem w_b_Sk_takes_46 {X : CX} {KX : Int32 → Prop} {k : Nat} {a3 : Int32} {a4 : Int32} {s : MS} {rec : Int32 → Int32 → Option (Int32)} (ok : Ok X cX4_takes RX4 rm_Sk_takes 5 false) (hexit : ∀ (e3 : Int32), KX e3 → G X s 0 0 101 [(0, vR (some k)), (3, vI e3)] []) (hrec : ∀ (v3 : Int32) (v4 : Int32), ∀ y, rec v3 v4 = some y → KX y → G X s 0 0 46 [(0, vR (some k)), (3, vI v3), (4, vI v4)] []) (ht : rf s.2.2 0 (some k) = some k) {res : Int32} (h : b_Sk_takes_46 k a3 a4 s rec = some res) (hk : KX res) : G X s 0 0 46 [(0, vR (some k)), (3, vI a3), (4, vI a4)] [] := by
  unfold b_Sk_takes_46 at h
  refine g_iload (i := 4) 2 ok d_Sk_takes_46 rfl ?_
  refine g_aload_n (i := 0) 0 ok d_Sk_takes_48 rfl rfl ?_
  refine g_getr (s0 := 0) (j := 5) (ci := 4) (C := RX4) (T := TX4) (N := 14) ok ht lay_0 rfl inX4 (by decide) rfl tw_87 rfl d_Sk_takes_49 ?_
  obtain ⟨k13, hk14, h⟩ := bnd_go h
  refine g_getiN (s0 := 12) (j := 4) (ci := 2) (C := RX2) (T := TX2) (N := 7) ok hk14 lay_12 rfl inX2 (by decide) rfl tw_64 rfl d_Sk_takes_52 ?_
  refine g_icmp_gt (tgt := 101) ok d_Sk_takes_55 (by decide) (fun c15 => ?_) (fun c15 => ?_)
  · replace h := (if_pos c15).symm.trans h
    refine g_sub [0, 1] rfl ?_
    cases h
    exact hexit a3 hk
  · replace h := (if_neg c15).symm.trans h
    refine g_iload_n (i := 3) 1 ok d_Sk_takes_58 rfl rfl ?_
    refine g_aload_n (i := 0) 0 ok d_Sk_takes_59 rfl rfl ?_
    refine g_getr (s0 := 0) (j := 0) (ci := 4) (C := RX4) (T := TX4) (N := 14) ok ht lay_0 rfl inX4 (by decide) rfl tw_82 rfl d_Sk_takes_60 ?_
    refine g_aload_n (i := 0) 0 ok d_Sk_takes_63 rfl rfl ?_
    refine g_getr (s0 := 0) (j := 5) (ci := 4) (C := RX4) (T := TX4) (N := 14) ok ht lay_0 rfl inX4 (by decide) rfl tw_87 rfl d_Sk_takes_64 ?_
    refine g_iload (i := 4) 2 ok d_Sk_takes_67 rfl ?_
    refine g_iconst (v := (1 : Int32)) ok d_Sk_takes_69 (by decide) ?_
    refine g_isub ok d_Sk_takes_70 ?_
    obtain ⟨x17, hc18, h⟩ := bnd_go h
    refine g_invVN (rm2 := rm_Pa_placeOf) (As := [vI (a4 - (1 : Int32))]) (rest := [vR (s.2.1 k 0), vI a3]) ok hk14 lay_12 rfl (c_Pa_placeOf X.1.2.1 (rf_self hk14) hc18) cm_Pa_placeOf cv_Pa_placeOf tw_410 ⟨rfl, rfl⟩ ⟨le_t rfl, le_t rfl⟩ ⟨rfl, le_t rfl⟩ ⟨le_t rfl, le_t rfl⟩ d_Sk_takes_71 rfl (fun m16 => ?_)
    show G X s 0 0 74 [(0, vR (some k)), (3, vI a3), (4, vI a4)] [vI x17, vR (s.2.1 k 0), vI a3]
    refine g_aload_n (i := 0) 0 ok d_Sk_takes_74 rfl rfl ?_
    refine g_getr (s0 := 0) (j := 5) (ci := 4) (C := RX4) (T := TX4) (N := 14) ok ht lay_0 rfl inX4 (by decide) rfl tw_87 rfl d_Sk_takes_75 ?_
    refine g_iload (i := 4) 2 ok d_Sk_takes_78 rfl ?_
    obtain ⟨x20, hc21, h⟩ := bnd_go h
    refine g_invVN (rm2 := rm_Pa_placeOf) (As := [vI a4]) (rest := [vI x17, vR (s.2.1 k 0), vI a3]) ok hk14 lay_12 rfl (c_Pa_placeOf X.1.2.1 (rf_self hk14) hc21) cm_Pa_placeOf cv_Pa_placeOf tw_410 ⟨rfl, rfl⟩ ⟨le_t rfl, le_t rfl⟩ ⟨rfl, le_t rfl⟩ ⟨le_t rfl, le_t rfl⟩ d_Sk_takes_80 rfl (fun m19 => ?_)
    show G X s 0 0 83 [(0, vR (some k)), (3, vI a3), (4, vI a4)] [vI x20, vI x17, vR (s.2.1 k 0), vI a3]
    refine g_aload_n (i := 0) 0 ok d_Sk_takes_83 rfl rfl ?_
    refine g_getr (s0 := 0) (j := 0) (ci := 4) (C := RX4) (T := TX4) (N := 14) ok ht lay_0 rfl inX4 (by decide) rfl tw_82 rfl d_Sk_takes_84 ?_
    obtain ⟨k22, hk23, h⟩ := bnd_go h
    refine g_getrN (s0 := 1) (j := 2) (ci := 0) (C := RX0) (T := TX0) (N := 5) ok hk23 lay_1 rfl inX0 (by decide) rfl tw_30 rfl d_Sk_takes_87 ?_
    obtain ⟨x25, hc26, h⟩ := bnd_go h
    refine g_invVN (rm2 := rm_Ci_taken) (As := [vI x17, vI x20, vR (s.2.1 k22 2)]) (rest := [vI a3]) ok hk23 lay_1 rfl (c_Ci_taken X.1.2.1 (rf_self hk23) hc26) cm_Ci_taken cv_Ci_taken tw_523 ⟨rfl, rfl⟩ ⟨le_t rfl, le_t rfl⟩ ⟨rfl, le_t rfl⟩ ⟨le_t rfl, le_t rfl⟩ d_Sk_takes_90 rfl (fun m24 => ?_)
    show G X s 0 0 93 [(0, vR (some k)), (3, vI a3), (4, vI a4)] [vI x25, vI a3]
    refine g_iadd ok d_Sk_takes_93 ?_
    obtain ⟨x27, e28⟩ : ∃ z, (a3 + x25) = z := ⟨_, rfl⟩
    replace h := lt_go h e28
    rw [e28]
    refine g_istore_n (i := 3) [(3, vI x27), (0, vR (some k)), (4, vI a4)] ok d_Sk_takes_94 rfl (by decide) rfl ?_
    obtain ⟨x29, e30⟩ : ∃ z, a4 + (1 : Int32) = z := ⟨_, rfl⟩
    replace h := lt_go h e30
    refine g_iinc (i := 4) (v := x29) 2 [(4, vI x29), (3, vI x27), (0, vR (some k))] ok d_Sk_takes_95 rfl (by rw [← e30]; rfl) (by decide) rfl ?_
    refine g_goto (tgt := 46) ok d_Sk_takes_98 (by decide) ?_
    refine g_sub [2, 1, 0] rfl ?_
    exact hrec x27 x29 _ h hk
theorem w_l_Sk_takes_46 {X : CX} {KX : Int32 → Prop} {k : Nat} {s : MS} (ok : Ok X cX4_takes RX4 rm_Sk_takes 5 false) (hexit : ∀ (e3 : Int32), KX e3 → G X s 0 0 101 [(0, vR (some k)), (3, vI e3)] []) (ht : rf s.2.2 0 (some k) = some k) : ∀ (n : Nat) (a3 : Int32) (a4 : Int32) {res : Int32}, l_Sk_takes_46 k s n a3 a4 = some res → KX res → G X s 0 0 46 [(0, vR (some k)), (3, vI a3), (4, vI a4)] [] := by
  intro n
  induction n with
  | zero => intro _ _ res h; cases h
  | succ n ih =>
    intro a3 a4 res h hk
    exact w_b_Sk_takes_46 ok hexit (fun v3 v4 y h2 hk2 => ih v3 v4 h2 hk2) ht h hk
set_option maxRecDepth 100000 in
set_option maxHeartbeats 4000000 in
theorem w_Sk_takes {X : CX} {KX : Nat × Int32 × MS → Prop} {k : Nat} {a1 : Int32} {s : MS} (ok : Ok X cX4_takes RX4 rm_Sk_takes 5 false) (hret : ∀ r : Nat × Int32 × MS, KX r → Fix X (some .int) 1 6 false (tcode r.1) (some (vI r.2.1)) r.2.2)   (ht : rf s.2.2 0 (some k) = some k) {res : Nat × Int32 × MS} (h : f_Sk_takes k a1 s = some res) (hk : KX res) : G X s 0 0 0 [(0, vR (some k)), (1, vI a1)] [] := by
  unfold f_Sk_takes at h
  refine g_aload_n (i := 0) 0 ok d_Sk_takes_0 rfl rfl ?_
  refine g_iload_n (i := 1) 1 ok d_Sk_takes_1 rfl rfl ?_
  obtain ⟨x2, hc3, h⟩ := bnd_go h
  refine g_invV (rm2 := rm_Sk_machineOf) (As := [vI a1]) (rest := []) ok ht lay_0 rfl (c_Sk_machineOf X.1.2.1 (rf_self ht) hc3) cm_Sk_machineOf cv_Sk_machineOf tw_415 ⟨rfl, rfl⟩ ⟨le_t rfl, le_t rfl⟩ ⟨rfl, le_t rfl⟩ ⟨le_t rfl, le_t rfl⟩ d_Sk_takes_2 rfl (fun m1 => ?_)
  show G X s 0 0 5 [(0, vR (some k)), (1, vI a1)] [vR x2]
  refine g_astore_n (i := 2) [(2, vR x2), (0, vR (some k)), (1, vI a1)] ok d_Sk_takes_5 rfl (by decide) rfl ?_
  refine g_aload_n (i := 2) 0 ok d_Sk_takes_6 rfl rfl ?_
  refine g_ifnonnull (tgt := 20) ok d_Sk_takes_7 (by decide) (fun c4 => ?_) (fun c4 => ?_)
  · replace h := (if_pos c4).symm.trans h
    cases h
    exact g_throw (ik := 51) (is := 161) (ic := 55) (cls := "java/lang/IndexOutOfBoundsException") (text := "no such machine") (names := xnames) ok (hret _ hk) xf_IndexOutOfBoundsException xf_names tw_203 tw_7 (List.mem_of_getElem? (i := 12) rfl) xa_IndexOutOfBoundsException xg_IndexOutOfBoundsException d_Sk_takes_10 d_Sk_takes_13 d_Sk_takes_14 d_Sk_takes_16 d_Sk_takes_19 ⟨le_t rfl, le_t rfl⟩ rfl ⟨le_t rfl, le_t rfl⟩ (le_t rfl) (le_t rfl)
  · replace h := (if_neg c4).symm.trans h
    refine g_aload_n (i := 2) 0 ok d_Sk_takes_20 rfl rfl ?_
    obtain ⟨k5, hk6, h⟩ := bnd_go h
    refine g_getiN (s0 := 11) (j := 4) (ci := 1) (C := RX1) (T := TX1) (N := 7) ok hk6 lay_11 rfl inX1 (by decide) rfl tw_454 rfl d_Sk_takes_21 ?_
    refine g_if_ne (tgt := 39) ok d_Sk_takes_24 (by decide) (fun c7 => ?_) (fun c7 => ?_)
    · replace h := (if_pos c7).symm.trans h
      refine g_aload_n (i := 0) 1 ok d_Sk_takes_27 rfl rfl ?_
      refine g_aload_n (i := 2) 0 ok d_Sk_takes_28 rfl rfl ?_
      refine g_getiN (s0 := 11) (j := 3) (ci := 1) (C := RX1) (T := TX1) (N := 7) ok hk6 lay_11 rfl inX1 (by decide) rfl tw_452 rfl d_Sk_takes_29 ?_
      obtain ⟨x11, s10, hc9, h⟩ := bnd2_go h
      refine g_invV (rm2 := rm_Sk_layDraft) (As := [vI (s.1 k5 3)]) (rest := []) ok ht lay_0 rfl (c_Sk_layDraft X.1.2.1 (rf_self ht) hc9) cm_Sk_layDraft cv_Sk_layDraft tw_496 ⟨rfl, rfl⟩ ⟨le_t rfl, le_t rfl⟩ ⟨rfl, le_t rfl⟩ ⟨le_t rfl, le_t rfl⟩ d_Sk_takes_32 rfl (fun m8 => ?_)
      show G X s10 0 0 35 [(2, vR x2), (0, vR (some k)), (1, vI a1)] [vI x11]
      refine g_iconst (v := (-1 : Int32)) ok d_Sk_takes_35 (by decide) ?_
      refine g_icmp_eq (tgt := 41) ok d_Sk_takes_36 (by decide) (fun c12 => ?_) (fun c12 => ?_)
      · replace h := (if_pos c12).symm.trans h
        refine g_iconst (v := (0 : Int32)) ok d_Sk_takes_41 (by decide) ?_
        refine g_istore_n (i := 3) [(3, vI (0 : Int32)), (2, vR x2), (0, vR (some k)), (1, vI a1)] ok d_Sk_takes_42 rfl (by decide) rfl ?_
        refine g_iconst (v := (1 : Int32)) ok d_Sk_takes_43 (by decide) ?_
        refine g_istore (i := 4) [(4, vI (1 : Int32)), (3, vI (0 : Int32)), (2, vR x2), (0, vR (some k)), (1, vI a1)] ok d_Sk_takes_44 (by decide) rfl ?_
        refine g_sub [3, 1, 0] rfl ?_
        obtain ⟨e31, hx, h⟩ := bnd_go h
        refine w_l_Sk_takes_46 (KX := fun y => y = e31) ok (fun y0 he => ?_) (rf_mono m8 ht) _ _ _ hx rfl
        cases he
        refine g_iload_n (i := 3) 1 ok d_Sk_takes_101 rfl rfl ?_
        cases h
        exact g_iretX ok (hret _ hk) (by decide) (by decide) d_Sk_takes_102
      · replace h := (if_neg c12).symm.trans h
        refine g_iconst (v := (-1 : Int32)) ok d_Sk_takes_39 (by decide) ?_
        cases h
        exact g_iretX ok (hret _ hk) (by decide) (by decide) d_Sk_takes_40
    · replace h := (if_neg c7).symm.trans h
      refine g_iconst (v := (-1 : Int32)) ok d_Sk_takes_39 (by decide) ?_
      cases h
      exact g_iretX ok (hret _ hk) (by decide) (by decide) d_Sk_takes_40
theorem c_Sk_takes {l : Launch} (hl : l.stackTraces = false) {k : Nat} {a1 : Int32} {s : MS} (ht : rf s.2.2 0 (some k) = some k) {t : Nat} {r : Int32} {z : MS} (h : f_Sk_takes k a1 s = some (t, r, z)) : Cx l yX4_takes (.code yX4_takes cX4_takes 5 (some .int)) rm_Sk_takes 1 6 false [vR (some k), vI a1] s (tcode t) (some (vI r)) z :=
  Cx.of hl rfl (by decide +kernel) ⟨rfl, le_t rfl⟩ (fun X ok fn _ _ => w_Sk_takes (KX := fun y => y = (t, r, z)) ok (fun y hy => by subst hy; exact fn) ht h rfl)
abbrev rm_Sk_file : Room := { frames := 6, cells := 3, slots := 94, locals := 141 }
theorem cm_Sk_file : cfM yX4_file cX4_file 6 (some .int) 3 := ⟨tw_480, tw_1, by decide, by decide, by decide +kernel⟩
theorem cv_Sk_file : cfV yX4_file := ⟨tw_478, tw_479⟩
theorem d_Sk_file_0 : decode cX4_file 0 = .ok (.aload_n 0, 1) := by decide +kernel
theorem d_Sk_file_1 : decode cX4_file 1 = .ok (.iload_n 1, 1) := by decide +kernel
theorem d_Sk_file_2 : decode cX4_file 2 = .ok (.invokevirtual 157, 3) := by decide +kernel
theorem d_Sk_file_5 : decode cX4_file 5 = .ok (.astore 4, 2) := by decide +kernel
theorem d_Sk_file_7 : decode cX4_file 7 = .ok (.aload 4, 2) := by decide +kernel
theorem d_Sk_file_9 : decode cX4_file 9 = .ok (.ifnonnull 13, 3) := by decide +kernel
theorem d_Sk_file_12 : decode cX4_file 12 = .ok (.new 51, 3) := by decide +kernel
theorem d_Sk_file_15 : decode cX4_file 15 = .ok (.dup, 1) := by decide +kernel
theorem d_Sk_file_16 : decode cX4_file 16 = .ok (.ldc 161, 2) := by decide +kernel
theorem d_Sk_file_18 : decode cX4_file 18 = .ok (.invokespecial 55, 3) := by decide +kernel
theorem d_Sk_file_21 : decode cX4_file 21 = .ok (.athrow, 1) := by decide +kernel
theorem d_Sk_file_22 : decode cX4_file 22 = .ok (.iload_n 2, 1) := by decide +kernel
theorem d_Sk_file_23 : decode cX4_file 23 = .ok (.aload_n 0, 1) := by decide +kernel
theorem d_Sk_file_24 : decode cX4_file 24 = .ok (.getfield 182, 3) := by decide +kernel
theorem d_Sk_file_27 : decode cX4_file 27 = .ok (.iconst 1, 1) := by decide +kernel
theorem d_Sk_file_28 : decode cX4_file 28 = .ok (.iadd, 1) := by decide +kernel
theorem d_Sk_file_29 : decode cX4_file 29 = .ok (.aload_n 0, 1) := by decide +kernel
theorem d_Sk_file_30 : decode cX4_file 30 = .ok (.getfield 182, 3) := by decide +kernel
theorem d_Sk_file_33 : decode cX4_file 33 = .ok (.sipush 200, 3) := by decide +kernel
theorem d_Sk_file_36 : decode cX4_file 36 = .ok (.iadd, 1) := by decide +kernel
theorem d_Sk_file_37 : decode cX4_file 37 = .ok (.invokestatic 58, 3) := by decide +kernel
theorem d_Sk_file_40 : decode cX4_file 40 = .ok (.ifCond .ne 12, 3) := by decide +kernel
theorem d_Sk_file_43 : decode cX4_file 43 = .ok (.iload_n 3, 1) := by decide +kernel
theorem d_Sk_file_44 : decode cX4_file 44 = .ok (.iconst 0, 1) := by decide +kernel
theorem d_Sk_file_45 : decode cX4_file 45 = .ok (.iconst 3, 1) := by decide +kernel
theorem d_Sk_file_46 : decode cX4_file 46 = .ok (.invokestatic 58, 3) := by decide +kernel
theorem d_Sk_file_49 : decode cX4_file 49 = .ok (.ifCond .eq 13, 3) := by decide +kernel
theorem d_Sk_file_52 : decode cX4_file 52 = .ok (.new 62, 3) := by decide +kernel
theorem d_Sk_file_55 : decode cX4_file 55 = .ok (.dup, 1) := by decide +kernel
theorem d_Sk_file_56 : decode cX4_file 56 = .ok (.ldc 185, 2) := by decide +kernel
theorem d_Sk_file_58 : decode cX4_file 58 = .ok (.invokespecial 66, 3) := by decide +kernel
theorem d_Sk_file_61 : decode cX4_file 61 = .ok (.athrow, 1) := by decide +kernel
theorem d_Sk_file_62 : decode cX4_file 62 = .ok (.aload_n 0, 1) := by decide +kernel
theorem d_Sk_file_63 : decode cX4_file 63 = .ok (.getfield 70, 3) := by decide +kernel
theorem d_Sk_file_66 : decode cX4_file 66 = .ok (.bipush 40, 2) := by decide +kernel
theorem d_Sk_file_68 : decode cX4_file 68 = .ok (.if_icmp .lt 13, 3) := by decide +kernel
theorem d_Sk_file_71 : decode cX4_file 71 = .ok (.new 73, 3) := by decide +kernel
theorem d_Sk_file_74 : decode cX4_file 74 = .ok (.dup, 1) := by decide +kernel
theorem d_Sk_file_75 : decode cX4_file 75 = .ok (.ldc 187, 2) := by decide +kernel
theorem d_Sk_file_77 : decode cX4_file 77 = .ok (.invokespecial 77, 3) := by decide +kernel
theorem d_Sk_file_80 : decode cX4_file 80 = .ok (.athrow, 1) := by decide +kernel
theorem d_Sk_file_81 : decode cX4_file 81 = .ok (.aload_n 0, 1) := by decide +kernel
theorem d_Sk_file_82 : decode cX4_file 82 = .ok (.getfield 39, 3) := by decide +kernel
theorem d_Sk_file_85 : decode cX4_file 85 = .ok (.aload_n 0, 1) := by decide +kernel
theorem d_Sk_file_86 : decode cX4_file 86 = .ok (.getfield 70, 3) := by decide +kernel
theorem d_Sk_file_89 : decode cX4_file 89 = .ok (.putfield 189, 3) := by decide +kernel
theorem d_Sk_file_92 : decode cX4_file 92 = .ok (.aload_n 0, 1) := by decide +kernel
theorem d_Sk_file_93 : decode cX4_file 93 = .ok (.getfield 39, 3) := by decide +kernel
theorem d_Sk_file_96 : decode cX4_file 96 = .ok (.iload_n 1, 1) := by decide +kernel
theorem d_Sk_file_97 : decode cX4_file 97 = .ok (.putfield 192, 3) := by decide +kernel
theorem d_Sk_file_100 : decode cX4_file 100 = .ok (.aload_n 0, 1) := by decide +kernel
theorem d_Sk_file_101 : decode cX4_file 101 = .ok (.getfield 39, 3) := by decide +kernel
theorem d_Sk_file_104 : decode cX4_file 104 = .ok (.iload_n 2, 1) := by decide +kernel
theorem d_Sk_file_105 : decode cX4_file 105 = .ok (.putfield 195, 3) := by decide +kernel
theorem d_Sk_file_108 : decode cX4_file 108 = .ok (.aload_n 0, 1) := by decide +kernel
theorem d_Sk_file_109 : decode cX4_file 109 = .ok (.getfield 39, 3) := by decide +kernel
theorem d_Sk_file_112 : decode cX4_file 112 = .ok (.iload_n 3, 1) := by decide +kernel
theorem d_Sk_file_113 : decode cX4_file 113 = .ok (.putfield 198, 3) := by decide +kernel
theorem d_Sk_file_116 : decode cX4_file 116 = .ok (.aload_n 0, 1) := by decide +kernel
theorem d_Sk_file_117 : decode cX4_file 117 = .ok (.aload 4, 2) := by decide +kernel
theorem d_Sk_file_119 : decode cX4_file 119 = .ok (.invokevirtual 201, 3) := by decide +kernel
theorem d_Sk_file_122 : decode cX4_file 122 = .ok (.istore 5, 2) := by decide +kernel
theorem d_Sk_file_124 : decode cX4_file 124 = .ok (.iload 5, 2) := by decide +kernel
theorem d_Sk_file_126 : decode cX4_file 126 = .ok (.ifCond .ge 8, 3) := by decide +kernel
theorem d_Sk_file_129 : decode cX4_file 129 = .ok (.iload 5, 2) := by decide +kernel
theorem d_Sk_file_131 : decode cX4_file 131 = .ok (.goto 9, 3) := by decide +kernel
theorem d_Sk_file_134 : decode cX4_file 134 = .ok (.aload_n 0, 1) := by decide +kernel
theorem d_Sk_file_135 : decode cX4_file 135 = .ok (.aload 4, 2) := by decide +kernel
theorem d_Sk_file_137 : decode cX4_file 137 = .ok (.invokevirtual 205, 3) := by decide +kernel
theorem d_Sk_file_140 : decode cX4_file 140 = .ok (.ireturn, 1) := by decide +kernel
set_option maxRecDepth 100000 in
set_option maxHeartbeats 4000000 in
theorem w_Sk_file {X : CX} {KX : Nat × Int32 × MS → Prop} {k : Nat} {a1 : Int32} {a2 : Int32} {a3 : Int32} {s : MS} (ok : Ok X cX4_file RX4 rm_Sk_file 6 true) (hret : ∀ r : Nat × Int32 × MS, KX r → Fix X (some .int) 3 94 true (tcode r.1) (some (vI r.2.1)) r.2.2)   (ht : rf s.2.2 0 (some k) = some k) {res : Nat × Int32 × MS} (h : f_Sk_file k a1 a2 a3 s = some res) (hk : KX res) : G X s 0 0 0 [(0, vR (some k)), (1, vI a1), (2, vI a2), (3, vI a3)] [] := by
  unfold f_Sk_file at h
  refine g_aload_n (i := 0) 0 ok d_Sk_file_0 rfl rfl ?_
  refine g_iload_n (i := 1) 1 ok d_Sk_file_1 rfl rfl ?_
  obtain ⟨x2, hc3, h⟩ := bnd_go h
  refine g_invV (rm2 := rm_Sk_machineOf) (As := [vI a1]) (rest := []) ok ht lay_0 rfl (c_Sk_machineOf X.1.2.1 (rf_self ht) hc3) cm_Sk_machineOf cv_Sk_machineOf tw_415 ⟨rfl, rfl⟩ ⟨le_t rfl, le_t rfl⟩ ⟨rfl, le_t rfl⟩ ⟨le_t rfl, le_t rfl⟩ d_Sk_file_2 rfl (fun m1 => ?_)
  show G X s 0 0 5 [(0, vR (some k)), (1, vI a1), (2, vI a2), (3, vI a3)] [vR x2]
  refine g_astore (i := 4) [(4, vR x2), (0, vR (some k)), (1, vI a1), (2, vI a2), (3, vI a3)] ok d_Sk_file_5 (by decide) rfl ?_
  refine g_aload (i := 4) 0 ok d_Sk_file_7 rfl ?_
  refine g_ifnonnull (tgt := 22) ok d_Sk_file_9 (by decide) (fun c4 => ?_) (fun c4 => ?_)
  · replace h := (if_pos c4).symm.trans h
    cases h
    exact g_throw (ik := 51) (is := 161) (ic := 55) (cls := "java/lang/IndexOutOfBoundsException") (text := "no such machine") (names := xnames) ok (hret _ hk) xf_IndexOutOfBoundsException xf_names tw_203 tw_7 (List.mem_of_getElem? (i := 12) rfl) xa_IndexOutOfBoundsException xg_IndexOutOfBoundsException d_Sk_file_12 d_Sk_file_15 d_Sk_file_16 d_Sk_file_18 d_Sk_file_21 ⟨le_t rfl, le_t rfl⟩ rfl ⟨le_t rfl, le_t rfl⟩ (le_t rfl) (le_t rfl)
  · replace h := (if_neg c4).symm.trans h
    refine g_iload_n (i := 2) 3 ok d_Sk_file_22 rfl rfl ?_
    refine g_aload_n (i := 0) 1 ok d_Sk_file_23 rfl rfl ?_
    refine g_geti (s0 := 0) (j := 10) (ci := 4) (C := RX4) (T := TX4) (N := 14) ok ht lay_0 rfl inX4 (by decide) rfl tw_92 rfl d_Sk_file_24 ?_
    refine g_iconst (v := (1 : Int32)) ok d_Sk_file_27 (by decide) ?_
    refine g_iadd ok d_Sk_file_28 ?_
    refine g_aload_n (i := 0) 1 ok d_Sk_file_29 rfl rfl ?_
    refine g_geti (s0 := 0) (j := 10) (ci := 4) (C := RX4) (T := TX4) (N := 14) ok ht lay_0 rfl inX4 (by decide) rfl tw_92 rfl d_Sk_file_30 ?_
    refine g_sipush (v := (200 : Int32)) ok d_Sk_file_33 (by decide) ?_
    refine g_iadd ok d_Sk_file_36 ?_
    refine g_invS (rm2 := rm_Sk_isOut) (As := [vI a2, vI ((s.1 k 10) + (1 : Int32)), vI ((s.1 k 10) + (200 : Int32))]) (rest := []) ok (c_Sk_isOut X.1.2.1) cm_Sk_isOut cs_Sk_isOut tw_149 ⟨rfl, rfl⟩ ⟨le_t rfl, le_t rfl⟩ ⟨rfl, le_t rfl⟩ ⟨le_t rfl, le_t rfl⟩ d_Sk_file_37 rfl (fun m5 => ?_)
    show G X s 0 0 40 [(4, vR x2), (0, vR (some k)), (1, vI a1), (2, vI a2), (3, vI a3)] [vI (f_Sk_isOut a2 ((s.1 k 10) + (1 : Int32)) ((s.1 k 10) + (200 : Int32)))]
    refine g_if_ne (tgt := 52) ok d_Sk_file_40 (by decide) (fun c6 => ?_) (fun c6 => ?_)
    · replace h := (if_pos c6).symm.trans h
      refine g_iload_n (i := 3) 4 ok d_Sk_file_43 rfl rfl ?_
      refine g_iconst (v := (0 : Int32)) ok d_Sk_file_44 (by decide) ?_
      refine g_iconst (v := (3 : Int32)) ok d_Sk_file_45 (by decide) ?_
      refine g_invS (rm2 := rm_Sk_isOut) (As := [vI a3, vI (0 : Int32), vI (3 : Int32)]) (rest := []) ok (c_Sk_isOut X.1.2.1) cm_Sk_isOut cs_Sk_isOut tw_149 ⟨rfl, rfl⟩ ⟨le_t rfl, le_t rfl⟩ ⟨rfl, le_t rfl⟩ ⟨le_t rfl, le_t rfl⟩ d_Sk_file_46 rfl (fun m7 => ?_)
      show G X s 0 0 49 [(4, vR x2), (0, vR (some k)), (1, vI a1), (2, vI a2), (3, vI a3)] [vI (f_Sk_isOut a3 (0 : Int32) (3 : Int32))]
      refine g_if_eq (tgt := 62) ok d_Sk_file_49 (by decide) (fun c8 => ?_) (fun c8 => ?_)
      · replace h := (if_pos c8).symm.trans h
        refine g_aload_n (i := 0) 1 ok d_Sk_file_62 rfl rfl ?_
        refine g_geti (s0 := 0) (j := 8) (ci := 4) (C := RX4) (T := TX4) (N := 14) ok ht lay_0 rfl inX4 (by decide) rfl tw_90 rfl d_Sk_file_63 ?_
        refine g_bipush (v := (40 : Int32)) ok d_Sk_file_66 (by decide) ?_
        refine g_icmp_lt (tgt := 81) ok d_Sk_file_68 (by decide) (fun c9 => ?_) (fun c9 => ?_)
        · replace h := (if_pos c9).symm.trans h
          refine g_aload_n (i := 0) 1 ok d_Sk_file_81 rfl rfl ?_
          refine g_getr (s0 := 0) (j := 5) (ci := 4) (C := RX4) (T := TX4) (N := 14) ok ht lay_0 rfl inX4 (by decide) rfl tw_87 rfl d_Sk_file_82 ?_
          refine g_aload_n (i := 0) 1 ok d_Sk_file_85 rfl rfl ?_
          refine g_geti (s0 := 0) (j := 8) (ci := 4) (C := RX4) (T := TX4) (N := 14) ok ht lay_0 rfl inX4 (by decide) rfl tw_90 rfl d_Sk_file_86 ?_
          obtain ⟨k10, hk11, h⟩ := bnd_go h
          refine g_putiN (s0 := 12) (j := 1) (ci := 2) (C := RX2) (T := TX2) (N := 7) ok hk11 lay_12 rfl inX2 (by decide) rfl tw_59 rfl tyX2_ok nmX2 rfl (Or.inl rfl) d_Sk_file_89 ?_
          obtain ⟨s12, e13⟩ : ∃ z, wi s k10 1 (s.1 k 8) = z := ⟨_, rfl⟩
          replace h := lt_go h e13
          have m14 := mo_wi e13
          rw [e13]
          refine g_aload_n (i := 0) 1 ok d_Sk_file_92 rfl rfl ?_
          refine g_getr (s0 := 0) (j := 5) (ci := 4) (C := RX4) (T := TX4) (N := 14) ok (rf_mono m14 ht) lay_0 rfl inX4 (by decide) rfl tw_87 rfl d_Sk_file_93 ?_
          refine g_iload_n (i := 1) 2 ok d_Sk_file_96 rfl rfl ?_
          obtain ⟨k15, hk16, h⟩ := bnd_go h
          refine g_putiN (s0 := 12) (j := 2) (ci := 2) (C := RX2) (T := TX2) (N := 7) ok hk16 lay_12 rfl inX2 (by decide) rfl tw_60 rfl tyX2_ok nmX2 rfl (Or.inl rfl) d_Sk_file_97 ?_
          obtain ⟨s17, e18⟩ : ∃ z, wi s12 k15 2 a1 = z := ⟨_, rfl⟩
          replace h := lt_go h e18
          have m19 := mo_wi e18
          rw [e18]
          refine g_aload_n (i := 0) 1 ok d_Sk_file_100 rfl rfl ?_
          refine g_getr (s0 := 0) (j := 5) (ci := 4) (C := RX4) (T := TX4) (N := 14) ok (rf_mono m19 (rf_mono m14 ht)) lay_0 rfl inX4 (by decide) rfl tw_87 rfl d_Sk_file_101 ?_
          refine g_iload_n (i := 2) 3 ok d_Sk_file_104 rfl rfl ?_
          obtain ⟨k20, hk21, h⟩ := bnd_go h
          refine g_putiN (s0 := 12) (j := 3) (ci := 2) (C := RX2) (T := TX2) (N := 7) ok hk21 lay_12 rfl inX2 (by decide) rfl tw_62 rfl tyX2_ok nmX2 rfl (Or.inl rfl) d_Sk_file_105 ?_
          obtain ⟨s22, e23⟩ : ∃ z, wi s17 k20 3 a2 = z := ⟨_, rfl⟩
          replace h := lt_go h e23
          have m24 := mo_wi e23
          rw [e23]
          refine g_aload_n (i := 0) 1 ok d_Sk_file_108 rfl rfl ?_
          refine g_getr (s0 := 0) (j := 5) (ci := 4) (C := RX4) (T := TX4) (N := 14) ok (rf_mono m24 (rf_mono m19 (rf_mono m14 ht))) lay_0 rfl inX4 (by decide) rfl tw_87 rfl d_Sk_file_109 ?_
          refine g_iload_n (i := 3) 4 ok d_Sk_file_112 rfl rfl ?_
          obtain ⟨k25, hk26, h⟩ := bnd_go h
          refine g_putiN (s0 := 12) (j := 5) (ci := 2) (C := RX2) (T := TX2) (N := 7) ok hk26 lay_12 rfl inX2 (by decide) rfl tw_65 rfl tyX2_ok nmX2 rfl (Or.inl rfl) d_Sk_file_113 ?_
          obtain ⟨s27, e28⟩ : ∃ z, wi s22 k25 5 a3 = z := ⟨_, rfl⟩
          replace h := lt_go h e28
          have m29 := mo_wi e28
          rw [e28]
          refine g_aload_n (i := 0) 1 ok d_Sk_file_116 rfl rfl ?_
          refine g_aload (i := 4) 0 ok d_Sk_file_117 rfl ?_
          obtain ⟨x33, s32, hc31, h⟩ := bnd2_go h
          refine g_invV (rm2 := rm_Sk_judge) (As := [vR x2]) (rest := []) ok (rf_mono m29 (rf_mono m24 (rf_mono m19 (rf_mono m14 ht)))) lay_0 rfl (c_Sk_judge X.1.2.1 (rf_self (rf_mono m29 (rf_mono m24 (rf_mono m19 (rf_mono m14 ht))))) hc31) cm_Sk_judge cv_Sk_judge tw_484 ⟨rfl, rfl⟩ ⟨le_t rfl, le_t rfl⟩ ⟨rfl, le_t rfl⟩ ⟨le_t rfl, le_t rfl⟩ d_Sk_file_119 rfl (fun m30 => ?_)
          show G X s32 0 0 122 [(4, vR x2), (0, vR (some k)), (1, vI a1), (2, vI a2), (3, vI a3)] [vI x33]
          refine g_istore (i := 5) [(5, vI x33), (4, vR x2), (0, vR (some k)), (1, vI a1), (2, vI a2), (3, vI a3)] ok d_Sk_file_122 (by decide) rfl ?_
          refine g_iload (i := 5) 0 ok d_Sk_file_124 rfl ?_
          refine g_if_ge (tgt := 134) ok d_Sk_file_126 (by decide) (fun c34 => ?_) (fun c34 => ?_)
          · replace h := (if_pos c34).symm.trans h
            refine g_iload (i := 5) 0 ok d_Sk_file_129 rfl ?_
            refine g_goto (tgt := 140) ok d_Sk_file_131 (by decide) ?_
            cases h
            exact g_iretX ok (hret _ hk) (by decide) (by decide) d_Sk_file_140
          · replace h := (if_neg c34).symm.trans h
            refine g_aload_n (i := 0) 2 ok d_Sk_file_134 rfl rfl ?_
            refine g_aload (i := 4) 1 ok d_Sk_file_135 rfl ?_
            refine g_sub [2] rfl ?_
            obtain ⟨x38, s37, hc36, h⟩ := bnd2_go h
            refine g_invVA (rm2 := rm_Sk_accept) (As := [vR x2]) (rest := []) ok (rf_mono m30 (rf_mono m29 (rf_mono m24 (rf_mono m19 (rf_mono m14 ht))))) lay_0 rfl (c_Sk_accept X.1.2.1 (rf_self (rf_mono m30 (rf_mono m29 (rf_mono m24 (rf_mono m19 (rf_mono m14 ht)))))) hc36) cm_Sk_accept cv_Sk_accept tw_558 ⟨rfl, rfl⟩ ⟨le_t rfl, le_t rfl⟩ ⟨rfl, le_t rfl⟩ ⟨le_t rfl, le_t rfl⟩ ⟨(rk_of (rf_mono m30 (rf_mono m29 (rf_mono m24 (rf_mono m19 (rf_mono m14 ht)))))), trivial⟩ trivial d_Sk_file_137 rfl (fun m35 => ?_)
            show G X s37 2 88 140 [(0, vR (some k))] [vI x38]
            cases h
            exact g_iretX ok (hret _ hk) (by decide) (by decide) d_Sk_file_140
        · replace h := (if_neg c9).symm.trans h
          cases h
          exact g_throw (ik := 73) (is := 187) (ic := 77) (cls := "java/lang/IllegalStateException") (text := "too many paths") (names := xnames) ok (hret _ hk) xf_IllegalStateException xf_names tw_291 tw_9 (List.mem_of_getElem? (i := 14) rfl) xa_IllegalStateException xg_IllegalStateException d_Sk_file_71 d_Sk_file_74 d_Sk_file_75 d_Sk_file_77 d_Sk_file_80 ⟨le_t rfl, le_t rfl⟩ rfl ⟨le_t rfl, le_t rfl⟩ (le_t rfl) (le_t rfl)
      · replace h := (if_neg c8).symm.trans h
        cases h
        exact g_throw (ik := 62) (is := 185) (ic := 66) (cls := "java/lang/IllegalArgumentException") (text := "time or urgency out of range") (names := xnames) ok (hret _ hk) xf_IllegalArgumentException xf_names tw_271 tw_8 (List.mem_of_getElem? (i := 13) rfl) xa_IllegalArgumentException xg_IllegalArgumentException d_Sk_file_52 d_Sk_file_55 d_Sk_file_56 d_Sk_file_58 d_Sk_file_61 ⟨le_t rfl, le_t rfl⟩ rfl ⟨le_t rfl, le_t rfl⟩ (le_t rfl) (le_t rfl)
    · replace h := (if_neg c6).symm.trans h
      cases h
      exact g_throw (ik := 62) (is := 185) (ic := 66) (cls := "java/lang/IllegalArgumentException") (text := "time or urgency out of range") (names := xnames) ok (hret _ hk) xf_IllegalArgumentException xf_names tw_271 tw_8 (List.mem_of_getElem? (i := 13) rfl) xa_IllegalArgumentException xg_IllegalArgumentException d_Sk_file_52 d_Sk_file_55 d_Sk_file_56 d_Sk_file_58 d_Sk_file_61 ⟨le_t rfl, le_t rfl⟩ rfl ⟨le_t rfl, le_t rfl⟩ (le_t rfl) (le_t rfl)
theorem c_Sk_file {l : Launch} (hl : l.stackTraces = false) {k : Nat} {a1 : Int32} {a2 : Int32} {a3 : Int32} {s : MS} (ht : rf s.2.2 0 (some k) = some k) {t : Nat} {r : Int32} {z : MS} (h : f_Sk_file k a1 a2 a3 s = some (t, r, z)) : Cx l yX4_file (.code yX4_file cX4_file 6 (some .int)) rm_Sk_file 3 94 true [vR (some k), vI a1, vI a2, vI a3] s (tcode t) (some (vI r)) z :=
  Cx.of hl rfl (by decide +kernel) ⟨rfl, le_t rfl⟩ (fun X ok fn _ _ => w_Sk_file (KX := fun y => y = (t, r, z)) ok (fun y hy => by subst hy; exact fn) ht h rfl)
abbrev rm_Sk_withdraw : Room := { frames := 6, cells := 1, slots := 6, locals := 90 }
theorem cm_Sk_withdraw : cfM yX4_withdraw cX4_withdraw 3 none 1 := ⟨tw_746, tw_1, by decide, by decide, by decide +kernel⟩
theorem cv_Sk_withdraw : cfV yX4_withdraw := ⟨tw_744, tw_745⟩
theorem d_Sk_withdraw_0 : decode cX4_withdraw 0 = .ok (.aload_n 0, 1) := by decide +kernel
theorem d_Sk_withdraw_1 : decode cX4_withdraw 1 = .ok (.iload_n 1, 1) := by decide +kernel
theorem d_Sk_withdraw_2 : decode cX4_withdraw 2 = .ok (.invokevirtual 208, 3) := by decide +kernel
theorem d_Sk_withdraw_5 : decode cX4_withdraw 5 = .ok (.astore_n 2, 1) := by decide +kernel
theorem d_Sk_withdraw_6 : decode cX4_withdraw 6 = .ok (.aload_n 2, 1) := by decide +kernel
theorem d_Sk_withdraw_7 : decode cX4_withdraw 7 = .ok (.ifnonnull 13, 3) := by decide +kernel
theorem d_Sk_withdraw_10 : decode cX4_withdraw 10 = .ok (.new 51, 3) := by decide +kernel
theorem d_Sk_withdraw_13 : decode cX4_withdraw 13 = .ok (.dup, 1) := by decide +kernel
theorem d_Sk_withdraw_14 : decode cX4_withdraw 14 = .ok (.ldc 212, 2) := by decide +kernel
theorem d_Sk_withdraw_16 : decode cX4_withdraw 16 = .ok (.invokespecial 55, 3) := by decide +kernel
theorem d_Sk_withdraw_19 : decode cX4_withdraw 19 = .ok (.athrow, 1) := by decide +kernel
theorem d_Sk_withdraw_20 : decode cX4_withdraw 20 = .ok (.aload_n 2, 1) := by decide +kernel
theorem d_Sk_withdraw_21 : decode cX4_withdraw 21 = .ok (.getfield 214, 3) := by decide +kernel
theorem d_Sk_withdraw_24 : decode cX4_withdraw 24 = .ok (.ifCond .eq 13, 3) := by decide +kernel
theorem d_Sk_withdraw_27 : decode cX4_withdraw 27 = .ok (.new 73, 3) := by decide +kernel
theorem d_Sk_withdraw_30 : decode cX4_withdraw 30 = .ok (.dup, 1) := by decide +kernel
theorem d_Sk_withdraw_31 : decode cX4_withdraw 31 = .ok (.ldc 215, 2) := by decide +kernel
theorem d_Sk_withdraw_33 : decode cX4_withdraw 33 = .ok (.invokespecial 77, 3) := by decide +kernel
theorem d_Sk_withdraw_36 : decode cX4_withdraw 36 = .ok (.athrow, 1) := by decide +kernel
theorem d_Sk_withdraw_37 : decode cX4_withdraw 37 = .ok (.aload_n 0, 1) := by decide +kernel
theorem d_Sk_withdraw_38 : decode cX4_withdraw 38 = .ok (.aload_n 2, 1) := by decide +kernel
theorem d_Sk_withdraw_39 : decode cX4_withdraw 39 = .ok (.iconst 3, 1) := by decide +kernel
theorem d_Sk_withdraw_40 : decode cX4_withdraw 40 = .ok (.invokevirtual 217, 3) := by decide +kernel
theorem d_Sk_withdraw_43 : decode cX4_withdraw 43 = .ok (.return_, 1) := by decide +kernel
set_option maxRecDepth 100000 in
set_option maxHeartbeats 4000000 in
theorem w_Sk_withdraw {X : CX} {KX : Nat × Int32 × MS → Prop} {k : Nat} {a1 : Int32} {s : MS} (ok : Ok X cX4_withdraw RX4 rm_Sk_withdraw 3 false) (hret : ∀ r : Nat × Int32 × MS, KX r → Fix X none 1 6 false (tcode r.1) none r.2.2)   (ht : rf s.2.2 0 (some k) = some k) {res : Nat × Int32 × MS} (h : f_Sk_withdraw k a1 s = some res) (hk : KX res) : G X s 0 0 0 [(0, vR (some k)), (1, vI a1)] [] := by
  unfold f_Sk_withdraw at h
  refine g_aload_n (i := 0) 0 ok d_Sk_withdraw_0 rfl rfl ?_
  refine g_iload_n (i := 1) 1 ok d_Sk_withdraw_1 rfl rfl ?_
  obtain ⟨x2, hc3, h⟩ := bnd_go h
  refine g_invV (rm2 := rm_Sk_pathOf) (As := [vI a1]) (rest := []) ok ht lay_0 rfl (c_Sk_pathOf X.1.2.1 (rf_self ht) hc3) cm_Sk_pathOf cv_Sk_pathOf tw_145 ⟨rfl, rfl⟩ ⟨le_t rfl, le_t rfl⟩ ⟨rfl, le_t rfl⟩ ⟨le_t rfl, le_t rfl⟩ d_Sk_withdraw_2 rfl (fun m1 => ?_)
  show G X s 0 0 5 [(0, vR (some k)), (1, vI a1)] [vR x2]
  refine g_astore_n (i := 2) [(2, vR x2), (0, vR (some k)), (1, vI a1)] ok d_Sk_withdraw_5 rfl (by decide) rfl ?_
  refine g_aload_n (i := 2) 0 ok d_Sk_withdraw_6 rfl rfl ?_
  refine g_ifnonnull (tgt := 20) ok d_Sk_withdraw_7 (by decide) (fun c4 => ?_) (fun c4 => ?_)
  · replace h := (if_pos c4).symm.trans h
    cases h
    exact g_throw (ik := 51) (is := 212) (ic := 55) (cls := "java/lang/IndexOutOfBoundsException") (text := "no such path") (names := xnames) ok (hret _ hk) xf_IndexOutOfBoundsException xf_names tw_203 tw_7 (List.mem_of_getElem? (i := 20) rfl) xa_IndexOutOfBoundsException xg_IndexOutOfBoundsException d_Sk_withdraw_10 d_Sk_withdraw_13 d_Sk_withdraw_14 d_Sk_withdraw_16 d_Sk_withdraw_19 ⟨le_t rfl, le_t rfl⟩ rfl ⟨le_t rfl, le_t rfl⟩ (le_t rfl) (le_t rfl)
  · replace h := (if_neg c4).symm.trans h
    refine g_aload_n (i := 2) 0 ok d_Sk_withdraw_20 rfl rfl ?_
    obtain ⟨k5, hk6, h⟩ := bnd_go h
    refine g_getiN (s0 := 12) (j := 6) (ci := 2) (C := RX2) (T := TX2) (N := 7) ok hk6 lay_12 rfl inX2 (by decide) rfl tw_66 rfl d_Sk_withdraw_21 ?_
    refine g_if_eq (tgt := 37) ok d_Sk_withdraw_24 (by decide) (fun c7 => ?_) (fun c7 => ?_)
    · replace h := (if_pos c7).symm.trans h
      refine g_aload_n (i := 0) 1 ok d_Sk_withdraw_37 rfl rfl ?_
      refine g_aload_n (i := 2) 0 ok d_Sk_withdraw_38 rfl rfl ?_
      refine g_iconst (v := (3 : Int32)) ok d_Sk_withdraw_39 (by decide) ?_
      obtain ⟨s10, hc9, h⟩ := bnd_go h
      refine g_invV (rm2 := rm_Sk_finish) (As := [vR x2, vI (3 : Int32)]) (rest := []) ok ht lay_0 rfl (c_Sk_finish X.1.2.1 (rf_self ht) hc9) cm_Sk_finish cv_Sk_finish tw_411 ⟨rfl, rfl⟩ ⟨le_t rfl, le_t rfl⟩ ⟨rfl, le_t rfl⟩ ⟨le_t rfl, le_t rfl⟩ d_Sk_withdraw_40 rfl (fun m8 => ?_)
      show G X s10 0 0 43 [(2, vR x2), (0, vR (some k)), (1, vI a1)] []
      cases h
      exact g_vretX ok (hret _ hk) (by decide) (by decide) d_Sk_withdraw_43
    · replace h := (if_neg c7).symm.trans h
      cases h
      exact g_throw (ik := 73) (is := 215) (ic := 77) (cls := "java/lang/IllegalStateException") (text := "it does not wait") (names := xnames) ok (hret _ hk) xf_IllegalStateException xf_names tw_291 tw_9 (List.mem_of_getElem? (i := 23) rfl) xa_IllegalStateException xg_IllegalStateException d_Sk_withdraw_27 d_Sk_withdraw_30 d_Sk_withdraw_31 d_Sk_withdraw_33 d_Sk_withdraw_36 ⟨le_t rfl, le_t rfl⟩ rfl ⟨le_t rfl, le_t rfl⟩ (le_t rfl) (le_t rfl)
theorem c_Sk_withdraw {l : Launch} (hl : l.stackTraces = false) {k : Nat} {a1 : Int32} {s : MS} (ht : rf s.2.2 0 (some k) = some k) {t : Nat} {r : Int32} {z : MS} (h : f_Sk_withdraw k a1 s = some (t, r, z)) : Cx l yX4_withdraw (.code yX4_withdraw cX4_withdraw 3 none) rm_Sk_withdraw 1 6 false [vR (some k), vI a1] s (tcode t) none z :=
  Cx.of hl rfl (by decide +kernel) ⟨rfl, le_t rfl⟩ (fun X ok fn _ _ => w_Sk_withdraw (KX := fun y => y = (t, r, z)) ok (fun y hy => by subst hy; exact fn) ht h rfl)
abbrev rm_Sk_tick : Room := { frames := 6, cells := 1, slots := 6, locals := 133 }
theorem cm_Sk_tick : cfM yX4_tick cX4_tick 3 (some .int) 1 := ⟨tw_572, tw_1, by decide, by decide, by decide +kernel⟩
theorem cv_Sk_tick : cfV yX4_tick := ⟨tw_570, tw_571⟩
theorem d_Sk_tick_0 : decode cX4_tick 0 = .ok (.iload_n 1, 1) := by decide +kernel
theorem d_Sk_tick_1 : decode cX4_tick 1 = .ok (.iconst 1, 1) := by decide +kernel
theorem d_Sk_tick_2 : decode cX4_tick 2 = .ok (.bipush 50, 2) := by decide +kernel
theorem d_Sk_tick_4 : decode cX4_tick 4 = .ok (.invokestatic 58, 3) := by decide +kernel
theorem d_Sk_tick_7 : decode cX4_tick 7 = .ok (.ifCond .eq 13, 3) := by decide +kernel
theorem d_Sk_tick_10 : decode cX4_tick 10 = .ok (.new 62, 3) := by decide +kernel
theorem d_Sk_tick_13 : decode cX4_tick 13 = .ok (.dup, 1) := by decide +kernel
theorem d_Sk_tick_14 : decode cX4_tick 14 = .ok (.ldc 221, 2) := by decide +kernel
theorem d_Sk_tick_16 : decode cX4_tick 16 = .ok (.invokespecial 66, 3) := by decide +kernel
theorem d_Sk_tick_19 : decode cX4_tick 19 = .ok (.athrow, 1) := by decide +kernel
theorem d_Sk_tick_20 : decode cX4_tick 20 = .ok (.aload_n 0, 1) := by decide +kernel
theorem d_Sk_tick_21 : decode cX4_tick 21 = .ok (.getfield 182, 3) := by decide +kernel
theorem d_Sk_tick_24 : decode cX4_tick 24 = .ok (.iload_n 1, 1) := by decide +kernel
theorem d_Sk_tick_25 : decode cX4_tick 25 = .ok (.iadd, 1) := by decide +kernel
theorem d_Sk_tick_26 : decode cX4_tick 26 = .ok (.sipush 20000, 3) := by decide +kernel
theorem d_Sk_tick_29 : decode cX4_tick 29 = .ok (.if_icmp .le 13, 3) := by decide +kernel
theorem d_Sk_tick_32 : decode cX4_tick 32 = .ok (.new 73, 3) := by decide +kernel
theorem d_Sk_tick_35 : decode cX4_tick 35 = .ok (.dup, 1) := by decide +kernel
theorem d_Sk_tick_36 : decode cX4_tick 36 = .ok (.ldc 223, 2) := by decide +kernel
theorem d_Sk_tick_38 : decode cX4_tick 38 = .ok (.invokespecial 77, 3) := by decide +kernel
theorem d_Sk_tick_41 : decode cX4_tick 41 = .ok (.athrow, 1) := by decide +kernel
theorem d_Sk_tick_42 : decode cX4_tick 42 = .ok (.iconst 0, 1) := by decide +kernel
theorem d_Sk_tick_43 : decode cX4_tick 43 = .ok (.istore_n 2, 1) := by decide +kernel
theorem d_Sk_tick_44 : decode cX4_tick 44 = .ok (.iload_n 2, 1) := by decide +kernel
theorem d_Sk_tick_45 : decode cX4_tick 45 = .ok (.iload_n 1, 1) := by decide +kernel
theorem d_Sk_tick_46 : decode cX4_tick 46 = .ok (.if_icmp .ge 13, 3) := by decide +kernel
theorem d_Sk_tick_49 : decode cX4_tick 49 = .ok (.aload_n 0, 1) := by decide +kernel
theorem d_Sk_tick_50 : decode cX4_tick 50 = .ok (.invokevirtual 225, 3) := by decide +kernel
theorem d_Sk_tick_53 : decode cX4_tick 53 = .ok (.iinc 2 1, 3) := by decide +kernel
theorem d_Sk_tick_56 : decode cX4_tick 56 = .ok (.goto (-12), 3) := by decide +kernel
theorem d_Sk_tick_59 : decode cX4_tick 59 = .ok (.aload_n 0, 1) := by decide +kernel
theorem d_Sk_tick_60 : decode cX4_tick 60 = .ok (.getfield 182, 3) := by decide +kernel
theorem d_Sk_tick_63 : decode cX4_tick 63 = .ok (.ireturn, 1) := by decide +kernel
set_option maxRecDepth 100000 in
set_option maxHeartbeats 4000000 in
theorem w_b_Sk_tick_44 {X : CX} {KX : MS → Prop} {k : Nat} {a1 : Int32} {a2 : Int32} {s : MS} {rec : Int32 → MS → Option (MS)} {sb : MS} (ok : Ok X cX4_tick RX4 rm_Sk_tick 3 false) (hexit : ∀ (z : MS), KX z → (∀ q, dm sb q → dm z q) → G X z 0 0 59 [(0, vR (some k))] []) (hrec : ∀ (v2 : Int32) (z : MS), (∀ q, dm sb q → dm z q) → ∀ y, rec v2 z = some y → KX y → G X z 0 0 44 [(0, vR (some k)), (1, vI a1), (2, vI v2)] []) (mb : ∀ q, dm sb q → dm s q) (ht : rf s.2.2 0 (some k) = some k) {res : MS} (h : b_Sk_tick_44 k a1 a2 s rec = some res) (hk : KX res) : G X s 0 0 44 [(0, vR (some k)), (1, vI a1), (2, vI a2)] [] := by
  unfold b_Sk_tick_44 at h
  refine g_iload_n (i := 2) 2 ok d_Sk_tick_44 rfl rfl ?_
  refine g_iload_n (i := 1) 1 ok d_Sk_tick_45 rfl rfl ?_
  refine g_icmp_ge (tgt := 59) ok d_Sk_tick_46 (by decide) (fun c4 => ?_) (fun c4 => ?_)
  · replace h := (if_pos c4).symm.trans h
    refine g_aload_n (i := 0) 0 ok d_Sk_tick_49 rfl rfl ?_
    obtain ⟨s7, hc6, h⟩ := bnd_go h
    refine g_invV (rm2 := rm_Sk_step) (As := []) (rest := []) ok ht lay_0 rfl (c_Sk_step X.1.2.1 (rf_self ht) hc6) cm_Sk_step cv_Sk_step tw_575 ⟨rfl, rfl⟩ ⟨le_t rfl, le_t rfl⟩ ⟨rfl, le_t rfl⟩ ⟨le_t rfl, le_t rfl⟩ d_Sk_tick_50 rfl (fun m5 => ?_)
    show G X s7 0 0 53 [(0, vR (some k)), (1, vI a1), (2, vI a2)] []
    obtain ⟨x8, e9⟩ : ∃ z, a2 + (1 : Int32) = z := ⟨_, rfl⟩
    replace h := lt_go h e9
    refine g_iinc (i := 2) (v := x8) 2 [(2, vI x8), (0, vR (some k)), (1, vI a1)] ok d_Sk_tick_53 rfl (by rw [← e9]; rfl) (by decide) rfl ?_
    refine g_goto (tgt := 44) ok d_Sk_tick_56 (by decide) ?_
    refine g_sub [1, 2, 0] rfl ?_
    exact hrec x8 s7 (fun z hz => m5 z (mb z hz)) _ h hk
  · replace h := (if_neg c4).symm.trans h
    refine g_sub [0] rfl ?_
    cases h
    exact hexit s hk mb
theorem wx_l_Sk_tick_44 {X : CX} {KX : MS → Prop} {k : Nat} {a1 : Int32} {sb : MS} (ok : Ok X cX4_tick RX4 rm_Sk_tick 3 false) (hexit : ∀ (z : MS), KX z → (∀ q, dm sb q → dm z q) → G X z 0 0 59 [(0, vR (some k))] []) (htb : rf sb.2.2 0 (some k) = some k) : ∀ (n : Nat) (a2 : Int32) (s : MS), (∀ q, dm sb q → dm s q) → ∀ (res : MS), l_Sk_tick_44 k a1 n a2 s = some res → KX res → G X s 0 0 44 [(0, vR (some k)), (1, vI a1), (2, vI a2)] [] := by
  intro n
  induction n with
  | zero => intro _ s _ res h; cases h
  | succ n ih =>
    intro a2 s mb res h hk
    exact w_b_Sk_tick_44 ok hexit (fun v2 z hz y h2 hk2 => ih v2 z hz y h2 hk2) mb (rf_mono mb htb) h hk
theorem w_l_Sk_tick_44 {X : CX} {KX : MS → Prop} {k : Nat} {a1 : Int32} {sb : MS} (ok : Ok X cX4_tick RX4 rm_Sk_tick 3 false) (hexit : ∀ (z : MS), KX z → (∀ q, dm sb q → dm z q) → G X z 0 0 59 [(0, vR (some k))] []) (mb : ∀ q, dm sb q → dm sb q) (htb : rf sb.2.2 0 (some k) = some k) (n : Nat) (a2 : Int32) {res : MS} (h : l_Sk_tick_44 k a1 n a2 sb = some res) (hk : KX res) : G X sb 0 0 44 [(0, vR (some k)), (1, vI a1), (2, vI a2)] [] := wx_l_Sk_tick_44 ok hexit htb n a2 sb mb res h hk
set_option maxRecDepth 100000 in
set_option maxHeartbeats 4000000 in
theorem w_Sk_tick {X : CX} {KX : Nat × Int32 × MS → Prop} {k : Nat} {a1 : Int32} {s : MS} (ok : Ok X cX4_tick RX4 rm_Sk_tick 3 false) (hret : ∀ r : Nat × Int32 × MS, KX r → Fix X (some .int) 1 6 false (tcode r.1) (some (vI r.2.1)) r.2.2)   (ht : rf s.2.2 0 (some k) = some k) {res : Nat × Int32 × MS} (h : f_Sk_tick k a1 s = some res) (hk : KX res) : G X s 0 0 0 [(0, vR (some k)), (1, vI a1)] [] := by
  unfold f_Sk_tick at h
  refine g_iload_n (i := 1) 1 ok d_Sk_tick_0 rfl rfl ?_
  refine g_iconst (v := (1 : Int32)) ok d_Sk_tick_1 (by decide) ?_
  refine g_bipush (v := (50 : Int32)) ok d_Sk_tick_2 (by decide) ?_
  refine g_invS (rm2 := rm_Sk_isOut) (As := [vI a1, vI (1 : Int32), vI (50 : Int32)]) (rest := []) ok (c_Sk_isOut X.1.2.1) cm_Sk_isOut cs_Sk_isOut tw_149 ⟨rfl, rfl⟩ ⟨le_t rfl, le_t rfl⟩ ⟨rfl, le_t rfl⟩ ⟨le_t rfl, le_t rfl⟩ d_Sk_tick_4 rfl (fun m1 => ?_)
  show G X s 0 0 7 [(0, vR (some k)), (1, vI a1)] [vI (f_Sk_isOut a1 (1 : Int32) (50 : Int32))]
  refine g_if_eq (tgt := 20) ok d_Sk_tick_7 (by decide) (fun c2 => ?_) (fun c2 => ?_)
  · replace h := (if_pos c2).symm.trans h
    refine g_aload_n (i := 0) 0 ok d_Sk_tick_20 rfl rfl ?_
    refine g_geti (s0 := 0) (j := 10) (ci := 4) (C := RX4) (T := TX4) (N := 14) ok ht lay_0 rfl inX4 (by decide) rfl tw_92 rfl d_Sk_tick_21 ?_
    refine g_iload_n (i := 1) 1 ok d_Sk_tick_24 rfl rfl ?_
    refine g_iadd ok d_Sk_tick_25 ?_
    refine g_sipush (v := (20000 : Int32)) ok d_Sk_tick_26 (by decide) ?_
    refine g_icmp_le (tgt := 42) ok d_Sk_tick_29 (by decide) (fun c3 => ?_) (fun c3 => ?_)
    · replace h := (if_pos c3).symm.trans h
      cases h
      exact g_throw (ik := 73) (is := 223) (ic := 77) (cls := "java/lang/IllegalStateException") (text := "too late") (names := xnames) ok (hret _ hk) xf_IllegalStateException xf_names tw_291 tw_9 (List.mem_of_getElem? (i := 16) rfl) xa_IllegalStateException xg_IllegalStateException d_Sk_tick_32 d_Sk_tick_35 d_Sk_tick_36 d_Sk_tick_38 d_Sk_tick_41 ⟨le_t rfl, le_t rfl⟩ rfl ⟨le_t rfl, le_t rfl⟩ (le_t rfl) (le_t rfl)
    · replace h := (if_neg c3).symm.trans h
      refine g_iconst (v := (0 : Int32)) ok d_Sk_tick_42 (by decide) ?_
      refine g_istore_n (i := 2) [(2, vI (0 : Int32)), (0, vR (some k)), (1, vI a1)] ok d_Sk_tick_43 rfl (by decide) rfl ?_
      refine g_sub [1, 2, 0] rfl ?_
      obtain ⟨s11, hx, h⟩ := bnd_go h
      refine w_l_Sk_tick_44 (KX := fun y => y = s11) ok (fun y0 he m10 => ?_) (fun _ hz => hz) ht _ _ hx rfl
      cases he
      refine g_aload_n (i := 0) 0 ok d_Sk_tick_59 rfl rfl ?_
      refine g_geti (s0 := 0) (j := 10) (ci := 4) (C := RX4) (T := TX4) (N := 14) ok (rf_mono m10 ht) lay_0 rfl inX4 (by decide) rfl tw_92 rfl d_Sk_tick_60 ?_
      cases h
      exact g_iretX ok (hret _ hk) (by decide) (by decide) d_Sk_tick_63
  · replace h := (if_neg c2).symm.trans h
    cases h
    exact g_throw (ik := 62) (is := 221) (ic := 66) (cls := "java/lang/IllegalArgumentException") (text := "steps out of range") (names := xnames) ok (hret _ hk) xf_IllegalArgumentException xf_names tw_271 tw_8 (List.mem_of_getElem? (i := 15) rfl) xa_IllegalArgumentException xg_IllegalArgumentException d_Sk_tick_10 d_Sk_tick_13 d_Sk_tick_14 d_Sk_tick_16 d_Sk_tick_19 ⟨le_t rfl, le_t rfl⟩ rfl ⟨le_t rfl, le_t rfl⟩ (le_t rfl) (le_t rfl)
theorem c_Sk_tick {l : Launch} (hl : l.stackTraces = false) {k : Nat} {a1 : Int32} {s : MS} (ht : rf s.2.2 0 (some k) = some k) {t : Nat} {r : Int32} {z : MS} (h : f_Sk_tick k a1 s = some (t, r, z)) : Cx l yX4_tick (.code yX4_tick cX4_tick 3 (some .int)) rm_Sk_tick 1 6 false [vR (some k), vI a1] s (tcode t) (some (vI r)) z :=
  Cx.of hl rfl (by decide +kernel) ⟨rfl, le_t rfl⟩ (fun X ok fn _ _ => w_Sk_tick (KX := fun y => y = (t, r, z)) ok (fun y hy => by subst hy; exact fn) ht h rfl)
abbrev rm_Sk_lose : Room := { frames := 6, cells := 1, slots := 6, locals := 90 }
theorem cm_Sk_lose : cfM yX4_lose cX4_lose 4 (some .int) 1 := ⟨tw_624, tw_1, by decide, by decide, by decide +kernel⟩
theorem cv_Sk_lose : cfV yX4_lose := ⟨tw_622, tw_623⟩
theorem d_Sk_lose_0 : decode cX4_lose 0 = .ok (.aload_n 0, 1) := by decide +kernel
theorem d_Sk_lose_1 : decode cX4_lose 1 = .ok (.iload_n 1, 1) := by decide +kernel
theorem d_Sk_lose_2 : decode cX4_lose 2 = .ok (.invokevirtual 157, 3) := by decide +kernel
theorem d_Sk_lose_5 : decode cX4_lose 5 = .ok (.astore_n 2, 1) := by decide +kernel
theorem d_Sk_lose_6 : decode cX4_lose 6 = .ok (.aload_n 2, 1) := by decide +kernel
theorem d_Sk_lose_7 : decode cX4_lose 7 = .ok (.ifnonnull 13, 3) := by decide +kernel
theorem d_Sk_lose_10 : decode cX4_lose 10 = .ok (.new 51, 3) := by decide +kernel
theorem d_Sk_lose_13 : decode cX4_lose 13 = .ok (.dup, 1) := by decide +kernel
theorem d_Sk_lose_14 : decode cX4_lose 14 = .ok (.ldc 161, 2) := by decide +kernel
theorem d_Sk_lose_16 : decode cX4_lose 16 = .ok (.invokespecial 55, 3) := by decide +kernel
theorem d_Sk_lose_19 : decode cX4_lose 19 = .ok (.athrow, 1) := by decide +kernel
theorem d_Sk_lose_20 : decode cX4_lose 20 = .ok (.aload_n 0, 1) := by decide +kernel
theorem d_Sk_lose_21 : decode cX4_lose 21 = .ok (.aload_n 2, 1) := by decide +kernel
theorem d_Sk_lose_22 : decode cX4_lose 22 = .ok (.invokevirtual 228, 3) := by decide +kernel
theorem d_Sk_lose_25 : decode cX4_lose 25 = .ok (.astore_n 3, 1) := by decide +kernel
theorem d_Sk_lose_26 : decode cX4_lose 26 = .ok (.aload_n 3, 1) := by decide +kernel
theorem d_Sk_lose_27 : decode cX4_lose 27 = .ok (.ifnull 13, 3) := by decide +kernel
theorem d_Sk_lose_30 : decode cX4_lose 30 = .ok (.aload_n 2, 1) := by decide +kernel
theorem d_Sk_lose_31 : decode cX4_lose 31 = .ok (.getfield 166, 3) := by decide +kernel
theorem d_Sk_lose_34 : decode cX4_lose 34 = .ok (.invokestatic 232, 3) := by decide +kernel
theorem d_Sk_lose_37 : decode cX4_lose 37 = .ok (.ifCond .eq 13, 3) := by decide +kernel
theorem d_Sk_lose_40 : decode cX4_lose 40 = .ok (.new 73, 3) := by decide +kernel
theorem d_Sk_lose_43 : decode cX4_lose 43 = .ok (.dup, 1) := by decide +kernel
theorem d_Sk_lose_44 : decode cX4_lose 44 = .ok (.ldc 235, 2) := by decide +kernel
theorem d_Sk_lose_46 : decode cX4_lose 46 = .ok (.invokespecial 77, 3) := by decide +kernel
theorem d_Sk_lose_49 : decode cX4_lose 49 = .ok (.athrow, 1) := by decide +kernel
theorem d_Sk_lose_50 : decode cX4_lose 50 = .ok (.aload_n 0, 1) := by decide +kernel
theorem d_Sk_lose_51 : decode cX4_lose 51 = .ok (.aload_n 3, 1) := by decide +kernel
theorem d_Sk_lose_52 : decode cX4_lose 52 = .ok (.iconst 4, 1) := by decide +kernel
theorem d_Sk_lose_53 : decode cX4_lose 53 = .ok (.invokevirtual 217, 3) := by decide +kernel
theorem d_Sk_lose_56 : decode cX4_lose 56 = .ok (.aload_n 2, 1) := by decide +kernel
theorem d_Sk_lose_57 : decode cX4_lose 57 = .ok (.iconst 2, 1) := by decide +kernel
theorem d_Sk_lose_58 : decode cX4_lose 58 = .ok (.putfield 163, 3) := by decide +kernel
theorem d_Sk_lose_61 : decode cX4_lose 61 = .ok (.aload_n 2, 1) := by decide +kernel
theorem d_Sk_lose_62 : decode cX4_lose 62 = .ok (.aload_n 0, 1) := by decide +kernel
theorem d_Sk_lose_63 : decode cX4_lose 63 = .ok (.getfield 10, 3) := by decide +kernel
theorem d_Sk_lose_66 : decode cX4_lose 66 = .ok (.aload_n 2, 1) := by decide +kernel
theorem d_Sk_lose_67 : decode cX4_lose 67 = .ok (.getfield 166, 3) := by decide +kernel
theorem d_Sk_lose_70 : decode cX4_lose 70 = .ok (.bipush 100, 2) := by decide +kernel
theorem d_Sk_lose_72 : decode cX4_lose 72 = .ok (.irem, 1) := by decide +kernel
theorem d_Sk_lose_73 : decode cX4_lose 73 = .ok (.invokevirtual 237, 3) := by decide +kernel
theorem d_Sk_lose_76 : decode cX4_lose 76 = .ok (.putfield 240, 3) := by decide +kernel
theorem d_Sk_lose_79 : decode cX4_lose 79 = .ok (.aload_n 2, 1) := by decide +kernel
theorem d_Sk_lose_80 : decode cX4_lose 80 = .ok (.getfield 240, 3) := by decide +kernel
theorem d_Sk_lose_83 : decode cX4_lose 83 = .ok (.ireturn, 1) := by decide +kernel
set_option maxRecDepth 100000 in
set_option maxHeartbeats 4000000 in
theorem w_Sk_lose {X : CX} {KX : Nat × Int32 × MS → Prop} {k : Nat} {a1 : Int32} {s : MS} (ok : Ok X cX4_lose RX4 rm_Sk_lose 4 false) (hret : ∀ r : Nat × Int32 × MS, KX r → Fix X (some .int) 1 6 false (tcode r.1) (some (vI r.2.1)) r.2.2)   (ht : rf s.2.2 0 (some k) = some k) {res : Nat × Int32 × MS} (h : f_Sk_lose k a1 s = some res) (hk : KX res) : G X s 0 0 0 [(0, vR (some k)), (1, vI a1)] [] := by
  unfold f_Sk_lose at h
  refine g_aload_n (i := 0) 0 ok d_Sk_lose_0 rfl rfl ?_
  refine g_iload_n (i := 1) 1 ok d_Sk_lose_1 rfl rfl ?_
  obtain ⟨x2, hc3, h⟩ := bnd_go h
  refine g_invV (rm2 := rm_Sk_machineOf) (As := [vI a1]) (rest := []) ok ht lay_0 rfl (c_Sk_machineOf X.1.2.1 (rf_self ht) hc3) cm_Sk_machineOf cv_Sk_machineOf tw_415 ⟨rfl, rfl⟩ ⟨le_t rfl, le_t rfl⟩ ⟨rfl, le_t rfl⟩ ⟨le_t rfl, le_t rfl⟩ d_Sk_lose_2 rfl (fun m1 => ?_)
  show G X s 0 0 5 [(0, vR (some k)), (1, vI a1)] [vR x2]
  refine g_astore_n (i := 2) [(2, vR x2), (0, vR (some k)), (1, vI a1)] ok d_Sk_lose_5 rfl (by decide) rfl ?_
  refine g_aload_n (i := 2) 0 ok d_Sk_lose_6 rfl rfl ?_
  refine g_ifnonnull (tgt := 20) ok d_Sk_lose_7 (by decide) (fun c4 => ?_) (fun c4 => ?_)
  · replace h := (if_pos c4).symm.trans h
    cases h
    exact g_throw (ik := 51) (is := 161) (ic := 55) (cls := "java/lang/IndexOutOfBoundsException") (text := "no such machine") (names := xnames) ok (hret _ hk) xf_IndexOutOfBoundsException xf_names tw_203 tw_7 (List.mem_of_getElem? (i := 12) rfl) xa_IndexOutOfBoundsException xg_IndexOutOfBoundsException d_Sk_lose_10 d_Sk_lose_13 d_Sk_lose_14 d_Sk_lose_16 d_Sk_lose_19 ⟨le_t rfl, le_t rfl⟩ rfl ⟨le_t rfl, le_t rfl⟩ (le_t rfl) (le_t rfl)
  · replace h := (if_neg c4).symm.trans h
    refine g_aload_n (i := 0) 1 ok d_Sk_lose_20 rfl rfl ?_
    refine g_aload_n (i := 2) 0 ok d_Sk_lose_21 rfl rfl ?_
    obtain ⟨x6, hc7, h⟩ := bnd_go h
    refine g_invV (rm2 := rm_Sk_flownBy) (As := [vR x2]) (rest := []) ok ht lay_0 rfl (c_Sk_flownBy X.1.2.1 (rf_self ht) hc7) cm_Sk_flownBy cv_Sk_flownBy tw_141 ⟨rfl, rfl⟩ ⟨le_t rfl, le_t rfl⟩ ⟨rfl, le_t rfl⟩ ⟨le_t rfl, le_t rfl⟩ d_Sk_lose_22 rfl (fun m5 => ?_)
    show G X s 0 0 25 [(2, vR x2), (0, vR (some k)), (1, vI a1)] [vR x6]
    refine g_astore_n (i := 3) [(3, vR x6), (2, vR x2), (0, vR (some k)), (1, vI a1)] ok d_Sk_lose_25 rfl (by decide) rfl ?_
    refine g_aload_n (i := 3) 0 ok d_Sk_lose_26 rfl rfl ?_
    refine g_ifnull (tgt := 40) ok d_Sk_lose_27 (by decide) (fun c8 => ?_) (fun c8 => ?_)
    · replace h := (if_pos c8).symm.trans h
      cases h
      exact g_throw (ik := 73) (is := 235) (ic := 77) (cls := "java/lang/IllegalStateException") (text := "it does not fly, or is on the ground") (names := xnames) ok (hret _ hk) xf_IllegalStateException xf_names tw_291 tw_9 (List.mem_of_getElem? (i := 17) rfl) xa_IllegalStateException xg_IllegalStateException d_Sk_lose_40 d_Sk_lose_43 d_Sk_lose_44 d_Sk_lose_46 d_Sk_lose_49 ⟨le_t rfl, le_t rfl⟩ rfl ⟨le_t rfl, le_t rfl⟩ (le_t rfl) (le_t rfl)
    · replace h := (if_neg c8).symm.trans h
      refine g_aload_n (i := 2) 1 ok d_Sk_lose_30 rfl rfl ?_
      obtain ⟨k9, hk10, h⟩ := bnd_go h
      refine g_getiN (s0 := 11) (j := 3) (ci := 1) (C := RX1) (T := TX1) (N := 7) ok hk10 lay_11 rfl inX1 (by decide) rfl tw_452 rfl d_Sk_lose_31 ?_
      refine g_invS (rm2 := rm_Sk_isOnGround) (As := [vI (s.1 k9 3)]) (rest := []) ok (c_Sk_isOnGround X.1.2.1) cm_Sk_isOnGround cs_Sk_isOnGround tw_184 ⟨rfl, rfl⟩ ⟨le_t rfl, le_t rfl⟩ ⟨rfl, le_t rfl⟩ ⟨le_t rfl, le_t rfl⟩ d_Sk_lose_34 rfl (fun m11 => ?_)
      show G X s 0 0 37 [(3, vR x6), (2, vR x2), (0, vR (some k)), (1, vI a1)] [vI (f_Sk_isOnGround (s.1 k9 3))]
      refine g_if_eq (tgt := 50) ok d_Sk_lose_37 (by decide) (fun c12 => ?_) (fun c12 => ?_)
      · replace h := (if_pos c12).symm.trans h
        refine g_aload_n (i := 0) 2 ok d_Sk_lose_50 rfl rfl ?_
        refine g_aload_n (i := 3) 0 ok d_Sk_lose_51 rfl rfl ?_
        refine g_iconst (v := (4 : Int32)) ok d_Sk_lose_52 (by decide) ?_
        obtain ⟨s15, hc14, h⟩ := bnd_go h
        refine g_invV (rm2 := rm_Sk_finish) (As := [vR x6, vI (4 : Int32)]) (rest := []) ok ht lay_0 rfl (c_Sk_finish X.1.2.1 (rf_self ht) hc14) cm_Sk_finish cv_Sk_finish tw_411 ⟨rfl, rfl⟩ ⟨le_t rfl, le_t rfl⟩ ⟨rfl, le_t rfl⟩ ⟨le_t rfl, le_t rfl⟩ d_Sk_lose_53 rfl (fun m13 => ?_)
        show G X s15 0 0 56 [(3, vR x6), (2, vR x2), (0, vR (some k)), (1, vI a1)] []
        refine g_aload_n (i := 2) 1 ok d_Sk_lose_56 rfl rfl ?_
        refine g_iconst (v := (2 : Int32)) ok d_Sk_lose_57 (by decide) ?_
        refine g_putiN (s0 := 11) (j := 4) (ci := 1) (C := RX1) (T := TX1) (N := 7) ok (rf_mono m13 hk10) lay_11 rfl inX1 (by decide) rfl tw_454 rfl tyX1_ok nmX1 rfl (Or.inl rfl) d_Sk_lose_58 ?_
        obtain ⟨s16, e17⟩ : ∃ z, wi s15 k9 4 (2 : Int32) = z := ⟨_, rfl⟩
        replace h := lt_go h e17
        have m18 := mo_wi e17
        rw [e17]
        refine g_aload_n (i := 2) 1 ok d_Sk_lose_61 rfl rfl ?_
        refine g_aload_n (i := 0) 2 ok d_Sk_lose_62 rfl rfl ?_
        refine g_getr (s0 := 0) (j := 0) (ci := 4) (C := RX4) (T := TX4) (N := 14) ok (rf_mono m18 (rf_mono m13 ht)) lay_0 rfl inX4 (by decide) rfl tw_82 rfl d_Sk_lose_63 ?_
        refine g_aload_n (i := 2) 1 ok d_Sk_lose_66 rfl rfl ?_
        refine g_getiN (s0 := 11) (j := 3) (ci := 1) (C := RX1) (T := TX1) (N := 7) ok (rf_mono m18 (rf_mono m13 hk10)) lay_11 rfl inX1 (by decide) rfl tw_452 rfl d_Sk_lose_67 ?_
        refine g_bipush (v := (100 : Int32)) ok d_Sk_lose_70 (by decide) ?_
        refine g_irem ok d_Sk_lose_72 (by decide) ?_
        obtain ⟨k19, hk20, h⟩ := bnd_go h
        obtain ⟨x22, hc23, h⟩ := bnd_go h
        refine g_invVN (rm2 := rm_Ci_nearestSpot) (As := [vI ((s16.1 k9 3) - (s16.1 k9 3) / (100 : Int32) * (100 : Int32))]) (rest := [vR x2]) ok hk20 lay_1 rfl (c_Ci_nearestSpot X.1.2.1 (rf_self hk20) hc23) cm_Ci_nearestSpot cv_Ci_nearestSpot tw_626 ⟨rfl, rfl⟩ ⟨le_t rfl, le_t rfl⟩ ⟨rfl, le_t rfl⟩ ⟨le_t rfl, le_t rfl⟩ d_Sk_lose_73 rfl (fun m21 => ?_)
        show G X s16 0 0 76 [(3, vR x6), (2, vR x2), (0, vR (some k)), (1, vI a1)] [vI x22, vR x2]
        refine g_putiN (s0 := 11) (j := 6) (ci := 1) (C := RX1) (T := TX1) (N := 7) ok (rf_mono m18 (rf_mono m13 hk10)) lay_11 rfl inX1 (by decide) rfl tw_458 rfl tyX1_ok nmX1 rfl (Or.inl rfl) d_Sk_lose_76 ?_
        obtain ⟨s24, e25⟩ : ∃ z, wi s16 k9 6 x22 = z := ⟨_, rfl⟩
        replace h := lt_go h e25
        have m26 := mo_wi e25
        rw [e25]
        refine g_aload_n (i := 2) 1 ok d_Sk_lose_79 rfl rfl ?_
        refine g_getiN (s0 := 11) (j := 6) (ci := 1) (C := RX1) (T := TX1) (N := 7) ok (rf_mono m26 (rf_mono m18 (rf_mono m13 hk10))) lay_11 rfl inX1 (by decide) rfl tw_458 rfl d_Sk_lose_80 ?_
        cases h
        exact g_iretX ok (hret _ hk) (by decide) (by decide) d_Sk_lose_83
      · replace h := (if_neg c12).symm.trans h
        cases h
        exact g_throw (ik := 73) (is := 235) (ic := 77) (cls := "java/lang/IllegalStateException") (text := "it does not fly, or is on the ground") (names := xnames) ok (hret _ hk) xf_IllegalStateException xf_names tw_291 tw_9 (List.mem_of_getElem? (i := 17) rfl) xa_IllegalStateException xg_IllegalStateException d_Sk_lose_40 d_Sk_lose_43 d_Sk_lose_44 d_Sk_lose_46 d_Sk_lose_49 ⟨le_t rfl, le_t rfl⟩ rfl ⟨le_t rfl, le_t rfl⟩ (le_t rfl) (le_t rfl)
theorem c_Sk_lose {l : Launch} (hl : l.stackTraces = false) {k : Nat} {a1 : Int32} {s : MS} (ht : rf s.2.2 0 (some k) = some k) {t : Nat} {r : Int32} {z : MS} (h : f_Sk_lose k a1 s = some (t, r, z)) : Cx l yX4_lose (.code yX4_lose cX4_lose 4 (some .int)) rm_Sk_lose 1 6 false [vR (some k), vI a1] s (tcode t) (some (vI r)) z :=
  Cx.of hl rfl (by decide +kernel) ⟨rfl, le_t rfl⟩ (fun X ok fn _ _ => w_Sk_lose (KX := fun y => y = (t, r, z)) ok (fun y hy => by subst hy; exact fn) ht h rfl)
abbrev rm_Sk_hold : Room := { frames := 6, cells := 1, slots := 6, locals := 142 }
theorem cm_Sk_hold : cfM yX4_hold cX4_hold 5 (some .int) 2 := ⟨tw_633, tw_1, by decide, by decide, by decide +kernel⟩
theorem cv_Sk_hold : cfV yX4_hold := ⟨tw_631, tw_632⟩
theorem d_Sk_hold_0 : decode cX4_hold 0 = .ok (.aload_n 0, 1) := by decide +kernel
theorem d_Sk_hold_1 : decode cX4_hold 1 = .ok (.iload_n 1, 1) := by decide +kernel
theorem d_Sk_hold_2 : decode cX4_hold 2 = .ok (.invokevirtual 157, 3) := by decide +kernel
theorem d_Sk_hold_5 : decode cX4_hold 5 = .ok (.astore_n 3, 1) := by decide +kernel
theorem d_Sk_hold_6 : decode cX4_hold 6 = .ok (.aload_n 3, 1) := by decide +kernel
theorem d_Sk_hold_7 : decode cX4_hold 7 = .ok (.ifnonnull 13, 3) := by decide +kernel
theorem d_Sk_hold_10 : decode cX4_hold 10 = .ok (.new 51, 3) := by decide +kernel
theorem d_Sk_hold_13 : decode cX4_hold 13 = .ok (.dup, 1) := by decide +kernel
theorem d_Sk_hold_14 : decode cX4_hold 14 = .ok (.ldc 161, 2) := by decide +kernel
theorem d_Sk_hold_16 : decode cX4_hold 16 = .ok (.invokespecial 55, 3) := by decide +kernel
theorem d_Sk_hold_19 : decode cX4_hold 19 = .ok (.athrow, 1) := by decide +kernel
theorem d_Sk_hold_20 : decode cX4_hold 20 = .ok (.iload_n 2, 1) := by decide +kernel
theorem d_Sk_hold_21 : decode cX4_hold 21 = .ok (.iconst 1, 1) := by decide +kernel
theorem d_Sk_hold_22 : decode cX4_hold 22 = .ok (.bipush 10, 2) := by decide +kernel
theorem d_Sk_hold_24 : decode cX4_hold 24 = .ok (.invokestatic 58, 3) := by decide +kernel
theorem d_Sk_hold_27 : decode cX4_hold 27 = .ok (.ifCond .eq 13, 3) := by decide +kernel
theorem d_Sk_hold_30 : decode cX4_hold 30 = .ok (.new 62, 3) := by decide +kernel
theorem d_Sk_hold_33 : decode cX4_hold 33 = .ok (.dup, 1) := by decide +kernel
theorem d_Sk_hold_34 : decode cX4_hold 34 = .ok (.ldc 221, 2) := by decide +kernel
theorem d_Sk_hold_36 : decode cX4_hold 36 = .ok (.invokespecial 66, 3) := by decide +kernel
theorem d_Sk_hold_39 : decode cX4_hold 39 = .ok (.athrow, 1) := by decide +kernel
theorem d_Sk_hold_40 : decode cX4_hold 40 = .ok (.aload_n 0, 1) := by decide +kernel
theorem d_Sk_hold_41 : decode cX4_hold 41 = .ok (.aload_n 3, 1) := by decide +kernel
theorem d_Sk_hold_42 : decode cX4_hold 42 = .ok (.invokevirtual 228, 3) := by decide +kernel
theorem d_Sk_hold_45 : decode cX4_hold 45 = .ok (.astore 4, 2) := by decide +kernel
theorem d_Sk_hold_47 : decode cX4_hold 47 = .ok (.aload 4, 2) := by decide +kernel
theorem d_Sk_hold_49 : decode cX4_hold 49 = .ok (.ifnull 27, 3) := by decide +kernel
theorem d_Sk_hold_52 : decode cX4_hold 52 = .ok (.aload_n 3, 1) := by decide +kernel
theorem d_Sk_hold_53 : decode cX4_hold 53 = .ok (.getfield 166, 3) := by decide +kernel
theorem d_Sk_hold_56 : decode cX4_hold 56 = .ok (.invokestatic 232, 3) := by decide +kernel
theorem d_Sk_hold_59 : decode cX4_hold 59 = .ok (.ifCond .ne 17, 3) := by decide +kernel
theorem d_Sk_hold_62 : decode cX4_hold 62 = .ok (.aload_n 0, 1) := by decide +kernel
theorem d_Sk_hold_63 : decode cX4_hold 63 = .ok (.aload 4, 2) := by decide +kernel
theorem d_Sk_hold_65 : decode cX4_hold 65 = .ok (.iload_n 2, 1) := by decide +kernel
theorem d_Sk_hold_66 : decode cX4_hold 66 = .ok (.aload_n 3, 1) := by decide +kernel
theorem d_Sk_hold_67 : decode cX4_hold 67 = .ok (.getfield 243, 3) := by decide +kernel
theorem d_Sk_hold_70 : decode cX4_hold 70 = .ok (.invokevirtual 246, 3) := by decide +kernel
theorem d_Sk_hold_73 : decode cX4_hold 73 = .ok (.ifCond .ne 13, 3) := by decide +kernel
theorem d_Sk_hold_76 : decode cX4_hold 76 = .ok (.new 73, 3) := by decide +kernel
theorem d_Sk_hold_79 : decode cX4_hold 79 = .ok (.dup, 1) := by decide +kernel
theorem d_Sk_hold_80 : decode cX4_hold 80 = .ok (.ldc 250, 2) := by decide +kernel
theorem d_Sk_hold_82 : decode cX4_hold 82 = .ok (.invokespecial 77, 3) := by decide +kernel
theorem d_Sk_hold_85 : decode cX4_hold 85 = .ok (.athrow, 1) := by decide +kernel
theorem d_Sk_hold_86 : decode cX4_hold 86 = .ok (.aload 4, 2) := by decide +kernel
theorem d_Sk_hold_88 : decode cX4_hold 88 = .ok (.aload_n 0, 1) := by decide +kernel
theorem d_Sk_hold_89 : decode cX4_hold 89 = .ok (.getfield 39, 3) := by decide +kernel
theorem d_Sk_hold_92 : decode cX4_hold 92 = .ok (.invokevirtual 252, 3) := by decide +kernel
theorem d_Sk_hold_95 : decode cX4_hold 95 = .ok (.aload 4, 2) := by decide +kernel
theorem d_Sk_hold_97 : decode cX4_hold 97 = .ok (.invokevirtual 256, 3) := by decide +kernel
theorem d_Sk_hold_100 : decode cX4_hold 100 = .ok (.ireturn, 1) := by decide +kernel
set_option maxRecDepth 100000 in
set_option maxHeartbeats 4000000 in
theorem w_Sk_hold {X : CX} {KX : Nat × Int32 × MS → Prop} {k : Nat} {a1 : Int32} {a2 : Int32} {s : MS} (ok : Ok X cX4_hold RX4 rm_Sk_hold 5 false) (hret : ∀ r : Nat × Int32 × MS, KX r → Fix X (some .int) 1 6 false (tcode r.1) (some (vI r.2.1)) r.2.2)   (ht : rf s.2.2 0 (some k) = some k) {res : Nat × Int32 × MS} (h : f_Sk_hold k a1 a2 s = some res) (hk : KX res) : G X s 0 0 0 [(0, vR (some k)), (1, vI a1), (2, vI a2)] [] := by
  unfold f_Sk_hold at h
  refine g_aload_n (i := 0) 0 ok d_Sk_hold_0 rfl rfl ?_
  refine g_iload_n (i := 1) 1 ok d_Sk_hold_1 rfl rfl ?_
  obtain ⟨x2, hc3, h⟩ := bnd_go h
  refine g_invV (rm2 := rm_Sk_machineOf) (As := [vI a1]) (rest := []) ok ht lay_0 rfl (c_Sk_machineOf X.1.2.1 (rf_self ht) hc3) cm_Sk_machineOf cv_Sk_machineOf tw_415 ⟨rfl, rfl⟩ ⟨le_t rfl, le_t rfl⟩ ⟨rfl, le_t rfl⟩ ⟨le_t rfl, le_t rfl⟩ d_Sk_hold_2 rfl (fun m1 => ?_)
  show G X s 0 0 5 [(0, vR (some k)), (1, vI a1), (2, vI a2)] [vR x2]
  refine g_astore_n (i := 3) [(3, vR x2), (0, vR (some k)), (1, vI a1), (2, vI a2)] ok d_Sk_hold_5 rfl (by decide) rfl ?_
  refine g_aload_n (i := 3) 0 ok d_Sk_hold_6 rfl rfl ?_
  refine g_ifnonnull (tgt := 20) ok d_Sk_hold_7 (by decide) (fun c4 => ?_) (fun c4 => ?_)
  · replace h := (if_pos c4).symm.trans h
    cases h
    exact g_throw (ik := 51) (is := 161) (ic := 55) (cls := "java/lang/IndexOutOfBoundsException") (text := "no such machine") (names := xnames) ok (hret _ hk) xf_IndexOutOfBoundsException xf_names tw_203 tw_7 (List.mem_of_getElem? (i := 12) rfl) xa_IndexOutOfBoundsException xg_IndexOutOfBoundsException d_Sk_hold_10 d_Sk_hold_13 d_Sk_hold_14 d_Sk_hold_16 d_Sk_hold_19 ⟨le_t rfl, le_t rfl⟩ rfl ⟨le_t rfl, le_t rfl⟩ (le_t rfl) (le_t rfl)
  · replace h := (if_neg c4).symm.trans h
    refine g_iload_n (i := 2) 3 ok d_Sk_hold_20 rfl rfl ?_
    refine g_iconst (v := (1 : Int32)) ok d_Sk_hold_21 (by decide) ?_
    refine g_bipush (v := (10 : Int32)) ok d_Sk_hold_22 (by decide) ?_
    refine g_invS (rm2 := rm_Sk_isOut) (As := [vI a2, vI (1 : Int32), vI (10 : Int32)]) (rest := []) ok (c_Sk_isOut X.1.2.1) cm_Sk_isOut cs_Sk_isOut tw_149 ⟨rfl, rfl⟩ ⟨le_t rfl, le_t rfl⟩ ⟨rfl, le_t rfl⟩ ⟨le_t rfl, le_t rfl⟩ d_Sk_hold_24 rfl (fun m5 => ?_)
    show G X s 0 0 27 [(3, vR x2), (0, vR (some k)), (1, vI a1), (2, vI a2)] [vI (f_Sk_isOut a2 (1 : Int32) (10 : Int32))]
    refine g_if_eq (tgt := 40) ok d_Sk_hold_27 (by decide) (fun c6 => ?_) (fun c6 => ?_)
    · replace h := (if_pos c6).symm.trans h
      refine g_aload_n (i := 0) 1 ok d_Sk_hold_40 rfl rfl ?_
      refine g_aload_n (i := 3) 0 ok d_Sk_hold_41 rfl rfl ?_
      obtain ⟨x8, hc9, h⟩ := bnd_go h
      refine g_invV (rm2 := rm_Sk_flownBy) (As := [vR x2]) (rest := []) ok ht lay_0 rfl (c_Sk_flownBy X.1.2.1 (rf_self ht) hc9) cm_Sk_flownBy cv_Sk_flownBy tw_141 ⟨rfl, rfl⟩ ⟨le_t rfl, le_t rfl⟩ ⟨rfl, le_t rfl⟩ ⟨le_t rfl, le_t rfl⟩ d_Sk_hold_42 rfl (fun m7 => ?_)
      show G X s 0 0 45 [(3, vR x2), (0, vR (some k)), (1, vI a1), (2, vI a2)] [vR x8]
      refine g_astore (i := 4) [(4, vR x8), (3, vR x2), (0, vR (some k)), (1, vI a1), (2, vI a2)] ok d_Sk_hold_45 (by decide) rfl ?_
      refine g_aload (i := 4) 0 ok d_Sk_hold_47 rfl ?_
      refine g_ifnull (tgt := 76) ok d_Sk_hold_49 (by decide) (fun c10 => ?_) (fun c10 => ?_)
      · replace h := (if_pos c10).symm.trans h
        cases h
        exact g_throw (ik := 73) (is := 250) (ic := 77) (cls := "java/lang/IllegalStateException") (text := "it cannot be held") (names := xnames) ok (hret _ hk) xf_IllegalStateException xf_names tw_291 tw_9 (List.mem_of_getElem? (i := 18) rfl) xa_IllegalStateException xg_IllegalStateException d_Sk_hold_76 d_Sk_hold_79 d_Sk_hold_80 d_Sk_hold_82 d_Sk_hold_85 ⟨le_t rfl, le_t rfl⟩ rfl ⟨le_t rfl, le_t rfl⟩ (le_t rfl) (le_t rfl)
      · replace h := (if_neg c10).symm.trans h
        refine g_aload_n (i := 3) 1 ok d_Sk_hold_52 rfl rfl ?_
        obtain ⟨k11, hk12, h⟩ := bnd_go h
        refine g_getiN (s0 := 11) (j := 3) (ci := 1) (C := RX1) (T := TX1) (N := 7) ok hk12 lay_11 rfl inX1 (by decide) rfl tw_452 rfl d_Sk_hold_53 ?_
        refine g_invS (rm2 := rm_Sk_isOnGround) (As := [vI (s.1 k11 3)]) (rest := []) ok (c_Sk_isOnGround X.1.2.1) cm_Sk_isOnGround cs_Sk_isOnGround tw_184 ⟨rfl, rfl⟩ ⟨le_t rfl, le_t rfl⟩ ⟨rfl, le_t rfl⟩ ⟨le_t rfl, le_t rfl⟩ d_Sk_hold_56 rfl (fun m13 => ?_)
        show G X s 0 0 59 [(4, vR x8), (3, vR x2), (0, vR (some k)), (1, vI a1), (2, vI a2)] [vI (f_Sk_isOnGround (s.1 k11 3))]
        refine g_if_ne (tgt := 76) ok d_Sk_hold_59 (by decide) (fun c14 => ?_) (fun c14 => ?_)
        · replace h := (if_pos c14).symm.trans h
          refine g_aload_n (i := 0) 2 ok d_Sk_hold_62 rfl rfl ?_
          refine g_aload (i := 4) 0 ok d_Sk_hold_63 rfl ?_
          refine g_iload_n (i := 2) 4 ok d_Sk_hold_65 rfl rfl ?_
          refine g_aload_n (i := 3) 1 ok d_Sk_hold_66 rfl rfl ?_
          refine g_getiN (s0 := 11) (j := 2) (ci := 1) (C := RX1) (T := TX1) (N := 7) ok hk12 lay_11 rfl inX1 (by decide) rfl tw_450 rfl d_Sk_hold_67 ?_
          obtain ⟨x18, s17, hc16, h⟩ := bnd2_go h
          refine g_invV (rm2 := rm_Sk_canBeHeld) (As := [vR x8, vI a2, vI (s.1 k11 2)]) (rest := []) ok ht lay_0 rfl (c_Sk_canBeHeld X.1.2.1 (rf_self ht) hc16) cm_Sk_canBeHeld cv_Sk_canBeHeld tw_634 ⟨rfl, rfl⟩ ⟨le_t rfl, le_t rfl⟩ ⟨rfl, le_t rfl⟩ ⟨le_t rfl, le_t rfl⟩ d_Sk_hold_70 rfl (fun m15 => ?_)
          show G X s17 0 0 73 [(4, vR x8), (3, vR x2), (0, vR (some k)), (1, vI a1), (2, vI a2)] [vI x18]
          refine g_if_ne (tgt := 86) ok d_Sk_hold_73 (by decide) (fun c19 => ?_) (fun c19 => ?_)
          · replace h := (if_pos c19).symm.trans h
            cases h
            exact g_throw (ik := 73) (is := 250) (ic := 77) (cls := "java/lang/IllegalStateException") (text := "it cannot be held") (names := xnames) ok (hret _ hk) xf_IllegalStateException xf_names tw_291 tw_9 (List.mem_of_getElem? (i := 18) rfl) xa_IllegalStateException xg_IllegalStateException d_Sk_hold_76 d_Sk_hold_79 d_Sk_hold_80 d_Sk_hold_82 d_Sk_hold_85 ⟨le_t rfl, le_t rfl⟩ rfl ⟨le_t rfl, le_t rfl⟩ (le_t rfl) (le_t rfl)
          · replace h := (if_neg c19).symm.trans h
            refine g_aload (i := 4) 0 ok d_Sk_hold_86 rfl ?_
            refine g_aload_n (i := 0) 2 ok d_Sk_hold_88 rfl rfl ?_
            refine g_getr (s0 := 0) (j := 5) (ci := 4) (C := RX4) (T := TX4) (N := 14) ok (rf_mono m15 ht) lay_0 rfl inX4 (by decide) rfl tw_87 rfl d_Sk_hold_89 ?_
            obtain ⟨k20, hk21, h⟩ := bnd_go h
            obtain ⟨s24, hc23, h⟩ := bnd_go h
            refine g_invVN (rm2 := rm_Pa_takePlacesOf) (As := [vR (s17.2.1 k 5)]) (rest := []) ok hk21 lay_12 rfl (c_Pa_takePlacesOf X.1.2.1 (rf_self hk21) hc23) cm_Pa_takePlacesOf cv_Pa_takePlacesOf tw_644 ⟨rfl, rfl⟩ ⟨le_t rfl, le_t rfl⟩ ⟨rfl, le_t rfl⟩ ⟨le_t rfl, le_t rfl⟩ d_Sk_hold_92 rfl (fun m22 => ?_)
            show G X s24 0 0 95 [(4, vR x8), (3, vR x2), (0, vR (some k)), (1, vI a1), (2, vI a2)] []
            refine g_aload (i := 4) 0 ok d_Sk_hold_95 rfl ?_
            obtain ⟨x26, hc27, h⟩ := bnd_go h
            refine g_invVN (rm2 := rm_Pa_end) (As := []) (rest := []) ok (rf_mono m22 hk21) lay_12 rfl (c_Pa_end X.1.2.1 (rf_self (rf_mono m22 hk21)) hc27) cm_Pa_end cv_Pa_end tw_614 ⟨rfl, rfl⟩ ⟨le_t rfl, le_t rfl⟩ ⟨rfl, le_t rfl⟩ ⟨le_t rfl, le_t rfl⟩ d_Sk_hold_97 rfl (fun m25 => ?_)
            show G X s24 0 0 100 [(4, vR x8), (3, vR x2), (0, vR (some k)), (1, vI a1), (2, vI a2)] [vI x26]
            cases h
            exact g_iretX ok (hret _ hk) (by decide) (by decide) d_Sk_hold_100
        · replace h := (if_neg c14).symm.trans h
          cases h
          exact g_throw (ik := 73) (is := 250) (ic := 77) (cls := "java/lang/IllegalStateException") (text := "it cannot be held") (names := xnames) ok (hret _ hk) xf_IllegalStateException xf_names tw_291 tw_9 (List.mem_of_getElem? (i := 18) rfl) xa_IllegalStateException xg_IllegalStateException d_Sk_hold_76 d_Sk_hold_79 d_Sk_hold_80 d_Sk_hold_82 d_Sk_hold_85 ⟨le_t rfl, le_t rfl⟩ rfl ⟨le_t rfl, le_t rfl⟩ (le_t rfl) (le_t rfl)
    · replace h := (if_neg c6).symm.trans h
      cases h
      exact g_throw (ik := 62) (is := 221) (ic := 66) (cls := "java/lang/IllegalArgumentException") (text := "steps out of range") (names := xnames) ok (hret _ hk) xf_IllegalArgumentException xf_names tw_271 tw_8 (List.mem_of_getElem? (i := 15) rfl) xa_IllegalArgumentException xg_IllegalArgumentException d_Sk_hold_30 d_Sk_hold_33 d_Sk_hold_34 d_Sk_hold_36 d_Sk_hold_39 ⟨le_t rfl, le_t rfl⟩ rfl ⟨le_t rfl, le_t rfl⟩ (le_t rfl) (le_t rfl)
theorem c_Sk_hold {l : Launch} (hl : l.stackTraces = false) {k : Nat} {a1 : Int32} {a2 : Int32} {s : MS} (ht : rf s.2.2 0 (some k) = some k) {t : Nat} {r : Int32} {z : MS} (h : f_Sk_hold k a1 a2 s = some (t, r, z)) : Cx l yX4_hold (.code yX4_hold cX4_hold 5 (some .int)) rm_Sk_hold 1 6 false [vR (some k), vI a1, vI a2] s (tcode t) (some (vI r)) z :=
  Cx.of hl rfl (by decide +kernel) ⟨rfl, le_t rfl⟩ (fun X ok fn _ _ => w_Sk_hold (KX := fun y => y = (t, r, z)) ok (fun y hy => by subst hy; exact fn) ht h rfl)
abbrev rm_Sk_home : Room := { frames := 6, cells := 1, slots := 6, locals := 90 }
theorem cm_Sk_home : cfM yX4_home cX4_home 2 (some .int) 1 := ⟨tw_754, tw_1, by decide, by decide, by decide +kernel⟩
theorem cv_Sk_home : cfV yX4_home := ⟨tw_752, tw_753⟩
theorem d_Sk_home_0 : decode cX4_home 0 = .ok (.iload_n 1, 1) := by decide +kernel
theorem d_Sk_home_1 : decode cX4_home 1 = .ok (.invokestatic 47, 3) := by decide +kernel
theorem d_Sk_home_4 : decode cX4_home 4 = .ok (.ifCond .eq 13, 3) := by decide +kernel
theorem d_Sk_home_7 : decode cX4_home 7 = .ok (.new 51, 3) := by decide +kernel
theorem d_Sk_home_10 : decode cX4_home 10 = .ok (.dup, 1) := by decide +kernel
theorem d_Sk_home_11 : decode cX4_home 11 = .ok (.ldc 53, 2) := by decide +kernel
theorem d_Sk_home_13 : decode cX4_home 13 = .ok (.invokespecial 55, 3) := by decide +kernel
theorem d_Sk_home_16 : decode cX4_home 16 = .ok (.athrow, 1) := by decide +kernel
theorem d_Sk_home_17 : decode cX4_home 17 = .ok (.aload_n 0, 1) := by decide +kernel
theorem d_Sk_home_18 : decode cX4_home 18 = .ok (.getfield 10, 3) := by decide +kernel
theorem d_Sk_home_21 : decode cX4_home 21 = .ok (.iload_n 1, 1) := by decide +kernel
theorem d_Sk_home_22 : decode cX4_home 22 = .ok (.invokevirtual 267, 3) := by decide +kernel
theorem d_Sk_home_25 : decode cX4_home 25 = .ok (.ireturn, 1) := by decide +kernel
set_option maxRecDepth 100000 in
set_option maxHeartbeats 4000000 in
theorem w_Sk_home {X : CX} {KX : Nat × Int32 × MS → Prop} {k : Nat} {a1 : Int32} {s : MS} (ok : Ok X cX4_home RX4 rm_Sk_home 2 false) (hret : ∀ r : Nat × Int32 × MS, KX r → Fix X (some .int) 1 6 false (tcode r.1) (some (vI r.2.1)) r.2.2)   (ht : rf s.2.2 0 (some k) = some k) {res : Nat × Int32 × MS} (h : f_Sk_home k a1 s = some res) (hk : KX res) : G X s 0 0 0 [(0, vR (some k)), (1, vI a1)] [] := by
  unfold f_Sk_home at h
  refine g_iload_n (i := 1) 1 ok d_Sk_home_0 rfl rfl ?_
  refine g_invS (rm2 := rm_Sk_isNoCell) (As := [vI a1]) (rest := []) ok (c_Sk_isNoCell X.1.2.1) cm_Sk_isNoCell cs_Sk_isNoCell tw_200 ⟨rfl, rfl⟩ ⟨le_t rfl, le_t rfl⟩ ⟨rfl, le_t rfl⟩ ⟨le_t rfl, le_t rfl⟩ d_Sk_home_1 rfl (fun m1 => ?_)
  show G X s 0 0 4 [(0, vR (some k)), (1, vI a1)] [vI (f_Sk_isNoCell a1)]
  refine g_if_eq (tgt := 17) ok d_Sk_home_4 (by decide) (fun c2 => ?_) (fun c2 => ?_)
  · replace h := (if_pos c2).symm.trans h
    refine g_aload_n (i := 0) 0 ok d_Sk_home_17 rfl rfl ?_
    refine g_getr (s0 := 0) (j := 0) (ci := 4) (C := RX4) (T := TX4) (N := 14) ok ht lay_0 rfl inX4 (by decide) rfl tw_82 rfl d_Sk_home_18 ?_
    refine g_iload_n (i := 1) 1 ok d_Sk_home_21 rfl rfl ?_
    obtain ⟨k3, hk4, h⟩ := bnd_go h
    obtain ⟨x6, hc7, h⟩ := bnd_go h
    refine g_invVN (rm2 := rm_Ci_wayHome) (As := [vI a1]) (rest := []) ok hk4 lay_1 rfl (c_Ci_wayHome X.1.2.1 (rf_self hk4) hc7) cm_Ci_wayHome cv_Ci_wayHome tw_527 ⟨rfl, rfl⟩ ⟨le_t rfl, le_t rfl⟩ ⟨rfl, le_t rfl⟩ ⟨le_t rfl, le_t rfl⟩ d_Sk_home_22 rfl (fun m5 => ?_)
    show G X s 0 0 25 [(0, vR (some k)), (1, vI a1)] [vI x6]
    cases h
    exact g_iretX ok (hret _ hk) (by decide) (by decide) d_Sk_home_25
  · replace h := (if_neg c2).symm.trans h
    cases h
    exact g_throw (ik := 51) (is := 53) (ic := 55) (cls := "java/lang/IndexOutOfBoundsException") (text := "no such cell") (names := xnames) ok (hret _ hk) xf_IndexOutOfBoundsException xf_names tw_203 tw_7 (List.mem_of_getElem? (i := 0) rfl) xa_IndexOutOfBoundsException xg_IndexOutOfBoundsException d_Sk_home_7 d_Sk_home_10 d_Sk_home_11 d_Sk_home_13 d_Sk_home_16 ⟨le_t rfl, le_t rfl⟩ rfl ⟨le_t rfl, le_t rfl⟩ (le_t rfl) (le_t rfl)
theorem c_Sk_home {l : Launch} (hl : l.stackTraces = false) {k : Nat} {a1 : Int32} {s : MS} (ht : rf s.2.2 0 (some k) = some k) {t : Nat} {r : Int32} {z : MS} (h : f_Sk_home k a1 s = some (t, r, z)) : Cx l yX4_home (.code yX4_home cX4_home 2 (some .int)) rm_Sk_home 1 6 false [vR (some k), vI a1] s (tcode t) (some (vI r)) z :=
  Cx.of hl rfl (by decide +kernel) ⟨rfl, le_t rfl⟩ (fun X ok fn _ _ => w_Sk_home (KX := fun y => y = (t, r, z)) ok (fun y hy => by subst hy; exact fn) ht h rfl)
abbrev rm_Sk_placeAt : Room := { frames := 6, cells := 1, slots := 6, locals := 90 }
theorem cm_Sk_placeAt : cfM yX4_placeAt cX4_placeAt 4 (some .int) 2 := ⟨tw_696, tw_1, by decide, by decide, by decide +kernel⟩
theorem cv_Sk_placeAt : cfV yX4_placeAt := ⟨tw_694, tw_695⟩
theorem d_Sk_placeAt_0 : decode cX4_placeAt 0 = .ok (.aload_n 0, 1) := by decide +kernel
theorem d_Sk_placeAt_1 : decode cX4_placeAt 1 = .ok (.iload_n 1, 1) := by decide +kernel
theorem d_Sk_placeAt_2 : decode cX4_placeAt 2 = .ok (.invokevirtual 208, 3) := by decide +kernel
theorem d_Sk_placeAt_5 : decode cX4_placeAt 5 = .ok (.astore_n 3, 1) := by decide +kernel
theorem d_Sk_placeAt_6 : decode cX4_placeAt 6 = .ok (.aload_n 3, 1) := by decide +kernel
theorem d_Sk_placeAt_7 : decode cX4_placeAt 7 = .ok (.ifnonnull 13, 3) := by decide +kernel
theorem d_Sk_placeAt_10 : decode cX4_placeAt 10 = .ok (.new 51, 3) := by decide +kernel
theorem d_Sk_placeAt_13 : decode cX4_placeAt 13 = .ok (.dup, 1) := by decide +kernel
theorem d_Sk_placeAt_14 : decode cX4_placeAt 14 = .ok (.ldc 212, 2) := by decide +kernel
theorem d_Sk_placeAt_16 : decode cX4_placeAt 16 = .ok (.invokespecial 55, 3) := by decide +kernel
theorem d_Sk_placeAt_19 : decode cX4_placeAt 19 = .ok (.athrow, 1) := by decide +kernel
theorem d_Sk_placeAt_20 : decode cX4_placeAt 20 = .ok (.aload_n 3, 1) := by decide +kernel
theorem d_Sk_placeAt_21 : decode cX4_placeAt 21 = .ok (.iload_n 2, 1) := by decide +kernel
theorem d_Sk_placeAt_22 : decode cX4_placeAt 22 = .ok (.invokevirtual 270, 3) := by decide +kernel
theorem d_Sk_placeAt_25 : decode cX4_placeAt 25 = .ok (.ireturn, 1) := by decide +kernel
set_option maxRecDepth 100000 in
set_option maxHeartbeats 4000000 in
theorem w_Sk_placeAt {X : CX} {KX : Nat × Int32 × MS → Prop} {k : Nat} {a1 : Int32} {a2 : Int32} {s : MS} (ok : Ok X cX4_placeAt RX4 rm_Sk_placeAt 4 false) (hret : ∀ r : Nat × Int32 × MS, KX r → Fix X (some .int) 1 6 false (tcode r.1) (some (vI r.2.1)) r.2.2)   (ht : rf s.2.2 0 (some k) = some k) {res : Nat × Int32 × MS} (h : f_Sk_placeAt k a1 a2 s = some res) (hk : KX res) : G X s 0 0 0 [(0, vR (some k)), (1, vI a1), (2, vI a2)] [] := by
  unfold f_Sk_placeAt at h
  refine g_aload_n (i := 0) 0 ok d_Sk_placeAt_0 rfl rfl ?_
  refine g_iload_n (i := 1) 1 ok d_Sk_placeAt_1 rfl rfl ?_
  obtain ⟨x2, hc3, h⟩ := bnd_go h
  refine g_invV (rm2 := rm_Sk_pathOf) (As := [vI a1]) (rest := []) ok ht lay_0 rfl (c_Sk_pathOf X.1.2.1 (rf_self ht) hc3) cm_Sk_pathOf cv_Sk_pathOf tw_145 ⟨rfl, rfl⟩ ⟨le_t rfl, le_t rfl⟩ ⟨rfl, le_t rfl⟩ ⟨le_t rfl, le_t rfl⟩ d_Sk_placeAt_2 rfl (fun m1 => ?_)
  show G X s 0 0 5 [(0, vR (some k)), (1, vI a1), (2, vI a2)] [vR x2]
  refine g_astore_n (i := 3) [(3, vR x2), (0, vR (some k)), (1, vI a1), (2, vI a2)] ok d_Sk_placeAt_5 rfl (by decide) rfl ?_
  refine g_aload_n (i := 3) 0 ok d_Sk_placeAt_6 rfl rfl ?_
  refine g_ifnonnull (tgt := 20) ok d_Sk_placeAt_7 (by decide) (fun c4 => ?_) (fun c4 => ?_)
  · replace h := (if_pos c4).symm.trans h
    cases h
    exact g_throw (ik := 51) (is := 212) (ic := 55) (cls := "java/lang/IndexOutOfBoundsException") (text := "no such path") (names := xnames) ok (hret _ hk) xf_IndexOutOfBoundsException xf_names tw_203 tw_7 (List.mem_of_getElem? (i := 20) rfl) xa_IndexOutOfBoundsException xg_IndexOutOfBoundsException d_Sk_placeAt_10 d_Sk_placeAt_13 d_Sk_placeAt_14 d_Sk_placeAt_16 d_Sk_placeAt_19 ⟨le_t rfl, le_t rfl⟩ rfl ⟨le_t rfl, le_t rfl⟩ (le_t rfl) (le_t rfl)
  · replace h := (if_neg c4).symm.trans h
    refine g_aload_n (i := 3) 0 ok d_Sk_placeAt_20 rfl rfl ?_
    refine g_iload_n (i := 2) 3 ok d_Sk_placeAt_21 rfl rfl ?_
    obtain ⟨k5, hk6, h⟩ := bnd_go h
    obtain ⟨x8, hc9, h⟩ := bnd_go h
    refine g_invVN (rm2 := rm_Pa_placeWhen) (As := [vI a2]) (rest := []) ok hk6 lay_12 rfl (c_Pa_placeWhen X.1.2.1 (rf_self hk6) hc9) cm_Pa_placeWhen cv_Pa_placeWhen tw_156 ⟨rfl, rfl⟩ ⟨le_t rfl, le_t rfl⟩ ⟨rfl, le_t rfl⟩ ⟨le_t rfl, le_t rfl⟩ d_Sk_placeAt_22 rfl (fun m7 => ?_)
    show G X s 0 0 25 [(3, vR x2), (0, vR (some k)), (1, vI a1), (2, vI a2)] [vI x8]
    cases h
    exact g_iretX ok (hret _ hk) (by decide) (by decide) d_Sk_placeAt_25
theorem c_Sk_placeAt {l : Launch} (hl : l.stackTraces = false) {k : Nat} {a1 : Int32} {a2 : Int32} {s : MS} (ht : rf s.2.2 0 (some k) = some k) {t : Nat} {r : Int32} {z : MS} (h : f_Sk_placeAt k a1 a2 s = some (t, r, z)) : Cx l yX4_placeAt (.code yX4_placeAt cX4_placeAt 4 (some .int)) rm_Sk_placeAt 1 6 false [vR (some k), vI a1, vI a2] s (tcode t) (some (vI r)) z :=
  Cx.of hl rfl (by decide +kernel) ⟨rfl, le_t rfl⟩ (fun X ok fn _ _ => w_Sk_placeAt (KX := fun y => y = (t, r, z)) ok (fun y hy => by subst hy; exact fn) ht h rfl)
abbrev rm_Sk_meets : Room := { frames := 6, cells := 1, slots := 6, locals := 90 }
theorem cm_Sk_meets : cfM yX4_meets cX4_meets 5 (some .boolean) 2 := ⟨tw_713, tw_1, by decide, by decide, by decide +kernel⟩
theorem cv_Sk_meets : cfV yX4_meets := ⟨tw_711, tw_712⟩
theorem d_Sk_meets_0 : decode cX4_meets 0 = .ok (.aload_n 0, 1) := by decide +kernel
theorem d_Sk_meets_1 : decode cX4_meets 1 = .ok (.iload_n 1, 1) := by decide +kernel
theorem d_Sk_meets_2 : decode cX4_meets 2 = .ok (.invokevirtual 208, 3) := by decide +kernel
theorem d_Sk_meets_5 : decode cX4_meets 5 = .ok (.astore_n 3, 1) := by decide +kernel
theorem d_Sk_meets_6 : decode cX4_meets 6 = .ok (.aload_n 0, 1) := by decide +kernel
theorem d_Sk_meets_7 : decode cX4_meets 7 = .ok (.iload_n 2, 1) := by decide +kernel
theorem d_Sk_meets_8 : decode cX4_meets 8 = .ok (.invokevirtual 208, 3) := by decide +kernel
theorem d_Sk_meets_11 : decode cX4_meets 11 = .ok (.astore 4, 2) := by decide +kernel
theorem d_Sk_meets_13 : decode cX4_meets 13 = .ok (.aload_n 3, 1) := by decide +kernel
theorem d_Sk_meets_14 : decode cX4_meets 14 = .ok (.ifnull 8, 3) := by decide +kernel
theorem d_Sk_meets_17 : decode cX4_meets 17 = .ok (.aload 4, 2) := by decide +kernel
theorem d_Sk_meets_19 : decode cX4_meets 19 = .ok (.ifnonnull 13, 3) := by decide +kernel
theorem d_Sk_meets_22 : decode cX4_meets 22 = .ok (.new 51, 3) := by decide +kernel
theorem d_Sk_meets_25 : decode cX4_meets 25 = .ok (.dup, 1) := by decide +kernel
theorem d_Sk_meets_26 : decode cX4_meets 26 = .ok (.ldc 212, 2) := by decide +kernel
theorem d_Sk_meets_28 : decode cX4_meets 28 = .ok (.invokespecial 55, 3) := by decide +kernel
theorem d_Sk_meets_31 : decode cX4_meets 31 = .ok (.athrow, 1) := by decide +kernel
theorem d_Sk_meets_32 : decode cX4_meets 32 = .ok (.iload_n 1, 1) := by decide +kernel
theorem d_Sk_meets_33 : decode cX4_meets 33 = .ok (.iload_n 2, 1) := by decide +kernel
theorem d_Sk_meets_34 : decode cX4_meets 34 = .ok (.if_icmp .eq 17, 3) := by decide +kernel
theorem d_Sk_meets_37 : decode cX4_meets 37 = .ok (.aload_n 3, 1) := by decide +kernel
theorem d_Sk_meets_38 : decode cX4_meets 38 = .ok (.aload 4, 2) := by decide +kernel
theorem d_Sk_meets_40 : decode cX4_meets 40 = .ok (.iconst 0, 1) := by decide +kernel
theorem d_Sk_meets_41 : decode cX4_meets 41 = .ok (.invokestatic 273, 3) := by decide +kernel
theorem d_Sk_meets_44 : decode cX4_meets 44 = .ok (.ifCond .eq 7, 3) := by decide +kernel
theorem d_Sk_meets_47 : decode cX4_meets 47 = .ok (.iconst 1, 1) := by decide +kernel
theorem d_Sk_meets_48 : decode cX4_meets 48 = .ok (.goto 4, 3) := by decide +kernel
theorem d_Sk_meets_51 : decode cX4_meets 51 = .ok (.iconst 0, 1) := by decide +kernel
theorem d_Sk_meets_52 : decode cX4_meets 52 = .ok (.ireturn, 1) := by decide +kernel
set_option maxRecDepth 100000 in
set_option maxHeartbeats 4000000 in
theorem w_Sk_meets {X : CX} {KX : Nat × Int32 × MS → Prop} {k : Nat} {a1 : Int32} {a2 : Int32} {s : MS} (ok : Ok X cX4_meets RX4 rm_Sk_meets 5 false) (hret : ∀ r : Nat × Int32 × MS, KX r → Fix X (some .boolean) 1 6 false (tcode r.1) (some (vI r.2.1)) r.2.2)   (ht : rf s.2.2 0 (some k) = some k) {res : Nat × Int32 × MS} (h : f_Sk_meets k a1 a2 s = some res) (hk : KX res) : G X s 0 0 0 [(0, vR (some k)), (1, vI a1), (2, vI a2)] [] := by
  unfold f_Sk_meets at h
  refine g_aload_n (i := 0) 0 ok d_Sk_meets_0 rfl rfl ?_
  refine g_iload_n (i := 1) 1 ok d_Sk_meets_1 rfl rfl ?_
  obtain ⟨x2, hc3, h⟩ := bnd_go h
  refine g_invV (rm2 := rm_Sk_pathOf) (As := [vI a1]) (rest := []) ok ht lay_0 rfl (c_Sk_pathOf X.1.2.1 (rf_self ht) hc3) cm_Sk_pathOf cv_Sk_pathOf tw_145 ⟨rfl, rfl⟩ ⟨le_t rfl, le_t rfl⟩ ⟨rfl, le_t rfl⟩ ⟨le_t rfl, le_t rfl⟩ d_Sk_meets_2 rfl (fun m1 => ?_)
  show G X s 0 0 5 [(0, vR (some k)), (1, vI a1), (2, vI a2)] [vR x2]
  refine g_astore_n (i := 3) [(3, vR x2), (0, vR (some k)), (1, vI a1), (2, vI a2)] ok d_Sk_meets_5 rfl (by decide) rfl ?_
  refine g_aload_n (i := 0) 1 ok d_Sk_meets_6 rfl rfl ?_
  refine g_iload_n (i := 2) 3 ok d_Sk_meets_7 rfl rfl ?_
  obtain ⟨x5, hc6, h⟩ := bnd_go h
  refine g_invV (rm2 := rm_Sk_pathOf) (As := [vI a2]) (rest := []) ok ht lay_0 rfl (c_Sk_pathOf X.1.2.1 (rf_self ht) hc6) cm_Sk_pathOf cv_Sk_pathOf tw_145 ⟨rfl, rfl⟩ ⟨le_t rfl, le_t rfl⟩ ⟨rfl, le_t rfl⟩ ⟨le_t rfl, le_t rfl⟩ d_Sk_meets_8 rfl (fun m4 => ?_)
  show G X s 0 0 11 [(3, vR x2), (0, vR (some k)), (1, vI a1), (2, vI a2)] [vR x5]
  refine g_astore (i := 4) [(4, vR x5), (3, vR x2), (0, vR (some k)), (1, vI a1), (2, vI a2)] ok d_Sk_meets_11 (by decide) rfl ?_
  refine g_aload_n (i := 3) 1 ok d_Sk_meets_13 rfl rfl ?_
  refine g_ifnull (tgt := 22) ok d_Sk_meets_14 (by decide) (fun c7 => ?_) (fun c7 => ?_)
  · replace h := (if_pos c7).symm.trans h
    cases h
    exact g_throw (ik := 51) (is := 212) (ic := 55) (cls := "java/lang/IndexOutOfBoundsException") (text := "no such path") (names := xnames) ok (hret _ hk) xf_IndexOutOfBoundsException xf_names tw_203 tw_7 (List.mem_of_getElem? (i := 20) rfl) xa_IndexOutOfBoundsException xg_IndexOutOfBoundsException d_Sk_meets_22 d_Sk_meets_25 d_Sk_meets_26 d_Sk_meets_28 d_Sk_meets_31 ⟨le_t rfl, le_t rfl⟩ rfl ⟨le_t rfl, le_t rfl⟩ (le_t rfl) (le_t rfl)
  · replace h := (if_neg c7).symm.trans h
    refine g_aload (i := 4) 0 ok d_Sk_meets_17 rfl ?_
    refine g_ifnonnull (tgt := 32) ok d_Sk_meets_19 (by decide) (fun c8 => ?_) (fun c8 => ?_)
    · replace h := (if_pos c8).symm.trans h
      cases h
      exact g_throw (ik := 51) (is := 212) (ic := 55) (cls := "java/lang/IndexOutOfBoundsException") (text := "no such path") (names := xnames) ok (hret _ hk) xf_IndexOutOfBoundsException xf_names tw_203 tw_7 (List.mem_of_getElem? (i := 20) rfl) xa_IndexOutOfBoundsException xg_IndexOutOfBoundsException d_Sk_meets_22 d_Sk_meets_25 d_Sk_meets_26 d_Sk_meets_28 d_Sk_meets_31 ⟨le_t rfl, le_t rfl⟩ rfl ⟨le_t rfl, le_t rfl⟩ (le_t rfl) (le_t rfl)
    · replace h := (if_neg c8).symm.trans h
      refine g_iload_n (i := 1) 3 ok d_Sk_meets_32 rfl rfl ?_
      refine g_iload_n (i := 2) 4 ok d_Sk_meets_33 rfl rfl ?_
      refine g_icmp_eq (tgt := 51) ok d_Sk_meets_34 (by decide) (fun c9 => ?_) (fun c9 => ?_)
      · replace h := (if_pos c9).symm.trans h
        refine g_iconst (v := (0 : Int32)) ok d_Sk_meets_51 (by decide) ?_
        cases h
        exact g_zretX ok (hret _ hk) (Or.inl rfl) (by decide) (by decide) d_Sk_meets_52
      · replace h := (if_neg c9).symm.trans h
        refine g_aload_n (i := 3) 1 ok d_Sk_meets_37 rfl rfl ?_
        refine g_aload (i := 4) 0 ok d_Sk_meets_38 rfl ?_
        refine g_iconst (v := (0 : Int32)) ok d_Sk_meets_40 (by decide) ?_
        obtain ⟨x11, hc12, h⟩ := bnd_go h
        refine g_invS (rm2 := rm_Sk_meetFrom) (As := [vR x2, vR x5, vI (0 : Int32)]) (rest := []) ok (c_Sk_meetFrom X.1.2.1 hc12) cm_Sk_meetFrom cs_Sk_meetFrom tw_552 ⟨rfl, rfl⟩ ⟨le_t rfl, le_t rfl⟩ ⟨rfl, le_t rfl⟩ ⟨le_t rfl, le_t rfl⟩ d_Sk_meets_41 rfl (fun m10 => ?_)
        show G X s 0 0 44 [(4, vR x5), (3, vR x2), (0, vR (some k)), (1, vI a1), (2, vI a2)] [vI x11]
        refine g_if_eq (tgt := 51) ok d_Sk_meets_44 (by decide) (fun c13 => ?_) (fun c13 => ?_)
        · replace h := (if_pos c13).symm.trans h
          refine g_iconst (v := (0 : Int32)) ok d_Sk_meets_51 (by decide) ?_
          cases h
          exact g_zretX ok (hret _ hk) (Or.inl rfl) (by decide) (by decide) d_Sk_meets_52
        · replace h := (if_neg c13).symm.trans h
          refine g_iconst (v := (1 : Int32)) ok d_Sk_meets_47 (by decide) ?_
          refine g_goto (tgt := 52) ok d_Sk_meets_48 (by decide) ?_
          cases h
          exact g_zretX ok (hret _ hk) (Or.inr rfl) (by decide) (by decide) d_Sk_meets_52
theorem c_Sk_meets {l : Launch} (hl : l.stackTraces = false) {k : Nat} {a1 : Int32} {a2 : Int32} {s : MS} (ht : rf s.2.2 0 (some k) = some k) {t : Nat} {r : Int32} {z : MS} (h : f_Sk_meets k a1 a2 s = some (t, r, z)) : Cx l yX4_meets (.code yX4_meets cX4_meets 5 (some .boolean)) rm_Sk_meets 1 6 false [vR (some k), vI a1, vI a2] s (tcode t) (some (vI r)) z :=
  Cx.of hl rfl (by decide +kernel) ⟨rfl, le_t rfl⟩ (fun X ok fn _ _ => w_Sk_meets (KX := fun y => y = (t, r, z)) ok (fun y hy => by subst hy; exact fn) ht h rfl)
abbrev rm_Sk_meetsAnew : Room := { frames := 6, cells := 1, slots := 6, locals := 90 }
theorem cm_Sk_meetsAnew : cfM yX4_meetsAnew cX4_meetsAnew 5 (some .boolean) 2 := ⟨tw_720, tw_1, by decide, by decide, by decide +kernel⟩
theorem cv_Sk_meetsAnew : cfV yX4_meetsAnew := ⟨tw_718, tw_719⟩
theorem d_Sk_meetsAnew_0 : decode cX4_meetsAnew 0 = .ok (.aload_n 0, 1) := by decide +kernel
theorem d_Sk_meetsAnew_1 : decode cX4_meetsAnew 1 = .ok (.iload_n 1, 1) := by decide +kernel
theorem d_Sk_meetsAnew_2 : decode cX4_meetsAnew 2 = .ok (.invokevirtual 208, 3) := by decide +kernel
theorem d_Sk_meetsAnew_5 : decode cX4_meetsAnew 5 = .ok (.astore_n 3, 1) := by decide +kernel
theorem d_Sk_meetsAnew_6 : decode cX4_meetsAnew 6 = .ok (.aload_n 0, 1) := by decide +kernel
theorem d_Sk_meetsAnew_7 : decode cX4_meetsAnew 7 = .ok (.iload_n 2, 1) := by decide +kernel
theorem d_Sk_meetsAnew_8 : decode cX4_meetsAnew 8 = .ok (.invokevirtual 208, 3) := by decide +kernel
theorem d_Sk_meetsAnew_11 : decode cX4_meetsAnew 11 = .ok (.astore 4, 2) := by decide +kernel
theorem d_Sk_meetsAnew_13 : decode cX4_meetsAnew 13 = .ok (.aload_n 3, 1) := by decide +kernel
theorem d_Sk_meetsAnew_14 : decode cX4_meetsAnew 14 = .ok (.ifnull 8, 3) := by decide +kernel
theorem d_Sk_meetsAnew_17 : decode cX4_meetsAnew 17 = .ok (.aload 4, 2) := by decide +kernel
theorem d_Sk_meetsAnew_19 : decode cX4_meetsAnew 19 = .ok (.ifnonnull 13, 3) := by decide +kernel
theorem d_Sk_meetsAnew_22 : decode cX4_meetsAnew 22 = .ok (.new 51, 3) := by decide +kernel
theorem d_Sk_meetsAnew_25 : decode cX4_meetsAnew 25 = .ok (.dup, 1) := by decide +kernel
theorem d_Sk_meetsAnew_26 : decode cX4_meetsAnew 26 = .ok (.ldc 212, 2) := by decide +kernel
theorem d_Sk_meetsAnew_28 : decode cX4_meetsAnew 28 = .ok (.invokespecial 55, 3) := by decide +kernel
theorem d_Sk_meetsAnew_31 : decode cX4_meetsAnew 31 = .ok (.athrow, 1) := by decide +kernel
theorem d_Sk_meetsAnew_32 : decode cX4_meetsAnew 32 = .ok (.iload_n 1, 1) := by decide +kernel
theorem d_Sk_meetsAnew_33 : decode cX4_meetsAnew 33 = .ok (.iload_n 2, 1) := by decide +kernel
theorem d_Sk_meetsAnew_34 : decode cX4_meetsAnew 34 = .ok (.if_icmp .eq 16, 3) := by decide +kernel
theorem d_Sk_meetsAnew_37 : decode cX4_meetsAnew 37 = .ok (.aload_n 3, 1) := by decide +kernel
theorem d_Sk_meetsAnew_38 : decode cX4_meetsAnew 38 = .ok (.aload 4, 2) := by decide +kernel
theorem d_Sk_meetsAnew_40 : decode cX4_meetsAnew 40 = .ok (.invokestatic 277, 3) := by decide +kernel
theorem d_Sk_meetsAnew_43 : decode cX4_meetsAnew 43 = .ok (.ifCond .eq 7, 3) := by decide +kernel
theorem d_Sk_meetsAnew_46 : decode cX4_meetsAnew 46 = .ok (.iconst 1, 1) := by decide +kernel
theorem d_Sk_meetsAnew_47 : decode cX4_meetsAnew 47 = .ok (.goto 4, 3) := by decide +kernel
theorem d_Sk_meetsAnew_50 : decode cX4_meetsAnew 50 = .ok (.iconst 0, 1) := by decide +kernel
theorem d_Sk_meetsAnew_51 : decode cX4_meetsAnew 51 = .ok (.ireturn, 1) := by decide +kernel
set_option maxRecDepth 100000 in
set_option maxHeartbeats 4000000 in
theorem w_Sk_meetsAnew {X : CX} {KX : Nat × Int32 × MS → Prop} {k : Nat} {a1 : Int32} {a2 : Int32} {s : MS} (ok : Ok X cX4_meetsAnew RX4 rm_Sk_meetsAnew 5 false) (hret : ∀ r : Nat × Int32 × MS, KX r → Fix X (some .boolean) 1 6 false (tcode r.1) (some (vI r.2.1)) r.2.2)   (ht : rf s.2.2 0 (some k) = some k) {res : Nat × Int32 × MS} (h : f_Sk_meetsAnew k a1 a2 s = some res) (hk : KX res) : G X s 0 0 0 [(0, vR (some k)), (1, vI a1), (2, vI a2)] [] := by
  unfold f_Sk_meetsAnew at h
  refine g_aload_n (i := 0) 0 ok d_Sk_meetsAnew_0 rfl rfl ?_
  refine g_iload_n (i := 1) 1 ok d_Sk_meetsAnew_1 rfl rfl ?_
  obtain ⟨x2, hc3, h⟩ := bnd_go h
  refine g_invV (rm2 := rm_Sk_pathOf) (As := [vI a1]) (rest := []) ok ht lay_0 rfl (c_Sk_pathOf X.1.2.1 (rf_self ht) hc3) cm_Sk_pathOf cv_Sk_pathOf tw_145 ⟨rfl, rfl⟩ ⟨le_t rfl, le_t rfl⟩ ⟨rfl, le_t rfl⟩ ⟨le_t rfl, le_t rfl⟩ d_Sk_meetsAnew_2 rfl (fun m1 => ?_)
  show G X s 0 0 5 [(0, vR (some k)), (1, vI a1), (2, vI a2)] [vR x2]
  refine g_astore_n (i := 3) [(3, vR x2), (0, vR (some k)), (1, vI a1), (2, vI a2)] ok d_Sk_meetsAnew_5 rfl (by decide) rfl ?_
  refine g_aload_n (i := 0) 1 ok d_Sk_meetsAnew_6 rfl rfl ?_
  refine g_iload_n (i := 2) 3 ok d_Sk_meetsAnew_7 rfl rfl ?_
  obtain ⟨x5, hc6, h⟩ := bnd_go h
  refine g_invV (rm2 := rm_Sk_pathOf) (As := [vI a2]) (rest := []) ok ht lay_0 rfl (c_Sk_pathOf X.1.2.1 (rf_self ht) hc6) cm_Sk_pathOf cv_Sk_pathOf tw_145 ⟨rfl, rfl⟩ ⟨le_t rfl, le_t rfl⟩ ⟨rfl, le_t rfl⟩ ⟨le_t rfl, le_t rfl⟩ d_Sk_meetsAnew_8 rfl (fun m4 => ?_)
  show G X s 0 0 11 [(3, vR x2), (0, vR (some k)), (1, vI a1), (2, vI a2)] [vR x5]
  refine g_astore (i := 4) [(4, vR x5), (3, vR x2), (0, vR (some k)), (1, vI a1), (2, vI a2)] ok d_Sk_meetsAnew_11 (by decide) rfl ?_
  refine g_aload_n (i := 3) 1 ok d_Sk_meetsAnew_13 rfl rfl ?_
  refine g_ifnull (tgt := 22) ok d_Sk_meetsAnew_14 (by decide) (fun c7 => ?_) (fun c7 => ?_)
  · replace h := (if_pos c7).symm.trans h
    cases h
    exact g_throw (ik := 51) (is := 212) (ic := 55) (cls := "java/lang/IndexOutOfBoundsException") (text := "no such path") (names := xnames) ok (hret _ hk) xf_IndexOutOfBoundsException xf_names tw_203 tw_7 (List.mem_of_getElem? (i := 20) rfl) xa_IndexOutOfBoundsException xg_IndexOutOfBoundsException d_Sk_meetsAnew_22 d_Sk_meetsAnew_25 d_Sk_meetsAnew_26 d_Sk_meetsAnew_28 d_Sk_meetsAnew_31 ⟨le_t rfl, le_t rfl⟩ rfl ⟨le_t rfl, le_t rfl⟩ (le_t rfl) (le_t rfl)
  · replace h := (if_neg c7).symm.trans h
    refine g_aload (i := 4) 0 ok d_Sk_meetsAnew_17 rfl ?_
    refine g_ifnonnull (tgt := 32) ok d_Sk_meetsAnew_19 (by decide) (fun c8 => ?_) (fun c8 => ?_)
    · replace h := (if_pos c8).symm.trans h
      cases h
      exact g_throw (ik := 51) (is := 212) (ic := 55) (cls := "java/lang/IndexOutOfBoundsException") (text := "no such path") (names := xnames) ok (hret _ hk) xf_IndexOutOfBoundsException xf_names tw_203 tw_7 (List.mem_of_getElem? (i := 20) rfl) xa_IndexOutOfBoundsException xg_IndexOutOfBoundsException d_Sk_meetsAnew_22 d_Sk_meetsAnew_25 d_Sk_meetsAnew_26 d_Sk_meetsAnew_28 d_Sk_meetsAnew_31 ⟨le_t rfl, le_t rfl⟩ rfl ⟨le_t rfl, le_t rfl⟩ (le_t rfl) (le_t rfl)
    · replace h := (if_neg c8).symm.trans h
      refine g_iload_n (i := 1) 3 ok d_Sk_meetsAnew_32 rfl rfl ?_
      refine g_iload_n (i := 2) 4 ok d_Sk_meetsAnew_33 rfl rfl ?_
      refine g_icmp_eq (tgt := 50) ok d_Sk_meetsAnew_34 (by decide) (fun c9 => ?_) (fun c9 => ?_)
      · replace h := (if_pos c9).symm.trans h
        refine g_iconst (v := (0 : Int32)) ok d_Sk_meetsAnew_50 (by decide) ?_
        cases h
        exact g_zretX ok (hret _ hk) (Or.inl rfl) (by decide) (by decide) d_Sk_meetsAnew_51
      · replace h := (if_neg c9).symm.trans h
        refine g_aload_n (i := 3) 1 ok d_Sk_meetsAnew_37 rfl rfl ?_
        refine g_aload (i := 4) 0 ok d_Sk_meetsAnew_38 rfl ?_
        obtain ⟨x11, hc12, h⟩ := bnd_go h
        refine g_invS (rm2 := rm_Sk_meetTimeByTime) (As := [vR x2, vR x5]) (rest := []) ok (c_Sk_meetTimeByTime X.1.2.1 hc12) cm_Sk_meetTimeByTime cs_Sk_meetTimeByTime tw_721 ⟨rfl, rfl⟩ ⟨le_t rfl, le_t rfl⟩ ⟨rfl, le_t rfl⟩ ⟨le_t rfl, le_t rfl⟩ d_Sk_meetsAnew_40 rfl (fun m10 => ?_)
        show G X s 0 0 43 [(4, vR x5), (3, vR x2), (0, vR (some k)), (1, vI a1), (2, vI a2)] [vI x11]
        refine g_if_eq (tgt := 50) ok d_Sk_meetsAnew_43 (by decide) (fun c13 => ?_) (fun c13 => ?_)
        · replace h := (if_pos c13).symm.trans h
          refine g_iconst (v := (0 : Int32)) ok d_Sk_meetsAnew_50 (by decide) ?_
          cases h
          exact g_zretX ok (hret _ hk) (Or.inl rfl) (by decide) (by decide) d_Sk_meetsAnew_51
        · replace h := (if_neg c13).symm.trans h
          refine g_iconst (v := (1 : Int32)) ok d_Sk_meetsAnew_46 (by decide) ?_
          refine g_goto (tgt := 51) ok d_Sk_meetsAnew_47 (by decide) ?_
          cases h
          exact g_zretX ok (hret _ hk) (Or.inr rfl) (by decide) (by decide) d_Sk_meetsAnew_51
theorem c_Sk_meetsAnew {l : Launch} (hl : l.stackTraces = false) {k : Nat} {a1 : Int32} {a2 : Int32} {s : MS} (ht : rf s.2.2 0 (some k) = some k) {t : Nat} {r : Int32} {z : MS} (h : f_Sk_meetsAnew k a1 a2 s = some (t, r, z)) : Cx l yX4_meetsAnew (.code yX4_meetsAnew cX4_meetsAnew 5 (some .boolean)) rm_Sk_meetsAnew 1 6 false [vR (some k), vI a1, vI a2] s (tcode t) (some (vI r)) z :=
  Cx.of hl rfl (by decide +kernel) ⟨rfl, le_t rfl⟩ (fun X ok fn _ _ => w_Sk_meetsAnew (KX := fun y => y = (t, r, z)) ok (fun y hy => by subst hy; exact fn) ht h rfl)
abbrev rm_Sk_ofMachine : Room := { frames := 6, cells := 1, slots := 6, locals := 90 }
theorem cm_Sk_ofMachine : cfM yX4_ofMachine cX4_ofMachine 4 (some .int) 2 := ⟨tw_655, tw_1, by decide, by decide, by decide +kernel⟩
theorem cv_Sk_ofMachine : cfV yX4_ofMachine := ⟨tw_653, tw_654⟩
theorem d_Sk_ofMachine_0 : decode cX4_ofMachine 0 = .ok (.aload_n 0, 1) := by decide +kernel
theorem d_Sk_ofMachine_1 : decode cX4_ofMachine 1 = .ok (.iload_n 1, 1) := by decide +kernel
theorem d_Sk_ofMachine_2 : decode cX4_ofMachine 2 = .ok (.invokevirtual 157, 3) := by decide +kernel
theorem d_Sk_ofMachine_5 : decode cX4_ofMachine 5 = .ok (.astore_n 3, 1) := by decide +kernel
theorem d_Sk_ofMachine_6 : decode cX4_ofMachine 6 = .ok (.aload_n 3, 1) := by decide +kernel
theorem d_Sk_ofMachine_7 : decode cX4_ofMachine 7 = .ok (.ifnonnull 13, 3) := by decide +kernel
theorem d_Sk_ofMachine_10 : decode cX4_ofMachine 10 = .ok (.new 51, 3) := by decide +kernel
theorem d_Sk_ofMachine_13 : decode cX4_ofMachine 13 = .ok (.dup, 1) := by decide +kernel
theorem d_Sk_ofMachine_14 : decode cX4_ofMachine 14 = .ok (.ldc 161, 2) := by decide +kernel
theorem d_Sk_ofMachine_16 : decode cX4_ofMachine 16 = .ok (.invokespecial 55, 3) := by decide +kernel
theorem d_Sk_ofMachine_19 : decode cX4_ofMachine 19 = .ok (.athrow, 1) := by decide +kernel
theorem d_Sk_ofMachine_20 : decode cX4_ofMachine 20 = .ok (.iload_n 2, 1) := by decide +kernel
theorem d_Sk_ofMachine_21 : decode cX4_ofMachine 21 = .ok (.tableswitch 75 0 5 #[39, 44, 52, 60, 65, 70], 39) := by decide +kernel
theorem d_Sk_ofMachine_60 : decode cX4_ofMachine 60 = .ok (.aload_n 3, 1) := by decide +kernel
theorem d_Sk_ofMachine_61 : decode cX4_ofMachine 61 = .ok (.getfield 163, 3) := by decide +kernel
theorem d_Sk_ofMachine_64 : decode cX4_ofMachine 64 = .ok (.ireturn, 1) := by decide +kernel
theorem d_Sk_ofMachine_65 : decode cX4_ofMachine 65 = .ok (.aload_n 3, 1) := by decide +kernel
theorem d_Sk_ofMachine_66 : decode cX4_ofMachine 66 = .ok (.getfield 166, 3) := by decide +kernel
theorem d_Sk_ofMachine_69 : decode cX4_ofMachine 69 = .ok (.bipush 100, 2) := by decide +kernel
theorem d_Sk_ofMachine_71 : decode cX4_ofMachine 71 = .ok (.irem, 1) := by decide +kernel
theorem d_Sk_ofMachine_72 : decode cX4_ofMachine 72 = .ok (.ireturn, 1) := by decide +kernel
theorem d_Sk_ofMachine_73 : decode cX4_ofMachine 73 = .ok (.aload_n 3, 1) := by decide +kernel
theorem d_Sk_ofMachine_74 : decode cX4_ofMachine 74 = .ok (.getfield 166, 3) := by decide +kernel
theorem d_Sk_ofMachine_77 : decode cX4_ofMachine 77 = .ok (.bipush 100, 2) := by decide +kernel
theorem d_Sk_ofMachine_79 : decode cX4_ofMachine 79 = .ok (.idiv, 1) := by decide +kernel
theorem d_Sk_ofMachine_80 : decode cX4_ofMachine 80 = .ok (.ireturn, 1) := by decide +kernel
theorem d_Sk_ofMachine_81 : decode cX4_ofMachine 81 = .ok (.aload_n 3, 1) := by decide +kernel
theorem d_Sk_ofMachine_82 : decode cX4_ofMachine 82 = .ok (.getfield 243, 3) := by decide +kernel
theorem d_Sk_ofMachine_85 : decode cX4_ofMachine 85 = .ok (.ireturn, 1) := by decide +kernel
theorem d_Sk_ofMachine_86 : decode cX4_ofMachine 86 = .ok (.aload_n 3, 1) := by decide +kernel
theorem d_Sk_ofMachine_87 : decode cX4_ofMachine 87 = .ok (.getfield 281, 3) := by decide +kernel
theorem d_Sk_ofMachine_90 : decode cX4_ofMachine 90 = .ok (.ireturn, 1) := by decide +kernel
theorem d_Sk_ofMachine_91 : decode cX4_ofMachine 91 = .ok (.aload_n 3, 1) := by decide +kernel
theorem d_Sk_ofMachine_92 : decode cX4_ofMachine 92 = .ok (.getfield 284, 3) := by decide +kernel
theorem d_Sk_ofMachine_95 : decode cX4_ofMachine 95 = .ok (.ireturn, 1) := by decide +kernel
theorem d_Sk_ofMachine_96 : decode cX4_ofMachine 96 = .ok (.new 62, 3) := by decide +kernel
theorem d_Sk_ofMachine_99 : decode cX4_ofMachine 99 = .ok (.dup, 1) := by decide +kernel
theorem d_Sk_ofMachine_100 : decode cX4_ofMachine 100 = .ok (.ldc_w 287, 3) := by decide +kernel
theorem d_Sk_ofMachine_103 : decode cX4_ofMachine 103 = .ok (.invokespecial 66, 3) := by decide +kernel
theorem d_Sk_ofMachine_106 : decode cX4_ofMachine 106 = .ok (.athrow, 1) := by decide +kernel
set_option maxRecDepth 100000 in
set_option maxHeartbeats 4000000 in
theorem w_Sk_ofMachine {X : CX} {KX : Nat × Int32 × MS → Prop} {k : Nat} {a1 : Int32} {a2 : Int32} {s : MS} (ok : Ok X cX4_ofMachine RX4 rm_Sk_ofMachine 4 false) (hret : ∀ r : Nat × Int32 × MS, KX r → Fix X (some .int) 1 6 false (tcode r.1) (some (vI r.2.1)) r.2.2)   (ht : rf s.2.2 0 (some k) = some k) {res : Nat × Int32 × MS} (h : f_Sk_ofMachine k a1 a2 s = some res) (hk : KX res) : G X s 0 0 0 [(0, vR (some k)), (1, vI a1), (2, vI a2)] [] := by
  unfold f_Sk_ofMachine at h
  refine g_aload_n (i := 0) 0 ok d_Sk_ofMachine_0 rfl rfl ?_
  refine g_iload_n (i := 1) 1 ok d_Sk_ofMachine_1 rfl rfl ?_
  obtain ⟨x2, hc3, h⟩ := bnd_go h
  refine g_invV (rm2 := rm_Sk_machineOf) (As := [vI a1]) (rest := []) ok ht lay_0 rfl (c_Sk_machineOf X.1.2.1 (rf_self ht) hc3) cm_Sk_machineOf cv_Sk_machineOf tw_415 ⟨rfl, rfl⟩ ⟨le_t rfl, le_t rfl⟩ ⟨rfl, le_t rfl⟩ ⟨le_t rfl, le_t rfl⟩ d_Sk_ofMachine_2 rfl (fun m1 => ?_)
  show G X s 0 0 5 [(0, vR (some k)), (1, vI a1), (2, vI a2)] [vR x2]
  refine g_astore_n (i := 3) [(3, vR x2), (0, vR (some k)), (1, vI a1), (2, vI a2)] ok d_Sk_ofMachine_5 rfl (by decide) rfl ?_
  refine g_aload_n (i := 3) 0 ok d_Sk_ofMachine_6 rfl rfl ?_
  refine g_ifnonnull (tgt := 20) ok d_Sk_ofMachine_7 (by decide) (fun c4 => ?_) (fun c4 => ?_)
  · replace h := (if_pos c4).symm.trans h
    cases h
    exact g_throw (ik := 51) (is := 161) (ic := 55) (cls := "java/lang/IndexOutOfBoundsException") (text := "no such machine") (names := xnames) ok (hret _ hk) xf_IndexOutOfBoundsException xf_names tw_203 tw_7 (List.mem_of_getElem? (i := 12) rfl) xa_IndexOutOfBoundsException xg_IndexOutOfBoundsException d_Sk_ofMachine_10 d_Sk_ofMachine_13 d_Sk_ofMachine_14 d_Sk_ofMachine_16 d_Sk_ofMachine_19 ⟨le_t rfl, le_t rfl⟩ rfl ⟨le_t rfl, le_t rfl⟩ (le_t rfl) (le_t rfl)
  · replace h := (if_neg c4).symm.trans h
    refine g_iload_n (i := 2) 3 ok d_Sk_ofMachine_20 rfl rfl ?_
    by_cases c21_0 : a2 = (0 : Int32)
    · replace h := (if_pos c21_0).symm.trans h
      refine g_tabIn (off := 39) (tgt := 60) ok d_Sk_ofMachine_21 (by rw [c21_0]; decide) (by rw [c21_0]; decide) (by rw [c21_0]; rfl) (by decide) ?_
      refine g_aload_n (i := 3) 0 ok d_Sk_ofMachine_60 rfl rfl ?_
      obtain ⟨k5, hk6, h⟩ := bnd_go h
      refine g_getiN (s0 := 11) (j := 4) (ci := 1) (C := RX1) (T := TX1) (N := 7) ok hk6 lay_11 rfl inX1 (by decide) rfl tw_454 rfl d_Sk_ofMachine_61 ?_
      cases h
      exact g_iretX ok (hret _ hk) (by decide) (by decide) d_Sk_ofMachine_64
    · replace h := (if_neg c21_0).symm.trans h
      by_cases c21_1 : a2 = (1 : Int32)
      · replace h := (if_pos c21_1).symm.trans h
        refine g_tabIn (off := 44) (tgt := 65) ok d_Sk_ofMachine_21 (by rw [c21_1]; decide) (by rw [c21_1]; decide) (by rw [c21_1]; rfl) (by decide) ?_
        refine g_aload_n (i := 3) 0 ok d_Sk_ofMachine_65 rfl rfl ?_
        obtain ⟨k7, hk8, h⟩ := bnd_go h
        refine g_getiN (s0 := 11) (j := 3) (ci := 1) (C := RX1) (T := TX1) (N := 7) ok hk8 lay_11 rfl inX1 (by decide) rfl tw_452 rfl d_Sk_ofMachine_66 ?_
        refine g_bipush (v := (100 : Int32)) ok d_Sk_ofMachine_69 (by decide) ?_
        refine g_irem ok d_Sk_ofMachine_71 (by decide) ?_
        cases h
        exact g_iretX ok (hret _ hk) (by decide) (by decide) d_Sk_ofMachine_72
      · replace h := (if_neg c21_1).symm.trans h
        by_cases c21_2 : a2 = (2 : Int32)
        · replace h := (if_pos c21_2).symm.trans h
          refine g_tabIn (off := 52) (tgt := 73) ok d_Sk_ofMachine_21 (by rw [c21_2]; decide) (by rw [c21_2]; decide) (by rw [c21_2]; rfl) (by decide) ?_
          refine g_aload_n (i := 3) 0 ok d_Sk_ofMachine_73 rfl rfl ?_
          obtain ⟨k9, hk10, h⟩ := bnd_go h
          refine g_getiN (s0 := 11) (j := 3) (ci := 1) (C := RX1) (T := TX1) (N := 7) ok hk10 lay_11 rfl inX1 (by decide) rfl tw_452 rfl d_Sk_ofMachine_74 ?_
          refine g_bipush (v := (100 : Int32)) ok d_Sk_ofMachine_77 (by decide) ?_
          refine g_idiv ok d_Sk_ofMachine_79 (by decide) ?_
          cases h
          exact g_iretX ok (hret _ hk) (by decide) (by decide) d_Sk_ofMachine_80
        · replace h := (if_neg c21_2).symm.trans h
          by_cases c21_3 : a2 = (3 : Int32)
          · replace h := (if_pos c21_3).symm.trans h
            refine g_tabIn (off := 60) (tgt := 81) ok d_Sk_ofMachine_21 (by rw [c21_3]; decide) (by rw [c21_3]; decide) (by rw [c21_3]; rfl) (by decide) ?_
            refine g_aload_n (i := 3) 0 ok d_Sk_ofMachine_81 rfl rfl ?_
            obtain ⟨k11, hk12, h⟩ := bnd_go h
            refine g_getiN (s0 := 11) (j := 2) (ci := 1) (C := RX1) (T := TX1) (N := 7) ok hk12 lay_11 rfl inX1 (by decide) rfl tw_450 rfl d_Sk_ofMachine_82 ?_
            cases h
            exact g_iretX ok (hret _ hk) (by decide) (by decide) d_Sk_ofMachine_85
          · replace h := (if_neg c21_3).symm.trans h
            by_cases c21_4 : a2 = (4 : Int32)
            · replace h := (if_pos c21_4).symm.trans h
              refine g_tabIn (off := 65) (tgt := 86) ok d_Sk_ofMachine_21 (by rw [c21_4]; decide) (by rw [c21_4]; decide) (by rw [c21_4]; rfl) (by decide) ?_
              refine g_aload_n (i := 3) 0 ok d_Sk_ofMachine_86 rfl rfl ?_
              obtain ⟨k13, hk14, h⟩ := bnd_go h
              refine g_getiN (s0 := 11) (j := 0) (ci := 1) (C := RX1) (T := TX1) (N := 7) ok hk14 lay_11 rfl inX1 (by decide) rfl tw_447 rfl d_Sk_ofMachine_87 ?_
              cases h
              exact g_iretX ok (hret _ hk) (by decide) (by decide) d_Sk_ofMachine_90
            · replace h := (if_neg c21_4).symm.trans h
              by_cases c21_5 : a2 = (5 : Int32)
              · replace h := (if_pos c21_5).symm.trans h
                refine g_tabIn (off := 70) (tgt := 91) ok d_Sk_ofMachine_21 (by rw [c21_5]; decide) (by rw [c21_5]; decide) (by rw [c21_5]; rfl) (by decide) ?_
                refine g_aload_n (i := 3) 0 ok d_Sk_ofMachine_91 rfl rfl ?_
                obtain ⟨k15, hk16, h⟩ := bnd_go h
                refine g_getiN (s0 := 11) (j := 5) (ci := 1) (C := RX1) (T := TX1) (N := 7) ok hk16 lay_11 rfl inX1 (by decide) rfl tw_456 rfl d_Sk_ofMachine_92 ?_
                cases h
                exact g_iretX ok (hret _ hk) (by decide) (by decide) d_Sk_ofMachine_95
              · replace h := (if_neg c21_5).symm.trans h
                refine g_tabOut (tgt := 96) ok d_Sk_ofMachine_21 (tab_out (fun z h1 h2 => ?_)) (by decide) ?_
                · rcases (show z = 0 ∨ z = 1 ∨ z = 2 ∨ z = 3 ∨ z = 4 ∨ z = 5 by omega) with rfl | rfl | rfl | rfl | rfl | rfl
                  · exact c21_0
                  · exact c21_1
                  · exact c21_2
                  · exact c21_3
                  · exact c21_4
                  · exact c21_5
                · cases h
                  exact g_throwW (ik := 62) (is := 287) (ic := 66) (cls := "java/lang/IllegalArgumentException") (text := "what out of range") (names := xnames) ok (hret _ hk) xf_IllegalArgumentException xf_names tw_271 tw_8 (List.mem_of_getElem? (i := 19) rfl) xa_IllegalArgumentException xg_IllegalArgumentException d_Sk_ofMachine_96 d_Sk_ofMachine_99 d_Sk_ofMachine_100 d_Sk_ofMachine_103 d_Sk_ofMachine_106 ⟨le_t rfl, le_t rfl⟩ rfl ⟨le_t rfl, le_t rfl⟩ (le_t rfl) (le_t rfl)
theorem c_Sk_ofMachine {l : Launch} (hl : l.stackTraces = false) {k : Nat} {a1 : Int32} {a2 : Int32} {s : MS} (ht : rf s.2.2 0 (some k) = some k) {t : Nat} {r : Int32} {z : MS} (h : f_Sk_ofMachine k a1 a2 s = some (t, r, z)) : Cx l yX4_ofMachine (.code yX4_ofMachine cX4_ofMachine 4 (some .int)) rm_Sk_ofMachine 1 6 false [vR (some k), vI a1, vI a2] s (tcode t) (some (vI r)) z :=
  Cx.of hl rfl (by decide +kernel) ⟨rfl, le_t rfl⟩ (fun X ok fn _ _ => w_Sk_ofMachine (KX := fun y => y = (t, r, z)) ok (fun y hy => by subst hy; exact fn) ht h rfl)
abbrev rm_Sk_ofPath : Room := { frames := 6, cells := 1, slots := 6, locals := 90 }
theorem cm_Sk_ofPath : cfM yX4_ofPath cX4_ofPath 4 (some .int) 2 := ⟨tw_663, tw_1, by decide, by decide, by decide +kernel⟩
theorem cv_Sk_ofPath : cfV yX4_ofPath := ⟨tw_661, tw_662⟩
theorem d_Sk_ofPath_0 : decode cX4_ofPath 0 = .ok (.aload_n 0, 1) := by decide +kernel
theorem d_Sk_ofPath_1 : decode cX4_ofPath 1 = .ok (.iload_n 1, 1) := by decide +kernel
theorem d_Sk_ofPath_2 : decode cX4_ofPath 2 = .ok (.invokevirtual 208, 3) := by decide +kernel
theorem d_Sk_ofPath_5 : decode cX4_ofPath 5 = .ok (.astore_n 3, 1) := by decide +kernel
theorem d_Sk_ofPath_6 : decode cX4_ofPath 6 = .ok (.aload_n 3, 1) := by decide +kernel
theorem d_Sk_ofPath_7 : decode cX4_ofPath 7 = .ok (.ifnonnull 13, 3) := by decide +kernel
theorem d_Sk_ofPath_10 : decode cX4_ofPath 10 = .ok (.new 51, 3) := by decide +kernel
theorem d_Sk_ofPath_13 : decode cX4_ofPath 13 = .ok (.dup, 1) := by decide +kernel
theorem d_Sk_ofPath_14 : decode cX4_ofPath 14 = .ok (.ldc 212, 2) := by decide +kernel
theorem d_Sk_ofPath_16 : decode cX4_ofPath 16 = .ok (.invokespecial 55, 3) := by decide +kernel
theorem d_Sk_ofPath_19 : decode cX4_ofPath 19 = .ok (.athrow, 1) := by decide +kernel
theorem d_Sk_ofPath_20 : decode cX4_ofPath 20 = .ok (.iload_n 2, 1) := by decide +kernel
theorem d_Sk_ofPath_21 : decode cX4_ofPath 21 = .ok (.tableswitch 60 0 4 #[35, 40, 45, 50, 55], 35) := by decide +kernel
theorem d_Sk_ofPath_56 : decode cX4_ofPath 56 = .ok (.aload_n 3, 1) := by decide +kernel
theorem d_Sk_ofPath_57 : decode cX4_ofPath 57 = .ok (.getfield 214, 3) := by decide +kernel
theorem d_Sk_ofPath_60 : decode cX4_ofPath 60 = .ok (.ireturn, 1) := by decide +kernel
theorem d_Sk_ofPath_61 : decode cX4_ofPath 61 = .ok (.aload_n 3, 1) := by decide +kernel
theorem d_Sk_ofPath_62 : decode cX4_ofPath 62 = .ok (.getfield 192, 3) := by decide +kernel
theorem d_Sk_ofPath_65 : decode cX4_ofPath 65 = .ok (.ireturn, 1) := by decide +kernel
theorem d_Sk_ofPath_66 : decode cX4_ofPath 66 = .ok (.aload_n 3, 1) := by decide +kernel
theorem d_Sk_ofPath_67 : decode cX4_ofPath 67 = .ok (.getfield 195, 3) := by decide +kernel
theorem d_Sk_ofPath_70 : decode cX4_ofPath 70 = .ok (.ireturn, 1) := by decide +kernel
theorem d_Sk_ofPath_71 : decode cX4_ofPath 71 = .ok (.aload_n 3, 1) := by decide +kernel
theorem d_Sk_ofPath_72 : decode cX4_ofPath 72 = .ok (.invokevirtual 256, 3) := by decide +kernel
theorem d_Sk_ofPath_75 : decode cX4_ofPath 75 = .ok (.ireturn, 1) := by decide +kernel
theorem d_Sk_ofPath_76 : decode cX4_ofPath 76 = .ok (.aload_n 3, 1) := by decide +kernel
theorem d_Sk_ofPath_77 : decode cX4_ofPath 77 = .ok (.getfield 198, 3) := by decide +kernel
theorem d_Sk_ofPath_80 : decode cX4_ofPath 80 = .ok (.ireturn, 1) := by decide +kernel
theorem d_Sk_ofPath_81 : decode cX4_ofPath 81 = .ok (.new 62, 3) := by decide +kernel
theorem d_Sk_ofPath_84 : decode cX4_ofPath 84 = .ok (.dup, 1) := by decide +kernel
theorem d_Sk_ofPath_85 : decode cX4_ofPath 85 = .ok (.ldc_w 287, 3) := by decide +kernel
theorem d_Sk_ofPath_88 : decode cX4_ofPath 88 = .ok (.invokespecial 66, 3) := by decide +kernel
theorem d_Sk_ofPath_91 : decode cX4_ofPath 91 = .ok (.athrow, 1) := by decide +kernel
set_option maxRecDepth 100000 in
set_option maxHeartbeats 4000000 in
theorem w_Sk_ofPath {X : CX} {KX : Nat × Int32 × MS → Prop} {k : Nat} {a1 : Int32} {a2 : Int32} {s : MS} (ok : Ok X cX4_ofPath RX4 rm_Sk_ofPath 4 false) (hret : ∀ r : Nat × Int32 × MS, KX r → Fix X (some .int) 1 6 false (tcode r.1) (some (vI r.2.1)) r.2.2)   (ht : rf s.2.2 0 (some k) = some k) {res : Nat × Int32 × MS} (h : f_Sk_ofPath k a1 a2 s = some res) (hk : KX res) : G X s 0 0 0 [(0, vR (some k)), (1, vI a1), (2, vI a2)] [] := by
  unfold f_Sk_ofPath at h
  refine g_aload_n (i := 0) 0 ok d_Sk_ofPath_0 rfl rfl ?_
  refine g_iload_n (i := 1) 1 ok d_Sk_ofPath_1 rfl rfl ?_
  obtain ⟨x2, hc3, h⟩ := bnd_go h
  refine g_invV (rm2 := rm_Sk_pathOf) (As := [vI a1]) (rest := []) ok ht lay_0 rfl (c_Sk_pathOf X.1.2.1 (rf_self ht) hc3) cm_Sk_pathOf cv_Sk_pathOf tw_145 ⟨rfl, rfl⟩ ⟨le_t rfl, le_t rfl⟩ ⟨rfl, le_t rfl⟩ ⟨le_t rfl, le_t rfl⟩ d_Sk_ofPath_2 rfl (fun m1 => ?_)
  show G X s 0 0 5 [(0, vR (some k)), (1, vI a1), (2, vI a2)] [vR x2]
  refine g_astore_n (i := 3) [(3, vR x2), (0, vR (some k)), (1, vI a1), (2, vI a2)] ok d_Sk_ofPath_5 rfl (by decide) rfl ?_
  refine g_aload_n (i := 3) 0 ok d_Sk_ofPath_6 rfl rfl ?_
  refine g_ifnonnull (tgt := 20) ok d_Sk_ofPath_7 (by decide) (fun c4 => ?_) (fun c4 => ?_)
  · replace h := (if_pos c4).symm.trans h
    cases h
    exact g_throw (ik := 51) (is := 212) (ic := 55) (cls := "java/lang/IndexOutOfBoundsException") (text := "no such path") (names := xnames) ok (hret _ hk) xf_IndexOutOfBoundsException xf_names tw_203 tw_7 (List.mem_of_getElem? (i := 20) rfl) xa_IndexOutOfBoundsException xg_IndexOutOfBoundsException d_Sk_ofPath_10 d_Sk_ofPath_13 d_Sk_ofPath_14 d_Sk_ofPath_16 d_Sk_ofPath_19 ⟨le_t rfl, le_t rfl⟩ rfl ⟨le_t rfl, le_t rfl⟩ (le_t rfl) (le_t rfl)
  · replace h := (if_neg c4).symm.trans h
    refine g_iload_n (i := 2) 3 ok d_Sk_ofPath_20 rfl rfl ?_
    by_cases c21_0 : a2 = (0 : Int32)
    · replace h := (if_pos c21_0).symm.trans h
      refine g_tabIn (off := 35) (tgt := 56) ok d_Sk_ofPath_21 (by rw [c21_0]; decide) (by rw [c21_0]; decide) (by rw [c21_0]; rfl) (by decide) ?_
      refine g_aload_n (i := 3) 0 ok d_Sk_ofPath_56 rfl rfl ?_
      obtain ⟨k5, hk6, h⟩ := bnd_go h
      refine g_getiN (s0 := 12) (j := 6) (ci := 2) (C := RX2) (T := TX2) (N := 7) ok hk6 lay_12 rfl inX2 (by decide) rfl tw_66 rfl d_Sk_ofPath_57 ?_
      cases h
      exact g_iretX ok (hret _ hk) (by decide) (by decide) d_Sk_ofPath_60
    · replace h := (if_neg c21_0).symm.trans h
      by_cases c21_1 : a2 = (1 : Int32)
      · replace h := (if_pos c21_1).symm.trans h
        refine g_tabIn (off := 40) (tgt := 61) ok d_Sk_ofPath_21 (by rw [c21_1]; decide) (by rw [c21_1]; decide) (by rw [c21_1]; rfl) (by decide) ?_
        refine g_aload_n (i := 3) 0 ok d_Sk_ofPath_61 rfl rfl ?_
        obtain ⟨k7, hk8, h⟩ := bnd_go h
        refine g_getiN (s0 := 12) (j := 2) (ci := 2) (C := RX2) (T := TX2) (N := 7) ok hk8 lay_12 rfl inX2 (by decide) rfl tw_60 rfl d_Sk_ofPath_62 ?_
        cases h
        exact g_iretX ok (hret _ hk) (by decide) (by decide) d_Sk_ofPath_65
      · replace h := (if_neg c21_1).symm.trans h
        by_cases c21_2 : a2 = (2 : Int32)
        · replace h := (if_pos c21_2).symm.trans h
          refine g_tabIn (off := 45) (tgt := 66) ok d_Sk_ofPath_21 (by rw [c21_2]; decide) (by rw [c21_2]; decide) (by rw [c21_2]; rfl) (by decide) ?_
          refine g_aload_n (i := 3) 0 ok d_Sk_ofPath_66 rfl rfl ?_
          obtain ⟨k9, hk10, h⟩ := bnd_go h
          refine g_getiN (s0 := 12) (j := 3) (ci := 2) (C := RX2) (T := TX2) (N := 7) ok hk10 lay_12 rfl inX2 (by decide) rfl tw_62 rfl d_Sk_ofPath_67 ?_
          cases h
          exact g_iretX ok (hret _ hk) (by decide) (by decide) d_Sk_ofPath_70
        · replace h := (if_neg c21_2).symm.trans h
          by_cases c21_3 : a2 = (3 : Int32)
          · replace h := (if_pos c21_3).symm.trans h
            refine g_tabIn (off := 50) (tgt := 71) ok d_Sk_ofPath_21 (by rw [c21_3]; decide) (by rw [c21_3]; decide) (by rw [c21_3]; rfl) (by decide) ?_
            refine g_aload_n (i := 3) 0 ok d_Sk_ofPath_71 rfl rfl ?_
            obtain ⟨k11, hk12, h⟩ := bnd_go h
            obtain ⟨x14, hc15, h⟩ := bnd_go h
            refine g_invVN (rm2 := rm_Pa_end) (As := []) (rest := []) ok hk12 lay_12 rfl (c_Pa_end X.1.2.1 (rf_self hk12) hc15) cm_Pa_end cv_Pa_end tw_614 ⟨rfl, rfl⟩ ⟨le_t rfl, le_t rfl⟩ ⟨rfl, le_t rfl⟩ ⟨le_t rfl, le_t rfl⟩ d_Sk_ofPath_72 rfl (fun m13 => ?_)
            show G X s 0 0 75 [(3, vR x2), (0, vR (some k)), (1, vI a1), (2, vI a2)] [vI x14]
            cases h
            exact g_iretX ok (hret _ hk) (by decide) (by decide) d_Sk_ofPath_75
          · replace h := (if_neg c21_3).symm.trans h
            by_cases c21_4 : a2 = (4 : Int32)
            · replace h := (if_pos c21_4).symm.trans h
              refine g_tabIn (off := 55) (tgt := 76) ok d_Sk_ofPath_21 (by rw [c21_4]; decide) (by rw [c21_4]; decide) (by rw [c21_4]; rfl) (by decide) ?_
              refine g_aload_n (i := 3) 0 ok d_Sk_ofPath_76 rfl rfl ?_
              obtain ⟨k16, hk17, h⟩ := bnd_go h
              refine g_getiN (s0 := 12) (j := 5) (ci := 2) (C := RX2) (T := TX2) (N := 7) ok hk17 lay_12 rfl inX2 (by decide) rfl tw_65 rfl d_Sk_ofPath_77 ?_
              cases h
              exact g_iretX ok (hret _ hk) (by decide) (by decide) d_Sk_ofPath_80
            · replace h := (if_neg c21_4).symm.trans h
              refine g_tabOut (tgt := 81) ok d_Sk_ofPath_21 (tab_out (fun z h1 h2 => ?_)) (by decide) ?_
              · rcases (show z = 0 ∨ z = 1 ∨ z = 2 ∨ z = 3 ∨ z = 4 by omega) with rfl | rfl | rfl | rfl | rfl
                · exact c21_0
                · exact c21_1
                · exact c21_2
                · exact c21_3
                · exact c21_4
              · cases h
                exact g_throwW (ik := 62) (is := 287) (ic := 66) (cls := "java/lang/IllegalArgumentException") (text := "what out of range") (names := xnames) ok (hret _ hk) xf_IllegalArgumentException xf_names tw_271 tw_8 (List.mem_of_getElem? (i := 19) rfl) xa_IllegalArgumentException xg_IllegalArgumentException d_Sk_ofPath_81 d_Sk_ofPath_84 d_Sk_ofPath_85 d_Sk_ofPath_88 d_Sk_ofPath_91 ⟨le_t rfl, le_t rfl⟩ rfl ⟨le_t rfl, le_t rfl⟩ (le_t rfl) (le_t rfl)
theorem c_Sk_ofPath {l : Launch} (hl : l.stackTraces = false) {k : Nat} {a1 : Int32} {a2 : Int32} {s : MS} (ht : rf s.2.2 0 (some k) = some k) {t : Nat} {r : Int32} {z : MS} (h : f_Sk_ofPath k a1 a2 s = some (t, r, z)) : Cx l yX4_ofPath (.code yX4_ofPath cX4_ofPath 4 (some .int)) rm_Sk_ofPath 1 6 false [vR (some k), vI a1, vI a2] s (tcode t) (some (vI r)) z :=
  Cx.of hl rfl (by decide +kernel) ⟨rfl, le_t rfl⟩ (fun X ok fn _ _ => w_Sk_ofPath (KX := fun y => y = (t, r, z)) ok (fun y hy => by subst hy; exact fn) ht h rfl)
abbrev rm_Sk_count : Room := { frames := 6, cells := 1, slots := 6, locals := 90 }
theorem cm_Sk_count : cfM yX4_count cX4_count 2 (some .int) 1 := ⟨tw_671, tw_1, by decide, by decide, by decide +kernel⟩
theorem cv_Sk_count : cfV yX4_count := ⟨tw_669, tw_670⟩
theorem d_Sk_count_0 : decode cX4_count 0 = .ok (.iload_n 1, 1) := by decide +kernel
theorem d_Sk_count_1 : decode cX4_count 1 = .ok (.tableswitch 60 0 4 #[35, 40, 45, 50, 55], 35) := by decide +kernel
theorem d_Sk_count_36 : decode cX4_count 36 = .ok (.aload_n 0, 1) := by decide +kernel
theorem d_Sk_count_37 : decode cX4_count 37 = .ok (.getfield 70, 3) := by decide +kernel
theorem d_Sk_count_40 : decode cX4_count 40 = .ok (.ireturn, 1) := by decide +kernel
theorem d_Sk_count_41 : decode cX4_count 41 = .ok (.aload_n 0, 1) := by decide +kernel
theorem d_Sk_count_42 : decode cX4_count 42 = .ok (.getfield 289, 3) := by decide +kernel
theorem d_Sk_count_45 : decode cX4_count 45 = .ok (.ireturn, 1) := by decide +kernel
theorem d_Sk_count_46 : decode cX4_count 46 = .ok (.aload_n 0, 1) := by decide +kernel
theorem d_Sk_count_47 : decode cX4_count 47 = .ok (.invokevirtual 292, 3) := by decide +kernel
theorem d_Sk_count_50 : decode cX4_count 50 = .ok (.ireturn, 1) := by decide +kernel
theorem d_Sk_count_51 : decode cX4_count 51 = .ok (.aload_n 0, 1) := by decide +kernel
theorem d_Sk_count_52 : decode cX4_count 52 = .ok (.invokevirtual 295, 3) := by decide +kernel
theorem d_Sk_count_55 : decode cX4_count 55 = .ok (.ireturn, 1) := by decide +kernel
theorem d_Sk_count_56 : decode cX4_count 56 = .ok (.aload_n 0, 1) := by decide +kernel
theorem d_Sk_count_57 : decode cX4_count 57 = .ok (.getfield 298, 3) := by decide +kernel
theorem d_Sk_count_60 : decode cX4_count 60 = .ok (.ireturn, 1) := by decide +kernel
theorem d_Sk_count_61 : decode cX4_count 61 = .ok (.new 62, 3) := by decide +kernel
theorem d_Sk_count_64 : decode cX4_count 64 = .ok (.dup, 1) := by decide +kernel
theorem d_Sk_count_65 : decode cX4_count 65 = .ok (.ldc_w 287, 3) := by decide +kernel
theorem d_Sk_count_68 : decode cX4_count 68 = .ok (.invokespecial 66, 3) := by decide +kernel
theorem d_Sk_count_71 : decode cX4_count 71 = .ok (.athrow, 1) := by decide +kernel
set_option maxRecDepth 100000 in
set_option maxHeartbeats 4000000 in
theorem w_Sk_count {X : CX} {KX : Nat × Int32 × MS → Prop} {k : Nat} {a1 : Int32} {s : MS} (ok : Ok X cX4_count RX4 rm_Sk_count 2 false) (hret : ∀ r : Nat × Int32 × MS, KX r → Fix X (some .int) 1 6 false (tcode r.1) (some (vI r.2.1)) r.2.2)   (ht : rf s.2.2 0 (some k) = some k) {res : Nat × Int32 × MS} (h : f_Sk_count k a1 s = some res) (hk : KX res) : G X s 0 0 0 [(0, vR (some k)), (1, vI a1)] [] := by
  unfold f_Sk_count at h
  refine g_iload_n (i := 1) 1 ok d_Sk_count_0 rfl rfl ?_
  by_cases c1_0 : a1 = (0 : Int32)
  · replace h := (if_pos c1_0).symm.trans h
    refine g_tabIn (off := 35) (tgt := 36) ok d_Sk_count_1 (by rw [c1_0]; decide) (by rw [c1_0]; decide) (by rw [c1_0]; rfl) (by decide) ?_
    refine g_aload_n (i := 0) 0 ok d_Sk_count_36 rfl rfl ?_
    refine g_geti (s0 := 0) (j := 8) (ci := 4) (C := RX4) (T := TX4) (N := 14) ok ht lay_0 rfl inX4 (by decide) rfl tw_90 rfl d_Sk_count_37 ?_
    cases h
    exact g_iretX ok (hret _ hk) (by decide) (by decide) d_Sk_count_40
  · replace h := (if_neg c1_0).symm.trans h
    by_cases c1_1 : a1 = (1 : Int32)
    · replace h := (if_pos c1_1).symm.trans h
      refine g_tabIn (off := 40) (tgt := 41) ok d_Sk_count_1 (by rw [c1_1]; decide) (by rw [c1_1]; decide) (by rw [c1_1]; rfl) (by decide) ?_
      refine g_aload_n (i := 0) 0 ok d_Sk_count_41 rfl rfl ?_
      refine g_geti (s0 := 0) (j := 11) (ci := 4) (C := RX4) (T := TX4) (N := 14) ok ht lay_0 rfl inX4 (by decide) rfl tw_93 rfl d_Sk_count_42 ?_
      cases h
      exact g_iretX ok (hret _ hk) (by decide) (by decide) d_Sk_count_45
    · replace h := (if_neg c1_1).symm.trans h
      by_cases c1_2 : a1 = (2 : Int32)
      · replace h := (if_pos c1_2).symm.trans h
        refine g_tabIn (off := 45) (tgt := 46) ok d_Sk_count_1 (by rw [c1_2]; decide) (by rw [c1_2]; decide) (by rw [c1_2]; rfl) (by decide) ?_
        refine g_aload_n (i := 0) 0 ok d_Sk_count_46 rfl rfl ?_
        obtain ⟨x2, hc3, h⟩ := bnd_go h
        refine g_invV (rm2 := rm_Sk_withdrawnPaths) (As := []) (rest := []) ok ht lay_0 rfl (c_Sk_withdrawnPaths X.1.2.1 (rf_self ht) hc3) cm_Sk_withdrawnPaths cv_Sk_withdrawnPaths tw_672 ⟨rfl, rfl⟩ ⟨le_t rfl, le_t rfl⟩ ⟨rfl, le_t rfl⟩ ⟨le_t rfl, le_t rfl⟩ d_Sk_count_47 rfl (fun m1 => ?_)
        show G X s 0 0 50 [(0, vR (some k)), (1, vI a1)] [vI x2]
        cases h
        exact g_iretX ok (hret _ hk) (by decide) (by decide) d_Sk_count_50
      · replace h := (if_neg c1_2).symm.trans h
        by_cases c1_3 : a1 = (3 : Int32)
        · replace h := (if_pos c1_3).symm.trans h
          refine g_tabIn (off := 50) (tgt := 51) ok d_Sk_count_1 (by rw [c1_3]; decide) (by rw [c1_3]; decide) (by rw [c1_3]; rfl) (by decide) ?_
          refine g_aload_n (i := 0) 0 ok d_Sk_count_51 rfl rfl ?_
          obtain ⟨x5, hc6, h⟩ := bnd_go h
          refine g_invV (rm2 := rm_Sk_machinesDown) (As := []) (rest := []) ok ht lay_0 rfl (c_Sk_machinesDown X.1.2.1 (rf_self ht) hc6) cm_Sk_machinesDown cv_Sk_machinesDown tw_676 ⟨rfl, rfl⟩ ⟨le_t rfl, le_t rfl⟩ ⟨rfl, le_t rfl⟩ ⟨le_t rfl, le_t rfl⟩ d_Sk_count_52 rfl (fun m4 => ?_)
          show G X s 0 0 55 [(0, vR (some k)), (1, vI a1)] [vI x5]
          cases h
          exact g_iretX ok (hret _ hk) (by decide) (by decide) d_Sk_count_55
        · replace h := (if_neg c1_3).symm.trans h
          by_cases c1_4 : a1 = (4 : Int32)
          · replace h := (if_pos c1_4).symm.trans h
            refine g_tabIn (off := 55) (tgt := 56) ok d_Sk_count_1 (by rw [c1_4]; decide) (by rw [c1_4]; decide) (by rw [c1_4]; rfl) (by decide) ?_
            refine g_aload_n (i := 0) 0 ok d_Sk_count_56 rfl rfl ?_
            refine g_geti (s0 := 0) (j := 13) (ci := 4) (C := RX4) (T := TX4) (N := 14) ok ht lay_0 rfl inX4 (by decide) rfl tw_95 rfl d_Sk_count_57 ?_
            cases h
            exact g_iretX ok (hret _ hk) (by decide) (by decide) d_Sk_count_60
          · replace h := (if_neg c1_4).symm.trans h
            refine g_tabOut (tgt := 61) ok d_Sk_count_1 (tab_out (fun z h1 h2 => ?_)) (by decide) ?_
            · rcases (show z = 0 ∨ z = 1 ∨ z = 2 ∨ z = 3 ∨ z = 4 by omega) with rfl | rfl | rfl | rfl | rfl
              · exact c1_0
              · exact c1_1
              · exact c1_2
              · exact c1_3
              · exact c1_4
            · cases h
              exact g_throwW (ik := 62) (is := 287) (ic := 66) (cls := "java/lang/IllegalArgumentException") (text := "what out of range") (names := xnames) ok (hret _ hk) xf_IllegalArgumentException xf_names tw_271 tw_8 (List.mem_of_getElem? (i := 19) rfl) xa_IllegalArgumentException xg_IllegalArgumentException d_Sk_count_61 d_Sk_count_64 d_Sk_count_65 d_Sk_count_68 d_Sk_count_71 ⟨le_t rfl, le_t rfl⟩ rfl ⟨le_t rfl, le_t rfl⟩ (le_t rfl) (le_t rfl)
theorem c_Sk_count {l : Launch} (hl : l.stackTraces = false) {k : Nat} {a1 : Int32} {s : MS} (ht : rf s.2.2 0 (some k) = some k) {t : Nat} {r : Int32} {z : MS} (h : f_Sk_count k a1 s = some (t, r, z)) : Cx l yX4_count (.code yX4_count cX4_count 2 (some .int)) rm_Sk_count 1 6 false [vR (some k), vI a1] s (tcode t) (some (vI r)) z :=
  Cx.of hl rfl (by decide +kernel) ⟨rfl, le_t rfl⟩ (fun X ok fn _ _ => w_Sk_count (KX := fun y => y = (t, r, z)) ok (fun y hy => by subst hy; exact fn) ht h rfl)
