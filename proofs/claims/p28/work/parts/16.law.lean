abbrev rm_La_draw : Room := { frames := 0, cells := 0, slots := 0, locals := 0 }
theorem cm_La_draw : cfM yL_draw cL_draw 2 (some .int) 2 := ⟨tw_187, tw_0, by decide, by decide, by decide +kernel⟩
theorem cs_La_draw : cfS yL_draw := tw_186
theorem d_La_draw_0 : decode cL_draw 0 = .ok (.iload_n 1, 1) := by decide +kernel
theorem d_La_draw_1 : decode cL_draw 1 = .ok (.aload_n 0, 1) := by decide +kernel
theorem d_La_draw_2 : decode cL_draw 2 = .ok (.arraylength, 1) := by decide +kernel
theorem d_La_draw_3 : decode cL_draw 3 = .ok (.if_icmp .ge 9, 3) := by decide +kernel
theorem d_La_draw_6 : decode cL_draw 6 = .ok (.aload_n 0, 1) := by decide +kernel
theorem d_La_draw_7 : decode cL_draw 7 = .ok (.iload_n 1, 1) := by decide +kernel
theorem d_La_draw_8 : decode cL_draw 8 = .ok (.iaload, 1) := by decide +kernel
theorem d_La_draw_9 : decode cL_draw 9 = .ok (.goto 11, 3) := by decide +kernel
theorem d_La_draw_12 : decode cL_draw 12 = .ok (.ldc 7, 2) := by decide +kernel
theorem d_La_draw_14 : decode cL_draw 14 = .ok (.iload_n 1, 1) := by decide +kernel
theorem d_La_draw_15 : decode cL_draw 15 = .ok (.imul, 1) := by decide +kernel
theorem d_La_draw_16 : decode cL_draw 16 = .ok (.sipush 11819, 3) := by decide +kernel
theorem d_La_draw_19 : decode cL_draw 19 = .ok (.iadd, 1) := by decide +kernel
theorem d_La_draw_20 : decode cL_draw 20 = .ok (.ldc 8, 2) := by decide +kernel
theorem d_La_draw_22 : decode cL_draw 22 = .ok (.iand, 1) := by decide +kernel
theorem d_La_draw_23 : decode cL_draw 23 = .ok (.ireturn, 1) := by decide +kernel
set_option maxRecDepth 100000 in
set_option maxHeartbeats 4000000 in
theorem w_La_draw {X : CX} {KX : Int32 → Prop} {b L : Nat} {xs : Nat → Int32} {a1 : Int32} {s : MS} (ok : Ok X cL_draw RL rm_La_draw 2 false) (hs : Sd X b L xs) (hret : ∀ r : Int32, KX r → Fin X (some .int) 0 0 false (some (vI r)) s) {res : Int32} (h : f_La_draw L xs a1 = some res) (hk : KX res) : G X s 0 0 0 [(0, vW (Value.ref b)), (1, vI a1)] [] := by
  unfold f_La_draw at h
  refine g_iload_n (i := 1) 1 ok d_La_draw_0 rfl rfl ?_
  refine g_aloadw_n (i := 0) 0 ok d_La_draw_1 rfl rfl ?_
  refine g_slen ok hs d_La_draw_2 ?_
  refine g_icmp_ge (tgt := 12) ok d_La_draw_3 (by decide) (fun c1 => ?_) (fun c1 => ?_)
  · replace h := (if_pos c1).symm.trans h
    refine g_aloadw_n (i := 0) 0 ok d_La_draw_6 rfl rfl ?_
    refine g_iload_n (i := 1) 1 ok d_La_draw_7 rfl rfl ?_
    obtain ⟨x2, hx3, h⟩ := bnd_go h
    refine g_sld ok hs hx3 d_La_draw_8 ?_
    refine g_goto (tgt := 20) ok d_La_draw_9 (by decide) ?_
    refine g_ldc (v := (2147483647 : Int32)) ok d_La_draw_20 tw_189 ?_
    refine g_iand ok d_La_draw_22 ?_
    cases h
    exact g_iret ok (hret _ hk) (le_t rfl) (le_t rfl) d_La_draw_23
  · replace h := (if_neg c1).symm.trans h
    refine g_ldc (v := (15595891 : Int32)) ok d_La_draw_12 tw_188 ?_
    refine g_iload_n (i := 1) 1 ok d_La_draw_14 rfl rfl ?_
    refine g_imul ok d_La_draw_15 ?_
    refine g_sipush (v := (11819 : Int32)) ok d_La_draw_16 (by decide) ?_
    refine g_iadd ok d_La_draw_19 ?_
    refine g_ldc (v := (2147483647 : Int32)) ok d_La_draw_20 tw_189 ?_
    refine g_iand ok d_La_draw_22 ?_
    cases h
    exact g_iret ok (hret _ hk) (le_t rfl) (le_t rfl) d_La_draw_23
theorem c_La_draw (l : Launch) {b L : Nat} {xs : Nat → Int32} {a1 : Int32} {s : MS} {r : Int32} (h : f_La_draw L xs a1 = some r) : Cd l yL_draw (.code yL_draw cL_draw 2 (some .int)) rm_La_draw 0 0 [vW (Value.ref b), vI a1] s (some (vI r)) b L xs :=
  Cd.of rfl (by decide +kernel) ⟨rfl, le_t rfl⟩ (fun X ok fn hs _ _ => w_La_draw (KX := fun y => y = r) ok hs (fun y hy => by subst hy; exact fn) h rfl)
abbrev rm_La_tower : Room := { frames := 7, cells := 1, slots := 6, locals := 113 }
theorem cm_La_tower : (Cond.codeWith yL_tower cL_tower 4 (some .long) [(0, 7, 8, 15), (0, 7, 13, 19), (0, 7, 18, 23)]) ∈ TT ∧ (Cond.initialized yL_tower.cls) ∈ TT ∧ yL_tower.cls ≠ "java/lang/invoke/MethodHandle" ∧ yL_tower.cls ≠ "java/lang/invoke/VarHandle" ∧ (parseMethodDescriptor yL_tower.desc).map (fun d => d.parameters.length) = some 3 := ⟨tw_192, tw_0, by decide, by decide, by decide +kernel⟩
theorem cs_La_tower : cfS yL_tower := tw_191
theorem d_La_tower_0 : decode cL_tower 0 = .ok (.aload_n 0, 1) := by decide +kernel
theorem d_La_tower_1 : decode cL_tower 1 = .ok (.iload_n 1, 1) := by decide +kernel
theorem d_La_tower_2 : decode cL_tower 2 = .ok (.iload_n 2, 1) := by decide +kernel
theorem d_La_tower_3 : decode cL_tower 3 = .ok (.invokevirtual 9, 3) := by decide +kernel
theorem d_La_tower_6 : decode cL_tower 6 = .ok (.i2l, 1) := by decide +kernel
theorem d_La_tower_7 : decode cL_tower 7 = .ok (.lreturn, 1) := by decide +kernel
theorem d_La_tower_8 : decode cL_tower 8 = .ok (.astore_n 3, 1) := by decide +kernel
theorem d_La_tower_9 : decode cL_tower 9 = .ok (.ldc2_w 17, 3) := by decide +kernel
theorem d_La_tower_12 : decode cL_tower 12 = .ok (.lreturn, 1) := by decide +kernel
theorem d_La_tower_13 : decode cL_tower 13 = .ok (.astore_n 3, 1) := by decide +kernel
theorem d_La_tower_14 : decode cL_tower 14 = .ok (.ldc2_w 21, 3) := by decide +kernel
theorem d_La_tower_17 : decode cL_tower 17 = .ok (.lreturn, 1) := by decide +kernel
theorem d_La_tower_18 : decode cL_tower 18 = .ok (.astore_n 3, 1) := by decide +kernel
theorem d_La_tower_19 : decode cL_tower 19 = .ok (.ldc2_w 25, 3) := by decide +kernel
theorem d_La_tower_22 : decode cL_tower 22 = .ok (.lreturn, 1) := by decide +kernel
theorem hx_La_tower_1 : hdl RL (tableOf [(0, 7, 8, 15), (0, 7, 13, 19), (0, 7, 18, 23)]) 3 "java/lang/IndexOutOfBoundsException" 8 := ⟨[], ⟨0, 7, 8, 15⟩, [⟨0, 7, 13, 19⟩, ⟨0, 7, 18, 23⟩], "java/lang/IndexOutOfBoundsException", rfl, fun u hu => absurd hu List.not_mem_nil, by decide, by decide, tw_193, tw_205, rfl⟩
theorem hx_La_tower_2 : hdl RL (tableOf [(0, 7, 8, 15), (0, 7, 13, 19), (0, 7, 18, 23)]) 3 "java/lang/IllegalArgumentException" 13 := ⟨[⟨0, 7, 8, 15⟩], ⟨0, 7, 13, 19⟩, [⟨0, 7, 18, 23⟩], "java/lang/IllegalArgumentException", rfl, List.forall_mem_cons.mpr ⟨Or.inr ⟨by decide, "java/lang/IndexOutOfBoundsException", tw_193, by decide⟩, fun u hu => absurd hu List.not_mem_nil⟩, by decide, by decide, tw_194, tw_273, rfl⟩
theorem hx_La_tower_3 : hdl RL (tableOf [(0, 7, 8, 15), (0, 7, 13, 19), (0, 7, 18, 23)]) 3 "java/lang/IllegalStateException" 18 := ⟨[⟨0, 7, 8, 15⟩, ⟨0, 7, 13, 19⟩], ⟨0, 7, 18, 23⟩, [], "java/lang/IllegalStateException", rfl, List.forall_mem_cons.mpr ⟨Or.inr ⟨by decide, "java/lang/IndexOutOfBoundsException", tw_193, by decide⟩, List.forall_mem_cons.mpr ⟨Or.inr ⟨by decide, "java/lang/IllegalArgumentException", tw_194, by decide⟩, fun u hu => absurd hu List.not_mem_nil⟩⟩, by decide, by decide, tw_195, tw_293, rfl⟩
set_option maxRecDepth 100000 in
set_option maxHeartbeats 4000000 in
theorem w_La_tower {X : CX} {KX : Int64 × MS → Prop} {a0 : Option Nat} {a1 : Int32} {a2 : Int32} {s : MS} (ok : Ok X cL_tower RL rm_La_tower 4 true) (hret : ∀ r : Int64 × MS, KX r → Fiw X [(0, 7, 8, 15), (0, 7, 13, 19), (0, 7, 18, 23)] 1 6 (some (vL r.1)) r.2)  (hl : X.1.2.1.stackTraces = false)  {res : Int64 × MS} (h : f_La_tower a0 a1 a2 s = some res) (hk : KX res) : G X s 0 0 0 [(0, vR a0), (1, vI a1), (2, vI a2)] [] := by
  unfold f_La_tower at h
  refine g_aload_n (i := 0) 0 ok d_La_tower_0 rfl rfl ?_
  refine g_iload_n (i := 1) 1 ok d_La_tower_1 rfl rfl ?_
  refine g_iload_n (i := 2) 2 ok d_La_tower_2 rfl rfl ?_
  obtain ⟨k1, hk2, h⟩ := bnd_go h
  refine g_sub [] rfl ?_
  obtain ⟨t4, x5, s6, hc7, h⟩ := bnd3_go h
  refine g_callX (rm2 := rm_Sk_tower) (As := [vI a1, vI a2]) (rest := []) ok (hret _ hk) hk2 lay_0 rfl (c_Sk_tower hl (rf_self hk2) hc7) cm_Sk_tower cv_Sk_tower tw_196 ⟨rfl, rfl⟩ ⟨le_t rfl, le_t rfl⟩ ⟨rfl, le_t rfl⟩ ⟨le_t rfl, le_t rfl⟩ trivial trivial d_La_tower_3 rfl (fun c9 m8 => ?_) (fun E c9 => ?_)
  · have c0 : t4 = 0 := tcode_0 c9
    replace h := (if_pos c0).symm.trans h
    show G X s6 1 6 6 [] [vI x5]
    refine g_i2l ok d_La_tower_6 ?_
    cases h
    exact g_lretW ok (hret _ hk) (by decide) (by decide) d_La_tower_7
  · have c0 : ¬ t4 = 0 := tcode_n c9
    replace h := (if_neg c0).symm.trans h
    by_cases c1 : t4 = 1
    · replace h := (if_pos c1).symm.trans h
      have hE : (some "java/lang/IndexOutOfBoundsException" : Option String) = some E := by rw [← c9, c1]; rfl
      cases hE
      refine ⟨8, hx_La_tower_1, fun q9 m8 => ?_⟩
      refine g_astorew_n (i := 3) [(3, vW (Value.ref q9))] ok d_La_tower_8 rfl (by decide) rfl ?_
      refine g_ldc2 (v := (-9000000000000000001 : Int64)) ok d_La_tower_9 tw_315 ?_
      cases h
      exact g_lretW ok (hret _ hk) (by decide) (by decide) d_La_tower_12
    · replace h := (if_neg c1).symm.trans h
      by_cases c2 : t4 = 2
      · replace h := (if_pos c2).symm.trans h
        have hE : (some "java/lang/IllegalArgumentException" : Option String) = some E := by rw [← c9, c2]; rfl
        cases hE
        refine ⟨13, hx_La_tower_2, fun q9 m8 => ?_⟩
        refine g_astorew_n (i := 3) [(3, vW (Value.ref q9))] ok d_La_tower_13 rfl (by decide) rfl ?_
        refine g_ldc2 (v := (-9000000000000000002 : Int64)) ok d_La_tower_14 tw_316 ?_
        cases h
        exact g_lretW ok (hret _ hk) (by decide) (by decide) d_La_tower_17
      · replace h := (if_neg c2).symm.trans h
        by_cases c3 : t4 = 3
        · replace h := (if_pos c3).symm.trans h
          have hE : (some "java/lang/IllegalStateException" : Option String) = some E := by rw [← c9, c3]; rfl
          cases hE
          refine ⟨18, hx_La_tower_3, fun q9 m8 => ?_⟩
          refine g_astorew_n (i := 3) [(3, vW (Value.ref q9))] ok d_La_tower_18 rfl (by decide) rfl ?_
          refine g_ldc2 (v := (-9000000000000000003 : Int64)) ok d_La_tower_19 tw_317 ?_
          cases h
          exact g_lretW ok (hret _ hk) (by decide) (by decide) d_La_tower_22
        · replace h := (if_neg c3).symm.trans h
          cases h
theorem c_La_tower {l : Launch} (hl : l.stackTraces = false) {a0 : Option Nat} {a1 : Int32} {a2 : Int32} {s : MS} {r : Int64} {z : MS} (h : f_La_tower a0 a1 a2 s = some (r, z)) : Cw l yL_tower (.codeWith yL_tower cL_tower 4 (some .long) [(0, 7, 8, 15), (0, 7, 13, 19), (0, 7, 18, 23)]) rm_La_tower 1 6 [vR a0, vI a1, vI a2] s (some (vL r)) z :=
  Cw.of rfl (by decide +kernel) ⟨rfl, le_t rfl⟩ cm_La_tower.1 (fun X ok fn _ hl2 => w_La_tower (KX := fun y => y = (r, z)) ok (fun y hy => by subst hy; exact fn) (by rw [hl2]; exact hl) h rfl)
abbrev rm_La_spot : Room := { frames := 7, cells := 1, slots := 6, locals := 111 }
theorem cm_La_spot : (Cond.codeWith yL_spot cL_spot 3 (some .long) [(0, 6, 7, 15), (0, 6, 12, 23)]) ∈ TT ∧ (Cond.initialized yL_spot.cls) ∈ TT ∧ yL_spot.cls ≠ "java/lang/invoke/MethodHandle" ∧ yL_spot.cls ≠ "java/lang/invoke/VarHandle" ∧ (parseMethodDescriptor yL_spot.desc).map (fun d => d.parameters.length) = some 2 := ⟨tw_320, tw_0, by decide, by decide, by decide +kernel⟩
theorem cs_La_spot : cfS yL_spot := tw_319
theorem d_La_spot_0 : decode cL_spot 0 = .ok (.aload_n 0, 1) := by decide +kernel
theorem d_La_spot_1 : decode cL_spot 1 = .ok (.iload_n 1, 1) := by decide +kernel
theorem d_La_spot_2 : decode cL_spot 2 = .ok (.invokevirtual 27, 3) := by decide +kernel
theorem d_La_spot_5 : decode cL_spot 5 = .ok (.i2l, 1) := by decide +kernel
theorem d_La_spot_6 : decode cL_spot 6 = .ok (.lreturn, 1) := by decide +kernel
theorem d_La_spot_7 : decode cL_spot 7 = .ok (.astore_n 2, 1) := by decide +kernel
theorem d_La_spot_8 : decode cL_spot 8 = .ok (.ldc2_w 17, 3) := by decide +kernel
theorem d_La_spot_11 : decode cL_spot 11 = .ok (.lreturn, 1) := by decide +kernel
theorem d_La_spot_12 : decode cL_spot 12 = .ok (.astore_n 2, 1) := by decide +kernel
theorem d_La_spot_13 : decode cL_spot 13 = .ok (.ldc2_w 25, 3) := by decide +kernel
theorem d_La_spot_16 : decode cL_spot 16 = .ok (.lreturn, 1) := by decide +kernel
theorem hx_La_spot_1 : hdl RL (tableOf [(0, 6, 7, 15), (0, 6, 12, 23)]) 2 "java/lang/IndexOutOfBoundsException" 7 := ⟨[], ⟨0, 6, 7, 15⟩, [⟨0, 6, 12, 23⟩], "java/lang/IndexOutOfBoundsException", rfl, fun u hu => absurd hu List.not_mem_nil, by decide, by decide, tw_193, tw_205, rfl⟩
theorem hx_La_spot_3 : hdl RL (tableOf [(0, 6, 7, 15), (0, 6, 12, 23)]) 2 "java/lang/IllegalStateException" 12 := ⟨[⟨0, 6, 7, 15⟩], ⟨0, 6, 12, 23⟩, [], "java/lang/IllegalStateException", rfl, List.forall_mem_cons.mpr ⟨Or.inr ⟨by decide, "java/lang/IndexOutOfBoundsException", tw_193, by decide⟩, fun u hu => absurd hu List.not_mem_nil⟩, by decide, by decide, tw_195, tw_293, rfl⟩
set_option maxRecDepth 100000 in
set_option maxHeartbeats 4000000 in
theorem w_La_spot {X : CX} {KX : Int64 × MS → Prop} {a0 : Option Nat} {a1 : Int32} {s : MS} (ok : Ok X cL_spot RL rm_La_spot 3 true) (hret : ∀ r : Int64 × MS, KX r → Fiw X [(0, 6, 7, 15), (0, 6, 12, 23)] 1 6 (some (vL r.1)) r.2)  (hl : X.1.2.1.stackTraces = false)  {res : Int64 × MS} (h : f_La_spot a0 a1 s = some res) (hk : KX res) : G X s 0 0 0 [(0, vR a0), (1, vI a1)] [] := by
  unfold f_La_spot at h
  refine g_aload_n (i := 0) 0 ok d_La_spot_0 rfl rfl ?_
  refine g_iload_n (i := 1) 1 ok d_La_spot_1 rfl rfl ?_
  obtain ⟨k1, hk2, h⟩ := bnd_go h
  refine g_sub [] rfl ?_
  obtain ⟨t4, x5, s6, hc7, h⟩ := bnd3_go h
  refine g_callX (rm2 := rm_Sk_spot) (As := [vI a1]) (rest := []) ok (hret _ hk) hk2 lay_0 rfl (c_Sk_spot hl (rf_self hk2) hc7) cm_Sk_spot cv_Sk_spot tw_321 ⟨rfl, rfl⟩ ⟨le_t rfl, le_t rfl⟩ ⟨rfl, le_t rfl⟩ ⟨le_t rfl, le_t rfl⟩ trivial trivial d_La_spot_2 rfl (fun c9 m8 => ?_) (fun E c9 => ?_)
  · have c0 : t4 = 0 := tcode_0 c9
    replace h := (if_pos c0).symm.trans h
    show G X s6 1 6 5 [] [vI x5]
    refine g_i2l ok d_La_spot_5 ?_
    cases h
    exact g_lretW ok (hret _ hk) (by decide) (by decide) d_La_spot_6
  · have c0 : ¬ t4 = 0 := tcode_n c9
    replace h := (if_neg c0).symm.trans h
    by_cases c1 : t4 = 1
    · replace h := (if_pos c1).symm.trans h
      have hE : (some "java/lang/IndexOutOfBoundsException" : Option String) = some E := by rw [← c9, c1]; rfl
      cases hE
      refine ⟨7, hx_La_spot_1, fun q9 m8 => ?_⟩
      refine g_astorew_n (i := 2) [(2, vW (Value.ref q9))] ok d_La_spot_7 rfl (by decide) rfl ?_
      refine g_ldc2 (v := (-9000000000000000001 : Int64)) ok d_La_spot_8 tw_315 ?_
      cases h
      exact g_lretW ok (hret _ hk) (by decide) (by decide) d_La_spot_11
    · replace h := (if_neg c1).symm.trans h
      by_cases c3 : t4 = 3
      · replace h := (if_pos c3).symm.trans h
        have hE : (some "java/lang/IllegalStateException" : Option String) = some E := by rw [← c9, c3]; rfl
        cases hE
        refine ⟨12, hx_La_spot_3, fun q9 m8 => ?_⟩
        refine g_astorew_n (i := 2) [(2, vW (Value.ref q9))] ok d_La_spot_12 rfl (by decide) rfl ?_
        refine g_ldc2 (v := (-9000000000000000003 : Int64)) ok d_La_spot_13 tw_317 ?_
        cases h
        exact g_lretW ok (hret _ hk) (by decide) (by decide) d_La_spot_16
      · replace h := (if_neg c3).symm.trans h
        cases h
theorem c_La_spot {l : Launch} (hl : l.stackTraces = false) {a0 : Option Nat} {a1 : Int32} {s : MS} {r : Int64} {z : MS} (h : f_La_spot a0 a1 s = some (r, z)) : Cw l yL_spot (.codeWith yL_spot cL_spot 3 (some .long) [(0, 6, 7, 15), (0, 6, 12, 23)]) rm_La_spot 1 6 [vR a0, vI a1] s (some (vL r)) z :=
  Cw.of rfl (by decide +kernel) ⟨rfl, le_t rfl⟩ cm_La_spot.1 (fun X ok fn _ hl2 => w_La_spot (KX := fun y => y = (r, z)) ok (fun y hy => by subst hy; exact fn) (by rw [hl2]; exact hl) h rfl)
abbrev rm_La_wind : Room := { frames := 7, cells := 1, slots := 6, locals := 112 }
theorem cm_La_wind : (Cond.codeWith yL_wind cL_wind 4 (some .long) [(0, 7, 8, 19)]) ∈ TT ∧ (Cond.initialized yL_wind.cls) ∈ TT ∧ yL_wind.cls ≠ "java/lang/invoke/MethodHandle" ∧ yL_wind.cls ≠ "java/lang/invoke/VarHandle" ∧ (parseMethodDescriptor yL_wind.desc).map (fun d => d.parameters.length) = some 3 := ⟨tw_332, tw_0, by decide, by decide, by decide +kernel⟩
theorem cs_La_wind : cfS yL_wind := tw_331
theorem d_La_wind_0 : decode cL_wind 0 = .ok (.aload_n 0, 1) := by decide +kernel
theorem d_La_wind_1 : decode cL_wind 1 = .ok (.iload_n 1, 1) := by decide +kernel
theorem d_La_wind_2 : decode cL_wind 2 = .ok (.iload_n 2, 1) := by decide +kernel
theorem d_La_wind_3 : decode cL_wind 3 = .ok (.invokevirtual 31, 3) := by decide +kernel
theorem d_La_wind_6 : decode cL_wind 6 = .ok (.i2l, 1) := by decide +kernel
theorem d_La_wind_7 : decode cL_wind 7 = .ok (.lreturn, 1) := by decide +kernel
theorem d_La_wind_8 : decode cL_wind 8 = .ok (.astore_n 3, 1) := by decide +kernel
theorem d_La_wind_9 : decode cL_wind 9 = .ok (.ldc2_w 21, 3) := by decide +kernel
theorem d_La_wind_12 : decode cL_wind 12 = .ok (.lreturn, 1) := by decide +kernel
theorem hx_La_wind_2 : hdl RL (tableOf [(0, 7, 8, 19)]) 3 "java/lang/IllegalArgumentException" 8 := ⟨[], ⟨0, 7, 8, 19⟩, [], "java/lang/IllegalArgumentException", rfl, fun u hu => absurd hu List.not_mem_nil, by decide, by decide, tw_194, tw_273, rfl⟩
set_option maxRecDepth 100000 in
set_option maxHeartbeats 4000000 in
theorem w_La_wind {X : CX} {KX : Int64 × MS → Prop} {a0 : Option Nat} {a1 : Int32} {a2 : Int32} {s : MS} (ok : Ok X cL_wind RL rm_La_wind 4 true) (hret : ∀ r : Int64 × MS, KX r → Fiw X [(0, 7, 8, 19)] 1 6 (some (vL r.1)) r.2)  (hl : X.1.2.1.stackTraces = false)  {res : Int64 × MS} (h : f_La_wind a0 a1 a2 s = some res) (hk : KX res) : G X s 0 0 0 [(0, vR a0), (1, vI a1), (2, vI a2)] [] := by
  unfold f_La_wind at h
  refine g_aload_n (i := 0) 0 ok d_La_wind_0 rfl rfl ?_
  refine g_iload_n (i := 1) 1 ok d_La_wind_1 rfl rfl ?_
  refine g_iload_n (i := 2) 2 ok d_La_wind_2 rfl rfl ?_
  obtain ⟨k1, hk2, h⟩ := bnd_go h
  refine g_sub [] rfl ?_
  obtain ⟨t4, x5, s6, hc7, h⟩ := bnd3_go h
  refine g_callX (rm2 := rm_Sk_wind) (As := [vI a1, vI a2]) (rest := []) ok (hret _ hk) hk2 lay_0 rfl (c_Sk_wind hl (rf_self hk2) hc7) cm_Sk_wind cv_Sk_wind tw_333 ⟨rfl, rfl⟩ ⟨le_t rfl, le_t rfl⟩ ⟨rfl, le_t rfl⟩ ⟨le_t rfl, le_t rfl⟩ trivial trivial d_La_wind_3 rfl (fun c9 m8 => ?_) (fun E c9 => ?_)
  · have c0 : t4 = 0 := tcode_0 c9
    replace h := (if_pos c0).symm.trans h
    show G X s6 1 6 6 [] [vI x5]
    refine g_i2l ok d_La_wind_6 ?_
    cases h
    exact g_lretW ok (hret _ hk) (by decide) (by decide) d_La_wind_7
  · have c0 : ¬ t4 = 0 := tcode_n c9
    replace h := (if_neg c0).symm.trans h
    by_cases c2 : t4 = 2
    · replace h := (if_pos c2).symm.trans h
      have hE : (some "java/lang/IllegalArgumentException" : Option String) = some E := by rw [← c9, c2]; rfl
      cases hE
      refine ⟨8, hx_La_wind_2, fun q9 m8 => ?_⟩
      refine g_astorew_n (i := 3) [(3, vW (Value.ref q9))] ok d_La_wind_8 rfl (by decide) rfl ?_
      refine g_ldc2 (v := (-9000000000000000002 : Int64)) ok d_La_wind_9 tw_316 ?_
      cases h
      exact g_lretW ok (hret _ hk) (by decide) (by decide) d_La_wind_12
    · replace h := (if_neg c2).symm.trans h
      cases h
theorem c_La_wind {l : Launch} (hl : l.stackTraces = false) {a0 : Option Nat} {a1 : Int32} {a2 : Int32} {s : MS} {r : Int64} {z : MS} (h : f_La_wind a0 a1 a2 s = some (r, z)) : Cw l yL_wind (.codeWith yL_wind cL_wind 4 (some .long) [(0, 7, 8, 19)]) rm_La_wind 1 6 [vR a0, vI a1, vI a2] s (some (vL r)) z :=
  Cw.of rfl (by decide +kernel) ⟨rfl, le_t rfl⟩ cm_La_wind.1 (fun X ok fn _ hl2 => w_La_wind (KX := fun y => y = (r, z)) ok (fun y hy => by subst hy; exact fn) (by rw [hl2]; exact hl) h rfl)
abbrev rm_La_gust : Room := { frames := 7, cells := 1, slots := 6, locals := 112 }
theorem cm_La_gust : (Cond.codeWith yL_gust cL_gust 4 (some .long) [(0, 7, 8, 19)]) ∈ TT ∧ (Cond.initialized yL_gust.cls) ∈ TT ∧ yL_gust.cls ≠ "java/lang/invoke/MethodHandle" ∧ yL_gust.cls ≠ "java/lang/invoke/VarHandle" ∧ (parseMethodDescriptor yL_gust.desc).map (fun d => d.parameters.length) = some 3 := ⟨tw_349, tw_0, by decide, by decide, by decide +kernel⟩
theorem cs_La_gust : cfS yL_gust := tw_348
theorem d_La_gust_0 : decode cL_gust 0 = .ok (.aload_n 0, 1) := by decide +kernel
theorem d_La_gust_1 : decode cL_gust 1 = .ok (.iload_n 1, 1) := by decide +kernel
theorem d_La_gust_2 : decode cL_gust 2 = .ok (.iload_n 2, 1) := by decide +kernel
theorem d_La_gust_3 : decode cL_gust 3 = .ok (.invokevirtual 34, 3) := by decide +kernel
theorem d_La_gust_6 : decode cL_gust 6 = .ok (.i2l, 1) := by decide +kernel
theorem d_La_gust_7 : decode cL_gust 7 = .ok (.lreturn, 1) := by decide +kernel
theorem d_La_gust_8 : decode cL_gust 8 = .ok (.astore_n 3, 1) := by decide +kernel
theorem d_La_gust_9 : decode cL_gust 9 = .ok (.ldc2_w 21, 3) := by decide +kernel
theorem d_La_gust_12 : decode cL_gust 12 = .ok (.lreturn, 1) := by decide +kernel
theorem hx_La_gust_2 : hdl RL (tableOf [(0, 7, 8, 19)]) 3 "java/lang/IllegalArgumentException" 8 := ⟨[], ⟨0, 7, 8, 19⟩, [], "java/lang/IllegalArgumentException", rfl, fun u hu => absurd hu List.not_mem_nil, by decide, by decide, tw_194, tw_273, rfl⟩
set_option maxRecDepth 100000 in
set_option maxHeartbeats 4000000 in
theorem w_La_gust {X : CX} {KX : Int64 × MS → Prop} {a0 : Option Nat} {a1 : Int32} {a2 : Int32} {s : MS} (ok : Ok X cL_gust RL rm_La_gust 4 true) (hret : ∀ r : Int64 × MS, KX r → Fiw X [(0, 7, 8, 19)] 1 6 (some (vL r.1)) r.2)  (hl : X.1.2.1.stackTraces = false)  {res : Int64 × MS} (h : f_La_gust a0 a1 a2 s = some res) (hk : KX res) : G X s 0 0 0 [(0, vR a0), (1, vI a1), (2, vI a2)] [] := by
  unfold f_La_gust at h
  refine g_aload_n (i := 0) 0 ok d_La_gust_0 rfl rfl ?_
  refine g_iload_n (i := 1) 1 ok d_La_gust_1 rfl rfl ?_
  refine g_iload_n (i := 2) 2 ok d_La_gust_2 rfl rfl ?_
  obtain ⟨k1, hk2, h⟩ := bnd_go h
  refine g_sub [] rfl ?_
  obtain ⟨t4, x5, s6, hc7, h⟩ := bnd3_go h
  refine g_callX (rm2 := rm_Sk_gust) (As := [vI a1, vI a2]) (rest := []) ok (hret _ hk) hk2 lay_0 rfl (c_Sk_gust hl (rf_self hk2) hc7) cm_Sk_gust cv_Sk_gust tw_350 ⟨rfl, rfl⟩ ⟨le_t rfl, le_t rfl⟩ ⟨rfl, le_t rfl⟩ ⟨le_t rfl, le_t rfl⟩ trivial trivial d_La_gust_3 rfl (fun c9 m8 => ?_) (fun E c9 => ?_)
  · have c0 : t4 = 0 := tcode_0 c9
    replace h := (if_pos c0).symm.trans h
    show G X s6 1 6 6 [] [vI x5]
    refine g_i2l ok d_La_gust_6 ?_
    cases h
    exact g_lretW ok (hret _ hk) (by decide) (by decide) d_La_gust_7
  · have c0 : ¬ t4 = 0 := tcode_n c9
    replace h := (if_neg c0).symm.trans h
    by_cases c2 : t4 = 2
    · replace h := (if_pos c2).symm.trans h
      have hE : (some "java/lang/IllegalArgumentException" : Option String) = some E := by rw [← c9, c2]; rfl
      cases hE
      refine ⟨8, hx_La_gust_2, fun q9 m8 => ?_⟩
      refine g_astorew_n (i := 3) [(3, vW (Value.ref q9))] ok d_La_gust_8 rfl (by decide) rfl ?_
      refine g_ldc2 (v := (-9000000000000000002 : Int64)) ok d_La_gust_9 tw_316 ?_
      cases h
      exact g_lretW ok (hret _ hk) (by decide) (by decide) d_La_gust_12
    · replace h := (if_neg c2).symm.trans h
      cases h
theorem c_La_gust {l : Launch} (hl : l.stackTraces = false) {a0 : Option Nat} {a1 : Int32} {a2 : Int32} {s : MS} {r : Int64} {z : MS} (h : f_La_gust a0 a1 a2 s = some (r, z)) : Cw l yL_gust (.codeWith yL_gust cL_gust 4 (some .long) [(0, 7, 8, 19)]) rm_La_gust 1 6 [vR a0, vI a1, vI a2] s (some (vL r)) z :=
  Cw.of rfl (by decide +kernel) ⟨rfl, le_t rfl⟩ cm_La_gust.1 (fun X ok fn _ hl2 => w_La_gust (KX := fun y => y = (r, z)) ok (fun y hy => by subst hy; exact fn) (by rw [hl2]; exact hl) h rfl)
abbrev rm_La_close : Room := { frames := 7, cells := 2, slots := 14, locals := 119 }
theorem cm_La_close : (Cond.codeWith yL_close cL_close 7 (some .long) [(0, 12, 13, 15), (0, 12, 19, 19), (0, 12, 25, 23)]) ∈ TT ∧ (Cond.initialized yL_close.cls) ∈ TT ∧ yL_close.cls ≠ "java/lang/invoke/MethodHandle" ∧ yL_close.cls ≠ "java/lang/invoke/VarHandle" ∧ (parseMethodDescriptor yL_close.desc).map (fun d => d.parameters.length) = some 6 := ⟨tw_357, tw_0, by decide, by decide, by decide +kernel⟩
theorem cs_La_close : cfS yL_close := tw_356
theorem d_La_close_0 : decode cL_close 0 = .ok (.aload_n 0, 1) := by decide +kernel
theorem d_La_close_1 : decode cL_close 1 = .ok (.iload_n 1, 1) := by decide +kernel
theorem d_La_close_2 : decode cL_close 2 = .ok (.iload_n 2, 1) := by decide +kernel
theorem d_La_close_3 : decode cL_close 3 = .ok (.iload_n 3, 1) := by decide +kernel
theorem d_La_close_4 : decode cL_close 4 = .ok (.iload 4, 2) := by decide +kernel
theorem d_La_close_6 : decode cL_close 6 = .ok (.iload 5, 2) := by decide +kernel
theorem d_La_close_8 : decode cL_close 8 = .ok (.invokevirtual 37, 3) := by decide +kernel
theorem d_La_close_11 : decode cL_close 11 = .ok (.i2l, 1) := by decide +kernel
theorem d_La_close_12 : decode cL_close 12 = .ok (.lreturn, 1) := by decide +kernel
theorem d_La_close_13 : decode cL_close 13 = .ok (.astore 6, 2) := by decide +kernel
theorem d_La_close_15 : decode cL_close 15 = .ok (.ldc2_w 17, 3) := by decide +kernel
theorem d_La_close_18 : decode cL_close 18 = .ok (.lreturn, 1) := by decide +kernel
theorem d_La_close_19 : decode cL_close 19 = .ok (.astore 6, 2) := by decide +kernel
theorem d_La_close_21 : decode cL_close 21 = .ok (.ldc2_w 21, 3) := by decide +kernel
theorem d_La_close_24 : decode cL_close 24 = .ok (.lreturn, 1) := by decide +kernel
theorem d_La_close_25 : decode cL_close 25 = .ok (.astore 6, 2) := by decide +kernel
theorem d_La_close_27 : decode cL_close 27 = .ok (.ldc2_w 25, 3) := by decide +kernel
theorem d_La_close_30 : decode cL_close 30 = .ok (.lreturn, 1) := by decide +kernel
theorem hx_La_close_1 : hdl RL (tableOf [(0, 12, 13, 15), (0, 12, 19, 19), (0, 12, 25, 23)]) 8 "java/lang/IndexOutOfBoundsException" 13 := ⟨[], ⟨0, 12, 13, 15⟩, [⟨0, 12, 19, 19⟩, ⟨0, 12, 25, 23⟩], "java/lang/IndexOutOfBoundsException", rfl, fun u hu => absurd hu List.not_mem_nil, by decide, by decide, tw_193, tw_205, rfl⟩
theorem hx_La_close_2 : hdl RL (tableOf [(0, 12, 13, 15), (0, 12, 19, 19), (0, 12, 25, 23)]) 8 "java/lang/IllegalArgumentException" 19 := ⟨[⟨0, 12, 13, 15⟩], ⟨0, 12, 19, 19⟩, [⟨0, 12, 25, 23⟩], "java/lang/IllegalArgumentException", rfl, List.forall_mem_cons.mpr ⟨Or.inr ⟨by decide, "java/lang/IndexOutOfBoundsException", tw_193, by decide⟩, fun u hu => absurd hu List.not_mem_nil⟩, by decide, by decide, tw_194, tw_273, rfl⟩
theorem hx_La_close_3 : hdl RL (tableOf [(0, 12, 13, 15), (0, 12, 19, 19), (0, 12, 25, 23)]) 8 "java/lang/IllegalStateException" 25 := ⟨[⟨0, 12, 13, 15⟩, ⟨0, 12, 19, 19⟩], ⟨0, 12, 25, 23⟩, [], "java/lang/IllegalStateException", rfl, List.forall_mem_cons.mpr ⟨Or.inr ⟨by decide, "java/lang/IndexOutOfBoundsException", tw_193, by decide⟩, List.forall_mem_cons.mpr ⟨Or.inr ⟨by decide, "java/lang/IllegalArgumentException", tw_194, by decide⟩, fun u hu => absurd hu List.not_mem_nil⟩⟩, by decide, by decide, tw_195, tw_293, rfl⟩
set_option maxRecDepth 100000 in
set_option maxHeartbeats 4000000 in
theorem w_La_close {X : CX} {KX : Int64 × MS → Prop} {a0 : Option Nat} {a1 : Int32} {a2 : Int32} {a3 : Int32} {a4 : Int32} {a5 : Int32} {s : MS} (ok : Ok X cL_close RL rm_La_close 7 true) (hret : ∀ r : Int64 × MS, KX r → Fiw X [(0, 12, 13, 15), (0, 12, 19, 19), (0, 12, 25, 23)] 2 14 (some (vL r.1)) r.2)  (hl : X.1.2.1.stackTraces = false)  {res : Int64 × MS} (h : f_La_close a0 a1 a2 a3 a4 a5 s = some res) (hk : KX res) : G X s 0 0 0 [(0, vR a0), (1, vI a1), (2, vI a2), (3, vI a3), (4, vI a4), (5, vI a5)] [] := by
  unfold f_La_close at h
  refine g_aload_n (i := 0) 0 ok d_La_close_0 rfl rfl ?_
  refine g_iload_n (i := 1) 1 ok d_La_close_1 rfl rfl ?_
  refine g_iload_n (i := 2) 2 ok d_La_close_2 rfl rfl ?_
  refine g_iload_n (i := 3) 3 ok d_La_close_3 rfl rfl ?_
  refine g_iload (i := 4) 4 ok d_La_close_4 rfl ?_
  refine g_iload (i := 5) 5 ok d_La_close_6 rfl ?_
  obtain ⟨k1, hk2, h⟩ := bnd_go h
  refine g_sub [] rfl ?_
  obtain ⟨t4, x5, s6, hc7, h⟩ := bnd3_go h
  refine g_callX (rm2 := rm_Sk_close) (As := [vI a1, vI a2, vI a3, vI a4, vI a5]) (rest := []) ok (hret _ hk) hk2 lay_0 rfl (c_Sk_close hl (rf_self hk2) hc7) cm_Sk_close cv_Sk_close tw_358 ⟨rfl, rfl⟩ ⟨le_t rfl, le_t rfl⟩ ⟨rfl, le_t rfl⟩ ⟨le_t rfl, le_t rfl⟩ trivial trivial d_La_close_8 rfl (fun c9 m8 => ?_) (fun E c9 => ?_)
  · have c0 : t4 = 0 := tcode_0 c9
    replace h := (if_pos c0).symm.trans h
    show G X s6 2 14 11 [] [vI x5]
    refine g_i2l ok d_La_close_11 ?_
    cases h
    exact g_lretW ok (hret _ hk) (by decide) (by decide) d_La_close_12
  · have c0 : ¬ t4 = 0 := tcode_n c9
    replace h := (if_neg c0).symm.trans h
    by_cases c1 : t4 = 1
    · replace h := (if_pos c1).symm.trans h
      have hE : (some "java/lang/IndexOutOfBoundsException" : Option String) = some E := by rw [← c9, c1]; rfl
      cases hE
      refine ⟨13, hx_La_close_1, fun q9 m8 => ?_⟩
      refine g_astorew (i := 6) [(6, vW (Value.ref q9))] ok d_La_close_13 (by decide) rfl ?_
      refine g_ldc2 (v := (-9000000000000000001 : Int64)) ok d_La_close_15 tw_315 ?_
      cases h
      exact g_lretW ok (hret _ hk) (by decide) (by decide) d_La_close_18
    · replace h := (if_neg c1).symm.trans h
      by_cases c2 : t4 = 2
      · replace h := (if_pos c2).symm.trans h
        have hE : (some "java/lang/IllegalArgumentException" : Option String) = some E := by rw [← c9, c2]; rfl
        cases hE
        refine ⟨19, hx_La_close_2, fun q9 m8 => ?_⟩
        refine g_astorew (i := 6) [(6, vW (Value.ref q9))] ok d_La_close_19 (by decide) rfl ?_
        refine g_ldc2 (v := (-9000000000000000002 : Int64)) ok d_La_close_21 tw_316 ?_
        cases h
        exact g_lretW ok (hret _ hk) (by decide) (by decide) d_La_close_24
      · replace h := (if_neg c2).symm.trans h
        by_cases c3 : t4 = 3
        · replace h := (if_pos c3).symm.trans h
          have hE : (some "java/lang/IllegalStateException" : Option String) = some E := by rw [← c9, c3]; rfl
          cases hE
          refine ⟨25, hx_La_close_3, fun q9 m8 => ?_⟩
          refine g_astorew (i := 6) [(6, vW (Value.ref q9))] ok d_La_close_25 (by decide) rfl ?_
          refine g_ldc2 (v := (-9000000000000000003 : Int64)) ok d_La_close_27 tw_317 ?_
          cases h
          exact g_lretW ok (hret _ hk) (by decide) (by decide) d_La_close_30
        · replace h := (if_neg c3).symm.trans h
          cases h
theorem c_La_close {l : Launch} (hl : l.stackTraces = false) {a0 : Option Nat} {a1 : Int32} {a2 : Int32} {a3 : Int32} {a4 : Int32} {a5 : Int32} {s : MS} {r : Int64} {z : MS} (h : f_La_close a0 a1 a2 a3 a4 a5 s = some (r, z)) : Cw l yL_close (.codeWith yL_close cL_close 7 (some .long) [(0, 12, 13, 15), (0, 12, 19, 19), (0, 12, 25, 23)]) rm_La_close 2 14 [vR a0, vI a1, vI a2, vI a3, vI a4, vI a5] s (some (vL r)) z :=
  Cw.of rfl (by decide +kernel) ⟨rfl, le_t rfl⟩ cm_La_close.1 (fun X ok fn _ hl2 => w_La_close (KX := fun y => y = (r, z)) ok (fun y hy => by subst hy; exact fn) (by rw [hl2]; exact hl) h rfl)
abbrev rm_La_open : Room := { frames := 7, cells := 1, slots := 6, locals := 112 }
theorem cm_La_open : (Cond.codeWith yL_open cL_open 3 (some .long) [(0, 6, 7, 15), (0, 6, 12, 23)]) ∈ TT ∧ (Cond.initialized yL_open.cls) ∈ TT ∧ yL_open.cls ≠ "java/lang/invoke/MethodHandle" ∧ yL_open.cls ≠ "java/lang/invoke/VarHandle" ∧ (parseMethodDescriptor yL_open.desc).map (fun d => d.parameters.length) = some 2 := ⟨tw_421, tw_0, by decide, by decide, by decide +kernel⟩
theorem cs_La_open : cfS yL_open := tw_420
theorem d_La_open_0 : decode cL_open 0 = .ok (.aload_n 0, 1) := by decide +kernel
theorem d_La_open_1 : decode cL_open 1 = .ok (.iload_n 1, 1) := by decide +kernel
theorem d_La_open_2 : decode cL_open 2 = .ok (.invokevirtual 41, 3) := by decide +kernel
theorem d_La_open_5 : decode cL_open 5 = .ok (.lconst 0, 1) := by decide +kernel
theorem d_La_open_6 : decode cL_open 6 = .ok (.lreturn, 1) := by decide +kernel
theorem d_La_open_7 : decode cL_open 7 = .ok (.astore_n 2, 1) := by decide +kernel
theorem d_La_open_8 : decode cL_open 8 = .ok (.ldc2_w 17, 3) := by decide +kernel
theorem d_La_open_11 : decode cL_open 11 = .ok (.lreturn, 1) := by decide +kernel
theorem d_La_open_12 : decode cL_open 12 = .ok (.astore_n 2, 1) := by decide +kernel
theorem d_La_open_13 : decode cL_open 13 = .ok (.ldc2_w 25, 3) := by decide +kernel
theorem d_La_open_16 : decode cL_open 16 = .ok (.lreturn, 1) := by decide +kernel
theorem hx_La_open_1 : hdl RL (tableOf [(0, 6, 7, 15), (0, 6, 12, 23)]) 2 "java/lang/IndexOutOfBoundsException" 7 := ⟨[], ⟨0, 6, 7, 15⟩, [⟨0, 6, 12, 23⟩], "java/lang/IndexOutOfBoundsException", rfl, fun u hu => absurd hu List.not_mem_nil, by decide, by decide, tw_193, tw_205, rfl⟩
theorem hx_La_open_3 : hdl RL (tableOf [(0, 6, 7, 15), (0, 6, 12, 23)]) 2 "java/lang/IllegalStateException" 12 := ⟨[⟨0, 6, 7, 15⟩], ⟨0, 6, 12, 23⟩, [], "java/lang/IllegalStateException", rfl, List.forall_mem_cons.mpr ⟨Or.inr ⟨by decide, "java/lang/IndexOutOfBoundsException", tw_193, by decide⟩, fun u hu => absurd hu List.not_mem_nil⟩, by decide, by decide, tw_195, tw_293, rfl⟩
set_option maxRecDepth 100000 in
set_option maxHeartbeats 4000000 in
theorem w_La_open {X : CX} {KX : Int64 × MS → Prop} {a0 : Option Nat} {a1 : Int32} {s : MS} (ok : Ok X cL_open RL rm_La_open 3 true) (hret : ∀ r : Int64 × MS, KX r → Fiw X [(0, 6, 7, 15), (0, 6, 12, 23)] 1 6 (some (vL r.1)) r.2)  (hl : X.1.2.1.stackTraces = false)  {res : Int64 × MS} (h : f_La_open a0 a1 s = some res) (hk : KX res) : G X s 0 0 0 [(0, vR a0), (1, vI a1)] [] := by
  unfold f_La_open at h
  refine g_aload_n (i := 0) 0 ok d_La_open_0 rfl rfl ?_
  refine g_iload_n (i := 1) 1 ok d_La_open_1 rfl rfl ?_
  obtain ⟨k1, hk2, h⟩ := bnd_go h
  refine g_sub [] rfl ?_
  obtain ⟨t4, x5, s6, hc7, h⟩ := bnd3_go h
  refine g_callX (rm2 := rm_Sk_open) (As := [vI a1]) (rest := []) ok (hret _ hk) hk2 lay_0 rfl (c_Sk_open hl (rf_self hk2) hc7) cm_Sk_open cv_Sk_open tw_422 ⟨rfl, rfl⟩ ⟨le_t rfl, le_t rfl⟩ ⟨rfl, le_t rfl⟩ ⟨le_t rfl, le_t rfl⟩ trivial trivial d_La_open_2 rfl (fun c9 m8 => ?_) (fun E c9 => ?_)
  · have c0 : t4 = 0 := tcode_0 c9
    replace h := (if_pos c0).symm.trans h
    show G X s6 1 6 5 [] []
    refine g_lconst (v := (0 : Int64)) ok d_La_open_5 (by decide) ?_
    cases h
    exact g_lretW ok (hret _ hk) (by decide) (by decide) d_La_open_6
  · have c0 : ¬ t4 = 0 := tcode_n c9
    replace h := (if_neg c0).symm.trans h
    by_cases c1 : t4 = 1
    · replace h := (if_pos c1).symm.trans h
      have hE : (some "java/lang/IndexOutOfBoundsException" : Option String) = some E := by rw [← c9, c1]; rfl
      cases hE
      refine ⟨7, hx_La_open_1, fun q9 m8 => ?_⟩
      refine g_astorew_n (i := 2) [(2, vW (Value.ref q9))] ok d_La_open_7 rfl (by decide) rfl ?_
      refine g_ldc2 (v := (-9000000000000000001 : Int64)) ok d_La_open_8 tw_315 ?_
      cases h
      exact g_lretW ok (hret _ hk) (by decide) (by decide) d_La_open_11
    · replace h := (if_neg c1).symm.trans h
      by_cases c3 : t4 = 3
      · replace h := (if_pos c3).symm.trans h
        have hE : (some "java/lang/IllegalStateException" : Option String) = some E := by rw [← c9, c3]; rfl
        cases hE
        refine ⟨12, hx_La_open_3, fun q9 m8 => ?_⟩
        refine g_astorew_n (i := 2) [(2, vW (Value.ref q9))] ok d_La_open_12 rfl (by decide) rfl ?_
        refine g_ldc2 (v := (-9000000000000000003 : Int64)) ok d_La_open_13 tw_317 ?_
        cases h
        exact g_lretW ok (hret _ hk) (by decide) (by decide) d_La_open_16
      · replace h := (if_neg c3).symm.trans h
        cases h
theorem c_La_open {l : Launch} (hl : l.stackTraces = false) {a0 : Option Nat} {a1 : Int32} {s : MS} {r : Int64} {z : MS} (h : f_La_open a0 a1 s = some (r, z)) : Cw l yL_open (.codeWith yL_open cL_open 3 (some .long) [(0, 6, 7, 15), (0, 6, 12, 23)]) rm_La_open 1 6 [vR a0, vI a1] s (some (vL r)) z :=
  Cw.of rfl (by decide +kernel) ⟨rfl, le_t rfl⟩ cm_La_open.1 (fun X ok fn _ hl2 => w_La_open (KX := fun y => y = (r, z)) ok (fun y hy => by subst hy; exact fn) (by rw [hl2]; exact hl) h rfl)
abbrev rm_La_machine : Room := { frames := 7, cells := 2, slots := 13, locals := 114 }
theorem cm_La_machine : (Cond.codeWith yL_machine cL_machine 5 (some .long) [(0, 8, 9, 15), (0, 8, 15, 19), (0, 8, 21, 23)]) ∈ TT ∧ (Cond.initialized yL_machine.cls) ∈ TT ∧ yL_machine.cls ≠ "java/lang/invoke/MethodHandle" ∧ yL_machine.cls ≠ "java/lang/invoke/VarHandle" ∧ (parseMethodDescriptor yL_machine.desc).map (fun d => d.parameters.length) = some 4 := ⟨tw_434, tw_0, by decide, by decide, by decide +kernel⟩
theorem cs_La_machine : cfS yL_machine := tw_433
theorem d_La_machine_0 : decode cL_machine 0 = .ok (.aload_n 0, 1) := by decide +kernel
theorem d_La_machine_1 : decode cL_machine 1 = .ok (.iload_n 1, 1) := by decide +kernel
theorem d_La_machine_2 : decode cL_machine 2 = .ok (.iload_n 2, 1) := by decide +kernel
theorem d_La_machine_3 : decode cL_machine 3 = .ok (.iload_n 3, 1) := by decide +kernel
theorem d_La_machine_4 : decode cL_machine 4 = .ok (.invokevirtual 45, 3) := by decide +kernel
theorem d_La_machine_7 : decode cL_machine 7 = .ok (.i2l, 1) := by decide +kernel
theorem d_La_machine_8 : decode cL_machine 8 = .ok (.lreturn, 1) := by decide +kernel
theorem d_La_machine_9 : decode cL_machine 9 = .ok (.astore 4, 2) := by decide +kernel
theorem d_La_machine_11 : decode cL_machine 11 = .ok (.ldc2_w 17, 3) := by decide +kernel
theorem d_La_machine_14 : decode cL_machine 14 = .ok (.lreturn, 1) := by decide +kernel
theorem d_La_machine_15 : decode cL_machine 15 = .ok (.astore 4, 2) := by decide +kernel
theorem d_La_machine_17 : decode cL_machine 17 = .ok (.ldc2_w 21, 3) := by decide +kernel
theorem d_La_machine_20 : decode cL_machine 20 = .ok (.lreturn, 1) := by decide +kernel
theorem d_La_machine_21 : decode cL_machine 21 = .ok (.astore 4, 2) := by decide +kernel
theorem d_La_machine_23 : decode cL_machine 23 = .ok (.ldc2_w 25, 3) := by decide +kernel
theorem d_La_machine_26 : decode cL_machine 26 = .ok (.lreturn, 1) := by decide +kernel
theorem hx_La_machine_1 : hdl RL (tableOf [(0, 8, 9, 15), (0, 8, 15, 19), (0, 8, 21, 23)]) 4 "java/lang/IndexOutOfBoundsException" 9 := ⟨[], ⟨0, 8, 9, 15⟩, [⟨0, 8, 15, 19⟩, ⟨0, 8, 21, 23⟩], "java/lang/IndexOutOfBoundsException", rfl, fun u hu => absurd hu List.not_mem_nil, by decide, by decide, tw_193, tw_205, rfl⟩
theorem hx_La_machine_2 : hdl RL (tableOf [(0, 8, 9, 15), (0, 8, 15, 19), (0, 8, 21, 23)]) 4 "java/lang/IllegalArgumentException" 15 := ⟨[⟨0, 8, 9, 15⟩], ⟨0, 8, 15, 19⟩, [⟨0, 8, 21, 23⟩], "java/lang/IllegalArgumentException", rfl, List.forall_mem_cons.mpr ⟨Or.inr ⟨by decide, "java/lang/IndexOutOfBoundsException", tw_193, by decide⟩, fun u hu => absurd hu List.not_mem_nil⟩, by decide, by decide, tw_194, tw_273, rfl⟩
theorem hx_La_machine_3 : hdl RL (tableOf [(0, 8, 9, 15), (0, 8, 15, 19), (0, 8, 21, 23)]) 4 "java/lang/IllegalStateException" 21 := ⟨[⟨0, 8, 9, 15⟩, ⟨0, 8, 15, 19⟩], ⟨0, 8, 21, 23⟩, [], "java/lang/IllegalStateException", rfl, List.forall_mem_cons.mpr ⟨Or.inr ⟨by decide, "java/lang/IndexOutOfBoundsException", tw_193, by decide⟩, List.forall_mem_cons.mpr ⟨Or.inr ⟨by decide, "java/lang/IllegalArgumentException", tw_194, by decide⟩, fun u hu => absurd hu List.not_mem_nil⟩⟩, by decide, by decide, tw_195, tw_293, rfl⟩
set_option maxRecDepth 100000 in
set_option maxHeartbeats 4000000 in
theorem w_La_machine {X : CX} {KX : Int64 × MS → Prop} {a0 : Option Nat} {a1 : Int32} {a2 : Int32} {a3 : Int32} {s : MS} (ok : Ok X cL_machine RL rm_La_machine 5 true) (hret : ∀ r : Int64 × MS, KX r → Fiw X [(0, 8, 9, 15), (0, 8, 15, 19), (0, 8, 21, 23)] 2 13 (some (vL r.1)) r.2)  (hl : X.1.2.1.stackTraces = false)  {res : Int64 × MS} (h : f_La_machine a0 a1 a2 a3 s = some res) (hk : KX res) : G X s 0 0 0 [(0, vR a0), (1, vI a1), (2, vI a2), (3, vI a3)] [] := by
  unfold f_La_machine at h
  refine g_aload_n (i := 0) 0 ok d_La_machine_0 rfl rfl ?_
  refine g_iload_n (i := 1) 1 ok d_La_machine_1 rfl rfl ?_
  refine g_iload_n (i := 2) 2 ok d_La_machine_2 rfl rfl ?_
  refine g_iload_n (i := 3) 3 ok d_La_machine_3 rfl rfl ?_
  obtain ⟨k1, hk2, h⟩ := bnd_go h
  refine g_sub [] rfl ?_
  obtain ⟨t4, x5, s6, hc7, h⟩ := bnd3_go h
  refine g_callX (rm2 := rm_Sk_machine) (As := [vI a1, vI a2, vI a3]) (rest := []) ok (hret _ hk) hk2 lay_0 rfl (c_Sk_machine hl (rf_self hk2) hc7) cm_Sk_machine cv_Sk_machine tw_435 ⟨rfl, rfl⟩ ⟨le_t rfl, le_t rfl⟩ ⟨rfl, le_t rfl⟩ ⟨le_t rfl, le_t rfl⟩ trivial trivial d_La_machine_4 rfl (fun c9 m8 => ?_) (fun E c9 => ?_)
  · have c0 : t4 = 0 := tcode_0 c9
    replace h := (if_pos c0).symm.trans h
    show G X s6 2 13 7 [] [vI x5]
    refine g_i2l ok d_La_machine_7 ?_
    cases h
    exact g_lretW ok (hret _ hk) (by decide) (by decide) d_La_machine_8
  · have c0 : ¬ t4 = 0 := tcode_n c9
    replace h := (if_neg c0).symm.trans h
    by_cases c1 : t4 = 1
    · replace h := (if_pos c1).symm.trans h
      have hE : (some "java/lang/IndexOutOfBoundsException" : Option String) = some E := by rw [← c9, c1]; rfl
      cases hE
      refine ⟨9, hx_La_machine_1, fun q9 m8 => ?_⟩
      refine g_astorew (i := 4) [(4, vW (Value.ref q9))] ok d_La_machine_9 (by decide) rfl ?_
      refine g_ldc2 (v := (-9000000000000000001 : Int64)) ok d_La_machine_11 tw_315 ?_
      cases h
      exact g_lretW ok (hret _ hk) (by decide) (by decide) d_La_machine_14
    · replace h := (if_neg c1).symm.trans h
      by_cases c2 : t4 = 2
      · replace h := (if_pos c2).symm.trans h
        have hE : (some "java/lang/IllegalArgumentException" : Option String) = some E := by rw [← c9, c2]; rfl
        cases hE
        refine ⟨15, hx_La_machine_2, fun q9 m8 => ?_⟩
        refine g_astorew (i := 4) [(4, vW (Value.ref q9))] ok d_La_machine_15 (by decide) rfl ?_
        refine g_ldc2 (v := (-9000000000000000002 : Int64)) ok d_La_machine_17 tw_316 ?_
        cases h
        exact g_lretW ok (hret _ hk) (by decide) (by decide) d_La_machine_20
      · replace h := (if_neg c2).symm.trans h
        by_cases c3 : t4 = 3
        · replace h := (if_pos c3).symm.trans h
          have hE : (some "java/lang/IllegalStateException" : Option String) = some E := by rw [← c9, c3]; rfl
          cases hE
          refine ⟨21, hx_La_machine_3, fun q9 m8 => ?_⟩
          refine g_astorew (i := 4) [(4, vW (Value.ref q9))] ok d_La_machine_21 (by decide) rfl ?_
          refine g_ldc2 (v := (-9000000000000000003 : Int64)) ok d_La_machine_23 tw_317 ?_
          cases h
          exact g_lretW ok (hret _ hk) (by decide) (by decide) d_La_machine_26
        · replace h := (if_neg c3).symm.trans h
          cases h
theorem c_La_machine {l : Launch} (hl : l.stackTraces = false) {a0 : Option Nat} {a1 : Int32} {a2 : Int32} {a3 : Int32} {s : MS} {r : Int64} {z : MS} (h : f_La_machine a0 a1 a2 a3 s = some (r, z)) : Cw l yL_machine (.codeWith yL_machine cL_machine 5 (some .long) [(0, 8, 9, 15), (0, 8, 15, 19), (0, 8, 21, 23)]) rm_La_machine 2 13 [vR a0, vI a1, vI a2, vI a3] s (some (vL r)) z :=
  Cw.of rfl (by decide +kernel) ⟨rfl, le_t rfl⟩ cm_La_machine.1 (fun X ok fn _ hl2 => w_La_machine (KX := fun y => y = (r, z)) ok (fun y hy => by subst hy; exact fn) (by rw [hl2]; exact hl) h rfl)
abbrev rm_La_move : Room := { frames := 7, cells := 1, slots := 6, locals := 113 }
theorem cm_La_move : (Cond.codeWith yL_move cL_move 4 (some .long) [(0, 7, 8, 19), (0, 7, 13, 23)]) ∈ TT ∧ (Cond.initialized yL_move.cls) ∈ TT ∧ yL_move.cls ≠ "java/lang/invoke/MethodHandle" ∧ yL_move.cls ≠ "java/lang/invoke/VarHandle" ∧ (parseMethodDescriptor yL_move.desc).map (fun d => d.parameters.length) = some 3 := ⟨tw_733, tw_0, by decide, by decide, by decide +kernel⟩
theorem cs_La_move : cfS yL_move := tw_732
theorem d_La_move_0 : decode cL_move 0 = .ok (.aload_n 0, 1) := by decide +kernel
theorem d_La_move_1 : decode cL_move 1 = .ok (.iload_n 1, 1) := by decide +kernel
theorem d_La_move_2 : decode cL_move 2 = .ok (.iload_n 2, 1) := by decide +kernel
theorem d_La_move_3 : decode cL_move 3 = .ok (.invokevirtual 49, 3) := by decide +kernel
theorem d_La_move_6 : decode cL_move 6 = .ok (.i2l, 1) := by decide +kernel
theorem d_La_move_7 : decode cL_move 7 = .ok (.lreturn, 1) := by decide +kernel
theorem d_La_move_8 : decode cL_move 8 = .ok (.astore_n 3, 1) := by decide +kernel
theorem d_La_move_9 : decode cL_move 9 = .ok (.ldc2_w 21, 3) := by decide +kernel
theorem d_La_move_12 : decode cL_move 12 = .ok (.lreturn, 1) := by decide +kernel
theorem d_La_move_13 : decode cL_move 13 = .ok (.astore_n 3, 1) := by decide +kernel
theorem d_La_move_14 : decode cL_move 14 = .ok (.ldc2_w 25, 3) := by decide +kernel
theorem d_La_move_17 : decode cL_move 17 = .ok (.lreturn, 1) := by decide +kernel
theorem hx_La_move_2 : hdl RL (tableOf [(0, 7, 8, 19), (0, 7, 13, 23)]) 3 "java/lang/IllegalArgumentException" 8 := ⟨[], ⟨0, 7, 8, 19⟩, [⟨0, 7, 13, 23⟩], "java/lang/IllegalArgumentException", rfl, fun u hu => absurd hu List.not_mem_nil, by decide, by decide, tw_194, tw_273, rfl⟩
theorem hx_La_move_3 : hdl RL (tableOf [(0, 7, 8, 19), (0, 7, 13, 23)]) 3 "java/lang/IllegalStateException" 13 := ⟨[⟨0, 7, 8, 19⟩], ⟨0, 7, 13, 23⟩, [], "java/lang/IllegalStateException", rfl, List.forall_mem_cons.mpr ⟨Or.inr ⟨by decide, "java/lang/IllegalArgumentException", tw_194, by decide⟩, fun u hu => absurd hu List.not_mem_nil⟩, by decide, by decide, tw_195, tw_293, rfl⟩
set_option maxRecDepth 100000 in
set_option maxHeartbeats 4000000 in
theorem w_La_move {X : CX} {KX : Int64 × MS → Prop} {a0 : Option Nat} {a1 : Int32} {a2 : Int32} {s : MS} (ok : Ok X cL_move RL rm_La_move 4 true) (hret : ∀ r : Int64 × MS, KX r → Fiw X [(0, 7, 8, 19), (0, 7, 13, 23)] 1 6 (some (vL r.1)) r.2)  (hl : X.1.2.1.stackTraces = false)  {res : Int64 × MS} (h : f_La_move a0 a1 a2 s = some res) (hk : KX res) : G X s 0 0 0 [(0, vR a0), (1, vI a1), (2, vI a2)] [] := by
  unfold f_La_move at h
  refine g_aload_n (i := 0) 0 ok d_La_move_0 rfl rfl ?_
  refine g_iload_n (i := 1) 1 ok d_La_move_1 rfl rfl ?_
  refine g_iload_n (i := 2) 2 ok d_La_move_2 rfl rfl ?_
  obtain ⟨k1, hk2, h⟩ := bnd_go h
  refine g_sub [] rfl ?_
  obtain ⟨t4, x5, s6, hc7, h⟩ := bnd3_go h
  refine g_callX (rm2 := rm_Sk_move) (As := [vI a1, vI a2]) (rest := []) ok (hret _ hk) hk2 lay_0 rfl (c_Sk_move hl (rf_self hk2) hc7) cm_Sk_move cv_Sk_move tw_734 ⟨rfl, rfl⟩ ⟨le_t rfl, le_t rfl⟩ ⟨rfl, le_t rfl⟩ ⟨le_t rfl, le_t rfl⟩ trivial trivial d_La_move_3 rfl (fun c9 m8 => ?_) (fun E c9 => ?_)
  · have c0 : t4 = 0 := tcode_0 c9
    replace h := (if_pos c0).symm.trans h
    show G X s6 1 6 6 [] [vI x5]
    refine g_i2l ok d_La_move_6 ?_
    cases h
    exact g_lretW ok (hret _ hk) (by decide) (by decide) d_La_move_7
  · have c0 : ¬ t4 = 0 := tcode_n c9
    replace h := (if_neg c0).symm.trans h
    by_cases c2 : t4 = 2
    · replace h := (if_pos c2).symm.trans h
      have hE : (some "java/lang/IllegalArgumentException" : Option String) = some E := by rw [← c9, c2]; rfl
      cases hE
      refine ⟨8, hx_La_move_2, fun q9 m8 => ?_⟩
      refine g_astorew_n (i := 3) [(3, vW (Value.ref q9))] ok d_La_move_8 rfl (by decide) rfl ?_
      refine g_ldc2 (v := (-9000000000000000002 : Int64)) ok d_La_move_9 tw_316 ?_
      cases h
      exact g_lretW ok (hret _ hk) (by decide) (by decide) d_La_move_12
    · replace h := (if_neg c2).symm.trans h
      by_cases c3 : t4 = 3
      · replace h := (if_pos c3).symm.trans h
        have hE : (some "java/lang/IllegalStateException" : Option String) = some E := by rw [← c9, c3]; rfl
        cases hE
        refine ⟨13, hx_La_move_3, fun q9 m8 => ?_⟩
        refine g_astorew_n (i := 3) [(3, vW (Value.ref q9))] ok d_La_move_13 rfl (by decide) rfl ?_
        refine g_ldc2 (v := (-9000000000000000003 : Int64)) ok d_La_move_14 tw_317 ?_
        cases h
        exact g_lretW ok (hret _ hk) (by decide) (by decide) d_La_move_17
      · replace h := (if_neg c3).symm.trans h
        cases h
theorem c_La_move {l : Launch} (hl : l.stackTraces = false) {a0 : Option Nat} {a1 : Int32} {a2 : Int32} {s : MS} {r : Int64} {z : MS} (h : f_La_move a0 a1 a2 s = some (r, z)) : Cw l yL_move (.codeWith yL_move cL_move 4 (some .long) [(0, 7, 8, 19), (0, 7, 13, 23)]) rm_La_move 1 6 [vR a0, vI a1, vI a2] s (some (vL r)) z :=
  Cw.of rfl (by decide +kernel) ⟨rfl, le_t rfl⟩ cm_La_move.1 (fun X ok fn _ hl2 => w_La_move (KX := fun y => y = (r, z)) ok (fun y hy => by subst hy; exact fn) (by rw [hl2]; exact hl) h rfl)
abbrev rm_La_takes : Room := { frames := 7, cells := 1, slots := 6, locals := 114 }
theorem cm_La_takes : (Cond.codeWith yL_takes cL_takes 3 (some .long) [(0, 6, 7, 15)]) ∈ TT ∧ (Cond.initialized yL_takes.cls) ∈ TT ∧ yL_takes.cls ≠ "java/lang/invoke/MethodHandle" ∧ yL_takes.cls ≠ "java/lang/invoke/VarHandle" ∧ (parseMethodDescriptor yL_takes.desc).map (fun d => d.parameters.length) = some 2 := ⟨tw_699, tw_0, by decide, by decide, by decide +kernel⟩
theorem cs_La_takes : cfS yL_takes := tw_698
theorem d_La_takes_0 : decode cL_takes 0 = .ok (.aload_n 0, 1) := by decide +kernel
theorem d_La_takes_1 : decode cL_takes 1 = .ok (.iload_n 1, 1) := by decide +kernel
theorem d_La_takes_2 : decode cL_takes 2 = .ok (.invokevirtual 52, 3) := by decide +kernel
theorem d_La_takes_5 : decode cL_takes 5 = .ok (.i2l, 1) := by decide +kernel
theorem d_La_takes_6 : decode cL_takes 6 = .ok (.lreturn, 1) := by decide +kernel
theorem d_La_takes_7 : decode cL_takes 7 = .ok (.astore_n 2, 1) := by decide +kernel
theorem d_La_takes_8 : decode cL_takes 8 = .ok (.ldc2_w 17, 3) := by decide +kernel
theorem d_La_takes_11 : decode cL_takes 11 = .ok (.lreturn, 1) := by decide +kernel
theorem hx_La_takes_1 : hdl RL (tableOf [(0, 6, 7, 15)]) 2 "java/lang/IndexOutOfBoundsException" 7 := ⟨[], ⟨0, 6, 7, 15⟩, [], "java/lang/IndexOutOfBoundsException", rfl, fun u hu => absurd hu List.not_mem_nil, by decide, by decide, tw_193, tw_205, rfl⟩
set_option maxRecDepth 100000 in
set_option maxHeartbeats 4000000 in
theorem w_La_takes {X : CX} {KX : Int64 × MS → Prop} {a0 : Option Nat} {a1 : Int32} {s : MS} (ok : Ok X cL_takes RL rm_La_takes 3 true) (hret : ∀ r : Int64 × MS, KX r → Fiw X [(0, 6, 7, 15)] 1 6 (some (vL r.1)) r.2)  (hl : X.1.2.1.stackTraces = false)  {res : Int64 × MS} (h : f_La_takes a0 a1 s = some res) (hk : KX res) : G X s 0 0 0 [(0, vR a0), (1, vI a1)] [] := by
  unfold f_La_takes at h
  refine g_aload_n (i := 0) 0 ok d_La_takes_0 rfl rfl ?_
  refine g_iload_n (i := 1) 1 ok d_La_takes_1 rfl rfl ?_
  obtain ⟨k1, hk2, h⟩ := bnd_go h
  refine g_sub [] rfl ?_
  obtain ⟨t4, x5, s6, hc7, h⟩ := bnd3_go h
  refine g_callX (rm2 := rm_Sk_takes) (As := [vI a1]) (rest := []) ok (hret _ hk) hk2 lay_0 rfl (c_Sk_takes hl (rf_self hk2) hc7) cm_Sk_takes cv_Sk_takes tw_700 ⟨rfl, rfl⟩ ⟨le_t rfl, le_t rfl⟩ ⟨rfl, le_t rfl⟩ ⟨le_t rfl, le_t rfl⟩ trivial trivial d_La_takes_2 rfl (fun c9 m8 => ?_) (fun E c9 => ?_)
  · have c0 : t4 = 0 := tcode_0 c9
    replace h := (if_pos c0).symm.trans h
    show G X s6 1 6 5 [] [vI x5]
    refine g_i2l ok d_La_takes_5 ?_
    cases h
    exact g_lretW ok (hret _ hk) (by decide) (by decide) d_La_takes_6
  · have c0 : ¬ t4 = 0 := tcode_n c9
    replace h := (if_neg c0).symm.trans h
    by_cases c1 : t4 = 1
    · replace h := (if_pos c1).symm.trans h
      have hE : (some "java/lang/IndexOutOfBoundsException" : Option String) = some E := by rw [← c9, c1]; rfl
      cases hE
      refine ⟨7, hx_La_takes_1, fun q9 m8 => ?_⟩
      refine g_astorew_n (i := 2) [(2, vW (Value.ref q9))] ok d_La_takes_7 rfl (by decide) rfl ?_
      refine g_ldc2 (v := (-9000000000000000001 : Int64)) ok d_La_takes_8 tw_315 ?_
      cases h
      exact g_lretW ok (hret _ hk) (by decide) (by decide) d_La_takes_11
    · replace h := (if_neg c1).symm.trans h
      cases h
theorem c_La_takes {l : Launch} (hl : l.stackTraces = false) {a0 : Option Nat} {a1 : Int32} {s : MS} {r : Int64} {z : MS} (h : f_La_takes a0 a1 s = some (r, z)) : Cw l yL_takes (.codeWith yL_takes cL_takes 3 (some .long) [(0, 6, 7, 15)]) rm_La_takes 1 6 [vR a0, vI a1] s (some (vL r)) z :=
  Cw.of rfl (by decide +kernel) ⟨rfl, le_t rfl⟩ cm_La_takes.1 (fun X ok fn _ hl2 => w_La_takes (KX := fun y => y = (r, z)) ok (fun y hy => by subst hy; exact fn) (by rw [hl2]; exact hl) h rfl)
abbrev rm_La_file : Room := { frames := 7, cells := 3, slots := 94, locals := 166 }
theorem cm_La_file : (Cond.codeWith yL_file cL_file 5 (some .long) [(0, 8, 9, 15), (0, 8, 15, 19), (0, 8, 21, 23)]) ∈ TT ∧ (Cond.initialized yL_file.cls) ∈ TT ∧ yL_file.cls ≠ "java/lang/invoke/MethodHandle" ∧ yL_file.cls ≠ "java/lang/invoke/VarHandle" ∧ (parseMethodDescriptor yL_file.desc).map (fun d => d.parameters.length) = some 4 := ⟨tw_476, tw_0, by decide, by decide, by decide +kernel⟩
theorem cs_La_file : cfS yL_file := tw_475
theorem d_La_file_0 : decode cL_file 0 = .ok (.aload_n 0, 1) := by decide +kernel
theorem d_La_file_1 : decode cL_file 1 = .ok (.iload_n 1, 1) := by decide +kernel
theorem d_La_file_2 : decode cL_file 2 = .ok (.iload_n 2, 1) := by decide +kernel
theorem d_La_file_3 : decode cL_file 3 = .ok (.iload_n 3, 1) := by decide +kernel
theorem d_La_file_4 : decode cL_file 4 = .ok (.invokevirtual 55, 3) := by decide +kernel
theorem d_La_file_7 : decode cL_file 7 = .ok (.i2l, 1) := by decide +kernel
theorem d_La_file_8 : decode cL_file 8 = .ok (.lreturn, 1) := by decide +kernel
theorem d_La_file_9 : decode cL_file 9 = .ok (.astore 4, 2) := by decide +kernel
theorem d_La_file_11 : decode cL_file 11 = .ok (.ldc2_w 17, 3) := by decide +kernel
theorem d_La_file_14 : decode cL_file 14 = .ok (.lreturn, 1) := by decide +kernel
theorem d_La_file_15 : decode cL_file 15 = .ok (.astore 4, 2) := by decide +kernel
theorem d_La_file_17 : decode cL_file 17 = .ok (.ldc2_w 21, 3) := by decide +kernel
theorem d_La_file_20 : decode cL_file 20 = .ok (.lreturn, 1) := by decide +kernel
theorem d_La_file_21 : decode cL_file 21 = .ok (.astore 4, 2) := by decide +kernel
theorem d_La_file_23 : decode cL_file 23 = .ok (.ldc2_w 25, 3) := by decide +kernel
theorem d_La_file_26 : decode cL_file 26 = .ok (.lreturn, 1) := by decide +kernel
theorem hx_La_file_1 : hdl RL (tableOf [(0, 8, 9, 15), (0, 8, 15, 19), (0, 8, 21, 23)]) 4 "java/lang/IndexOutOfBoundsException" 9 := ⟨[], ⟨0, 8, 9, 15⟩, [⟨0, 8, 15, 19⟩, ⟨0, 8, 21, 23⟩], "java/lang/IndexOutOfBoundsException", rfl, fun u hu => absurd hu List.not_mem_nil, by decide, by decide, tw_193, tw_205, rfl⟩
theorem hx_La_file_2 : hdl RL (tableOf [(0, 8, 9, 15), (0, 8, 15, 19), (0, 8, 21, 23)]) 4 "java/lang/IllegalArgumentException" 15 := ⟨[⟨0, 8, 9, 15⟩], ⟨0, 8, 15, 19⟩, [⟨0, 8, 21, 23⟩], "java/lang/IllegalArgumentException", rfl, List.forall_mem_cons.mpr ⟨Or.inr ⟨by decide, "java/lang/IndexOutOfBoundsException", tw_193, by decide⟩, fun u hu => absurd hu List.not_mem_nil⟩, by decide, by decide, tw_194, tw_273, rfl⟩
theorem hx_La_file_3 : hdl RL (tableOf [(0, 8, 9, 15), (0, 8, 15, 19), (0, 8, 21, 23)]) 4 "java/lang/IllegalStateException" 21 := ⟨[⟨0, 8, 9, 15⟩, ⟨0, 8, 15, 19⟩], ⟨0, 8, 21, 23⟩, [], "java/lang/IllegalStateException", rfl, List.forall_mem_cons.mpr ⟨Or.inr ⟨by decide, "java/lang/IndexOutOfBoundsException", tw_193, by decide⟩, List.forall_mem_cons.mpr ⟨Or.inr ⟨by decide, "java/lang/IllegalArgumentException", tw_194, by decide⟩, fun u hu => absurd hu List.not_mem_nil⟩⟩, by decide, by decide, tw_195, tw_293, rfl⟩
set_option maxRecDepth 100000 in
set_option maxHeartbeats 4000000 in
theorem w_La_file {X : CX} {KX : Int64 × MS → Prop} {a0 : Option Nat} {a1 : Int32} {a2 : Int32} {a3 : Int32} {s : MS} (ok : Ok X cL_file RL rm_La_file 5 true) (hret : ∀ r : Int64 × MS, KX r → Fiw X [(0, 8, 9, 15), (0, 8, 15, 19), (0, 8, 21, 23)] 3 94 (some (vL r.1)) r.2)  (hl : X.1.2.1.stackTraces = false)  {res : Int64 × MS} (h : f_La_file a0 a1 a2 a3 s = some res) (hk : KX res) : G X s 0 0 0 [(0, vR a0), (1, vI a1), (2, vI a2), (3, vI a3)] [] := by
  unfold f_La_file at h
  refine g_aload_n (i := 0) 0 ok d_La_file_0 rfl rfl ?_
  refine g_iload_n (i := 1) 1 ok d_La_file_1 rfl rfl ?_
  refine g_iload_n (i := 2) 2 ok d_La_file_2 rfl rfl ?_
  refine g_iload_n (i := 3) 3 ok d_La_file_3 rfl rfl ?_
  obtain ⟨k1, hk2, h⟩ := bnd_go h
  refine g_sub [] rfl ?_
  obtain ⟨t4, x5, s6, hc7, h⟩ := bnd3_go h
  refine g_callX (rm2 := rm_Sk_file) (As := [vI a1, vI a2, vI a3]) (rest := []) ok (hret _ hk) hk2 lay_0 rfl (c_Sk_file hl (rf_self hk2) hc7) cm_Sk_file cv_Sk_file tw_477 ⟨rfl, rfl⟩ ⟨le_t rfl, le_t rfl⟩ ⟨rfl, le_t rfl⟩ ⟨le_t rfl, le_t rfl⟩ trivial trivial d_La_file_4 rfl (fun c9 m8 => ?_) (fun E c9 => ?_)
  · have c0 : t4 = 0 := tcode_0 c9
    replace h := (if_pos c0).symm.trans h
    show G X s6 3 94 7 [] [vI x5]
    refine g_i2l ok d_La_file_7 ?_
    cases h
    exact g_lretW ok (hret _ hk) (by decide) (by decide) d_La_file_8
  · have c0 : ¬ t4 = 0 := tcode_n c9
    replace h := (if_neg c0).symm.trans h
    by_cases c1 : t4 = 1
    · replace h := (if_pos c1).symm.trans h
      have hE : (some "java/lang/IndexOutOfBoundsException" : Option String) = some E := by rw [← c9, c1]; rfl
      cases hE
      refine ⟨9, hx_La_file_1, fun q9 m8 => ?_⟩
      refine g_astorew (i := 4) [(4, vW (Value.ref q9))] ok d_La_file_9 (by decide) rfl ?_
      refine g_ldc2 (v := (-9000000000000000001 : Int64)) ok d_La_file_11 tw_315 ?_
      cases h
      exact g_lretW ok (hret _ hk) (by decide) (by decide) d_La_file_14
    · replace h := (if_neg c1).symm.trans h
      by_cases c2 : t4 = 2
      · replace h := (if_pos c2).symm.trans h
        have hE : (some "java/lang/IllegalArgumentException" : Option String) = some E := by rw [← c9, c2]; rfl
        cases hE
        refine ⟨15, hx_La_file_2, fun q9 m8 => ?_⟩
        refine g_astorew (i := 4) [(4, vW (Value.ref q9))] ok d_La_file_15 (by decide) rfl ?_
        refine g_ldc2 (v := (-9000000000000000002 : Int64)) ok d_La_file_17 tw_316 ?_
        cases h
        exact g_lretW ok (hret _ hk) (by decide) (by decide) d_La_file_20
      · replace h := (if_neg c2).symm.trans h
        by_cases c3 : t4 = 3
        · replace h := (if_pos c3).symm.trans h
          have hE : (some "java/lang/IllegalStateException" : Option String) = some E := by rw [← c9, c3]; rfl
          cases hE
          refine ⟨21, hx_La_file_3, fun q9 m8 => ?_⟩
          refine g_astorew (i := 4) [(4, vW (Value.ref q9))] ok d_La_file_21 (by decide) rfl ?_
          refine g_ldc2 (v := (-9000000000000000003 : Int64)) ok d_La_file_23 tw_317 ?_
          cases h
          exact g_lretW ok (hret _ hk) (by decide) (by decide) d_La_file_26
        · replace h := (if_neg c3).symm.trans h
          cases h
theorem c_La_file {l : Launch} (hl : l.stackTraces = false) {a0 : Option Nat} {a1 : Int32} {a2 : Int32} {a3 : Int32} {s : MS} {r : Int64} {z : MS} (h : f_La_file a0 a1 a2 a3 s = some (r, z)) : Cw l yL_file (.codeWith yL_file cL_file 5 (some .long) [(0, 8, 9, 15), (0, 8, 15, 19), (0, 8, 21, 23)]) rm_La_file 3 94 [vR a0, vI a1, vI a2, vI a3] s (some (vL r)) z :=
  Cw.of rfl (by decide +kernel) ⟨rfl, le_t rfl⟩ cm_La_file.1 (fun X ok fn _ hl2 => w_La_file (KX := fun y => y = (r, z)) ok (fun y hy => by subst hy; exact fn) (by rw [hl2]; exact hl) h rfl)
abbrev rm_La_withdraw : Room := { frames := 7, cells := 1, slots := 6, locals := 112 }
theorem cm_La_withdraw : (Cond.codeWith yL_withdraw cL_withdraw 3 (some .long) [(0, 6, 7, 15), (0, 6, 12, 23)]) ∈ TT ∧ (Cond.initialized yL_withdraw.cls) ∈ TT ∧ yL_withdraw.cls ≠ "java/lang/invoke/MethodHandle" ∧ yL_withdraw.cls ≠ "java/lang/invoke/VarHandle" ∧ (parseMethodDescriptor yL_withdraw.desc).map (fun d => d.parameters.length) = some 2 := ⟨tw_742, tw_0, by decide, by decide, by decide +kernel⟩
theorem cs_La_withdraw : cfS yL_withdraw := tw_741
theorem d_La_withdraw_0 : decode cL_withdraw 0 = .ok (.aload_n 0, 1) := by decide +kernel
theorem d_La_withdraw_1 : decode cL_withdraw 1 = .ok (.iload_n 1, 1) := by decide +kernel
theorem d_La_withdraw_2 : decode cL_withdraw 2 = .ok (.invokevirtual 58, 3) := by decide +kernel
theorem d_La_withdraw_5 : decode cL_withdraw 5 = .ok (.lconst 0, 1) := by decide +kernel
theorem d_La_withdraw_6 : decode cL_withdraw 6 = .ok (.lreturn, 1) := by decide +kernel
theorem d_La_withdraw_7 : decode cL_withdraw 7 = .ok (.astore_n 2, 1) := by decide +kernel
theorem d_La_withdraw_8 : decode cL_withdraw 8 = .ok (.ldc2_w 17, 3) := by decide +kernel
theorem d_La_withdraw_11 : decode cL_withdraw 11 = .ok (.lreturn, 1) := by decide +kernel
theorem d_La_withdraw_12 : decode cL_withdraw 12 = .ok (.astore_n 2, 1) := by decide +kernel
theorem d_La_withdraw_13 : decode cL_withdraw 13 = .ok (.ldc2_w 25, 3) := by decide +kernel
theorem d_La_withdraw_16 : decode cL_withdraw 16 = .ok (.lreturn, 1) := by decide +kernel
theorem hx_La_withdraw_1 : hdl RL (tableOf [(0, 6, 7, 15), (0, 6, 12, 23)]) 2 "java/lang/IndexOutOfBoundsException" 7 := ⟨[], ⟨0, 6, 7, 15⟩, [⟨0, 6, 12, 23⟩], "java/lang/IndexOutOfBoundsException", rfl, fun u hu => absurd hu List.not_mem_nil, by decide, by decide, tw_193, tw_205, rfl⟩
theorem hx_La_withdraw_3 : hdl RL (tableOf [(0, 6, 7, 15), (0, 6, 12, 23)]) 2 "java/lang/IllegalStateException" 12 := ⟨[⟨0, 6, 7, 15⟩], ⟨0, 6, 12, 23⟩, [], "java/lang/IllegalStateException", rfl, List.forall_mem_cons.mpr ⟨Or.inr ⟨by decide, "java/lang/IndexOutOfBoundsException", tw_193, by decide⟩, fun u hu => absurd hu List.not_mem_nil⟩, by decide, by decide, tw_195, tw_293, rfl⟩
set_option maxRecDepth 100000 in
set_option maxHeartbeats 4000000 in
theorem w_La_withdraw {X : CX} {KX : Int64 × MS → Prop} {a0 : Option Nat} {a1 : Int32} {s : MS} (ok : Ok X cL_withdraw RL rm_La_withdraw 3 true) (hret : ∀ r : Int64 × MS, KX r → Fiw X [(0, 6, 7, 15), (0, 6, 12, 23)] 1 6 (some (vL r.1)) r.2)  (hl : X.1.2.1.stackTraces = false)  {res : Int64 × MS} (h : f_La_withdraw a0 a1 s = some res) (hk : KX res) : G X s 0 0 0 [(0, vR a0), (1, vI a1)] [] := by
  unfold f_La_withdraw at h
  refine g_aload_n (i := 0) 0 ok d_La_withdraw_0 rfl rfl ?_
  refine g_iload_n (i := 1) 1 ok d_La_withdraw_1 rfl rfl ?_
  obtain ⟨k1, hk2, h⟩ := bnd_go h
  refine g_sub [] rfl ?_
  obtain ⟨t4, x5, s6, hc7, h⟩ := bnd3_go h
  refine g_callX (rm2 := rm_Sk_withdraw) (As := [vI a1]) (rest := []) ok (hret _ hk) hk2 lay_0 rfl (c_Sk_withdraw hl (rf_self hk2) hc7) cm_Sk_withdraw cv_Sk_withdraw tw_743 ⟨rfl, rfl⟩ ⟨le_t rfl, le_t rfl⟩ ⟨rfl, le_t rfl⟩ ⟨le_t rfl, le_t rfl⟩ trivial trivial d_La_withdraw_2 rfl (fun c9 m8 => ?_) (fun E c9 => ?_)
  · have c0 : t4 = 0 := tcode_0 c9
    replace h := (if_pos c0).symm.trans h
    show G X s6 1 6 5 [] []
    refine g_lconst (v := (0 : Int64)) ok d_La_withdraw_5 (by decide) ?_
    cases h
    exact g_lretW ok (hret _ hk) (by decide) (by decide) d_La_withdraw_6
  · have c0 : ¬ t4 = 0 := tcode_n c9
    replace h := (if_neg c0).symm.trans h
    by_cases c1 : t4 = 1
    · replace h := (if_pos c1).symm.trans h
      have hE : (some "java/lang/IndexOutOfBoundsException" : Option String) = some E := by rw [← c9, c1]; rfl
      cases hE
      refine ⟨7, hx_La_withdraw_1, fun q9 m8 => ?_⟩
      refine g_astorew_n (i := 2) [(2, vW (Value.ref q9))] ok d_La_withdraw_7 rfl (by decide) rfl ?_
      refine g_ldc2 (v := (-9000000000000000001 : Int64)) ok d_La_withdraw_8 tw_315 ?_
      cases h
      exact g_lretW ok (hret _ hk) (by decide) (by decide) d_La_withdraw_11
    · replace h := (if_neg c1).symm.trans h
      by_cases c3 : t4 = 3
      · replace h := (if_pos c3).symm.trans h
        have hE : (some "java/lang/IllegalStateException" : Option String) = some E := by rw [← c9, c3]; rfl
        cases hE
        refine ⟨12, hx_La_withdraw_3, fun q9 m8 => ?_⟩
        refine g_astorew_n (i := 2) [(2, vW (Value.ref q9))] ok d_La_withdraw_12 rfl (by decide) rfl ?_
        refine g_ldc2 (v := (-9000000000000000003 : Int64)) ok d_La_withdraw_13 tw_317 ?_
        cases h
        exact g_lretW ok (hret _ hk) (by decide) (by decide) d_La_withdraw_16
      · replace h := (if_neg c3).symm.trans h
        cases h
theorem c_La_withdraw {l : Launch} (hl : l.stackTraces = false) {a0 : Option Nat} {a1 : Int32} {s : MS} {r : Int64} {z : MS} (h : f_La_withdraw a0 a1 s = some (r, z)) : Cw l yL_withdraw (.codeWith yL_withdraw cL_withdraw 3 (some .long) [(0, 6, 7, 15), (0, 6, 12, 23)]) rm_La_withdraw 1 6 [vR a0, vI a1] s (some (vL r)) z :=
  Cw.of rfl (by decide +kernel) ⟨rfl, le_t rfl⟩ cm_La_withdraw.1 (fun X ok fn _ hl2 => w_La_withdraw (KX := fun y => y = (r, z)) ok (fun y hy => by subst hy; exact fn) (by rw [hl2]; exact hl) h rfl)
abbrev rm_La_tick : Room := { frames := 7, cells := 1, slots := 6, locals := 155 }
theorem cm_La_tick : (Cond.codeWith yL_tick cL_tick 3 (some .long) [(0, 6, 7, 19), (0, 6, 12, 23)]) ∈ TT ∧ (Cond.initialized yL_tick.cls) ∈ TT ∧ yL_tick.cls ≠ "java/lang/invoke/MethodHandle" ∧ yL_tick.cls ≠ "java/lang/invoke/VarHandle" ∧ (parseMethodDescriptor yL_tick.desc).map (fun d => d.parameters.length) = some 2 := ⟨tw_568, tw_0, by decide, by decide, by decide +kernel⟩
theorem cs_La_tick : cfS yL_tick := tw_567
theorem d_La_tick_0 : decode cL_tick 0 = .ok (.aload_n 0, 1) := by decide +kernel
theorem d_La_tick_1 : decode cL_tick 1 = .ok (.iload_n 1, 1) := by decide +kernel
theorem d_La_tick_2 : decode cL_tick 2 = .ok (.invokevirtual 61, 3) := by decide +kernel
theorem d_La_tick_5 : decode cL_tick 5 = .ok (.i2l, 1) := by decide +kernel
theorem d_La_tick_6 : decode cL_tick 6 = .ok (.lreturn, 1) := by decide +kernel
theorem d_La_tick_7 : decode cL_tick 7 = .ok (.astore_n 2, 1) := by decide +kernel
theorem d_La_tick_8 : decode cL_tick 8 = .ok (.ldc2_w 21, 3) := by decide +kernel
theorem d_La_tick_11 : decode cL_tick 11 = .ok (.lreturn, 1) := by decide +kernel
theorem d_La_tick_12 : decode cL_tick 12 = .ok (.astore_n 2, 1) := by decide +kernel
theorem d_La_tick_13 : decode cL_tick 13 = .ok (.ldc2_w 25, 3) := by decide +kernel
theorem d_La_tick_16 : decode cL_tick 16 = .ok (.lreturn, 1) := by decide +kernel
theorem hx_La_tick_2 : hdl RL (tableOf [(0, 6, 7, 19), (0, 6, 12, 23)]) 2 "java/lang/IllegalArgumentException" 7 := ⟨[], ⟨0, 6, 7, 19⟩, [⟨0, 6, 12, 23⟩], "java/lang/IllegalArgumentException", rfl, fun u hu => absurd hu List.not_mem_nil, by decide, by decide, tw_194, tw_273, rfl⟩
theorem hx_La_tick_3 : hdl RL (tableOf [(0, 6, 7, 19), (0, 6, 12, 23)]) 2 "java/lang/IllegalStateException" 12 := ⟨[⟨0, 6, 7, 19⟩], ⟨0, 6, 12, 23⟩, [], "java/lang/IllegalStateException", rfl, List.forall_mem_cons.mpr ⟨Or.inr ⟨by decide, "java/lang/IllegalArgumentException", tw_194, by decide⟩, fun u hu => absurd hu List.not_mem_nil⟩, by decide, by decide, tw_195, tw_293, rfl⟩
set_option maxRecDepth 100000 in
set_option maxHeartbeats 4000000 in
theorem w_La_tick {X : CX} {KX : Int64 × MS → Prop} {a0 : Option Nat} {a1 : Int32} {s : MS} (ok : Ok X cL_tick RL rm_La_tick 3 true) (hret : ∀ r : Int64 × MS, KX r → Fiw X [(0, 6, 7, 19), (0, 6, 12, 23)] 1 6 (some (vL r.1)) r.2)  (hl : X.1.2.1.stackTraces = false)  {res : Int64 × MS} (h : f_La_tick a0 a1 s = some res) (hk : KX res) : G X s 0 0 0 [(0, vR a0), (1, vI a1)] [] := by
  unfold f_La_tick at h
  refine g_aload_n (i := 0) 0 ok d_La_tick_0 rfl rfl ?_
  refine g_iload_n (i := 1) 1 ok d_La_tick_1 rfl rfl ?_
  obtain ⟨k1, hk2, h⟩ := bnd_go h
  refine g_sub [] rfl ?_
  obtain ⟨t4, x5, s6, hc7, h⟩ := bnd3_go h
  refine g_callX (rm2 := rm_Sk_tick) (As := [vI a1]) (rest := []) ok (hret _ hk) hk2 lay_0 rfl (c_Sk_tick hl (rf_self hk2) hc7) cm_Sk_tick cv_Sk_tick tw_569 ⟨rfl, rfl⟩ ⟨le_t rfl, le_t rfl⟩ ⟨rfl, le_t rfl⟩ ⟨le_t rfl, le_t rfl⟩ trivial trivial d_La_tick_2 rfl (fun c9 m8 => ?_) (fun E c9 => ?_)
  · have c0 : t4 = 0 := tcode_0 c9
    replace h := (if_pos c0).symm.trans h
    show G X s6 1 6 5 [] [vI x5]
    refine g_i2l ok d_La_tick_5 ?_
    cases h
    exact g_lretW ok (hret _ hk) (by decide) (by decide) d_La_tick_6
  · have c0 : ¬ t4 = 0 := tcode_n c9
    replace h := (if_neg c0).symm.trans h
    by_cases c2 : t4 = 2
    · replace h := (if_pos c2).symm.trans h
      have hE : (some "java/lang/IllegalArgumentException" : Option String) = some E := by rw [← c9, c2]; rfl
      cases hE
      refine ⟨7, hx_La_tick_2, fun q9 m8 => ?_⟩
      refine g_astorew_n (i := 2) [(2, vW (Value.ref q9))] ok d_La_tick_7 rfl (by decide) rfl ?_
      refine g_ldc2 (v := (-9000000000000000002 : Int64)) ok d_La_tick_8 tw_316 ?_
      cases h
      exact g_lretW ok (hret _ hk) (by decide) (by decide) d_La_tick_11
    · replace h := (if_neg c2).symm.trans h
      by_cases c3 : t4 = 3
      · replace h := (if_pos c3).symm.trans h
        have hE : (some "java/lang/IllegalStateException" : Option String) = some E := by rw [← c9, c3]; rfl
        cases hE
        refine ⟨12, hx_La_tick_3, fun q9 m8 => ?_⟩
        refine g_astorew_n (i := 2) [(2, vW (Value.ref q9))] ok d_La_tick_12 rfl (by decide) rfl ?_
        refine g_ldc2 (v := (-9000000000000000003 : Int64)) ok d_La_tick_13 tw_317 ?_
        cases h
        exact g_lretW ok (hret _ hk) (by decide) (by decide) d_La_tick_16
      · replace h := (if_neg c3).symm.trans h
        cases h
theorem c_La_tick {l : Launch} (hl : l.stackTraces = false) {a0 : Option Nat} {a1 : Int32} {s : MS} {r : Int64} {z : MS} (h : f_La_tick a0 a1 s = some (r, z)) : Cw l yL_tick (.codeWith yL_tick cL_tick 3 (some .long) [(0, 6, 7, 19), (0, 6, 12, 23)]) rm_La_tick 1 6 [vR a0, vI a1] s (some (vL r)) z :=
  Cw.of rfl (by decide +kernel) ⟨rfl, le_t rfl⟩ cm_La_tick.1 (fun X ok fn _ hl2 => w_La_tick (KX := fun y => y = (r, z)) ok (fun y hy => by subst hy; exact fn) (by rw [hl2]; exact hl) h rfl)
abbrev rm_La_lose : Room := { frames := 7, cells := 1, slots := 6, locals := 113 }
theorem cm_La_lose : (Cond.codeWith yL_lose cL_lose 3 (some .long) [(0, 6, 7, 15), (0, 6, 12, 23)]) ∈ TT ∧ (Cond.initialized yL_lose.cls) ∈ TT ∧ yL_lose.cls ≠ "java/lang/invoke/MethodHandle" ∧ yL_lose.cls ≠ "java/lang/invoke/VarHandle" ∧ (parseMethodDescriptor yL_lose.desc).map (fun d => d.parameters.length) = some 2 := ⟨tw_620, tw_0, by decide, by decide, by decide +kernel⟩
theorem cs_La_lose : cfS yL_lose := tw_619
theorem d_La_lose_0 : decode cL_lose 0 = .ok (.aload_n 0, 1) := by decide +kernel
theorem d_La_lose_1 : decode cL_lose 1 = .ok (.iload_n 1, 1) := by decide +kernel
theorem d_La_lose_2 : decode cL_lose 2 = .ok (.invokevirtual 64, 3) := by decide +kernel
theorem d_La_lose_5 : decode cL_lose 5 = .ok (.i2l, 1) := by decide +kernel
theorem d_La_lose_6 : decode cL_lose 6 = .ok (.lreturn, 1) := by decide +kernel
theorem d_La_lose_7 : decode cL_lose 7 = .ok (.astore_n 2, 1) := by decide +kernel
theorem d_La_lose_8 : decode cL_lose 8 = .ok (.ldc2_w 17, 3) := by decide +kernel
theorem d_La_lose_11 : decode cL_lose 11 = .ok (.lreturn, 1) := by decide +kernel
theorem d_La_lose_12 : decode cL_lose 12 = .ok (.astore_n 2, 1) := by decide +kernel
theorem d_La_lose_13 : decode cL_lose 13 = .ok (.ldc2_w 25, 3) := by decide +kernel
theorem d_La_lose_16 : decode cL_lose 16 = .ok (.lreturn, 1) := by decide +kernel
theorem hx_La_lose_1 : hdl RL (tableOf [(0, 6, 7, 15), (0, 6, 12, 23)]) 2 "java/lang/IndexOutOfBoundsException" 7 := ⟨[], ⟨0, 6, 7, 15⟩, [⟨0, 6, 12, 23⟩], "java/lang/IndexOutOfBoundsException", rfl, fun u hu => absurd hu List.not_mem_nil, by decide, by decide, tw_193, tw_205, rfl⟩
theorem hx_La_lose_3 : hdl RL (tableOf [(0, 6, 7, 15), (0, 6, 12, 23)]) 2 "java/lang/IllegalStateException" 12 := ⟨[⟨0, 6, 7, 15⟩], ⟨0, 6, 12, 23⟩, [], "java/lang/IllegalStateException", rfl, List.forall_mem_cons.mpr ⟨Or.inr ⟨by decide, "java/lang/IndexOutOfBoundsException", tw_193, by decide⟩, fun u hu => absurd hu List.not_mem_nil⟩, by decide, by decide, tw_195, tw_293, rfl⟩
set_option maxRecDepth 100000 in
set_option maxHeartbeats 4000000 in
theorem w_La_lose {X : CX} {KX : Int64 × MS → Prop} {a0 : Option Nat} {a1 : Int32} {s : MS} (ok : Ok X cL_lose RL rm_La_lose 3 true) (hret : ∀ r : Int64 × MS, KX r → Fiw X [(0, 6, 7, 15), (0, 6, 12, 23)] 1 6 (some (vL r.1)) r.2)  (hl : X.1.2.1.stackTraces = false)  {res : Int64 × MS} (h : f_La_lose a0 a1 s = some res) (hk : KX res) : G X s 0 0 0 [(0, vR a0), (1, vI a1)] [] := by
  unfold f_La_lose at h
  refine g_aload_n (i := 0) 0 ok d_La_lose_0 rfl rfl ?_
  refine g_iload_n (i := 1) 1 ok d_La_lose_1 rfl rfl ?_
  obtain ⟨k1, hk2, h⟩ := bnd_go h
  refine g_sub [] rfl ?_
  obtain ⟨t4, x5, s6, hc7, h⟩ := bnd3_go h
  refine g_callX (rm2 := rm_Sk_lose) (As := [vI a1]) (rest := []) ok (hret _ hk) hk2 lay_0 rfl (c_Sk_lose hl (rf_self hk2) hc7) cm_Sk_lose cv_Sk_lose tw_621 ⟨rfl, rfl⟩ ⟨le_t rfl, le_t rfl⟩ ⟨rfl, le_t rfl⟩ ⟨le_t rfl, le_t rfl⟩ trivial trivial d_La_lose_2 rfl (fun c9 m8 => ?_) (fun E c9 => ?_)
  · have c0 : t4 = 0 := tcode_0 c9
    replace h := (if_pos c0).symm.trans h
    show G X s6 1 6 5 [] [vI x5]
    refine g_i2l ok d_La_lose_5 ?_
    cases h
    exact g_lretW ok (hret _ hk) (by decide) (by decide) d_La_lose_6
  · have c0 : ¬ t4 = 0 := tcode_n c9
    replace h := (if_neg c0).symm.trans h
    by_cases c1 : t4 = 1
    · replace h := (if_pos c1).symm.trans h
      have hE : (some "java/lang/IndexOutOfBoundsException" : Option String) = some E := by rw [← c9, c1]; rfl
      cases hE
      refine ⟨7, hx_La_lose_1, fun q9 m8 => ?_⟩
      refine g_astorew_n (i := 2) [(2, vW (Value.ref q9))] ok d_La_lose_7 rfl (by decide) rfl ?_
      refine g_ldc2 (v := (-9000000000000000001 : Int64)) ok d_La_lose_8 tw_315 ?_
      cases h
      exact g_lretW ok (hret _ hk) (by decide) (by decide) d_La_lose_11
    · replace h := (if_neg c1).symm.trans h
      by_cases c3 : t4 = 3
      · replace h := (if_pos c3).symm.trans h
        have hE : (some "java/lang/IllegalStateException" : Option String) = some E := by rw [← c9, c3]; rfl
        cases hE
        refine ⟨12, hx_La_lose_3, fun q9 m8 => ?_⟩
        refine g_astorew_n (i := 2) [(2, vW (Value.ref q9))] ok d_La_lose_12 rfl (by decide) rfl ?_
        refine g_ldc2 (v := (-9000000000000000003 : Int64)) ok d_La_lose_13 tw_317 ?_
        cases h
        exact g_lretW ok (hret _ hk) (by decide) (by decide) d_La_lose_16
      · replace h := (if_neg c3).symm.trans h
        cases h
theorem c_La_lose {l : Launch} (hl : l.stackTraces = false) {a0 : Option Nat} {a1 : Int32} {s : MS} {r : Int64} {z : MS} (h : f_La_lose a0 a1 s = some (r, z)) : Cw l yL_lose (.codeWith yL_lose cL_lose 3 (some .long) [(0, 6, 7, 15), (0, 6, 12, 23)]) rm_La_lose 1 6 [vR a0, vI a1] s (some (vL r)) z :=
  Cw.of rfl (by decide +kernel) ⟨rfl, le_t rfl⟩ cm_La_lose.1 (fun X ok fn _ hl2 => w_La_lose (KX := fun y => y = (r, z)) ok (fun y hy => by subst hy; exact fn) (by rw [hl2]; exact hl) h rfl)
abbrev rm_La_hold : Room := { frames := 7, cells := 1, slots := 6, locals := 166 }
theorem cm_La_hold : (Cond.codeWith yL_hold cL_hold 4 (some .long) [(0, 7, 8, 15), (0, 7, 13, 19), (0, 7, 18, 23)]) ∈ TT ∧ (Cond.initialized yL_hold.cls) ∈ TT ∧ yL_hold.cls ≠ "java/lang/invoke/MethodHandle" ∧ yL_hold.cls ≠ "java/lang/invoke/VarHandle" ∧ (parseMethodDescriptor yL_hold.desc).map (fun d => d.parameters.length) = some 3 := ⟨tw_629, tw_0, by decide, by decide, by decide +kernel⟩
theorem cs_La_hold : cfS yL_hold := tw_628
theorem d_La_hold_0 : decode cL_hold 0 = .ok (.aload_n 0, 1) := by decide +kernel
theorem d_La_hold_1 : decode cL_hold 1 = .ok (.iload_n 1, 1) := by decide +kernel
theorem d_La_hold_2 : decode cL_hold 2 = .ok (.iload_n 2, 1) := by decide +kernel
theorem d_La_hold_3 : decode cL_hold 3 = .ok (.invokevirtual 67, 3) := by decide +kernel
theorem d_La_hold_6 : decode cL_hold 6 = .ok (.i2l, 1) := by decide +kernel
theorem d_La_hold_7 : decode cL_hold 7 = .ok (.lreturn, 1) := by decide +kernel
theorem d_La_hold_8 : decode cL_hold 8 = .ok (.astore_n 3, 1) := by decide +kernel
theorem d_La_hold_9 : decode cL_hold 9 = .ok (.ldc2_w 17, 3) := by decide +kernel
theorem d_La_hold_12 : decode cL_hold 12 = .ok (.lreturn, 1) := by decide +kernel
theorem d_La_hold_13 : decode cL_hold 13 = .ok (.astore_n 3, 1) := by decide +kernel
theorem d_La_hold_14 : decode cL_hold 14 = .ok (.ldc2_w 21, 3) := by decide +kernel
theorem d_La_hold_17 : decode cL_hold 17 = .ok (.lreturn, 1) := by decide +kernel
theorem d_La_hold_18 : decode cL_hold 18 = .ok (.astore_n 3, 1) := by decide +kernel
theorem d_La_hold_19 : decode cL_hold 19 = .ok (.ldc2_w 25, 3) := by decide +kernel
theorem d_La_hold_22 : decode cL_hold 22 = .ok (.lreturn, 1) := by decide +kernel
theorem hx_La_hold_1 : hdl RL (tableOf [(0, 7, 8, 15), (0, 7, 13, 19), (0, 7, 18, 23)]) 3 "java/lang/IndexOutOfBoundsException" 8 := ⟨[], ⟨0, 7, 8, 15⟩, [⟨0, 7, 13, 19⟩, ⟨0, 7, 18, 23⟩], "java/lang/IndexOutOfBoundsException", rfl, fun u hu => absurd hu List.not_mem_nil, by decide, by decide, tw_193, tw_205, rfl⟩
theorem hx_La_hold_2 : hdl RL (tableOf [(0, 7, 8, 15), (0, 7, 13, 19), (0, 7, 18, 23)]) 3 "java/lang/IllegalArgumentException" 13 := ⟨[⟨0, 7, 8, 15⟩], ⟨0, 7, 13, 19⟩, [⟨0, 7, 18, 23⟩], "java/lang/IllegalArgumentException", rfl, List.forall_mem_cons.mpr ⟨Or.inr ⟨by decide, "java/lang/IndexOutOfBoundsException", tw_193, by decide⟩, fun u hu => absurd hu List.not_mem_nil⟩, by decide, by decide, tw_194, tw_273, rfl⟩
theorem hx_La_hold_3 : hdl RL (tableOf [(0, 7, 8, 15), (0, 7, 13, 19), (0, 7, 18, 23)]) 3 "java/lang/IllegalStateException" 18 := ⟨[⟨0, 7, 8, 15⟩, ⟨0, 7, 13, 19⟩], ⟨0, 7, 18, 23⟩, [], "java/lang/IllegalStateException", rfl, List.forall_mem_cons.mpr ⟨Or.inr ⟨by decide, "java/lang/IndexOutOfBoundsException", tw_193, by decide⟩, List.forall_mem_cons.mpr ⟨Or.inr ⟨by decide, "java/lang/IllegalArgumentException", tw_194, by decide⟩, fun u hu => absurd hu List.not_mem_nil⟩⟩, by decide, by decide, tw_195, tw_293, rfl⟩
set_option maxRecDepth 100000 in
set_option maxHeartbeats 4000000 in
theorem w_La_hold {X : CX} {KX : Int64 × MS → Prop} {a0 : Option Nat} {a1 : Int32} {a2 : Int32} {s : MS} (ok : Ok X cL_hold RL rm_La_hold 4 true) (hret : ∀ r : Int64 × MS, KX r → Fiw X [(0, 7, 8, 15), (0, 7, 13, 19), (0, 7, 18, 23)] 1 6 (some (vL r.1)) r.2)  (hl : X.1.2.1.stackTraces = false)  {res : Int64 × MS} (h : f_La_hold a0 a1 a2 s = some res) (hk : KX res) : G X s 0 0 0 [(0, vR a0), (1, vI a1), (2, vI a2)] [] := by
  unfold f_La_hold at h
  refine g_aload_n (i := 0) 0 ok d_La_hold_0 rfl rfl ?_
  refine g_iload_n (i := 1) 1 ok d_La_hold_1 rfl rfl ?_
  refine g_iload_n (i := 2) 2 ok d_La_hold_2 rfl rfl ?_
  obtain ⟨k1, hk2, h⟩ := bnd_go h
  refine g_sub [] rfl ?_
  obtain ⟨t4, x5, s6, hc7, h⟩ := bnd3_go h
  refine g_callX (rm2 := rm_Sk_hold) (As := [vI a1, vI a2]) (rest := []) ok (hret _ hk) hk2 lay_0 rfl (c_Sk_hold hl (rf_self hk2) hc7) cm_Sk_hold cv_Sk_hold tw_630 ⟨rfl, rfl⟩ ⟨le_t rfl, le_t rfl⟩ ⟨rfl, le_t rfl⟩ ⟨le_t rfl, le_t rfl⟩ trivial trivial d_La_hold_3 rfl (fun c9 m8 => ?_) (fun E c9 => ?_)
  · have c0 : t4 = 0 := tcode_0 c9
    replace h := (if_pos c0).symm.trans h
    show G X s6 1 6 6 [] [vI x5]
    refine g_i2l ok d_La_hold_6 ?_
    cases h
    exact g_lretW ok (hret _ hk) (by decide) (by decide) d_La_hold_7
  · have c0 : ¬ t4 = 0 := tcode_n c9
    replace h := (if_neg c0).symm.trans h
    by_cases c1 : t4 = 1
    · replace h := (if_pos c1).symm.trans h
      have hE : (some "java/lang/IndexOutOfBoundsException" : Option String) = some E := by rw [← c9, c1]; rfl
      cases hE
      refine ⟨8, hx_La_hold_1, fun q9 m8 => ?_⟩
      refine g_astorew_n (i := 3) [(3, vW (Value.ref q9))] ok d_La_hold_8 rfl (by decide) rfl ?_
      refine g_ldc2 (v := (-9000000000000000001 : Int64)) ok d_La_hold_9 tw_315 ?_
      cases h
      exact g_lretW ok (hret _ hk) (by decide) (by decide) d_La_hold_12
    · replace h := (if_neg c1).symm.trans h
      by_cases c2 : t4 = 2
      · replace h := (if_pos c2).symm.trans h
        have hE : (some "java/lang/IllegalArgumentException" : Option String) = some E := by rw [← c9, c2]; rfl
        cases hE
        refine ⟨13, hx_La_hold_2, fun q9 m8 => ?_⟩
        refine g_astorew_n (i := 3) [(3, vW (Value.ref q9))] ok d_La_hold_13 rfl (by decide) rfl ?_
        refine g_ldc2 (v := (-9000000000000000002 : Int64)) ok d_La_hold_14 tw_316 ?_
        cases h
        exact g_lretW ok (hret _ hk) (by decide) (by decide) d_La_hold_17
      · replace h := (if_neg c2).symm.trans h
        by_cases c3 : t4 = 3
        · replace h := (if_pos c3).symm.trans h
          have hE : (some "java/lang/IllegalStateException" : Option String) = some E := by rw [← c9, c3]; rfl
          cases hE
          refine ⟨18, hx_La_hold_3, fun q9 m8 => ?_⟩
          refine g_astorew_n (i := 3) [(3, vW (Value.ref q9))] ok d_La_hold_18 rfl (by decide) rfl ?_
          refine g_ldc2 (v := (-9000000000000000003 : Int64)) ok d_La_hold_19 tw_317 ?_
          cases h
          exact g_lretW ok (hret _ hk) (by decide) (by decide) d_La_hold_22
        · replace h := (if_neg c3).symm.trans h
          cases h
theorem c_La_hold {l : Launch} (hl : l.stackTraces = false) {a0 : Option Nat} {a1 : Int32} {a2 : Int32} {s : MS} {r : Int64} {z : MS} (h : f_La_hold a0 a1 a2 s = some (r, z)) : Cw l yL_hold (.codeWith yL_hold cL_hold 4 (some .long) [(0, 7, 8, 15), (0, 7, 13, 19), (0, 7, 18, 23)]) rm_La_hold 1 6 [vR a0, vI a1, vI a2] s (some (vL r)) z :=
  Cw.of rfl (by decide +kernel) ⟨rfl, le_t rfl⟩ cm_La_hold.1 (fun X ok fn _ hl2 => w_La_hold (KX := fun y => y = (r, z)) ok (fun y hy => by subst hy; exact fn) (by rw [hl2]; exact hl) h rfl)
abbrev rm_La_home : Room := { frames := 7, cells := 1, slots := 6, locals := 111 }
theorem cm_La_home : (Cond.codeWith yL_home cL_home 3 (some .long) [(0, 6, 7, 15)]) ∈ TT ∧ (Cond.initialized yL_home.cls) ∈ TT ∧ yL_home.cls ≠ "java/lang/invoke/MethodHandle" ∧ yL_home.cls ≠ "java/lang/invoke/VarHandle" ∧ (parseMethodDescriptor yL_home.desc).map (fun d => d.parameters.length) = some 2 := ⟨tw_750, tw_0, by decide, by decide, by decide +kernel⟩
theorem cs_La_home : cfS yL_home := tw_749
theorem d_La_home_0 : decode cL_home 0 = .ok (.aload_n 0, 1) := by decide +kernel
theorem d_La_home_1 : decode cL_home 1 = .ok (.iload_n 1, 1) := by decide +kernel
theorem d_La_home_2 : decode cL_home 2 = .ok (.invokevirtual 70, 3) := by decide +kernel
theorem d_La_home_5 : decode cL_home 5 = .ok (.i2l, 1) := by decide +kernel
theorem d_La_home_6 : decode cL_home 6 = .ok (.lreturn, 1) := by decide +kernel
theorem d_La_home_7 : decode cL_home 7 = .ok (.astore_n 2, 1) := by decide +kernel
theorem d_La_home_8 : decode cL_home 8 = .ok (.ldc2_w 17, 3) := by decide +kernel
theorem d_La_home_11 : decode cL_home 11 = .ok (.lreturn, 1) := by decide +kernel
theorem hx_La_home_1 : hdl RL (tableOf [(0, 6, 7, 15)]) 2 "java/lang/IndexOutOfBoundsException" 7 := ⟨[], ⟨0, 6, 7, 15⟩, [], "java/lang/IndexOutOfBoundsException", rfl, fun u hu => absurd hu List.not_mem_nil, by decide, by decide, tw_193, tw_205, rfl⟩
set_option maxRecDepth 100000 in
set_option maxHeartbeats 4000000 in
theorem w_La_home {X : CX} {KX : Int64 × MS → Prop} {a0 : Option Nat} {a1 : Int32} {s : MS} (ok : Ok X cL_home RL rm_La_home 3 true) (hret : ∀ r : Int64 × MS, KX r → Fiw X [(0, 6, 7, 15)] 1 6 (some (vL r.1)) r.2)  (hl : X.1.2.1.stackTraces = false)  {res : Int64 × MS} (h : f_La_home a0 a1 s = some res) (hk : KX res) : G X s 0 0 0 [(0, vR a0), (1, vI a1)] [] := by
  unfold f_La_home at h
  refine g_aload_n (i := 0) 0 ok d_La_home_0 rfl rfl ?_
  refine g_iload_n (i := 1) 1 ok d_La_home_1 rfl rfl ?_
  obtain ⟨k1, hk2, h⟩ := bnd_go h
  refine g_sub [] rfl ?_
  obtain ⟨t4, x5, s6, hc7, h⟩ := bnd3_go h
  refine g_callX (rm2 := rm_Sk_home) (As := [vI a1]) (rest := []) ok (hret _ hk) hk2 lay_0 rfl (c_Sk_home hl (rf_self hk2) hc7) cm_Sk_home cv_Sk_home tw_751 ⟨rfl, rfl⟩ ⟨le_t rfl, le_t rfl⟩ ⟨rfl, le_t rfl⟩ ⟨le_t rfl, le_t rfl⟩ trivial trivial d_La_home_2 rfl (fun c9 m8 => ?_) (fun E c9 => ?_)
  · have c0 : t4 = 0 := tcode_0 c9
    replace h := (if_pos c0).symm.trans h
    show G X s6 1 6 5 [] [vI x5]
    refine g_i2l ok d_La_home_5 ?_
    cases h
    exact g_lretW ok (hret _ hk) (by decide) (by decide) d_La_home_6
  · have c0 : ¬ t4 = 0 := tcode_n c9
    replace h := (if_neg c0).symm.trans h
    by_cases c1 : t4 = 1
    · replace h := (if_pos c1).symm.trans h
      have hE : (some "java/lang/IndexOutOfBoundsException" : Option String) = some E := by rw [← c9, c1]; rfl
      cases hE
      refine ⟨7, hx_La_home_1, fun q9 m8 => ?_⟩
      refine g_astorew_n (i := 2) [(2, vW (Value.ref q9))] ok d_La_home_7 rfl (by decide) rfl ?_
      refine g_ldc2 (v := (-9000000000000000001 : Int64)) ok d_La_home_8 tw_315 ?_
      cases h
      exact g_lretW ok (hret _ hk) (by decide) (by decide) d_La_home_11
    · replace h := (if_neg c1).symm.trans h
      cases h
theorem c_La_home {l : Launch} (hl : l.stackTraces = false) {a0 : Option Nat} {a1 : Int32} {s : MS} {r : Int64} {z : MS} (h : f_La_home a0 a1 s = some (r, z)) : Cw l yL_home (.codeWith yL_home cL_home 3 (some .long) [(0, 6, 7, 15)]) rm_La_home 1 6 [vR a0, vI a1] s (some (vL r)) z :=
  Cw.of rfl (by decide +kernel) ⟨rfl, le_t rfl⟩ cm_La_home.1 (fun X ok fn _ hl2 => w_La_home (KX := fun y => y = (r, z)) ok (fun y hy => by subst hy; exact fn) (by rw [hl2]; exact hl) h rfl)
abbrev rm_La_placeAt : Room := { frames := 7, cells := 1, slots := 6, locals := 113 }
theorem cm_La_placeAt : (Cond.codeWith yL_placeAt cL_placeAt 4 (some .long) [(0, 7, 8, 15)]) ∈ TT ∧ (Cond.initialized yL_placeAt.cls) ∈ TT ∧ yL_placeAt.cls ≠ "java/lang/invoke/MethodHandle" ∧ yL_placeAt.cls ≠ "java/lang/invoke/VarHandle" ∧ (parseMethodDescriptor yL_placeAt.desc).map (fun d => d.parameters.length) = some 3 := ⟨tw_692, tw_0, by decide, by decide, by decide +kernel⟩
theorem cs_La_placeAt : cfS yL_placeAt := tw_691
theorem d_La_placeAt_0 : decode cL_placeAt 0 = .ok (.aload_n 0, 1) := by decide +kernel
theorem d_La_placeAt_1 : decode cL_placeAt 1 = .ok (.iload_n 1, 1) := by decide +kernel
theorem d_La_placeAt_2 : decode cL_placeAt 2 = .ok (.iload_n 2, 1) := by decide +kernel
theorem d_La_placeAt_3 : decode cL_placeAt 3 = .ok (.invokevirtual 73, 3) := by decide +kernel
theorem d_La_placeAt_6 : decode cL_placeAt 6 = .ok (.i2l, 1) := by decide +kernel
theorem d_La_placeAt_7 : decode cL_placeAt 7 = .ok (.lreturn, 1) := by decide +kernel
theorem d_La_placeAt_8 : decode cL_placeAt 8 = .ok (.astore_n 3, 1) := by decide +kernel
theorem d_La_placeAt_9 : decode cL_placeAt 9 = .ok (.ldc2_w 17, 3) := by decide +kernel
theorem d_La_placeAt_12 : decode cL_placeAt 12 = .ok (.lreturn, 1) := by decide +kernel
theorem hx_La_placeAt_1 : hdl RL (tableOf [(0, 7, 8, 15)]) 3 "java/lang/IndexOutOfBoundsException" 8 := ⟨[], ⟨0, 7, 8, 15⟩, [], "java/lang/IndexOutOfBoundsException", rfl, fun u hu => absurd hu List.not_mem_nil, by decide, by decide, tw_193, tw_205, rfl⟩
set_option maxRecDepth 100000 in
set_option maxHeartbeats 4000000 in
theorem w_La_placeAt {X : CX} {KX : Int64 × MS → Prop} {a0 : Option Nat} {a1 : Int32} {a2 : Int32} {s : MS} (ok : Ok X cL_placeAt RL rm_La_placeAt 4 true) (hret : ∀ r : Int64 × MS, KX r → Fiw X [(0, 7, 8, 15)] 1 6 (some (vL r.1)) r.2)  (hl : X.1.2.1.stackTraces = false)  {res : Int64 × MS} (h : f_La_placeAt a0 a1 a2 s = some res) (hk : KX res) : G X s 0 0 0 [(0, vR a0), (1, vI a1), (2, vI a2)] [] := by
  unfold f_La_placeAt at h
  refine g_aload_n (i := 0) 0 ok d_La_placeAt_0 rfl rfl ?_
  refine g_iload_n (i := 1) 1 ok d_La_placeAt_1 rfl rfl ?_
  refine g_iload_n (i := 2) 2 ok d_La_placeAt_2 rfl rfl ?_
  obtain ⟨k1, hk2, h⟩ := bnd_go h
  refine g_sub [] rfl ?_
  obtain ⟨t4, x5, s6, hc7, h⟩ := bnd3_go h
  refine g_callX (rm2 := rm_Sk_placeAt) (As := [vI a1, vI a2]) (rest := []) ok (hret _ hk) hk2 lay_0 rfl (c_Sk_placeAt hl (rf_self hk2) hc7) cm_Sk_placeAt cv_Sk_placeAt tw_693 ⟨rfl, rfl⟩ ⟨le_t rfl, le_t rfl⟩ ⟨rfl, le_t rfl⟩ ⟨le_t rfl, le_t rfl⟩ trivial trivial d_La_placeAt_3 rfl (fun c9 m8 => ?_) (fun E c9 => ?_)
  · have c0 : t4 = 0 := tcode_0 c9
    replace h := (if_pos c0).symm.trans h
    show G X s6 1 6 6 [] [vI x5]
    refine g_i2l ok d_La_placeAt_6 ?_
    cases h
    exact g_lretW ok (hret _ hk) (by decide) (by decide) d_La_placeAt_7
  · have c0 : ¬ t4 = 0 := tcode_n c9
    replace h := (if_neg c0).symm.trans h
    by_cases c1 : t4 = 1
    · replace h := (if_pos c1).symm.trans h
      have hE : (some "java/lang/IndexOutOfBoundsException" : Option String) = some E := by rw [← c9, c1]; rfl
      cases hE
      refine ⟨8, hx_La_placeAt_1, fun q9 m8 => ?_⟩
      refine g_astorew_n (i := 3) [(3, vW (Value.ref q9))] ok d_La_placeAt_8 rfl (by decide) rfl ?_
      refine g_ldc2 (v := (-9000000000000000001 : Int64)) ok d_La_placeAt_9 tw_315 ?_
      cases h
      exact g_lretW ok (hret _ hk) (by decide) (by decide) d_La_placeAt_12
    · replace h := (if_neg c1).symm.trans h
      cases h
theorem c_La_placeAt {l : Launch} (hl : l.stackTraces = false) {a0 : Option Nat} {a1 : Int32} {a2 : Int32} {s : MS} {r : Int64} {z : MS} (h : f_La_placeAt a0 a1 a2 s = some (r, z)) : Cw l yL_placeAt (.codeWith yL_placeAt cL_placeAt 4 (some .long) [(0, 7, 8, 15)]) rm_La_placeAt 1 6 [vR a0, vI a1, vI a2] s (some (vL r)) z :=
  Cw.of rfl (by decide +kernel) ⟨rfl, le_t rfl⟩ cm_La_placeAt.1 (fun X ok fn _ hl2 => w_La_placeAt (KX := fun y => y = (r, z)) ok (fun y hy => by subst hy; exact fn) (by rw [hl2]; exact hl) h rfl)
abbrev rm_La_meets : Room := { frames := 7, cells := 1, slots := 6, locals := 114 }
theorem cm_La_meets : (Cond.codeWith yL_meets cL_meets 4 (some .long) [(0, 14, 15, 15)]) ∈ TT ∧ (Cond.initialized yL_meets.cls) ∈ TT ∧ yL_meets.cls ≠ "java/lang/invoke/MethodHandle" ∧ yL_meets.cls ≠ "java/lang/invoke/VarHandle" ∧ (parseMethodDescriptor yL_meets.desc).map (fun d => d.parameters.length) = some 3 := ⟨tw_709, tw_0, by decide, by decide, by decide +kernel⟩
theorem cs_La_meets : cfS yL_meets := tw_708
theorem d_La_meets_0 : decode cL_meets 0 = .ok (.aload_n 0, 1) := by decide +kernel
theorem d_La_meets_1 : decode cL_meets 1 = .ok (.iload_n 1, 1) := by decide +kernel
theorem d_La_meets_2 : decode cL_meets 2 = .ok (.iload_n 2, 1) := by decide +kernel
theorem d_La_meets_3 : decode cL_meets 3 = .ok (.invokevirtual 76, 3) := by decide +kernel
theorem d_La_meets_6 : decode cL_meets 6 = .ok (.ifCond .eq 7, 3) := by decide +kernel
theorem d_La_meets_9 : decode cL_meets 9 = .ok (.lconst 1, 1) := by decide +kernel
theorem d_La_meets_10 : decode cL_meets 10 = .ok (.goto 4, 3) := by decide +kernel
theorem d_La_meets_13 : decode cL_meets 13 = .ok (.lconst 0, 1) := by decide +kernel
theorem d_La_meets_14 : decode cL_meets 14 = .ok (.lreturn, 1) := by decide +kernel
theorem d_La_meets_15 : decode cL_meets 15 = .ok (.astore_n 3, 1) := by decide +kernel
theorem d_La_meets_16 : decode cL_meets 16 = .ok (.ldc2_w 17, 3) := by decide +kernel
theorem d_La_meets_19 : decode cL_meets 19 = .ok (.lreturn, 1) := by decide +kernel
theorem hx_La_meets_1 : hdl RL (tableOf [(0, 14, 15, 15)]) 3 "java/lang/IndexOutOfBoundsException" 15 := ⟨[], ⟨0, 14, 15, 15⟩, [], "java/lang/IndexOutOfBoundsException", rfl, fun u hu => absurd hu List.not_mem_nil, by decide, by decide, tw_193, tw_205, rfl⟩
set_option maxRecDepth 100000 in
set_option maxHeartbeats 4000000 in
theorem w_La_meets {X : CX} {KX : Int64 × MS → Prop} {a0 : Option Nat} {a1 : Int32} {a2 : Int32} {s : MS} (ok : Ok X cL_meets RL rm_La_meets 4 true) (hret : ∀ r : Int64 × MS, KX r → Fiw X [(0, 14, 15, 15)] 1 6 (some (vL r.1)) r.2)  (hl : X.1.2.1.stackTraces = false)  {res : Int64 × MS} (h : f_La_meets a0 a1 a2 s = some res) (hk : KX res) : G X s 0 0 0 [(0, vR a0), (1, vI a1), (2, vI a2)] [] := by
  unfold f_La_meets at h
  refine g_aload_n (i := 0) 0 ok d_La_meets_0 rfl rfl ?_
  refine g_iload_n (i := 1) 1 ok d_La_meets_1 rfl rfl ?_
  refine g_iload_n (i := 2) 2 ok d_La_meets_2 rfl rfl ?_
  obtain ⟨k1, hk2, h⟩ := bnd_go h
  refine g_sub [] rfl ?_
  obtain ⟨t4, x5, s6, hc7, h⟩ := bnd3_go h
  refine g_callX (rm2 := rm_Sk_meets) (As := [vI a1, vI a2]) (rest := []) ok (hret _ hk) hk2 lay_0 rfl (c_Sk_meets hl (rf_self hk2) hc7) cm_Sk_meets cv_Sk_meets tw_710 ⟨rfl, rfl⟩ ⟨le_t rfl, le_t rfl⟩ ⟨rfl, le_t rfl⟩ ⟨le_t rfl, le_t rfl⟩ trivial trivial d_La_meets_3 rfl (fun c9 m8 => ?_) (fun E c9 => ?_)
  · have c0 : t4 = 0 := tcode_0 c9
    replace h := (if_pos c0).symm.trans h
    show G X s6 1 6 6 [] [vI x5]
    refine g_if_eq (tgt := 13) ok d_La_meets_6 (by decide) (fun c10 => ?_) (fun c10 => ?_)
    · replace h := (if_pos c10).symm.trans h
      refine g_lconst (v := (0 : Int64)) ok d_La_meets_13 (by decide) ?_
      cases h
      exact g_lretW ok (hret _ hk) (by decide) (by decide) d_La_meets_14
    · replace h := (if_neg c10).symm.trans h
      refine g_lconst (v := (1 : Int64)) ok d_La_meets_9 (by decide) ?_
      refine g_goto (tgt := 14) ok d_La_meets_10 (by decide) ?_
      cases h
      exact g_lretW ok (hret _ hk) (by decide) (by decide) d_La_meets_14
  · have c0 : ¬ t4 = 0 := tcode_n c9
    replace h := (if_neg c0).symm.trans h
    by_cases c1 : t4 = 1
    · replace h := (if_pos c1).symm.trans h
      have hE : (some "java/lang/IndexOutOfBoundsException" : Option String) = some E := by rw [← c9, c1]; rfl
      cases hE
      refine ⟨15, hx_La_meets_1, fun q9 m8 => ?_⟩
      refine g_astorew_n (i := 3) [(3, vW (Value.ref q9))] ok d_La_meets_15 rfl (by decide) rfl ?_
      refine g_ldc2 (v := (-9000000000000000001 : Int64)) ok d_La_meets_16 tw_315 ?_
      cases h
      exact g_lretW ok (hret _ hk) (by decide) (by decide) d_La_meets_19
    · replace h := (if_neg c1).symm.trans h
      cases h
theorem c_La_meets {l : Launch} (hl : l.stackTraces = false) {a0 : Option Nat} {a1 : Int32} {a2 : Int32} {s : MS} {r : Int64} {z : MS} (h : f_La_meets a0 a1 a2 s = some (r, z)) : Cw l yL_meets (.codeWith yL_meets cL_meets 4 (some .long) [(0, 14, 15, 15)]) rm_La_meets 1 6 [vR a0, vI a1, vI a2] s (some (vL r)) z :=
  Cw.of rfl (by decide +kernel) ⟨rfl, le_t rfl⟩ cm_La_meets.1 (fun X ok fn _ hl2 => w_La_meets (KX := fun y => y = (r, z)) ok (fun y hy => by subst hy; exact fn) (by rw [hl2]; exact hl) h rfl)
abbrev rm_La_meetsAnew : Room := { frames := 7, cells := 1, slots := 6, locals := 114 }
theorem cm_La_meetsAnew : (Cond.codeWith yL_meetsAnew cL_meetsAnew 4 (some .long) [(0, 14, 15, 15)]) ∈ TT ∧ (Cond.initialized yL_meetsAnew.cls) ∈ TT ∧ yL_meetsAnew.cls ≠ "java/lang/invoke/MethodHandle" ∧ yL_meetsAnew.cls ≠ "java/lang/invoke/VarHandle" ∧ (parseMethodDescriptor yL_meetsAnew.desc).map (fun d => d.parameters.length) = some 3 := ⟨tw_716, tw_0, by decide, by decide, by decide +kernel⟩
theorem cs_La_meetsAnew : cfS yL_meetsAnew := tw_715
theorem d_La_meetsAnew_0 : decode cL_meetsAnew 0 = .ok (.aload_n 0, 1) := by decide +kernel
theorem d_La_meetsAnew_1 : decode cL_meetsAnew 1 = .ok (.iload_n 1, 1) := by decide +kernel
theorem d_La_meetsAnew_2 : decode cL_meetsAnew 2 = .ok (.iload_n 2, 1) := by decide +kernel
theorem d_La_meetsAnew_3 : decode cL_meetsAnew 3 = .ok (.invokevirtual 80, 3) := by decide +kernel
theorem d_La_meetsAnew_6 : decode cL_meetsAnew 6 = .ok (.ifCond .eq 7, 3) := by decide +kernel
theorem d_La_meetsAnew_9 : decode cL_meetsAnew 9 = .ok (.lconst 1, 1) := by decide +kernel
theorem d_La_meetsAnew_10 : decode cL_meetsAnew 10 = .ok (.goto 4, 3) := by decide +kernel
theorem d_La_meetsAnew_13 : decode cL_meetsAnew 13 = .ok (.lconst 0, 1) := by decide +kernel
theorem d_La_meetsAnew_14 : decode cL_meetsAnew 14 = .ok (.lreturn, 1) := by decide +kernel
theorem d_La_meetsAnew_15 : decode cL_meetsAnew 15 = .ok (.astore_n 3, 1) := by decide +kernel
theorem d_La_meetsAnew_16 : decode cL_meetsAnew 16 = .ok (.ldc2_w 17, 3) := by decide +kernel
theorem d_La_meetsAnew_19 : decode cL_meetsAnew 19 = .ok (.lreturn, 1) := by decide +kernel
theorem hx_La_meetsAnew_1 : hdl RL (tableOf [(0, 14, 15, 15)]) 3 "java/lang/IndexOutOfBoundsException" 15 := ⟨[], ⟨0, 14, 15, 15⟩, [], "java/lang/IndexOutOfBoundsException", rfl, fun u hu => absurd hu List.not_mem_nil, by decide, by decide, tw_193, tw_205, rfl⟩
set_option maxRecDepth 100000 in
set_option maxHeartbeats 4000000 in
theorem w_La_meetsAnew {X : CX} {KX : Int64 × MS → Prop} {a0 : Option Nat} {a1 : Int32} {a2 : Int32} {s : MS} (ok : Ok X cL_meetsAnew RL rm_La_meetsAnew 4 true) (hret : ∀ r : Int64 × MS, KX r → Fiw X [(0, 14, 15, 15)] 1 6 (some (vL r.1)) r.2)  (hl : X.1.2.1.stackTraces = false)  {res : Int64 × MS} (h : f_La_meetsAnew a0 a1 a2 s = some res) (hk : KX res) : G X s 0 0 0 [(0, vR a0), (1, vI a1), (2, vI a2)] [] := by
  unfold f_La_meetsAnew at h
  refine g_aload_n (i := 0) 0 ok d_La_meetsAnew_0 rfl rfl ?_
  refine g_iload_n (i := 1) 1 ok d_La_meetsAnew_1 rfl rfl ?_
  refine g_iload_n (i := 2) 2 ok d_La_meetsAnew_2 rfl rfl ?_
  obtain ⟨k1, hk2, h⟩ := bnd_go h
  refine g_sub [] rfl ?_
  obtain ⟨t4, x5, s6, hc7, h⟩ := bnd3_go h
  refine g_callX (rm2 := rm_Sk_meetsAnew) (As := [vI a1, vI a2]) (rest := []) ok (hret _ hk) hk2 lay_0 rfl (c_Sk_meetsAnew hl (rf_self hk2) hc7) cm_Sk_meetsAnew cv_Sk_meetsAnew tw_717 ⟨rfl, rfl⟩ ⟨le_t rfl, le_t rfl⟩ ⟨rfl, le_t rfl⟩ ⟨le_t rfl, le_t rfl⟩ trivial trivial d_La_meetsAnew_3 rfl (fun c9 m8 => ?_) (fun E c9 => ?_)
  · have c0 : t4 = 0 := tcode_0 c9
    replace h := (if_pos c0).symm.trans h
    show G X s6 1 6 6 [] [vI x5]
    refine g_if_eq (tgt := 13) ok d_La_meetsAnew_6 (by decide) (fun c10 => ?_) (fun c10 => ?_)
    · replace h := (if_pos c10).symm.trans h
      refine g_lconst (v := (0 : Int64)) ok d_La_meetsAnew_13 (by decide) ?_
      cases h
      exact g_lretW ok (hret _ hk) (by decide) (by decide) d_La_meetsAnew_14
    · replace h := (if_neg c10).symm.trans h
      refine g_lconst (v := (1 : Int64)) ok d_La_meetsAnew_9 (by decide) ?_
      refine g_goto (tgt := 14) ok d_La_meetsAnew_10 (by decide) ?_
      cases h
      exact g_lretW ok (hret _ hk) (by decide) (by decide) d_La_meetsAnew_14
  · have c0 : ¬ t4 = 0 := tcode_n c9
    replace h := (if_neg c0).symm.trans h
    by_cases c1 : t4 = 1
    · replace h := (if_pos c1).symm.trans h
      have hE : (some "java/lang/IndexOutOfBoundsException" : Option String) = some E := by rw [← c9, c1]; rfl
      cases hE
      refine ⟨15, hx_La_meetsAnew_1, fun q9 m8 => ?_⟩
      refine g_astorew_n (i := 3) [(3, vW (Value.ref q9))] ok d_La_meetsAnew_15 rfl (by decide) rfl ?_
      refine g_ldc2 (v := (-9000000000000000001 : Int64)) ok d_La_meetsAnew_16 tw_315 ?_
      cases h
      exact g_lretW ok (hret _ hk) (by decide) (by decide) d_La_meetsAnew_19
    · replace h := (if_neg c1).symm.trans h
      cases h
theorem c_La_meetsAnew {l : Launch} (hl : l.stackTraces = false) {a0 : Option Nat} {a1 : Int32} {a2 : Int32} {s : MS} {r : Int64} {z : MS} (h : f_La_meetsAnew a0 a1 a2 s = some (r, z)) : Cw l yL_meetsAnew (.codeWith yL_meetsAnew cL_meetsAnew 4 (some .long) [(0, 14, 15, 15)]) rm_La_meetsAnew 1 6 [vR a0, vI a1, vI a2] s (some (vL r)) z :=
  Cw.of rfl (by decide +kernel) ⟨rfl, le_t rfl⟩ cm_La_meetsAnew.1 (fun X ok fn _ hl2 => w_La_meetsAnew (KX := fun y => y = (r, z)) ok (fun y hy => by subst hy; exact fn) (by rw [hl2]; exact hl) h rfl)
abbrev rm_La_ofMachine : Room := { frames := 7, cells := 1, slots := 6, locals := 113 }
theorem cm_La_ofMachine : (Cond.codeWith yL_ofMachine cL_ofMachine 4 (some .long) [(0, 7, 8, 15), (0, 7, 13, 19)]) ∈ TT ∧ (Cond.initialized yL_ofMachine.cls) ∈ TT ∧ yL_ofMachine.cls ≠ "java/lang/invoke/MethodHandle" ∧ yL_ofMachine.cls ≠ "java/lang/invoke/VarHandle" ∧ (parseMethodDescriptor yL_ofMachine.desc).map (fun d => d.parameters.length) = some 3 := ⟨tw_651, tw_0, by decide, by decide, by decide +kernel⟩
theorem cs_La_ofMachine : cfS yL_ofMachine := tw_650
theorem d_La_ofMachine_0 : decode cL_ofMachine 0 = .ok (.aload_n 0, 1) := by decide +kernel
theorem d_La_ofMachine_1 : decode cL_ofMachine 1 = .ok (.iload_n 1, 1) := by decide +kernel
theorem d_La_ofMachine_2 : decode cL_ofMachine 2 = .ok (.iload_n 2, 1) := by decide +kernel
theorem d_La_ofMachine_3 : decode cL_ofMachine 3 = .ok (.invokevirtual 83, 3) := by decide +kernel
theorem d_La_ofMachine_6 : decode cL_ofMachine 6 = .ok (.i2l, 1) := by decide +kernel
theorem d_La_ofMachine_7 : decode cL_ofMachine 7 = .ok (.lreturn, 1) := by decide +kernel
theorem d_La_ofMachine_8 : decode cL_ofMachine 8 = .ok (.astore_n 3, 1) := by decide +kernel
theorem d_La_ofMachine_9 : decode cL_ofMachine 9 = .ok (.ldc2_w 17, 3) := by decide +kernel
theorem d_La_ofMachine_12 : decode cL_ofMachine 12 = .ok (.lreturn, 1) := by decide +kernel
theorem d_La_ofMachine_13 : decode cL_ofMachine 13 = .ok (.astore_n 3, 1) := by decide +kernel
theorem d_La_ofMachine_14 : decode cL_ofMachine 14 = .ok (.ldc2_w 21, 3) := by decide +kernel
theorem d_La_ofMachine_17 : decode cL_ofMachine 17 = .ok (.lreturn, 1) := by decide +kernel
theorem hx_La_ofMachine_1 : hdl RL (tableOf [(0, 7, 8, 15), (0, 7, 13, 19)]) 3 "java/lang/IndexOutOfBoundsException" 8 := ⟨[], ⟨0, 7, 8, 15⟩, [⟨0, 7, 13, 19⟩], "java/lang/IndexOutOfBoundsException", rfl, fun u hu => absurd hu List.not_mem_nil, by decide, by decide, tw_193, tw_205, rfl⟩
theorem hx_La_ofMachine_2 : hdl RL (tableOf [(0, 7, 8, 15), (0, 7, 13, 19)]) 3 "java/lang/IllegalArgumentException" 13 := ⟨[⟨0, 7, 8, 15⟩], ⟨0, 7, 13, 19⟩, [], "java/lang/IllegalArgumentException", rfl, List.forall_mem_cons.mpr ⟨Or.inr ⟨by decide, "java/lang/IndexOutOfBoundsException", tw_193, by decide⟩, fun u hu => absurd hu List.not_mem_nil⟩, by decide, by decide, tw_194, tw_273, rfl⟩
set_option maxRecDepth 100000 in
set_option maxHeartbeats 4000000 in
theorem w_La_ofMachine {X : CX} {KX : Int64 × MS → Prop} {a0 : Option Nat} {a1 : Int32} {a2 : Int32} {s : MS} (ok : Ok X cL_ofMachine RL rm_La_ofMachine 4 true) (hret : ∀ r : Int64 × MS, KX r → Fiw X [(0, 7, 8, 15), (0, 7, 13, 19)] 1 6 (some (vL r.1)) r.2)  (hl : X.1.2.1.stackTraces = false)  {res : Int64 × MS} (h : f_La_ofMachine a0 a1 a2 s = some res) (hk : KX res) : G X s 0 0 0 [(0, vR a0), (1, vI a1), (2, vI a2)] [] := by
  unfold f_La_ofMachine at h
  refine g_aload_n (i := 0) 0 ok d_La_ofMachine_0 rfl rfl ?_
  refine g_iload_n (i := 1) 1 ok d_La_ofMachine_1 rfl rfl ?_
  refine g_iload_n (i := 2) 2 ok d_La_ofMachine_2 rfl rfl ?_
  obtain ⟨k1, hk2, h⟩ := bnd_go h
  refine g_sub [] rfl ?_
  obtain ⟨t4, x5, s6, hc7, h⟩ := bnd3_go h
  refine g_callX (rm2 := rm_Sk_ofMachine) (As := [vI a1, vI a2]) (rest := []) ok (hret _ hk) hk2 lay_0 rfl (c_Sk_ofMachine hl (rf_self hk2) hc7) cm_Sk_ofMachine cv_Sk_ofMachine tw_652 ⟨rfl, rfl⟩ ⟨le_t rfl, le_t rfl⟩ ⟨rfl, le_t rfl⟩ ⟨le_t rfl, le_t rfl⟩ trivial trivial d_La_ofMachine_3 rfl (fun c9 m8 => ?_) (fun E c9 => ?_)
  · have c0 : t4 = 0 := tcode_0 c9
    replace h := (if_pos c0).symm.trans h
    show G X s6 1 6 6 [] [vI x5]
    refine g_i2l ok d_La_ofMachine_6 ?_
    cases h
    exact g_lretW ok (hret _ hk) (by decide) (by decide) d_La_ofMachine_7
  · have c0 : ¬ t4 = 0 := tcode_n c9
    replace h := (if_neg c0).symm.trans h
    by_cases c1 : t4 = 1
    · replace h := (if_pos c1).symm.trans h
      have hE : (some "java/lang/IndexOutOfBoundsException" : Option String) = some E := by rw [← c9, c1]; rfl
      cases hE
      refine ⟨8, hx_La_ofMachine_1, fun q9 m8 => ?_⟩
      refine g_astorew_n (i := 3) [(3, vW (Value.ref q9))] ok d_La_ofMachine_8 rfl (by decide) rfl ?_
      refine g_ldc2 (v := (-9000000000000000001 : Int64)) ok d_La_ofMachine_9 tw_315 ?_
      cases h
      exact g_lretW ok (hret _ hk) (by decide) (by decide) d_La_ofMachine_12
    · replace h := (if_neg c1).symm.trans h
      by_cases c2 : t4 = 2
      · replace h := (if_pos c2).symm.trans h
        have hE : (some "java/lang/IllegalArgumentException" : Option String) = some E := by rw [← c9, c2]; rfl
        cases hE
        refine ⟨13, hx_La_ofMachine_2, fun q9 m8 => ?_⟩
        refine g_astorew_n (i := 3) [(3, vW (Value.ref q9))] ok d_La_ofMachine_13 rfl (by decide) rfl ?_
        refine g_ldc2 (v := (-9000000000000000002 : Int64)) ok d_La_ofMachine_14 tw_316 ?_
        cases h
        exact g_lretW ok (hret _ hk) (by decide) (by decide) d_La_ofMachine_17
      · replace h := (if_neg c2).symm.trans h
        cases h
theorem c_La_ofMachine {l : Launch} (hl : l.stackTraces = false) {a0 : Option Nat} {a1 : Int32} {a2 : Int32} {s : MS} {r : Int64} {z : MS} (h : f_La_ofMachine a0 a1 a2 s = some (r, z)) : Cw l yL_ofMachine (.codeWith yL_ofMachine cL_ofMachine 4 (some .long) [(0, 7, 8, 15), (0, 7, 13, 19)]) rm_La_ofMachine 1 6 [vR a0, vI a1, vI a2] s (some (vL r)) z :=
  Cw.of rfl (by decide +kernel) ⟨rfl, le_t rfl⟩ cm_La_ofMachine.1 (fun X ok fn _ hl2 => w_La_ofMachine (KX := fun y => y = (r, z)) ok (fun y hy => by subst hy; exact fn) (by rw [hl2]; exact hl) h rfl)
abbrev rm_La_ofPath : Room := { frames := 7, cells := 1, slots := 6, locals := 113 }
theorem cm_La_ofPath : (Cond.codeWith yL_ofPath cL_ofPath 4 (some .long) [(0, 7, 8, 15), (0, 7, 13, 19)]) ∈ TT ∧ (Cond.initialized yL_ofPath.cls) ∈ TT ∧ yL_ofPath.cls ≠ "java/lang/invoke/MethodHandle" ∧ yL_ofPath.cls ≠ "java/lang/invoke/VarHandle" ∧ (parseMethodDescriptor yL_ofPath.desc).map (fun d => d.parameters.length) = some 3 := ⟨tw_659, tw_0, by decide, by decide, by decide +kernel⟩
theorem cs_La_ofPath : cfS yL_ofPath := tw_658
theorem d_La_ofPath_0 : decode cL_ofPath 0 = .ok (.aload_n 0, 1) := by decide +kernel
theorem d_La_ofPath_1 : decode cL_ofPath 1 = .ok (.iload_n 1, 1) := by decide +kernel
theorem d_La_ofPath_2 : decode cL_ofPath 2 = .ok (.iload_n 2, 1) := by decide +kernel
theorem d_La_ofPath_3 : decode cL_ofPath 3 = .ok (.invokevirtual 86, 3) := by decide +kernel
theorem d_La_ofPath_6 : decode cL_ofPath 6 = .ok (.i2l, 1) := by decide +kernel
theorem d_La_ofPath_7 : decode cL_ofPath 7 = .ok (.lreturn, 1) := by decide +kernel
theorem d_La_ofPath_8 : decode cL_ofPath 8 = .ok (.astore_n 3, 1) := by decide +kernel
theorem d_La_ofPath_9 : decode cL_ofPath 9 = .ok (.ldc2_w 17, 3) := by decide +kernel
theorem d_La_ofPath_12 : decode cL_ofPath 12 = .ok (.lreturn, 1) := by decide +kernel
theorem d_La_ofPath_13 : decode cL_ofPath 13 = .ok (.astore_n 3, 1) := by decide +kernel
theorem d_La_ofPath_14 : decode cL_ofPath 14 = .ok (.ldc2_w 21, 3) := by decide +kernel
theorem d_La_ofPath_17 : decode cL_ofPath 17 = .ok (.lreturn, 1) := by decide +kernel
theorem hx_La_ofPath_1 : hdl RL (tableOf [(0, 7, 8, 15), (0, 7, 13, 19)]) 3 "java/lang/IndexOutOfBoundsException" 8 := ⟨[], ⟨0, 7, 8, 15⟩, [⟨0, 7, 13, 19⟩], "java/lang/IndexOutOfBoundsException", rfl, fun u hu => absurd hu List.not_mem_nil, by decide, by decide, tw_193, tw_205, rfl⟩
theorem hx_La_ofPath_2 : hdl RL (tableOf [(0, 7, 8, 15), (0, 7, 13, 19)]) 3 "java/lang/IllegalArgumentException" 13 := ⟨[⟨0, 7, 8, 15⟩], ⟨0, 7, 13, 19⟩, [], "java/lang/IllegalArgumentException", rfl, List.forall_mem_cons.mpr ⟨Or.inr ⟨by decide, "java/lang/IndexOutOfBoundsException", tw_193, by decide⟩, fun u hu => absurd hu List.not_mem_nil⟩, by decide, by decide, tw_194, tw_273, rfl⟩
set_option maxRecDepth 100000 in
set_option maxHeartbeats 4000000 in
theorem w_La_ofPath {X : CX} {KX : Int64 × MS → Prop} {a0 : Option Nat} {a1 : Int32} {a2 : Int32} {s : MS} (ok : Ok X cL_ofPath RL rm_La_ofPath 4 true) (hret : ∀ r : Int64 × MS, KX r → Fiw X [(0, 7, 8, 15), (0, 7, 13, 19)] 1 6 (some (vL r.1)) r.2)  (hl : X.1.2.1.stackTraces = false)  {res : Int64 × MS} (h : f_La_ofPath a0 a1 a2 s = some res) (hk : KX res) : G X s 0 0 0 [(0, vR a0), (1, vI a1), (2, vI a2)] [] := by
  unfold f_La_ofPath at h
  refine g_aload_n (i := 0) 0 ok d_La_ofPath_0 rfl rfl ?_
  refine g_iload_n (i := 1) 1 ok d_La_ofPath_1 rfl rfl ?_
  refine g_iload_n (i := 2) 2 ok d_La_ofPath_2 rfl rfl ?_
  obtain ⟨k1, hk2, h⟩ := bnd_go h
  refine g_sub [] rfl ?_
  obtain ⟨t4, x5, s6, hc7, h⟩ := bnd3_go h
  refine g_callX (rm2 := rm_Sk_ofPath) (As := [vI a1, vI a2]) (rest := []) ok (hret _ hk) hk2 lay_0 rfl (c_Sk_ofPath hl (rf_self hk2) hc7) cm_Sk_ofPath cv_Sk_ofPath tw_660 ⟨rfl, rfl⟩ ⟨le_t rfl, le_t rfl⟩ ⟨rfl, le_t rfl⟩ ⟨le_t rfl, le_t rfl⟩ trivial trivial d_La_ofPath_3 rfl (fun c9 m8 => ?_) (fun E c9 => ?_)
  · have c0 : t4 = 0 := tcode_0 c9
    replace h := (if_pos c0).symm.trans h
    show G X s6 1 6 6 [] [vI x5]
    refine g_i2l ok d_La_ofPath_6 ?_
    cases h
    exact g_lretW ok (hret _ hk) (by decide) (by decide) d_La_ofPath_7
  · have c0 : ¬ t4 = 0 := tcode_n c9
    replace h := (if_neg c0).symm.trans h
    by_cases c1 : t4 = 1
    · replace h := (if_pos c1).symm.trans h
      have hE : (some "java/lang/IndexOutOfBoundsException" : Option String) = some E := by rw [← c9, c1]; rfl
      cases hE
      refine ⟨8, hx_La_ofPath_1, fun q9 m8 => ?_⟩
      refine g_astorew_n (i := 3) [(3, vW (Value.ref q9))] ok d_La_ofPath_8 rfl (by decide) rfl ?_
      refine g_ldc2 (v := (-9000000000000000001 : Int64)) ok d_La_ofPath_9 tw_315 ?_
      cases h
      exact g_lretW ok (hret _ hk) (by decide) (by decide) d_La_ofPath_12
    · replace h := (if_neg c1).symm.trans h
      by_cases c2 : t4 = 2
      · replace h := (if_pos c2).symm.trans h
        have hE : (some "java/lang/IllegalArgumentException" : Option String) = some E := by rw [← c9, c2]; rfl
        cases hE
        refine ⟨13, hx_La_ofPath_2, fun q9 m8 => ?_⟩
        refine g_astorew_n (i := 3) [(3, vW (Value.ref q9))] ok d_La_ofPath_13 rfl (by decide) rfl ?_
        refine g_ldc2 (v := (-9000000000000000002 : Int64)) ok d_La_ofPath_14 tw_316 ?_
        cases h
        exact g_lretW ok (hret _ hk) (by decide) (by decide) d_La_ofPath_17
      · replace h := (if_neg c2).symm.trans h
        cases h
theorem c_La_ofPath {l : Launch} (hl : l.stackTraces = false) {a0 : Option Nat} {a1 : Int32} {a2 : Int32} {s : MS} {r : Int64} {z : MS} (h : f_La_ofPath a0 a1 a2 s = some (r, z)) : Cw l yL_ofPath (.codeWith yL_ofPath cL_ofPath 4 (some .long) [(0, 7, 8, 15), (0, 7, 13, 19)]) rm_La_ofPath 1 6 [vR a0, vI a1, vI a2] s (some (vL r)) z :=
  Cw.of rfl (by decide +kernel) ⟨rfl, le_t rfl⟩ cm_La_ofPath.1 (fun X ok fn _ hl2 => w_La_ofPath (KX := fun y => y = (r, z)) ok (fun y hy => by subst hy; exact fn) (by rw [hl2]; exact hl) h rfl)
abbrev rm_La_count : Room := { frames := 7, cells := 1, slots := 6, locals := 111 }
theorem cm_La_count : (Cond.codeWith yL_count cL_count 3 (some .long) [(0, 6, 7, 19)]) ∈ TT ∧ (Cond.initialized yL_count.cls) ∈ TT ∧ yL_count.cls ≠ "java/lang/invoke/MethodHandle" ∧ yL_count.cls ≠ "java/lang/invoke/VarHandle" ∧ (parseMethodDescriptor yL_count.desc).map (fun d => d.parameters.length) = some 2 := ⟨tw_667, tw_0, by decide, by decide, by decide +kernel⟩
theorem cs_La_count : cfS yL_count := tw_666
theorem d_La_count_0 : decode cL_count 0 = .ok (.aload_n 0, 1) := by decide +kernel
theorem d_La_count_1 : decode cL_count 1 = .ok (.iload_n 1, 1) := by decide +kernel
theorem d_La_count_2 : decode cL_count 2 = .ok (.invokevirtual 89, 3) := by decide +kernel
theorem d_La_count_5 : decode cL_count 5 = .ok (.i2l, 1) := by decide +kernel
theorem d_La_count_6 : decode cL_count 6 = .ok (.lreturn, 1) := by decide +kernel
theorem d_La_count_7 : decode cL_count 7 = .ok (.astore_n 2, 1) := by decide +kernel
theorem d_La_count_8 : decode cL_count 8 = .ok (.ldc2_w 21, 3) := by decide +kernel
theorem d_La_count_11 : decode cL_count 11 = .ok (.lreturn, 1) := by decide +kernel
theorem hx_La_count_2 : hdl RL (tableOf [(0, 6, 7, 19)]) 2 "java/lang/IllegalArgumentException" 7 := ⟨[], ⟨0, 6, 7, 19⟩, [], "java/lang/IllegalArgumentException", rfl, fun u hu => absurd hu List.not_mem_nil, by decide, by decide, tw_194, tw_273, rfl⟩
set_option maxRecDepth 100000 in
set_option maxHeartbeats 4000000 in
theorem w_La_count {X : CX} {KX : Int64 × MS → Prop} {a0 : Option Nat} {a1 : Int32} {s : MS} (ok : Ok X cL_count RL rm_La_count 3 true) (hret : ∀ r : Int64 × MS, KX r → Fiw X [(0, 6, 7, 19)] 1 6 (some (vL r.1)) r.2)  (hl : X.1.2.1.stackTraces = false)  {res : Int64 × MS} (h : f_La_count a0 a1 s = some res) (hk : KX res) : G X s 0 0 0 [(0, vR a0), (1, vI a1)] [] := by
  unfold f_La_count at h
  refine g_aload_n (i := 0) 0 ok d_La_count_0 rfl rfl ?_
  refine g_iload_n (i := 1) 1 ok d_La_count_1 rfl rfl ?_
  obtain ⟨k1, hk2, h⟩ := bnd_go h
  refine g_sub [] rfl ?_
  obtain ⟨t4, x5, s6, hc7, h⟩ := bnd3_go h
  refine g_callX (rm2 := rm_Sk_count) (As := [vI a1]) (rest := []) ok (hret _ hk) hk2 lay_0 rfl (c_Sk_count hl (rf_self hk2) hc7) cm_Sk_count cv_Sk_count tw_668 ⟨rfl, rfl⟩ ⟨le_t rfl, le_t rfl⟩ ⟨rfl, le_t rfl⟩ ⟨le_t rfl, le_t rfl⟩ trivial trivial d_La_count_2 rfl (fun c9 m8 => ?_) (fun E c9 => ?_)
  · have c0 : t4 = 0 := tcode_0 c9
    replace h := (if_pos c0).symm.trans h
    show G X s6 1 6 5 [] [vI x5]
    refine g_i2l ok d_La_count_5 ?_
    cases h
    exact g_lretW ok (hret _ hk) (by decide) (by decide) d_La_count_6
  · have c0 : ¬ t4 = 0 := tcode_n c9
    replace h := (if_neg c0).symm.trans h
    by_cases c2 : t4 = 2
    · replace h := (if_pos c2).symm.trans h
      have hE : (some "java/lang/IllegalArgumentException" : Option String) = some E := by rw [← c9, c2]; rfl
      cases hE
      refine ⟨7, hx_La_count_2, fun q9 m8 => ?_⟩
      refine g_astorew_n (i := 2) [(2, vW (Value.ref q9))] ok d_La_count_7 rfl (by decide) rfl ?_
      refine g_ldc2 (v := (-9000000000000000002 : Int64)) ok d_La_count_8 tw_316 ?_
      cases h
      exact g_lretW ok (hret _ hk) (by decide) (by decide) d_La_count_11
    · replace h := (if_neg c2).symm.trans h
      cases h
theorem c_La_count {l : Launch} (hl : l.stackTraces = false) {a0 : Option Nat} {a1 : Int32} {s : MS} {r : Int64} {z : MS} (h : f_La_count a0 a1 s = some (r, z)) : Cw l yL_count (.codeWith yL_count cL_count 3 (some .long) [(0, 6, 7, 19)]) rm_La_count 1 6 [vR a0, vI a1] s (some (vL r)) z :=
  Cw.of rfl (by decide +kernel) ⟨rfl, le_t rfl⟩ cm_La_count.1 (fun X ok fn _ hl2 => w_La_count (KX := fun y => y = (r, z)) ok (fun y hy => by subst hy; exact fn) (by rw [hl2]; exact hl) h rfl)
abbrev rm_La_isSpot : Room := { frames := 0, cells := 0, slots := 0, locals := 0 }
theorem cm_La_isSpot : cfM yL_isSpot cL_isSpot 5 (some .boolean) 2 := ⟨tw_682, tw_0, by decide, by decide, by decide +kernel⟩
theorem cs_La_isSpot : cfS yL_isSpot := tw_681
theorem d_La_isSpot_0 : decode cL_isSpot 0 = .ok (.iconst 0, 1) := by decide +kernel
theorem d_La_isSpot_1 : decode cL_isSpot 1 = .ok (.istore_n 3, 1) := by decide +kernel
theorem d_La_isSpot_2 : decode cL_isSpot 2 = .ok (.iconst 0, 1) := by decide +kernel
theorem d_La_isSpot_3 : decode cL_isSpot 3 = .ok (.istore 4, 2) := by decide +kernel
theorem d_La_isSpot_5 : decode cL_isSpot 5 = .ok (.iload 4, 2) := by decide +kernel
theorem d_La_isSpot_7 : decode cL_isSpot 7 = .ok (.aload_n 0, 1) := by decide +kernel
theorem d_La_isSpot_8 : decode cL_isSpot 8 = .ok (.arraylength, 1) := by decide +kernel
theorem d_La_isSpot_9 : decode cL_isSpot 9 = .ok (.if_icmp .ge 29, 3) := by decide +kernel
theorem d_La_isSpot_12 : decode cL_isSpot 12 = .ok (.iload_n 3, 1) := by decide +kernel
theorem d_La_isSpot_13 : decode cL_isSpot 13 = .ok (.ifCond .ne 13, 3) := by decide +kernel
theorem d_La_isSpot_16 : decode cL_isSpot 16 = .ok (.aload_n 0, 1) := by decide +kernel
theorem d_La_isSpot_17 : decode cL_isSpot 17 = .ok (.iload 4, 2) := by decide +kernel
theorem d_La_isSpot_19 : decode cL_isSpot 19 = .ok (.iaload, 1) := by decide +kernel
theorem d_La_isSpot_20 : decode cL_isSpot 20 = .ok (.i2l, 1) := by decide +kernel
theorem d_La_isSpot_21 : decode cL_isSpot 21 = .ok (.lload_n 1, 1) := by decide +kernel
theorem d_La_isSpot_22 : decode cL_isSpot 22 = .ok (.lcmp, 1) := by decide +kernel
theorem d_La_isSpot_23 : decode cL_isSpot 23 = .ok (.ifCond .ne 7, 3) := by decide +kernel
theorem d_La_isSpot_26 : decode cL_isSpot 26 = .ok (.iconst 1, 1) := by decide +kernel
theorem d_La_isSpot_27 : decode cL_isSpot 27 = .ok (.goto 4, 3) := by decide +kernel
theorem d_La_isSpot_30 : decode cL_isSpot 30 = .ok (.iconst 0, 1) := by decide +kernel
theorem d_La_isSpot_31 : decode cL_isSpot 31 = .ok (.istore_n 3, 1) := by decide +kernel
theorem d_La_isSpot_32 : decode cL_isSpot 32 = .ok (.iinc 4 1, 3) := by decide +kernel
theorem d_La_isSpot_35 : decode cL_isSpot 35 = .ok (.goto (-30), 3) := by decide +kernel
theorem d_La_isSpot_38 : decode cL_isSpot 38 = .ok (.iload_n 3, 1) := by decide +kernel
theorem d_La_isSpot_39 : decode cL_isSpot 39 = .ok (.ireturn, 1) := by decide +kernel
set_option maxRecDepth 100000 in
set_option maxHeartbeats 4000000 in
theorem w_b_La_isSpot_5 {X : CX} {KX : Int32 → Prop} {a0 : Option Nat} {a1 : Int64} {a3 : Int32} {a4 : Int32} {s : MS} {rec : Int32 → Int32 → Option (Int32)} (ok : Ok X cL_isSpot RL rm_La_isSpot 5 false) (hexit : ∀ (e3 : Int32), KX e3 → G X s 0 0 38 [(3, vI e3)] []) (hrec : ∀ (v3 : Int32) (v4 : Int32), ∀ y, rec v3 v4 = some y → KX y → G X s 0 0 5 [(0, vR a0), (1, vL a1), (3, vI v3), (4, vI v4)] []) {res : Int32} (h : b_La_isSpot_5 a0 a1 a3 a4 s rec = some res) (hk : KX res) : G X s 0 0 5 [(0, vR a0), (1, vL a1), (3, vI a3), (4, vI a4)] [] := by
  unfold b_La_isSpot_5 at h
  refine g_iload (i := 4) 3 ok d_La_isSpot_5 rfl ?_
  refine g_aload_n (i := 0) 0 ok d_La_isSpot_7 rfl rfl ?_
  obtain ⟨n1, hn2, h⟩ := bnd_go h
  refine g_alen ok hn2 (by decide) d_La_isSpot_8 ?_
  refine g_icmp_ge (tgt := 38) ok d_La_isSpot_9 (by decide) (fun c3 => ?_) (fun c3 => ?_)
  · replace h := (if_pos c3).symm.trans h
    refine g_iload_n (i := 3) 2 ok d_La_isSpot_12 rfl rfl ?_
    refine g_if_ne (tgt := 26) ok d_La_isSpot_13 (by decide) (fun c4 => ?_) (fun c4 => ?_)
    · replace h := (if_pos c4).symm.trans h
      refine g_aload_n (i := 0) 0 ok d_La_isSpot_16 rfl rfl ?_
      refine g_iload (i := 4) 3 ok d_La_isSpot_17 rfl ?_
      obtain ⟨k5, hk6, h⟩ := bnd_go h
      refine g_iald ok hk6 d_La_isSpot_19 ?_
      refine g_i2l ok d_La_isSpot_20 ?_
      refine g_lload_n (i := 1) 1 ok d_La_isSpot_21 rfl rfl ?_
      refine g_lcmp ok d_La_isSpot_22 ?_
      refine g_if_ne (tgt := 30) ok d_La_isSpot_23 (by decide) (fun c7 => ?_) (fun c7 => ?_)
      · replace h := (if_pos c7).symm.trans h
        refine g_iconst (v := (1 : Int32)) ok d_La_isSpot_26 (by decide) ?_
        refine g_goto (tgt := 31) ok d_La_isSpot_27 (by decide) ?_
        refine g_istore_n (i := 3) [(3, vI (1 : Int32)), (0, vR a0), (1, vL a1), (4, vI a4)] ok d_La_isSpot_31 rfl (by decide) rfl ?_
        obtain ⟨x8, e9⟩ : ∃ z, a4 + (1 : Int32) = z := ⟨_, rfl⟩
        replace h := lt_go h e9
        refine g_iinc (i := 4) (v := x8) 3 [(4, vI x8), (3, vI (1 : Int32)), (0, vR a0), (1, vL a1)] ok d_La_isSpot_32 rfl (by rw [← e9]; rfl) (by decide) rfl ?_
        refine g_goto (tgt := 5) ok d_La_isSpot_35 (by decide) ?_
        refine g_sub [2, 3, 1, 0] rfl ?_
        exact hrec (1 : Int32) x8 _ h hk
      · replace h := (if_neg c7).symm.trans h
        refine g_iconst (v := (0 : Int32)) ok d_La_isSpot_30 (by decide) ?_
        refine g_istore_n (i := 3) [(3, vI (0 : Int32)), (0, vR a0), (1, vL a1), (4, vI a4)] ok d_La_isSpot_31 rfl (by decide) rfl ?_
        obtain ⟨x10, e11⟩ : ∃ z, a4 + (1 : Int32) = z := ⟨_, rfl⟩
        replace h := lt_go h e11
        refine g_iinc (i := 4) (v := x10) 3 [(4, vI x10), (3, vI (0 : Int32)), (0, vR a0), (1, vL a1)] ok d_La_isSpot_32 rfl (by rw [← e11]; rfl) (by decide) rfl ?_
        refine g_goto (tgt := 5) ok d_La_isSpot_35 (by decide) ?_
        refine g_sub [2, 3, 1, 0] rfl ?_
        exact hrec (0 : Int32) x10 _ h hk
    · replace h := (if_neg c4).symm.trans h
      refine g_iconst (v := (1 : Int32)) ok d_La_isSpot_26 (by decide) ?_
      refine g_goto (tgt := 31) ok d_La_isSpot_27 (by decide) ?_
      refine g_istore_n (i := 3) [(3, vI (1 : Int32)), (0, vR a0), (1, vL a1), (4, vI a4)] ok d_La_isSpot_31 rfl (by decide) rfl ?_
      obtain ⟨x12, e13⟩ : ∃ z, a4 + (1 : Int32) = z := ⟨_, rfl⟩
      replace h := lt_go h e13
      refine g_iinc (i := 4) (v := x12) 3 [(4, vI x12), (3, vI (1 : Int32)), (0, vR a0), (1, vL a1)] ok d_La_isSpot_32 rfl (by rw [← e13]; rfl) (by decide) rfl ?_
      refine g_goto (tgt := 5) ok d_La_isSpot_35 (by decide) ?_
      refine g_sub [2, 3, 1, 0] rfl ?_
      exact hrec (1 : Int32) x12 _ h hk
  · replace h := (if_neg c3).symm.trans h
    refine g_sub [2] rfl ?_
    cases h
    exact hexit a3 hk
theorem w_l_La_isSpot_5 {X : CX} {KX : Int32 → Prop} {a0 : Option Nat} {a1 : Int64} {s : MS} (ok : Ok X cL_isSpot RL rm_La_isSpot 5 false) (hexit : ∀ (e3 : Int32), KX e3 → G X s 0 0 38 [(3, vI e3)] []) : ∀ (n : Nat) (a3 : Int32) (a4 : Int32) {res : Int32}, l_La_isSpot_5 a0 a1 s n a3 a4 = some res → KX res → G X s 0 0 5 [(0, vR a0), (1, vL a1), (3, vI a3), (4, vI a4)] [] := by
  intro n
  induction n with
  | zero => intro _ _ res h; cases h
  | succ n ih =>
    intro a3 a4 res h hk
    exact w_b_La_isSpot_5 ok hexit (fun v3 v4 y h2 hk2 => ih v3 v4 h2 hk2) h hk
set_option maxRecDepth 100000 in
set_option maxHeartbeats 4000000 in
theorem w_La_isSpot {X : CX} {KX : Int32 → Prop} {a0 : Option Nat} {a1 : Int64} {s : MS} (ok : Ok X cL_isSpot RL rm_La_isSpot 5 false) (hret : ∀ r : Int32, KX r → Fin X (some .boolean) 0 0 false (some (vI r)) s)    {res : Int32} (h : f_La_isSpot a0 a1 s = some res) (hk : KX res) : G X s 0 0 0 [(0, vR a0), (1, vL a1)] [] := by
  unfold f_La_isSpot at h
  refine g_iconst (v := (0 : Int32)) ok d_La_isSpot_0 (by decide) ?_
  refine g_istore_n (i := 3) [(3, vI (0 : Int32)), (0, vR a0), (1, vL a1)] ok d_La_isSpot_1 rfl (by decide) rfl ?_
  refine g_iconst (v := (0 : Int32)) ok d_La_isSpot_2 (by decide) ?_
  refine g_istore (i := 4) [(4, vI (0 : Int32)), (3, vI (0 : Int32)), (0, vR a0), (1, vL a1)] ok d_La_isSpot_3 (by decide) rfl ?_
  refine g_sub [2, 3, 1, 0] rfl ?_
  obtain ⟨e14, hx, h⟩ := bnd_go h
  refine w_l_La_isSpot_5 (KX := fun y => y = e14) ok (fun y0 he => ?_)  _ _ _ hx rfl
  cases he
  refine g_iload_n (i := 3) 0 ok d_La_isSpot_38 rfl rfl ?_
  obtain ⟨g15, h⟩ := gd_go h
  cases h
  exact g_zret ok (hret _ hk) g15 (by decide) (by decide) d_La_isSpot_39
theorem c_La_isSpot (l : Launch) {a0 : Option Nat} {a1 : Int64} {s : MS}  {r : Int32} (h : f_La_isSpot a0 a1 s = some r) : Ct l yL_isSpot (.code yL_isSpot cL_isSpot 5 (some .boolean)) rm_La_isSpot 0 0 false [vR a0, vL a1] s (some (vI r)) s :=
  Ct.of rfl (by decide +kernel) ⟨rfl, le_t rfl⟩ (fun X ok fn _ hI hl => w_La_isSpot (KX := fun y => y = r) ok (fun y hy => by subst hy; exact fn) h rfl)
