abbrev rm_La_tower : Room := { frames := 7, cells := 1, slots := 6, locals := 113 }
theorem cm_La_tower : (Cond.codeWith yL_tower cL_tower 5 (some .int) [(0, 10, 13, 13), (0, 10, 17, 15), (0, 10, 21, 17)]) ∈ TT ∧ (Cond.initialized yL_tower.cls) ∈ TT ∧ yL_tower.cls ≠ "java/lang/invoke/MethodHandle" ∧ yL_tower.cls ≠ "java/lang/invoke/VarHandle" ∧ (parseMethodDescriptor yL_tower.desc).map (fun d => d.parameters.length) = some 4 := ⟨tw_188, tw_0, by decide, by decide, by decide +kernel⟩
theorem cs_La_tower : cfS yL_tower := tw_187
theorem d_La_tower_0 : decode cL_tower 0 = .ok (.aload_n 3, 1) := by decide +kernel
theorem d_La_tower_1 : decode cL_tower 1 = .ok (.iconst 0, 1) := by decide +kernel
theorem d_La_tower_2 : decode cL_tower 2 = .ok (.aload_n 0, 1) := by decide +kernel
theorem d_La_tower_3 : decode cL_tower 3 = .ok (.iload_n 1, 1) := by decide +kernel
theorem d_La_tower_4 : decode cL_tower 4 = .ok (.iload_n 2, 1) := by decide +kernel
theorem d_La_tower_5 : decode cL_tower 5 = .ok (.invokevirtual 7, 3) := by decide +kernel
theorem d_La_tower_8 : decode cL_tower 8 = .ok (.i2l, 1) := by decide +kernel
theorem d_La_tower_9 : decode cL_tower 9 = .ok (.lastore, 1) := by decide +kernel
theorem d_La_tower_10 : decode cL_tower 10 = .ok (.goto 15, 3) := by decide +kernel
theorem d_La_tower_13 : decode cL_tower 13 = .ok (.astore 4, 2) := by decide +kernel
theorem d_La_tower_15 : decode cL_tower 15 = .ok (.iconst 1, 1) := by decide +kernel
theorem d_La_tower_16 : decode cL_tower 16 = .ok (.ireturn, 1) := by decide +kernel
theorem d_La_tower_17 : decode cL_tower 17 = .ok (.astore 4, 2) := by decide +kernel
theorem d_La_tower_19 : decode cL_tower 19 = .ok (.iconst 2, 1) := by decide +kernel
theorem d_La_tower_20 : decode cL_tower 20 = .ok (.ireturn, 1) := by decide +kernel
theorem d_La_tower_21 : decode cL_tower 21 = .ok (.astore 4, 2) := by decide +kernel
theorem d_La_tower_23 : decode cL_tower 23 = .ok (.iconst 3, 1) := by decide +kernel
theorem d_La_tower_24 : decode cL_tower 24 = .ok (.ireturn, 1) := by decide +kernel
theorem d_La_tower_25 : decode cL_tower 25 = .ok (.iconst 0, 1) := by decide +kernel
theorem d_La_tower_26 : decode cL_tower 26 = .ok (.ireturn, 1) := by decide +kernel
theorem hx_La_tower_1 : hdl RL (tableOf [(0, 10, 13, 13), (0, 10, 17, 15), (0, 10, 21, 17)]) 5 "java/lang/IndexOutOfBoundsException" 13 := ⟨[], ⟨0, 10, 13, 13⟩, [⟨0, 10, 17, 15⟩, ⟨0, 10, 21, 17⟩], "java/lang/IndexOutOfBoundsException", rfl, fun u hu => absurd hu List.not_mem_nil, by decide, by decide, tw_189, tw_201, rfl⟩
theorem hx_La_tower_2 : hdl RL (tableOf [(0, 10, 13, 13), (0, 10, 17, 15), (0, 10, 21, 17)]) 5 "java/lang/IllegalArgumentException" 17 := ⟨[⟨0, 10, 13, 13⟩], ⟨0, 10, 17, 15⟩, [⟨0, 10, 21, 17⟩], "java/lang/IllegalArgumentException", rfl, List.forall_mem_cons.mpr ⟨Or.inr ⟨by decide, "java/lang/IndexOutOfBoundsException", tw_189, by decide⟩, fun u hu => absurd hu List.not_mem_nil⟩, by decide, by decide, tw_190, tw_269, rfl⟩
theorem hx_La_tower_3 : hdl RL (tableOf [(0, 10, 13, 13), (0, 10, 17, 15), (0, 10, 21, 17)]) 5 "java/lang/IllegalStateException" 21 := ⟨[⟨0, 10, 13, 13⟩, ⟨0, 10, 17, 15⟩], ⟨0, 10, 21, 17⟩, [], "java/lang/IllegalStateException", rfl, List.forall_mem_cons.mpr ⟨Or.inr ⟨by decide, "java/lang/IndexOutOfBoundsException", tw_189, by decide⟩, List.forall_mem_cons.mpr ⟨Or.inr ⟨by decide, "java/lang/IllegalArgumentException", tw_190, by decide⟩, fun u hu => absurd hu List.not_mem_nil⟩⟩, by decide, by decide, tw_191, tw_289, rfl⟩
set_option maxRecDepth 100000 in
set_option maxHeartbeats 4000000 in
theorem w_La_tower {X : CX} {KX : Int32 × MS → Prop} {a0 : Option Nat} {a1 : Int32} {a2 : Int32} {a3 : Option Nat} {s : MS} (ok : Ok X cL_tower RL rm_La_tower 5 true) (hret : ∀ r : Int32 × MS, KX r → Fiw X [(0, 10, 13, 13), (0, 10, 17, 15), (0, 10, 21, 17)] 1 6 (some (vI r.1)) r.2)  (hl : X.1.2.1.stackTraces = false)  {res : Int32 × MS} (h : f_La_tower a0 a1 a2 a3 s = some res) (hk : KX res) : G X s 0 0 0 [(0, vR a0), (1, vI a1), (2, vI a2), (3, vR a3)] [] := by
  unfold f_La_tower at h
  refine g_aload_n (i := 3) 3 ok d_La_tower_0 rfl rfl ?_
  refine g_iconst (v := (0 : Int32)) ok d_La_tower_1 (by decide) ?_
  refine g_aload_n (i := 0) 0 ok d_La_tower_2 rfl rfl ?_
  refine g_iload_n (i := 1) 1 ok d_La_tower_3 rfl rfl ?_
  refine g_iload_n (i := 2) 2 ok d_La_tower_4 rfl rfl ?_
  obtain ⟨k1, hk2, h⟩ := bnd_go h
  refine g_sub [] rfl ?_
  obtain ⟨n3, hn4, h⟩ := bnd_go h
  obtain ⟨t6, x7, s8, hc9, h⟩ := bnd3_go h
  refine g_callX (rm2 := rm_Sk_tower) (As := [vI a1, vI a2]) (rest := [vI (0 : Int32), vR a3]) ok (hret _ hk) hk2 lay_0 rfl (c_Sk_tower hl (rf_self hk2) hc9) cm_Sk_tower cv_Sk_tower tw_192 ⟨rfl, rfl⟩ ⟨le_t rfl, le_t rfl⟩ ⟨rfl, le_t rfl⟩ ⟨le_t rfl, le_t rfl⟩ trivial ⟨trivial, ⟨(rk_rl hn4), trivial⟩⟩ d_La_tower_5 rfl (fun c11 m10 => ?_) (fun E c11 => ?_)
  · have c0 : t6 = 0 := tcode_0 c11
    replace h := (if_pos c0).symm.trans h
    show G X s8 1 6 8 [] [vI x7, vI (0 : Int32), vR a3]
    refine g_i2l ok d_La_tower_8 ?_
    obtain ⟨k12, hk13, h⟩ := bnd_go h
    refine g_last ok hk13 d_La_tower_9 ?_
    obtain ⟨s14, e15⟩ : ∃ z, wi s8 k12 (0 : Int32).toNatClampNeg x7 = z := ⟨_, rfl⟩
    replace h := lt_go h e15
    have m16 := mo_wi e15
    rw [e15]
    refine g_goto (tgt := 25) ok d_La_tower_10 (by decide) ?_
    refine g_iconst (v := (0 : Int32)) ok d_La_tower_25 (by decide) ?_
    cases h
    exact g_iretW ok (hret _ hk) (by decide) (by decide) d_La_tower_26
  · have c0 : ¬ t6 = 0 := tcode_n c11
    replace h := (if_neg c0).symm.trans h
    by_cases c1 : t6 = 1
    · replace h := (if_pos c1).symm.trans h
      have hE : (some "java/lang/IndexOutOfBoundsException" : Option String) = some E := by rw [← c11, c1]; rfl
      cases hE
      refine ⟨13, hx_La_tower_1, fun q9 m10 => ?_⟩
      refine g_astorew (i := 4) [(4, vW (Value.ref q9))] ok d_La_tower_13 (by decide) rfl ?_
      refine g_iconst (v := (1 : Int32)) ok d_La_tower_15 (by decide) ?_
      cases h
      exact g_iretW ok (hret _ hk) (by decide) (by decide) d_La_tower_16
    · replace h := (if_neg c1).symm.trans h
      by_cases c2 : t6 = 2
      · replace h := (if_pos c2).symm.trans h
        have hE : (some "java/lang/IllegalArgumentException" : Option String) = some E := by rw [← c11, c2]; rfl
        cases hE
        refine ⟨17, hx_La_tower_2, fun q9 m10 => ?_⟩
        refine g_astorew (i := 4) [(4, vW (Value.ref q9))] ok d_La_tower_17 (by decide) rfl ?_
        refine g_iconst (v := (2 : Int32)) ok d_La_tower_19 (by decide) ?_
        cases h
        exact g_iretW ok (hret _ hk) (by decide) (by decide) d_La_tower_20
      · replace h := (if_neg c2).symm.trans h
        by_cases c3 : t6 = 3
        · replace h := (if_pos c3).symm.trans h
          have hE : (some "java/lang/IllegalStateException" : Option String) = some E := by rw [← c11, c3]; rfl
          cases hE
          refine ⟨21, hx_La_tower_3, fun q9 m10 => ?_⟩
          refine g_astorew (i := 4) [(4, vW (Value.ref q9))] ok d_La_tower_21 (by decide) rfl ?_
          refine g_iconst (v := (3 : Int32)) ok d_La_tower_23 (by decide) ?_
          cases h
          exact g_iretW ok (hret _ hk) (by decide) (by decide) d_La_tower_24
        · replace h := (if_neg c3).symm.trans h
          cases h
theorem c_La_tower {l : Launch} (hl : l.stackTraces = false) {a0 : Option Nat} {a1 : Int32} {a2 : Int32} {a3 : Option Nat} {s : MS} {r : Int32} {z : MS} (h : f_La_tower a0 a1 a2 a3 s = some (r, z)) : Cw l yL_tower (.codeWith yL_tower cL_tower 5 (some .int) [(0, 10, 13, 13), (0, 10, 17, 15), (0, 10, 21, 17)]) rm_La_tower 1 6 [vR a0, vI a1, vI a2, vR a3] s (some (vI r)) z :=
  Cw.of rfl (by decide +kernel) ⟨rfl, le_t rfl⟩ cm_La_tower.1 (fun X ok fn _ hl2 => w_La_tower (KX := fun y => y = (r, z)) ok (fun y hy => by subst hy; exact fn) (by rw [hl2]; exact hl) h rfl)
abbrev rm_La_spot : Room := { frames := 7, cells := 1, slots := 6, locals := 111 }
theorem cm_La_spot : (Cond.codeWith yL_spot cL_spot 4 (some .int) [(0, 9, 12, 13), (0, 9, 15, 17)]) ∈ TT ∧ (Cond.initialized yL_spot.cls) ∈ TT ∧ yL_spot.cls ≠ "java/lang/invoke/MethodHandle" ∧ yL_spot.cls ≠ "java/lang/invoke/VarHandle" ∧ (parseMethodDescriptor yL_spot.desc).map (fun d => d.parameters.length) = some 3 := ⟨tw_313, tw_0, by decide, by decide, by decide +kernel⟩
theorem cs_La_spot : cfS yL_spot := tw_312
theorem d_La_spot_0 : decode cL_spot 0 = .ok (.aload_n 2, 1) := by decide +kernel
theorem d_La_spot_1 : decode cL_spot 1 = .ok (.iconst 0, 1) := by decide +kernel
theorem d_La_spot_2 : decode cL_spot 2 = .ok (.aload_n 0, 1) := by decide +kernel
theorem d_La_spot_3 : decode cL_spot 3 = .ok (.iload_n 1, 1) := by decide +kernel
theorem d_La_spot_4 : decode cL_spot 4 = .ok (.invokevirtual 19, 3) := by decide +kernel
theorem d_La_spot_7 : decode cL_spot 7 = .ok (.i2l, 1) := by decide +kernel
theorem d_La_spot_8 : decode cL_spot 8 = .ok (.lastore, 1) := by decide +kernel
theorem d_La_spot_9 : decode cL_spot 9 = .ok (.goto 9, 3) := by decide +kernel
theorem d_La_spot_12 : decode cL_spot 12 = .ok (.astore_n 3, 1) := by decide +kernel
theorem d_La_spot_13 : decode cL_spot 13 = .ok (.iconst 1, 1) := by decide +kernel
theorem d_La_spot_14 : decode cL_spot 14 = .ok (.ireturn, 1) := by decide +kernel
theorem d_La_spot_15 : decode cL_spot 15 = .ok (.astore_n 3, 1) := by decide +kernel
theorem d_La_spot_16 : decode cL_spot 16 = .ok (.iconst 2, 1) := by decide +kernel
theorem d_La_spot_17 : decode cL_spot 17 = .ok (.ireturn, 1) := by decide +kernel
theorem d_La_spot_18 : decode cL_spot 18 = .ok (.iconst 0, 1) := by decide +kernel
theorem d_La_spot_19 : decode cL_spot 19 = .ok (.ireturn, 1) := by decide +kernel
theorem hx_La_spot_1 : hdl RL (tableOf [(0, 9, 12, 13), (0, 9, 15, 17)]) 4 "java/lang/IndexOutOfBoundsException" 12 := ⟨[], ⟨0, 9, 12, 13⟩, [⟨0, 9, 15, 17⟩], "java/lang/IndexOutOfBoundsException", rfl, fun u hu => absurd hu List.not_mem_nil, by decide, by decide, tw_189, tw_201, rfl⟩
theorem hx_La_spot_3 : hdl RL (tableOf [(0, 9, 12, 13), (0, 9, 15, 17)]) 4 "java/lang/IllegalStateException" 15 := ⟨[⟨0, 9, 12, 13⟩], ⟨0, 9, 15, 17⟩, [], "java/lang/IllegalStateException", rfl, List.forall_mem_cons.mpr ⟨Or.inr ⟨by decide, "java/lang/IndexOutOfBoundsException", tw_189, by decide⟩, fun u hu => absurd hu List.not_mem_nil⟩, by decide, by decide, tw_191, tw_289, rfl⟩
set_option maxRecDepth 100000 in
set_option maxHeartbeats 4000000 in
theorem w_La_spot {X : CX} {KX : Int32 × MS → Prop} {a0 : Option Nat} {a1 : Int32} {a2 : Option Nat} {s : MS} (ok : Ok X cL_spot RL rm_La_spot 4 true) (hret : ∀ r : Int32 × MS, KX r → Fiw X [(0, 9, 12, 13), (0, 9, 15, 17)] 1 6 (some (vI r.1)) r.2)  (hl : X.1.2.1.stackTraces = false)  {res : Int32 × MS} (h : f_La_spot a0 a1 a2 s = some res) (hk : KX res) : G X s 0 0 0 [(0, vR a0), (1, vI a1), (2, vR a2)] [] := by
  unfold f_La_spot at h
  refine g_aload_n (i := 2) 2 ok d_La_spot_0 rfl rfl ?_
  refine g_iconst (v := (0 : Int32)) ok d_La_spot_1 (by decide) ?_
  refine g_aload_n (i := 0) 0 ok d_La_spot_2 rfl rfl ?_
  refine g_iload_n (i := 1) 1 ok d_La_spot_3 rfl rfl ?_
  obtain ⟨k1, hk2, h⟩ := bnd_go h
  refine g_sub [] rfl ?_
  obtain ⟨n3, hn4, h⟩ := bnd_go h
  obtain ⟨t6, x7, s8, hc9, h⟩ := bnd3_go h
  refine g_callX (rm2 := rm_Sk_spot) (As := [vI a1]) (rest := [vI (0 : Int32), vR a2]) ok (hret _ hk) hk2 lay_0 rfl (c_Sk_spot hl (rf_self hk2) hc9) cm_Sk_spot cv_Sk_spot tw_314 ⟨rfl, rfl⟩ ⟨le_t rfl, le_t rfl⟩ ⟨rfl, le_t rfl⟩ ⟨le_t rfl, le_t rfl⟩ trivial ⟨trivial, ⟨(rk_rl hn4), trivial⟩⟩ d_La_spot_4 rfl (fun c11 m10 => ?_) (fun E c11 => ?_)
  · have c0 : t6 = 0 := tcode_0 c11
    replace h := (if_pos c0).symm.trans h
    show G X s8 1 6 7 [] [vI x7, vI (0 : Int32), vR a2]
    refine g_i2l ok d_La_spot_7 ?_
    obtain ⟨k12, hk13, h⟩ := bnd_go h
    refine g_last ok hk13 d_La_spot_8 ?_
    obtain ⟨s14, e15⟩ : ∃ z, wi s8 k12 (0 : Int32).toNatClampNeg x7 = z := ⟨_, rfl⟩
    replace h := lt_go h e15
    have m16 := mo_wi e15
    rw [e15]
    refine g_goto (tgt := 18) ok d_La_spot_9 (by decide) ?_
    refine g_iconst (v := (0 : Int32)) ok d_La_spot_18 (by decide) ?_
    cases h
    exact g_iretW ok (hret _ hk) (by decide) (by decide) d_La_spot_19
  · have c0 : ¬ t6 = 0 := tcode_n c11
    replace h := (if_neg c0).symm.trans h
    by_cases c1 : t6 = 1
    · replace h := (if_pos c1).symm.trans h
      have hE : (some "java/lang/IndexOutOfBoundsException" : Option String) = some E := by rw [← c11, c1]; rfl
      cases hE
      refine ⟨12, hx_La_spot_1, fun q9 m10 => ?_⟩
      refine g_astorew_n (i := 3) [(3, vW (Value.ref q9))] ok d_La_spot_12 rfl (by decide) rfl ?_
      refine g_iconst (v := (1 : Int32)) ok d_La_spot_13 (by decide) ?_
      cases h
      exact g_iretW ok (hret _ hk) (by decide) (by decide) d_La_spot_14
    · replace h := (if_neg c1).symm.trans h
      by_cases c3 : t6 = 3
      · replace h := (if_pos c3).symm.trans h
        have hE : (some "java/lang/IllegalStateException" : Option String) = some E := by rw [← c11, c3]; rfl
        cases hE
        refine ⟨15, hx_La_spot_3, fun q9 m10 => ?_⟩
        refine g_astorew_n (i := 3) [(3, vW (Value.ref q9))] ok d_La_spot_15 rfl (by decide) rfl ?_
        refine g_iconst (v := (2 : Int32)) ok d_La_spot_16 (by decide) ?_
        cases h
        exact g_iretW ok (hret _ hk) (by decide) (by decide) d_La_spot_17
      · replace h := (if_neg c3).symm.trans h
        cases h
theorem c_La_spot {l : Launch} (hl : l.stackTraces = false) {a0 : Option Nat} {a1 : Int32} {a2 : Option Nat} {s : MS} {r : Int32} {z : MS} (h : f_La_spot a0 a1 a2 s = some (r, z)) : Cw l yL_spot (.codeWith yL_spot cL_spot 4 (some .int) [(0, 9, 12, 13), (0, 9, 15, 17)]) rm_La_spot 1 6 [vR a0, vI a1, vR a2] s (some (vI r)) z :=
  Cw.of rfl (by decide +kernel) ⟨rfl, le_t rfl⟩ cm_La_spot.1 (fun X ok fn _ hl2 => w_La_spot (KX := fun y => y = (r, z)) ok (fun y hy => by subst hy; exact fn) (by rw [hl2]; exact hl) h rfl)
abbrev rm_La_wind : Room := { frames := 7, cells := 1, slots := 6, locals := 112 }
theorem cm_La_wind : (Cond.codeWith yL_wind cL_wind 5 (some .int) [(0, 10, 13, 15)]) ∈ TT ∧ (Cond.initialized yL_wind.cls) ∈ TT ∧ yL_wind.cls ≠ "java/lang/invoke/MethodHandle" ∧ yL_wind.cls ≠ "java/lang/invoke/VarHandle" ∧ (parseMethodDescriptor yL_wind.desc).map (fun d => d.parameters.length) = some 4 := ⟨tw_325, tw_0, by decide, by decide, by decide +kernel⟩
theorem cs_La_wind : cfS yL_wind := tw_324
theorem d_La_wind_0 : decode cL_wind 0 = .ok (.aload_n 3, 1) := by decide +kernel
theorem d_La_wind_1 : decode cL_wind 1 = .ok (.iconst 0, 1) := by decide +kernel
theorem d_La_wind_2 : decode cL_wind 2 = .ok (.aload_n 0, 1) := by decide +kernel
theorem d_La_wind_3 : decode cL_wind 3 = .ok (.iload_n 1, 1) := by decide +kernel
theorem d_La_wind_4 : decode cL_wind 4 = .ok (.iload_n 2, 1) := by decide +kernel
theorem d_La_wind_5 : decode cL_wind 5 = .ok (.invokevirtual 23, 3) := by decide +kernel
theorem d_La_wind_8 : decode cL_wind 8 = .ok (.i2l, 1) := by decide +kernel
theorem d_La_wind_9 : decode cL_wind 9 = .ok (.lastore, 1) := by decide +kernel
theorem d_La_wind_10 : decode cL_wind 10 = .ok (.goto 7, 3) := by decide +kernel
theorem d_La_wind_13 : decode cL_wind 13 = .ok (.astore 4, 2) := by decide +kernel
theorem d_La_wind_15 : decode cL_wind 15 = .ok (.iconst 1, 1) := by decide +kernel
theorem d_La_wind_16 : decode cL_wind 16 = .ok (.ireturn, 1) := by decide +kernel
theorem d_La_wind_17 : decode cL_wind 17 = .ok (.iconst 0, 1) := by decide +kernel
theorem d_La_wind_18 : decode cL_wind 18 = .ok (.ireturn, 1) := by decide +kernel
theorem hx_La_wind_2 : hdl RL (tableOf [(0, 10, 13, 15)]) 5 "java/lang/IllegalArgumentException" 13 := ⟨[], ⟨0, 10, 13, 15⟩, [], "java/lang/IllegalArgumentException", rfl, fun u hu => absurd hu List.not_mem_nil, by decide, by decide, tw_190, tw_269, rfl⟩
set_option maxRecDepth 100000 in
set_option maxHeartbeats 4000000 in
theorem w_La_wind {X : CX} {KX : Int32 × MS → Prop} {a0 : Option Nat} {a1 : Int32} {a2 : Int32} {a3 : Option Nat} {s : MS} (ok : Ok X cL_wind RL rm_La_wind 5 true) (hret : ∀ r : Int32 × MS, KX r → Fiw X [(0, 10, 13, 15)] 1 6 (some (vI r.1)) r.2)  (hl : X.1.2.1.stackTraces = false)  {res : Int32 × MS} (h : f_La_wind a0 a1 a2 a3 s = some res) (hk : KX res) : G X s 0 0 0 [(0, vR a0), (1, vI a1), (2, vI a2), (3, vR a3)] [] := by
  unfold f_La_wind at h
  refine g_aload_n (i := 3) 3 ok d_La_wind_0 rfl rfl ?_
  refine g_iconst (v := (0 : Int32)) ok d_La_wind_1 (by decide) ?_
  refine g_aload_n (i := 0) 0 ok d_La_wind_2 rfl rfl ?_
  refine g_iload_n (i := 1) 1 ok d_La_wind_3 rfl rfl ?_
  refine g_iload_n (i := 2) 2 ok d_La_wind_4 rfl rfl ?_
  obtain ⟨k1, hk2, h⟩ := bnd_go h
  refine g_sub [] rfl ?_
  obtain ⟨n3, hn4, h⟩ := bnd_go h
  obtain ⟨t6, x7, s8, hc9, h⟩ := bnd3_go h
  refine g_callX (rm2 := rm_Sk_wind) (As := [vI a1, vI a2]) (rest := [vI (0 : Int32), vR a3]) ok (hret _ hk) hk2 lay_0 rfl (c_Sk_wind hl (rf_self hk2) hc9) cm_Sk_wind cv_Sk_wind tw_326 ⟨rfl, rfl⟩ ⟨le_t rfl, le_t rfl⟩ ⟨rfl, le_t rfl⟩ ⟨le_t rfl, le_t rfl⟩ trivial ⟨trivial, ⟨(rk_rl hn4), trivial⟩⟩ d_La_wind_5 rfl (fun c11 m10 => ?_) (fun E c11 => ?_)
  · have c0 : t6 = 0 := tcode_0 c11
    replace h := (if_pos c0).symm.trans h
    show G X s8 1 6 8 [] [vI x7, vI (0 : Int32), vR a3]
    refine g_i2l ok d_La_wind_8 ?_
    obtain ⟨k12, hk13, h⟩ := bnd_go h
    refine g_last ok hk13 d_La_wind_9 ?_
    obtain ⟨s14, e15⟩ : ∃ z, wi s8 k12 (0 : Int32).toNatClampNeg x7 = z := ⟨_, rfl⟩
    replace h := lt_go h e15
    have m16 := mo_wi e15
    rw [e15]
    refine g_goto (tgt := 17) ok d_La_wind_10 (by decide) ?_
    refine g_iconst (v := (0 : Int32)) ok d_La_wind_17 (by decide) ?_
    cases h
    exact g_iretW ok (hret _ hk) (by decide) (by decide) d_La_wind_18
  · have c0 : ¬ t6 = 0 := tcode_n c11
    replace h := (if_neg c0).symm.trans h
    by_cases c2 : t6 = 2
    · replace h := (if_pos c2).symm.trans h
      have hE : (some "java/lang/IllegalArgumentException" : Option String) = some E := by rw [← c11, c2]; rfl
      cases hE
      refine ⟨13, hx_La_wind_2, fun q9 m10 => ?_⟩
      refine g_astorew (i := 4) [(4, vW (Value.ref q9))] ok d_La_wind_13 (by decide) rfl ?_
      refine g_iconst (v := (1 : Int32)) ok d_La_wind_15 (by decide) ?_
      cases h
      exact g_iretW ok (hret _ hk) (by decide) (by decide) d_La_wind_16
    · replace h := (if_neg c2).symm.trans h
      cases h
theorem c_La_wind {l : Launch} (hl : l.stackTraces = false) {a0 : Option Nat} {a1 : Int32} {a2 : Int32} {a3 : Option Nat} {s : MS} {r : Int32} {z : MS} (h : f_La_wind a0 a1 a2 a3 s = some (r, z)) : Cw l yL_wind (.codeWith yL_wind cL_wind 5 (some .int) [(0, 10, 13, 15)]) rm_La_wind 1 6 [vR a0, vI a1, vI a2, vR a3] s (some (vI r)) z :=
  Cw.of rfl (by decide +kernel) ⟨rfl, le_t rfl⟩ cm_La_wind.1 (fun X ok fn _ hl2 => w_La_wind (KX := fun y => y = (r, z)) ok (fun y hy => by subst hy; exact fn) (by rw [hl2]; exact hl) h rfl)
abbrev rm_La_gust : Room := { frames := 7, cells := 1, slots := 6, locals := 112 }
theorem cm_La_gust : (Cond.codeWith yL_gust cL_gust 5 (some .int) [(0, 10, 13, 15)]) ∈ TT ∧ (Cond.initialized yL_gust.cls) ∈ TT ∧ yL_gust.cls ≠ "java/lang/invoke/MethodHandle" ∧ yL_gust.cls ≠ "java/lang/invoke/VarHandle" ∧ (parseMethodDescriptor yL_gust.desc).map (fun d => d.parameters.length) = some 4 := ⟨tw_342, tw_0, by decide, by decide, by decide +kernel⟩
theorem cs_La_gust : cfS yL_gust := tw_341
theorem d_La_gust_0 : decode cL_gust 0 = .ok (.aload_n 3, 1) := by decide +kernel
theorem d_La_gust_1 : decode cL_gust 1 = .ok (.iconst 0, 1) := by decide +kernel
theorem d_La_gust_2 : decode cL_gust 2 = .ok (.aload_n 0, 1) := by decide +kernel
theorem d_La_gust_3 : decode cL_gust 3 = .ok (.iload_n 1, 1) := by decide +kernel
theorem d_La_gust_4 : decode cL_gust 4 = .ok (.iload_n 2, 1) := by decide +kernel
theorem d_La_gust_5 : decode cL_gust 5 = .ok (.invokevirtual 26, 3) := by decide +kernel
theorem d_La_gust_8 : decode cL_gust 8 = .ok (.i2l, 1) := by decide +kernel
theorem d_La_gust_9 : decode cL_gust 9 = .ok (.lastore, 1) := by decide +kernel
theorem d_La_gust_10 : decode cL_gust 10 = .ok (.goto 7, 3) := by decide +kernel
theorem d_La_gust_13 : decode cL_gust 13 = .ok (.astore 4, 2) := by decide +kernel
theorem d_La_gust_15 : decode cL_gust 15 = .ok (.iconst 1, 1) := by decide +kernel
theorem d_La_gust_16 : decode cL_gust 16 = .ok (.ireturn, 1) := by decide +kernel
theorem d_La_gust_17 : decode cL_gust 17 = .ok (.iconst 0, 1) := by decide +kernel
theorem d_La_gust_18 : decode cL_gust 18 = .ok (.ireturn, 1) := by decide +kernel
theorem hx_La_gust_2 : hdl RL (tableOf [(0, 10, 13, 15)]) 5 "java/lang/IllegalArgumentException" 13 := ⟨[], ⟨0, 10, 13, 15⟩, [], "java/lang/IllegalArgumentException", rfl, fun u hu => absurd hu List.not_mem_nil, by decide, by decide, tw_190, tw_269, rfl⟩
set_option maxRecDepth 100000 in
set_option maxHeartbeats 4000000 in
theorem w_La_gust {X : CX} {KX : Int32 × MS → Prop} {a0 : Option Nat} {a1 : Int32} {a2 : Int32} {a3 : Option Nat} {s : MS} (ok : Ok X cL_gust RL rm_La_gust 5 true) (hret : ∀ r : Int32 × MS, KX r → Fiw X [(0, 10, 13, 15)] 1 6 (some (vI r.1)) r.2)  (hl : X.1.2.1.stackTraces = false)  {res : Int32 × MS} (h : f_La_gust a0 a1 a2 a3 s = some res) (hk : KX res) : G X s 0 0 0 [(0, vR a0), (1, vI a1), (2, vI a2), (3, vR a3)] [] := by
  unfold f_La_gust at h
  refine g_aload_n (i := 3) 3 ok d_La_gust_0 rfl rfl ?_
  refine g_iconst (v := (0 : Int32)) ok d_La_gust_1 (by decide) ?_
  refine g_aload_n (i := 0) 0 ok d_La_gust_2 rfl rfl ?_
  refine g_iload_n (i := 1) 1 ok d_La_gust_3 rfl rfl ?_
  refine g_iload_n (i := 2) 2 ok d_La_gust_4 rfl rfl ?_
  obtain ⟨k1, hk2, h⟩ := bnd_go h
  refine g_sub [] rfl ?_
  obtain ⟨n3, hn4, h⟩ := bnd_go h
  obtain ⟨t6, x7, s8, hc9, h⟩ := bnd3_go h
  refine g_callX (rm2 := rm_Sk_gust) (As := [vI a1, vI a2]) (rest := [vI (0 : Int32), vR a3]) ok (hret _ hk) hk2 lay_0 rfl (c_Sk_gust hl (rf_self hk2) hc9) cm_Sk_gust cv_Sk_gust tw_343 ⟨rfl, rfl⟩ ⟨le_t rfl, le_t rfl⟩ ⟨rfl, le_t rfl⟩ ⟨le_t rfl, le_t rfl⟩ trivial ⟨trivial, ⟨(rk_rl hn4), trivial⟩⟩ d_La_gust_5 rfl (fun c11 m10 => ?_) (fun E c11 => ?_)
  · have c0 : t6 = 0 := tcode_0 c11
    replace h := (if_pos c0).symm.trans h
    show G X s8 1 6 8 [] [vI x7, vI (0 : Int32), vR a3]
    refine g_i2l ok d_La_gust_8 ?_
    obtain ⟨k12, hk13, h⟩ := bnd_go h
    refine g_last ok hk13 d_La_gust_9 ?_
    obtain ⟨s14, e15⟩ : ∃ z, wi s8 k12 (0 : Int32).toNatClampNeg x7 = z := ⟨_, rfl⟩
    replace h := lt_go h e15
    have m16 := mo_wi e15
    rw [e15]
    refine g_goto (tgt := 17) ok d_La_gust_10 (by decide) ?_
    refine g_iconst (v := (0 : Int32)) ok d_La_gust_17 (by decide) ?_
    cases h
    exact g_iretW ok (hret _ hk) (by decide) (by decide) d_La_gust_18
  · have c0 : ¬ t6 = 0 := tcode_n c11
    replace h := (if_neg c0).symm.trans h
    by_cases c2 : t6 = 2
    · replace h := (if_pos c2).symm.trans h
      have hE : (some "java/lang/IllegalArgumentException" : Option String) = some E := by rw [← c11, c2]; rfl
      cases hE
      refine ⟨13, hx_La_gust_2, fun q9 m10 => ?_⟩
      refine g_astorew (i := 4) [(4, vW (Value.ref q9))] ok d_La_gust_13 (by decide) rfl ?_
      refine g_iconst (v := (1 : Int32)) ok d_La_gust_15 (by decide) ?_
      cases h
      exact g_iretW ok (hret _ hk) (by decide) (by decide) d_La_gust_16
    · replace h := (if_neg c2).symm.trans h
      cases h
theorem c_La_gust {l : Launch} (hl : l.stackTraces = false) {a0 : Option Nat} {a1 : Int32} {a2 : Int32} {a3 : Option Nat} {s : MS} {r : Int32} {z : MS} (h : f_La_gust a0 a1 a2 a3 s = some (r, z)) : Cw l yL_gust (.codeWith yL_gust cL_gust 5 (some .int) [(0, 10, 13, 15)]) rm_La_gust 1 6 [vR a0, vI a1, vI a2, vR a3] s (some (vI r)) z :=
  Cw.of rfl (by decide +kernel) ⟨rfl, le_t rfl⟩ cm_La_gust.1 (fun X ok fn _ hl2 => w_La_gust (KX := fun y => y = (r, z)) ok (fun y hy => by subst hy; exact fn) (by rw [hl2]; exact hl) h rfl)
abbrev rm_La_close : Room := { frames := 7, cells := 2, slots := 14, locals := 119 }
theorem cm_La_close : (Cond.codeWith yL_close cL_close 8 (some .int) [(0, 16, 19, 13), (0, 16, 23, 15), (0, 16, 27, 17)]) ∈ TT ∧ (Cond.initialized yL_close.cls) ∈ TT ∧ yL_close.cls ≠ "java/lang/invoke/MethodHandle" ∧ yL_close.cls ≠ "java/lang/invoke/VarHandle" ∧ (parseMethodDescriptor yL_close.desc).map (fun d => d.parameters.length) = some 7 := ⟨tw_350, tw_0, by decide, by decide, by decide +kernel⟩
theorem cs_La_close : cfS yL_close := tw_349
theorem d_La_close_0 : decode cL_close 0 = .ok (.aload 6, 2) := by decide +kernel
theorem d_La_close_2 : decode cL_close 2 = .ok (.iconst 0, 1) := by decide +kernel
theorem d_La_close_3 : decode cL_close 3 = .ok (.aload_n 0, 1) := by decide +kernel
theorem d_La_close_4 : decode cL_close 4 = .ok (.iload_n 1, 1) := by decide +kernel
theorem d_La_close_5 : decode cL_close 5 = .ok (.iload_n 2, 1) := by decide +kernel
theorem d_La_close_6 : decode cL_close 6 = .ok (.iload_n 3, 1) := by decide +kernel
theorem d_La_close_7 : decode cL_close 7 = .ok (.iload 4, 2) := by decide +kernel
theorem d_La_close_9 : decode cL_close 9 = .ok (.iload 5, 2) := by decide +kernel
theorem d_La_close_11 : decode cL_close 11 = .ok (.invokevirtual 29, 3) := by decide +kernel
theorem d_La_close_14 : decode cL_close 14 = .ok (.i2l, 1) := by decide +kernel
theorem d_La_close_15 : decode cL_close 15 = .ok (.lastore, 1) := by decide +kernel
theorem d_La_close_16 : decode cL_close 16 = .ok (.goto 15, 3) := by decide +kernel
theorem d_La_close_19 : decode cL_close 19 = .ok (.astore 7, 2) := by decide +kernel
theorem d_La_close_21 : decode cL_close 21 = .ok (.iconst 1, 1) := by decide +kernel
theorem d_La_close_22 : decode cL_close 22 = .ok (.ireturn, 1) := by decide +kernel
theorem d_La_close_23 : decode cL_close 23 = .ok (.astore 7, 2) := by decide +kernel
theorem d_La_close_25 : decode cL_close 25 = .ok (.iconst 2, 1) := by decide +kernel
theorem d_La_close_26 : decode cL_close 26 = .ok (.ireturn, 1) := by decide +kernel
theorem d_La_close_27 : decode cL_close 27 = .ok (.astore 7, 2) := by decide +kernel
theorem d_La_close_29 : decode cL_close 29 = .ok (.iconst 3, 1) := by decide +kernel
theorem d_La_close_30 : decode cL_close 30 = .ok (.ireturn, 1) := by decide +kernel
theorem d_La_close_31 : decode cL_close 31 = .ok (.iconst 0, 1) := by decide +kernel
theorem d_La_close_32 : decode cL_close 32 = .ok (.ireturn, 1) := by decide +kernel
theorem hx_La_close_1 : hdl RL (tableOf [(0, 16, 19, 13), (0, 16, 23, 15), (0, 16, 27, 17)]) 11 "java/lang/IndexOutOfBoundsException" 19 := ⟨[], ⟨0, 16, 19, 13⟩, [⟨0, 16, 23, 15⟩, ⟨0, 16, 27, 17⟩], "java/lang/IndexOutOfBoundsException", rfl, fun u hu => absurd hu List.not_mem_nil, by decide, by decide, tw_189, tw_201, rfl⟩
theorem hx_La_close_2 : hdl RL (tableOf [(0, 16, 19, 13), (0, 16, 23, 15), (0, 16, 27, 17)]) 11 "java/lang/IllegalArgumentException" 23 := ⟨[⟨0, 16, 19, 13⟩], ⟨0, 16, 23, 15⟩, [⟨0, 16, 27, 17⟩], "java/lang/IllegalArgumentException", rfl, List.forall_mem_cons.mpr ⟨Or.inr ⟨by decide, "java/lang/IndexOutOfBoundsException", tw_189, by decide⟩, fun u hu => absurd hu List.not_mem_nil⟩, by decide, by decide, tw_190, tw_269, rfl⟩
theorem hx_La_close_3 : hdl RL (tableOf [(0, 16, 19, 13), (0, 16, 23, 15), (0, 16, 27, 17)]) 11 "java/lang/IllegalStateException" 27 := ⟨[⟨0, 16, 19, 13⟩, ⟨0, 16, 23, 15⟩], ⟨0, 16, 27, 17⟩, [], "java/lang/IllegalStateException", rfl, List.forall_mem_cons.mpr ⟨Or.inr ⟨by decide, "java/lang/IndexOutOfBoundsException", tw_189, by decide⟩, List.forall_mem_cons.mpr ⟨Or.inr ⟨by decide, "java/lang/IllegalArgumentException", tw_190, by decide⟩, fun u hu => absurd hu List.not_mem_nil⟩⟩, by decide, by decide, tw_191, tw_289, rfl⟩
set_option maxRecDepth 100000 in
set_option maxHeartbeats 4000000 in
theorem w_La_close {X : CX} {KX : Int32 × MS → Prop} {a0 : Option Nat} {a1 : Int32} {a2 : Int32} {a3 : Int32} {a4 : Int32} {a5 : Int32} {a6 : Option Nat} {s : MS} (ok : Ok X cL_close RL rm_La_close 8 true) (hret : ∀ r : Int32 × MS, KX r → Fiw X [(0, 16, 19, 13), (0, 16, 23, 15), (0, 16, 27, 17)] 2 14 (some (vI r.1)) r.2)  (hl : X.1.2.1.stackTraces = false)  {res : Int32 × MS} (h : f_La_close a0 a1 a2 a3 a4 a5 a6 s = some res) (hk : KX res) : G X s 0 0 0 [(0, vR a0), (1, vI a1), (2, vI a2), (3, vI a3), (4, vI a4), (5, vI a5), (6, vR a6)] [] := by
  unfold f_La_close at h
  refine g_aload (i := 6) 6 ok d_La_close_0 rfl ?_
  refine g_iconst (v := (0 : Int32)) ok d_La_close_2 (by decide) ?_
  refine g_aload_n (i := 0) 0 ok d_La_close_3 rfl rfl ?_
  refine g_iload_n (i := 1) 1 ok d_La_close_4 rfl rfl ?_
  refine g_iload_n (i := 2) 2 ok d_La_close_5 rfl rfl ?_
  refine g_iload_n (i := 3) 3 ok d_La_close_6 rfl rfl ?_
  refine g_iload (i := 4) 4 ok d_La_close_7 rfl ?_
  refine g_iload (i := 5) 5 ok d_La_close_9 rfl ?_
  obtain ⟨k1, hk2, h⟩ := bnd_go h
  refine g_sub [] rfl ?_
  obtain ⟨n3, hn4, h⟩ := bnd_go h
  obtain ⟨t6, x7, s8, hc9, h⟩ := bnd3_go h
  refine g_callX (rm2 := rm_Sk_close) (As := [vI a1, vI a2, vI a3, vI a4, vI a5]) (rest := [vI (0 : Int32), vR a6]) ok (hret _ hk) hk2 lay_0 rfl (c_Sk_close hl (rf_self hk2) hc9) cm_Sk_close cv_Sk_close tw_351 ⟨rfl, rfl⟩ ⟨le_t rfl, le_t rfl⟩ ⟨rfl, le_t rfl⟩ ⟨le_t rfl, le_t rfl⟩ trivial ⟨trivial, ⟨(rk_rl hn4), trivial⟩⟩ d_La_close_11 rfl (fun c11 m10 => ?_) (fun E c11 => ?_)
  · have c0 : t6 = 0 := tcode_0 c11
    replace h := (if_pos c0).symm.trans h
    show G X s8 2 14 14 [] [vI x7, vI (0 : Int32), vR a6]
    refine g_i2l ok d_La_close_14 ?_
    obtain ⟨k12, hk13, h⟩ := bnd_go h
    refine g_last ok hk13 d_La_close_15 ?_
    obtain ⟨s14, e15⟩ : ∃ z, wi s8 k12 (0 : Int32).toNatClampNeg x7 = z := ⟨_, rfl⟩
    replace h := lt_go h e15
    have m16 := mo_wi e15
    rw [e15]
    refine g_goto (tgt := 31) ok d_La_close_16 (by decide) ?_
    refine g_iconst (v := (0 : Int32)) ok d_La_close_31 (by decide) ?_
    cases h
    exact g_iretW ok (hret _ hk) (by decide) (by decide) d_La_close_32
  · have c0 : ¬ t6 = 0 := tcode_n c11
    replace h := (if_neg c0).symm.trans h
    by_cases c1 : t6 = 1
    · replace h := (if_pos c1).symm.trans h
      have hE : (some "java/lang/IndexOutOfBoundsException" : Option String) = some E := by rw [← c11, c1]; rfl
      cases hE
      refine ⟨19, hx_La_close_1, fun q9 m10 => ?_⟩
      refine g_astorew (i := 7) [(7, vW (Value.ref q9))] ok d_La_close_19 (by decide) rfl ?_
      refine g_iconst (v := (1 : Int32)) ok d_La_close_21 (by decide) ?_
      cases h
      exact g_iretW ok (hret _ hk) (by decide) (by decide) d_La_close_22
    · replace h := (if_neg c1).symm.trans h
      by_cases c2 : t6 = 2
      · replace h := (if_pos c2).symm.trans h
        have hE : (some "java/lang/IllegalArgumentException" : Option String) = some E := by rw [← c11, c2]; rfl
        cases hE
        refine ⟨23, hx_La_close_2, fun q9 m10 => ?_⟩
        refine g_astorew (i := 7) [(7, vW (Value.ref q9))] ok d_La_close_23 (by decide) rfl ?_
        refine g_iconst (v := (2 : Int32)) ok d_La_close_25 (by decide) ?_
        cases h
        exact g_iretW ok (hret _ hk) (by decide) (by decide) d_La_close_26
      · replace h := (if_neg c2).symm.trans h
        by_cases c3 : t6 = 3
        · replace h := (if_pos c3).symm.trans h
          have hE : (some "java/lang/IllegalStateException" : Option String) = some E := by rw [← c11, c3]; rfl
          cases hE
          refine ⟨27, hx_La_close_3, fun q9 m10 => ?_⟩
          refine g_astorew (i := 7) [(7, vW (Value.ref q9))] ok d_La_close_27 (by decide) rfl ?_
          refine g_iconst (v := (3 : Int32)) ok d_La_close_29 (by decide) ?_
          cases h
          exact g_iretW ok (hret _ hk) (by decide) (by decide) d_La_close_30
        · replace h := (if_neg c3).symm.trans h
          cases h
theorem c_La_close {l : Launch} (hl : l.stackTraces = false) {a0 : Option Nat} {a1 : Int32} {a2 : Int32} {a3 : Int32} {a4 : Int32} {a5 : Int32} {a6 : Option Nat} {s : MS} {r : Int32} {z : MS} (h : f_La_close a0 a1 a2 a3 a4 a5 a6 s = some (r, z)) : Cw l yL_close (.codeWith yL_close cL_close 8 (some .int) [(0, 16, 19, 13), (0, 16, 23, 15), (0, 16, 27, 17)]) rm_La_close 2 14 [vR a0, vI a1, vI a2, vI a3, vI a4, vI a5, vR a6] s (some (vI r)) z :=
  Cw.of rfl (by decide +kernel) ⟨rfl, le_t rfl⟩ cm_La_close.1 (fun X ok fn _ hl2 => w_La_close (KX := fun y => y = (r, z)) ok (fun y hy => by subst hy; exact fn) (by rw [hl2]; exact hl) h rfl)
abbrev rm_La_open : Room := { frames := 7, cells := 1, slots := 6, locals := 112 }
theorem cm_La_open : (Cond.codeWith yL_open cL_open 3 (some .int) [(0, 5, 8, 13), (0, 5, 11, 17)]) ∈ TT ∧ (Cond.initialized yL_open.cls) ∈ TT ∧ yL_open.cls ≠ "java/lang/invoke/MethodHandle" ∧ yL_open.cls ≠ "java/lang/invoke/VarHandle" ∧ (parseMethodDescriptor yL_open.desc).map (fun d => d.parameters.length) = some 2 := ⟨tw_414, tw_0, by decide, by decide, by decide +kernel⟩
theorem cs_La_open : cfS yL_open := tw_413
theorem d_La_open_0 : decode cL_open 0 = .ok (.aload_n 0, 1) := by decide +kernel
theorem d_La_open_1 : decode cL_open 1 = .ok (.iload_n 1, 1) := by decide +kernel
theorem d_La_open_2 : decode cL_open 2 = .ok (.invokevirtual 33, 3) := by decide +kernel
theorem d_La_open_5 : decode cL_open 5 = .ok (.goto 9, 3) := by decide +kernel
theorem d_La_open_8 : decode cL_open 8 = .ok (.astore_n 2, 1) := by decide +kernel
theorem d_La_open_9 : decode cL_open 9 = .ok (.iconst 1, 1) := by decide +kernel
theorem d_La_open_10 : decode cL_open 10 = .ok (.ireturn, 1) := by decide +kernel
theorem d_La_open_11 : decode cL_open 11 = .ok (.astore_n 2, 1) := by decide +kernel
theorem d_La_open_12 : decode cL_open 12 = .ok (.iconst 2, 1) := by decide +kernel
theorem d_La_open_13 : decode cL_open 13 = .ok (.ireturn, 1) := by decide +kernel
theorem d_La_open_14 : decode cL_open 14 = .ok (.iconst 0, 1) := by decide +kernel
theorem d_La_open_15 : decode cL_open 15 = .ok (.ireturn, 1) := by decide +kernel
theorem hx_La_open_1 : hdl RL (tableOf [(0, 5, 8, 13), (0, 5, 11, 17)]) 2 "java/lang/IndexOutOfBoundsException" 8 := ⟨[], ⟨0, 5, 8, 13⟩, [⟨0, 5, 11, 17⟩], "java/lang/IndexOutOfBoundsException", rfl, fun u hu => absurd hu List.not_mem_nil, by decide, by decide, tw_189, tw_201, rfl⟩
theorem hx_La_open_3 : hdl RL (tableOf [(0, 5, 8, 13), (0, 5, 11, 17)]) 2 "java/lang/IllegalStateException" 11 := ⟨[⟨0, 5, 8, 13⟩], ⟨0, 5, 11, 17⟩, [], "java/lang/IllegalStateException", rfl, List.forall_mem_cons.mpr ⟨Or.inr ⟨by decide, "java/lang/IndexOutOfBoundsException", tw_189, by decide⟩, fun u hu => absurd hu List.not_mem_nil⟩, by decide, by decide, tw_191, tw_289, rfl⟩
set_option maxRecDepth 100000 in
set_option maxHeartbeats 4000000 in
theorem w_La_open {X : CX} {KX : Int32 × MS → Prop} {a0 : Option Nat} {a1 : Int32} {s : MS} (ok : Ok X cL_open RL rm_La_open 3 true) (hret : ∀ r : Int32 × MS, KX r → Fiw X [(0, 5, 8, 13), (0, 5, 11, 17)] 1 6 (some (vI r.1)) r.2)  (hl : X.1.2.1.stackTraces = false)  {res : Int32 × MS} (h : f_La_open a0 a1 s = some res) (hk : KX res) : G X s 0 0 0 [(0, vR a0), (1, vI a1)] [] := by
  unfold f_La_open at h
  refine g_aload_n (i := 0) 0 ok d_La_open_0 rfl rfl ?_
  refine g_iload_n (i := 1) 1 ok d_La_open_1 rfl rfl ?_
  obtain ⟨k1, hk2, h⟩ := bnd_go h
  refine g_sub [] rfl ?_
  obtain ⟨t4, x5, s6, hc7, h⟩ := bnd3_go h
  refine g_callX (rm2 := rm_Sk_open) (As := [vI a1]) (rest := []) ok (hret _ hk) hk2 lay_0 rfl (c_Sk_open hl (rf_self hk2) hc7) cm_Sk_open cv_Sk_open tw_415 ⟨rfl, rfl⟩ ⟨le_t rfl, le_t rfl⟩ ⟨rfl, le_t rfl⟩ ⟨le_t rfl, le_t rfl⟩ trivial trivial d_La_open_2 rfl (fun c9 m8 => ?_) (fun E c9 => ?_)
  · have c0 : t4 = 0 := tcode_0 c9
    replace h := (if_pos c0).symm.trans h
    show G X s6 1 6 5 [] []
    refine g_goto (tgt := 14) ok d_La_open_5 (by decide) ?_
    refine g_iconst (v := (0 : Int32)) ok d_La_open_14 (by decide) ?_
    cases h
    exact g_iretW ok (hret _ hk) (by decide) (by decide) d_La_open_15
  · have c0 : ¬ t4 = 0 := tcode_n c9
    replace h := (if_neg c0).symm.trans h
    by_cases c1 : t4 = 1
    · replace h := (if_pos c1).symm.trans h
      have hE : (some "java/lang/IndexOutOfBoundsException" : Option String) = some E := by rw [← c9, c1]; rfl
      cases hE
      refine ⟨8, hx_La_open_1, fun q9 m8 => ?_⟩
      refine g_astorew_n (i := 2) [(2, vW (Value.ref q9))] ok d_La_open_8 rfl (by decide) rfl ?_
      refine g_iconst (v := (1 : Int32)) ok d_La_open_9 (by decide) ?_
      cases h
      exact g_iretW ok (hret _ hk) (by decide) (by decide) d_La_open_10
    · replace h := (if_neg c1).symm.trans h
      by_cases c3 : t4 = 3
      · replace h := (if_pos c3).symm.trans h
        have hE : (some "java/lang/IllegalStateException" : Option String) = some E := by rw [← c9, c3]; rfl
        cases hE
        refine ⟨11, hx_La_open_3, fun q9 m8 => ?_⟩
        refine g_astorew_n (i := 2) [(2, vW (Value.ref q9))] ok d_La_open_11 rfl (by decide) rfl ?_
        refine g_iconst (v := (2 : Int32)) ok d_La_open_12 (by decide) ?_
        cases h
        exact g_iretW ok (hret _ hk) (by decide) (by decide) d_La_open_13
      · replace h := (if_neg c3).symm.trans h
        cases h
theorem c_La_open {l : Launch} (hl : l.stackTraces = false) {a0 : Option Nat} {a1 : Int32} {s : MS} {r : Int32} {z : MS} (h : f_La_open a0 a1 s = some (r, z)) : Cw l yL_open (.codeWith yL_open cL_open 3 (some .int) [(0, 5, 8, 13), (0, 5, 11, 17)]) rm_La_open 1 6 [vR a0, vI a1] s (some (vI r)) z :=
  Cw.of rfl (by decide +kernel) ⟨rfl, le_t rfl⟩ cm_La_open.1 (fun X ok fn _ hl2 => w_La_open (KX := fun y => y = (r, z)) ok (fun y hy => by subst hy; exact fn) (by rw [hl2]; exact hl) h rfl)
abbrev rm_La_machine : Room := { frames := 7, cells := 2, slots := 13, locals := 114 }
theorem cm_La_machine : (Cond.codeWith yL_machine cL_machine 6 (some .int) [(0, 12, 15, 13), (0, 12, 19, 15), (0, 12, 23, 17)]) ∈ TT ∧ (Cond.initialized yL_machine.cls) ∈ TT ∧ yL_machine.cls ≠ "java/lang/invoke/MethodHandle" ∧ yL_machine.cls ≠ "java/lang/invoke/VarHandle" ∧ (parseMethodDescriptor yL_machine.desc).map (fun d => d.parameters.length) = some 5 := ⟨tw_427, tw_0, by decide, by decide, by decide +kernel⟩
theorem cs_La_machine : cfS yL_machine := tw_426
theorem d_La_machine_0 : decode cL_machine 0 = .ok (.aload 4, 2) := by decide +kernel
theorem d_La_machine_2 : decode cL_machine 2 = .ok (.iconst 0, 1) := by decide +kernel
theorem d_La_machine_3 : decode cL_machine 3 = .ok (.aload_n 0, 1) := by decide +kernel
theorem d_La_machine_4 : decode cL_machine 4 = .ok (.iload_n 1, 1) := by decide +kernel
theorem d_La_machine_5 : decode cL_machine 5 = .ok (.iload_n 2, 1) := by decide +kernel
theorem d_La_machine_6 : decode cL_machine 6 = .ok (.iload_n 3, 1) := by decide +kernel
theorem d_La_machine_7 : decode cL_machine 7 = .ok (.invokevirtual 37, 3) := by decide +kernel
theorem d_La_machine_10 : decode cL_machine 10 = .ok (.i2l, 1) := by decide +kernel
theorem d_La_machine_11 : decode cL_machine 11 = .ok (.lastore, 1) := by decide +kernel
theorem d_La_machine_12 : decode cL_machine 12 = .ok (.goto 15, 3) := by decide +kernel
theorem d_La_machine_15 : decode cL_machine 15 = .ok (.astore 5, 2) := by decide +kernel
theorem d_La_machine_17 : decode cL_machine 17 = .ok (.iconst 1, 1) := by decide +kernel
theorem d_La_machine_18 : decode cL_machine 18 = .ok (.ireturn, 1) := by decide +kernel
theorem d_La_machine_19 : decode cL_machine 19 = .ok (.astore 5, 2) := by decide +kernel
theorem d_La_machine_21 : decode cL_machine 21 = .ok (.iconst 2, 1) := by decide +kernel
theorem d_La_machine_22 : decode cL_machine 22 = .ok (.ireturn, 1) := by decide +kernel
theorem d_La_machine_23 : decode cL_machine 23 = .ok (.astore 5, 2) := by decide +kernel
theorem d_La_machine_25 : decode cL_machine 25 = .ok (.iconst 3, 1) := by decide +kernel
theorem d_La_machine_26 : decode cL_machine 26 = .ok (.ireturn, 1) := by decide +kernel
theorem d_La_machine_27 : decode cL_machine 27 = .ok (.iconst 0, 1) := by decide +kernel
theorem d_La_machine_28 : decode cL_machine 28 = .ok (.ireturn, 1) := by decide +kernel
theorem hx_La_machine_1 : hdl RL (tableOf [(0, 12, 15, 13), (0, 12, 19, 15), (0, 12, 23, 17)]) 7 "java/lang/IndexOutOfBoundsException" 15 := ⟨[], ⟨0, 12, 15, 13⟩, [⟨0, 12, 19, 15⟩, ⟨0, 12, 23, 17⟩], "java/lang/IndexOutOfBoundsException", rfl, fun u hu => absurd hu List.not_mem_nil, by decide, by decide, tw_189, tw_201, rfl⟩
theorem hx_La_machine_2 : hdl RL (tableOf [(0, 12, 15, 13), (0, 12, 19, 15), (0, 12, 23, 17)]) 7 "java/lang/IllegalArgumentException" 19 := ⟨[⟨0, 12, 15, 13⟩], ⟨0, 12, 19, 15⟩, [⟨0, 12, 23, 17⟩], "java/lang/IllegalArgumentException", rfl, List.forall_mem_cons.mpr ⟨Or.inr ⟨by decide, "java/lang/IndexOutOfBoundsException", tw_189, by decide⟩, fun u hu => absurd hu List.not_mem_nil⟩, by decide, by decide, tw_190, tw_269, rfl⟩
theorem hx_La_machine_3 : hdl RL (tableOf [(0, 12, 15, 13), (0, 12, 19, 15), (0, 12, 23, 17)]) 7 "java/lang/IllegalStateException" 23 := ⟨[⟨0, 12, 15, 13⟩, ⟨0, 12, 19, 15⟩], ⟨0, 12, 23, 17⟩, [], "java/lang/IllegalStateException", rfl, List.forall_mem_cons.mpr ⟨Or.inr ⟨by decide, "java/lang/IndexOutOfBoundsException", tw_189, by decide⟩, List.forall_mem_cons.mpr ⟨Or.inr ⟨by decide, "java/lang/IllegalArgumentException", tw_190, by decide⟩, fun u hu => absurd hu List.not_mem_nil⟩⟩, by decide, by decide, tw_191, tw_289, rfl⟩
set_option maxRecDepth 100000 in
set_option maxHeartbeats 4000000 in
theorem w_La_machine {X : CX} {KX : Int32 × MS → Prop} {a0 : Option Nat} {a1 : Int32} {a2 : Int32} {a3 : Int32} {a4 : Option Nat} {s : MS} (ok : Ok X cL_machine RL rm_La_machine 6 true) (hret : ∀ r : Int32 × MS, KX r → Fiw X [(0, 12, 15, 13), (0, 12, 19, 15), (0, 12, 23, 17)] 2 13 (some (vI r.1)) r.2)  (hl : X.1.2.1.stackTraces = false)  {res : Int32 × MS} (h : f_La_machine a0 a1 a2 a3 a4 s = some res) (hk : KX res) : G X s 0 0 0 [(0, vR a0), (1, vI a1), (2, vI a2), (3, vI a3), (4, vR a4)] [] := by
  unfold f_La_machine at h
  refine g_aload (i := 4) 4 ok d_La_machine_0 rfl ?_
  refine g_iconst (v := (0 : Int32)) ok d_La_machine_2 (by decide) ?_
  refine g_aload_n (i := 0) 0 ok d_La_machine_3 rfl rfl ?_
  refine g_iload_n (i := 1) 1 ok d_La_machine_4 rfl rfl ?_
  refine g_iload_n (i := 2) 2 ok d_La_machine_5 rfl rfl ?_
  refine g_iload_n (i := 3) 3 ok d_La_machine_6 rfl rfl ?_
  obtain ⟨k1, hk2, h⟩ := bnd_go h
  refine g_sub [] rfl ?_
  obtain ⟨n3, hn4, h⟩ := bnd_go h
  obtain ⟨t6, x7, s8, hc9, h⟩ := bnd3_go h
  refine g_callX (rm2 := rm_Sk_machine) (As := [vI a1, vI a2, vI a3]) (rest := [vI (0 : Int32), vR a4]) ok (hret _ hk) hk2 lay_0 rfl (c_Sk_machine hl (rf_self hk2) hc9) cm_Sk_machine cv_Sk_machine tw_428 ⟨rfl, rfl⟩ ⟨le_t rfl, le_t rfl⟩ ⟨rfl, le_t rfl⟩ ⟨le_t rfl, le_t rfl⟩ trivial ⟨trivial, ⟨(rk_rl hn4), trivial⟩⟩ d_La_machine_7 rfl (fun c11 m10 => ?_) (fun E c11 => ?_)
  · have c0 : t6 = 0 := tcode_0 c11
    replace h := (if_pos c0).symm.trans h
    show G X s8 2 13 10 [] [vI x7, vI (0 : Int32), vR a4]
    refine g_i2l ok d_La_machine_10 ?_
    obtain ⟨k12, hk13, h⟩ := bnd_go h
    refine g_last ok hk13 d_La_machine_11 ?_
    obtain ⟨s14, e15⟩ : ∃ z, wi s8 k12 (0 : Int32).toNatClampNeg x7 = z := ⟨_, rfl⟩
    replace h := lt_go h e15
    have m16 := mo_wi e15
    rw [e15]
    refine g_goto (tgt := 27) ok d_La_machine_12 (by decide) ?_
    refine g_iconst (v := (0 : Int32)) ok d_La_machine_27 (by decide) ?_
    cases h
    exact g_iretW ok (hret _ hk) (by decide) (by decide) d_La_machine_28
  · have c0 : ¬ t6 = 0 := tcode_n c11
    replace h := (if_neg c0).symm.trans h
    by_cases c1 : t6 = 1
    · replace h := (if_pos c1).symm.trans h
      have hE : (some "java/lang/IndexOutOfBoundsException" : Option String) = some E := by rw [← c11, c1]; rfl
      cases hE
      refine ⟨15, hx_La_machine_1, fun q9 m10 => ?_⟩
      refine g_astorew (i := 5) [(5, vW (Value.ref q9))] ok d_La_machine_15 (by decide) rfl ?_
      refine g_iconst (v := (1 : Int32)) ok d_La_machine_17 (by decide) ?_
      cases h
      exact g_iretW ok (hret _ hk) (by decide) (by decide) d_La_machine_18
    · replace h := (if_neg c1).symm.trans h
      by_cases c2 : t6 = 2
      · replace h := (if_pos c2).symm.trans h
        have hE : (some "java/lang/IllegalArgumentException" : Option String) = some E := by rw [← c11, c2]; rfl
        cases hE
        refine ⟨19, hx_La_machine_2, fun q9 m10 => ?_⟩
        refine g_astorew (i := 5) [(5, vW (Value.ref q9))] ok d_La_machine_19 (by decide) rfl ?_
        refine g_iconst (v := (2 : Int32)) ok d_La_machine_21 (by decide) ?_
        cases h
        exact g_iretW ok (hret _ hk) (by decide) (by decide) d_La_machine_22
      · replace h := (if_neg c2).symm.trans h
        by_cases c3 : t6 = 3
        · replace h := (if_pos c3).symm.trans h
          have hE : (some "java/lang/IllegalStateException" : Option String) = some E := by rw [← c11, c3]; rfl
          cases hE
          refine ⟨23, hx_La_machine_3, fun q9 m10 => ?_⟩
          refine g_astorew (i := 5) [(5, vW (Value.ref q9))] ok d_La_machine_23 (by decide) rfl ?_
          refine g_iconst (v := (3 : Int32)) ok d_La_machine_25 (by decide) ?_
          cases h
          exact g_iretW ok (hret _ hk) (by decide) (by decide) d_La_machine_26
        · replace h := (if_neg c3).symm.trans h
          cases h
theorem c_La_machine {l : Launch} (hl : l.stackTraces = false) {a0 : Option Nat} {a1 : Int32} {a2 : Int32} {a3 : Int32} {a4 : Option Nat} {s : MS} {r : Int32} {z : MS} (h : f_La_machine a0 a1 a2 a3 a4 s = some (r, z)) : Cw l yL_machine (.codeWith yL_machine cL_machine 6 (some .int) [(0, 12, 15, 13), (0, 12, 19, 15), (0, 12, 23, 17)]) rm_La_machine 2 13 [vR a0, vI a1, vI a2, vI a3, vR a4] s (some (vI r)) z :=
  Cw.of rfl (by decide +kernel) ⟨rfl, le_t rfl⟩ cm_La_machine.1 (fun X ok fn _ hl2 => w_La_machine (KX := fun y => y = (r, z)) ok (fun y hy => by subst hy; exact fn) (by rw [hl2]; exact hl) h rfl)
abbrev rm_La_move : Room := { frames := 7, cells := 1, slots := 6, locals := 113 }
theorem cm_La_move : (Cond.codeWith yL_move cL_move 5 (some .int) [(0, 10, 13, 15), (0, 10, 17, 17)]) ∈ TT ∧ (Cond.initialized yL_move.cls) ∈ TT ∧ yL_move.cls ≠ "java/lang/invoke/MethodHandle" ∧ yL_move.cls ≠ "java/lang/invoke/VarHandle" ∧ (parseMethodDescriptor yL_move.desc).map (fun d => d.parameters.length) = some 4 := ⟨tw_469, tw_0, by decide, by decide, by decide +kernel⟩
theorem cs_La_move : cfS yL_move := tw_468
theorem d_La_move_0 : decode cL_move 0 = .ok (.aload_n 3, 1) := by decide +kernel
theorem d_La_move_1 : decode cL_move 1 = .ok (.iconst 0, 1) := by decide +kernel
theorem d_La_move_2 : decode cL_move 2 = .ok (.aload_n 0, 1) := by decide +kernel
theorem d_La_move_3 : decode cL_move 3 = .ok (.iload_n 1, 1) := by decide +kernel
theorem d_La_move_4 : decode cL_move 4 = .ok (.iload_n 2, 1) := by decide +kernel
theorem d_La_move_5 : decode cL_move 5 = .ok (.invokevirtual 41, 3) := by decide +kernel
theorem d_La_move_8 : decode cL_move 8 = .ok (.i2l, 1) := by decide +kernel
theorem d_La_move_9 : decode cL_move 9 = .ok (.lastore, 1) := by decide +kernel
theorem d_La_move_10 : decode cL_move 10 = .ok (.goto 11, 3) := by decide +kernel
theorem d_La_move_13 : decode cL_move 13 = .ok (.astore 4, 2) := by decide +kernel
theorem d_La_move_15 : decode cL_move 15 = .ok (.iconst 1, 1) := by decide +kernel
theorem d_La_move_16 : decode cL_move 16 = .ok (.ireturn, 1) := by decide +kernel
theorem d_La_move_17 : decode cL_move 17 = .ok (.astore 4, 2) := by decide +kernel
theorem d_La_move_19 : decode cL_move 19 = .ok (.iconst 2, 1) := by decide +kernel
theorem d_La_move_20 : decode cL_move 20 = .ok (.ireturn, 1) := by decide +kernel
theorem d_La_move_21 : decode cL_move 21 = .ok (.iconst 0, 1) := by decide +kernel
theorem d_La_move_22 : decode cL_move 22 = .ok (.ireturn, 1) := by decide +kernel
theorem hx_La_move_2 : hdl RL (tableOf [(0, 10, 13, 15), (0, 10, 17, 17)]) 5 "java/lang/IllegalArgumentException" 13 := ⟨[], ⟨0, 10, 13, 15⟩, [⟨0, 10, 17, 17⟩], "java/lang/IllegalArgumentException", rfl, fun u hu => absurd hu List.not_mem_nil, by decide, by decide, tw_190, tw_269, rfl⟩
theorem hx_La_move_3 : hdl RL (tableOf [(0, 10, 13, 15), (0, 10, 17, 17)]) 5 "java/lang/IllegalStateException" 17 := ⟨[⟨0, 10, 13, 15⟩], ⟨0, 10, 17, 17⟩, [], "java/lang/IllegalStateException", rfl, List.forall_mem_cons.mpr ⟨Or.inr ⟨by decide, "java/lang/IllegalArgumentException", tw_190, by decide⟩, fun u hu => absurd hu List.not_mem_nil⟩, by decide, by decide, tw_191, tw_289, rfl⟩
set_option maxRecDepth 100000 in
set_option maxHeartbeats 4000000 in
theorem w_La_move {X : CX} {KX : Int32 × MS → Prop} {a0 : Option Nat} {a1 : Int32} {a2 : Int32} {a3 : Option Nat} {s : MS} (ok : Ok X cL_move RL rm_La_move 5 true) (hret : ∀ r : Int32 × MS, KX r → Fiw X [(0, 10, 13, 15), (0, 10, 17, 17)] 1 6 (some (vI r.1)) r.2)  (hl : X.1.2.1.stackTraces = false)  {res : Int32 × MS} (h : f_La_move a0 a1 a2 a3 s = some res) (hk : KX res) : G X s 0 0 0 [(0, vR a0), (1, vI a1), (2, vI a2), (3, vR a3)] [] := by
  unfold f_La_move at h
  refine g_aload_n (i := 3) 3 ok d_La_move_0 rfl rfl ?_
  refine g_iconst (v := (0 : Int32)) ok d_La_move_1 (by decide) ?_
  refine g_aload_n (i := 0) 0 ok d_La_move_2 rfl rfl ?_
  refine g_iload_n (i := 1) 1 ok d_La_move_3 rfl rfl ?_
  refine g_iload_n (i := 2) 2 ok d_La_move_4 rfl rfl ?_
  obtain ⟨k1, hk2, h⟩ := bnd_go h
  refine g_sub [] rfl ?_
  obtain ⟨n3, hn4, h⟩ := bnd_go h
  obtain ⟨t6, x7, s8, hc9, h⟩ := bnd3_go h
  refine g_callX (rm2 := rm_Sk_move) (As := [vI a1, vI a2]) (rest := [vI (0 : Int32), vR a3]) ok (hret _ hk) hk2 lay_0 rfl (c_Sk_move hl (rf_self hk2) hc9) cm_Sk_move cv_Sk_move tw_470 ⟨rfl, rfl⟩ ⟨le_t rfl, le_t rfl⟩ ⟨rfl, le_t rfl⟩ ⟨le_t rfl, le_t rfl⟩ trivial ⟨trivial, ⟨(rk_rl hn4), trivial⟩⟩ d_La_move_5 rfl (fun c11 m10 => ?_) (fun E c11 => ?_)
  · have c0 : t6 = 0 := tcode_0 c11
    replace h := (if_pos c0).symm.trans h
    show G X s8 1 6 8 [] [vI x7, vI (0 : Int32), vR a3]
    refine g_i2l ok d_La_move_8 ?_
    obtain ⟨k12, hk13, h⟩ := bnd_go h
    refine g_last ok hk13 d_La_move_9 ?_
    obtain ⟨s14, e15⟩ : ∃ z, wi s8 k12 (0 : Int32).toNatClampNeg x7 = z := ⟨_, rfl⟩
    replace h := lt_go h e15
    have m16 := mo_wi e15
    rw [e15]
    refine g_goto (tgt := 21) ok d_La_move_10 (by decide) ?_
    refine g_iconst (v := (0 : Int32)) ok d_La_move_21 (by decide) ?_
    cases h
    exact g_iretW ok (hret _ hk) (by decide) (by decide) d_La_move_22
  · have c0 : ¬ t6 = 0 := tcode_n c11
    replace h := (if_neg c0).symm.trans h
    by_cases c2 : t6 = 2
    · replace h := (if_pos c2).symm.trans h
      have hE : (some "java/lang/IllegalArgumentException" : Option String) = some E := by rw [← c11, c2]; rfl
      cases hE
      refine ⟨13, hx_La_move_2, fun q9 m10 => ?_⟩
      refine g_astorew (i := 4) [(4, vW (Value.ref q9))] ok d_La_move_13 (by decide) rfl ?_
      refine g_iconst (v := (1 : Int32)) ok d_La_move_15 (by decide) ?_
      cases h
      exact g_iretW ok (hret _ hk) (by decide) (by decide) d_La_move_16
    · replace h := (if_neg c2).symm.trans h
      by_cases c3 : t6 = 3
      · replace h := (if_pos c3).symm.trans h
        have hE : (some "java/lang/IllegalStateException" : Option String) = some E := by rw [← c11, c3]; rfl
        cases hE
        refine ⟨17, hx_La_move_3, fun q9 m10 => ?_⟩
        refine g_astorew (i := 4) [(4, vW (Value.ref q9))] ok d_La_move_17 (by decide) rfl ?_
        refine g_iconst (v := (2 : Int32)) ok d_La_move_19 (by decide) ?_
        cases h
        exact g_iretW ok (hret _ hk) (by decide) (by decide) d_La_move_20
      · replace h := (if_neg c3).symm.trans h
        cases h
theorem c_La_move {l : Launch} (hl : l.stackTraces = false) {a0 : Option Nat} {a1 : Int32} {a2 : Int32} {a3 : Option Nat} {s : MS} {r : Int32} {z : MS} (h : f_La_move a0 a1 a2 a3 s = some (r, z)) : Cw l yL_move (.codeWith yL_move cL_move 5 (some .int) [(0, 10, 13, 15), (0, 10, 17, 17)]) rm_La_move 1 6 [vR a0, vI a1, vI a2, vR a3] s (some (vI r)) z :=
  Cw.of rfl (by decide +kernel) ⟨rfl, le_t rfl⟩ cm_La_move.1 (fun X ok fn _ hl2 => w_La_move (KX := fun y => y = (r, z)) ok (fun y hy => by subst hy; exact fn) (by rw [hl2]; exact hl) h rfl)
abbrev rm_La_takes : Room := { frames := 7, cells := 1, slots := 6, locals := 114 }
theorem cm_La_takes : (Cond.codeWith yL_takes cL_takes 4 (some .int) [(0, 9, 12, 13)]) ∈ TT ∧ (Cond.initialized yL_takes.cls) ∈ TT ∧ yL_takes.cls ≠ "java/lang/invoke/MethodHandle" ∧ yL_takes.cls ≠ "java/lang/invoke/VarHandle" ∧ (parseMethodDescriptor yL_takes.desc).map (fun d => d.parameters.length) = some 3 := ⟨tw_478, tw_0, by decide, by decide, by decide +kernel⟩
theorem cs_La_takes : cfS yL_takes := tw_477
theorem d_La_takes_0 : decode cL_takes 0 = .ok (.aload_n 2, 1) := by decide +kernel
theorem d_La_takes_1 : decode cL_takes 1 = .ok (.iconst 0, 1) := by decide +kernel
theorem d_La_takes_2 : decode cL_takes 2 = .ok (.aload_n 0, 1) := by decide +kernel
theorem d_La_takes_3 : decode cL_takes 3 = .ok (.iload_n 1, 1) := by decide +kernel
theorem d_La_takes_4 : decode cL_takes 4 = .ok (.invokevirtual 44, 3) := by decide +kernel
theorem d_La_takes_7 : decode cL_takes 7 = .ok (.i2l, 1) := by decide +kernel
theorem d_La_takes_8 : decode cL_takes 8 = .ok (.lastore, 1) := by decide +kernel
theorem d_La_takes_9 : decode cL_takes 9 = .ok (.goto 6, 3) := by decide +kernel
theorem d_La_takes_12 : decode cL_takes 12 = .ok (.astore_n 3, 1) := by decide +kernel
theorem d_La_takes_13 : decode cL_takes 13 = .ok (.iconst 1, 1) := by decide +kernel
theorem d_La_takes_14 : decode cL_takes 14 = .ok (.ireturn, 1) := by decide +kernel
theorem d_La_takes_15 : decode cL_takes 15 = .ok (.iconst 0, 1) := by decide +kernel
theorem d_La_takes_16 : decode cL_takes 16 = .ok (.ireturn, 1) := by decide +kernel
theorem hx_La_takes_1 : hdl RL (tableOf [(0, 9, 12, 13)]) 4 "java/lang/IndexOutOfBoundsException" 12 := ⟨[], ⟨0, 9, 12, 13⟩, [], "java/lang/IndexOutOfBoundsException", rfl, fun u hu => absurd hu List.not_mem_nil, by decide, by decide, tw_189, tw_201, rfl⟩
set_option maxRecDepth 100000 in
set_option maxHeartbeats 4000000 in
theorem w_La_takes {X : CX} {KX : Int32 × MS → Prop} {a0 : Option Nat} {a1 : Int32} {a2 : Option Nat} {s : MS} (ok : Ok X cL_takes RL rm_La_takes 4 true) (hret : ∀ r : Int32 × MS, KX r → Fiw X [(0, 9, 12, 13)] 1 6 (some (vI r.1)) r.2)  (hl : X.1.2.1.stackTraces = false)  {res : Int32 × MS} (h : f_La_takes a0 a1 a2 s = some res) (hk : KX res) : G X s 0 0 0 [(0, vR a0), (1, vI a1), (2, vR a2)] [] := by
  unfold f_La_takes at h
  refine g_aload_n (i := 2) 2 ok d_La_takes_0 rfl rfl ?_
  refine g_iconst (v := (0 : Int32)) ok d_La_takes_1 (by decide) ?_
  refine g_aload_n (i := 0) 0 ok d_La_takes_2 rfl rfl ?_
  refine g_iload_n (i := 1) 1 ok d_La_takes_3 rfl rfl ?_
  obtain ⟨k1, hk2, h⟩ := bnd_go h
  refine g_sub [] rfl ?_
  obtain ⟨n3, hn4, h⟩ := bnd_go h
  obtain ⟨t6, x7, s8, hc9, h⟩ := bnd3_go h
  refine g_callX (rm2 := rm_Sk_takes) (As := [vI a1]) (rest := [vI (0 : Int32), vR a2]) ok (hret _ hk) hk2 lay_0 rfl (c_Sk_takes hl (rf_self hk2) hc9) cm_Sk_takes cv_Sk_takes tw_479 ⟨rfl, rfl⟩ ⟨le_t rfl, le_t rfl⟩ ⟨rfl, le_t rfl⟩ ⟨le_t rfl, le_t rfl⟩ trivial ⟨trivial, ⟨(rk_rl hn4), trivial⟩⟩ d_La_takes_4 rfl (fun c11 m10 => ?_) (fun E c11 => ?_)
  · have c0 : t6 = 0 := tcode_0 c11
    replace h := (if_pos c0).symm.trans h
    show G X s8 1 6 7 [] [vI x7, vI (0 : Int32), vR a2]
    refine g_i2l ok d_La_takes_7 ?_
    obtain ⟨k12, hk13, h⟩ := bnd_go h
    refine g_last ok hk13 d_La_takes_8 ?_
    obtain ⟨s14, e15⟩ : ∃ z, wi s8 k12 (0 : Int32).toNatClampNeg x7 = z := ⟨_, rfl⟩
    replace h := lt_go h e15
    have m16 := mo_wi e15
    rw [e15]
    refine g_goto (tgt := 15) ok d_La_takes_9 (by decide) ?_
    refine g_iconst (v := (0 : Int32)) ok d_La_takes_15 (by decide) ?_
    cases h
    exact g_iretW ok (hret _ hk) (by decide) (by decide) d_La_takes_16
  · have c0 : ¬ t6 = 0 := tcode_n c11
    replace h := (if_neg c0).symm.trans h
    by_cases c1 : t6 = 1
    · replace h := (if_pos c1).symm.trans h
      have hE : (some "java/lang/IndexOutOfBoundsException" : Option String) = some E := by rw [← c11, c1]; rfl
      cases hE
      refine ⟨12, hx_La_takes_1, fun q9 m10 => ?_⟩
      refine g_astorew_n (i := 3) [(3, vW (Value.ref q9))] ok d_La_takes_12 rfl (by decide) rfl ?_
      refine g_iconst (v := (1 : Int32)) ok d_La_takes_13 (by decide) ?_
      cases h
      exact g_iretW ok (hret _ hk) (by decide) (by decide) d_La_takes_14
    · replace h := (if_neg c1).symm.trans h
      cases h
theorem c_La_takes {l : Launch} (hl : l.stackTraces = false) {a0 : Option Nat} {a1 : Int32} {a2 : Option Nat} {s : MS} {r : Int32} {z : MS} (h : f_La_takes a0 a1 a2 s = some (r, z)) : Cw l yL_takes (.codeWith yL_takes cL_takes 4 (some .int) [(0, 9, 12, 13)]) rm_La_takes 1 6 [vR a0, vI a1, vR a2] s (some (vI r)) z :=
  Cw.of rfl (by decide +kernel) ⟨rfl, le_t rfl⟩ cm_La_takes.1 (fun X ok fn _ hl2 => w_La_takes (KX := fun y => y = (r, z)) ok (fun y hy => by subst hy; exact fn) (by rw [hl2]; exact hl) h rfl)
abbrev rm_La_file : Room := { frames := 7, cells := 3, slots := 94, locals := 166 }
theorem cm_La_file : (Cond.codeWith yL_file cL_file 6 (some .int) [(0, 12, 15, 13), (0, 12, 19, 15), (0, 12, 23, 17)]) ∈ TT ∧ (Cond.initialized yL_file.cls) ∈ TT ∧ yL_file.cls ≠ "java/lang/invoke/MethodHandle" ∧ yL_file.cls ≠ "java/lang/invoke/VarHandle" ∧ (parseMethodDescriptor yL_file.desc).map (fun d => d.parameters.length) = some 5 := ⟨tw_508, tw_0, by decide, by decide, by decide +kernel⟩
theorem cs_La_file : cfS yL_file := tw_507
theorem d_La_file_0 : decode cL_file 0 = .ok (.aload 4, 2) := by decide +kernel
theorem d_La_file_2 : decode cL_file 2 = .ok (.iconst 0, 1) := by decide +kernel
theorem d_La_file_3 : decode cL_file 3 = .ok (.aload_n 0, 1) := by decide +kernel
theorem d_La_file_4 : decode cL_file 4 = .ok (.iload_n 1, 1) := by decide +kernel
theorem d_La_file_5 : decode cL_file 5 = .ok (.iload_n 2, 1) := by decide +kernel
theorem d_La_file_6 : decode cL_file 6 = .ok (.iload_n 3, 1) := by decide +kernel
theorem d_La_file_7 : decode cL_file 7 = .ok (.invokevirtual 47, 3) := by decide +kernel
theorem d_La_file_10 : decode cL_file 10 = .ok (.i2l, 1) := by decide +kernel
theorem d_La_file_11 : decode cL_file 11 = .ok (.lastore, 1) := by decide +kernel
theorem d_La_file_12 : decode cL_file 12 = .ok (.goto 15, 3) := by decide +kernel
theorem d_La_file_15 : decode cL_file 15 = .ok (.astore 5, 2) := by decide +kernel
theorem d_La_file_17 : decode cL_file 17 = .ok (.iconst 1, 1) := by decide +kernel
theorem d_La_file_18 : decode cL_file 18 = .ok (.ireturn, 1) := by decide +kernel
theorem d_La_file_19 : decode cL_file 19 = .ok (.astore 5, 2) := by decide +kernel
theorem d_La_file_21 : decode cL_file 21 = .ok (.iconst 2, 1) := by decide +kernel
theorem d_La_file_22 : decode cL_file 22 = .ok (.ireturn, 1) := by decide +kernel
theorem d_La_file_23 : decode cL_file 23 = .ok (.astore 5, 2) := by decide +kernel
theorem d_La_file_25 : decode cL_file 25 = .ok (.iconst 3, 1) := by decide +kernel
theorem d_La_file_26 : decode cL_file 26 = .ok (.ireturn, 1) := by decide +kernel
theorem d_La_file_27 : decode cL_file 27 = .ok (.iconst 0, 1) := by decide +kernel
theorem d_La_file_28 : decode cL_file 28 = .ok (.ireturn, 1) := by decide +kernel
theorem hx_La_file_1 : hdl RL (tableOf [(0, 12, 15, 13), (0, 12, 19, 15), (0, 12, 23, 17)]) 7 "java/lang/IndexOutOfBoundsException" 15 := ⟨[], ⟨0, 12, 15, 13⟩, [⟨0, 12, 19, 15⟩, ⟨0, 12, 23, 17⟩], "java/lang/IndexOutOfBoundsException", rfl, fun u hu => absurd hu List.not_mem_nil, by decide, by decide, tw_189, tw_201, rfl⟩
theorem hx_La_file_2 : hdl RL (tableOf [(0, 12, 15, 13), (0, 12, 19, 15), (0, 12, 23, 17)]) 7 "java/lang/IllegalArgumentException" 19 := ⟨[⟨0, 12, 15, 13⟩], ⟨0, 12, 19, 15⟩, [⟨0, 12, 23, 17⟩], "java/lang/IllegalArgumentException", rfl, List.forall_mem_cons.mpr ⟨Or.inr ⟨by decide, "java/lang/IndexOutOfBoundsException", tw_189, by decide⟩, fun u hu => absurd hu List.not_mem_nil⟩, by decide, by decide, tw_190, tw_269, rfl⟩
theorem hx_La_file_3 : hdl RL (tableOf [(0, 12, 15, 13), (0, 12, 19, 15), (0, 12, 23, 17)]) 7 "java/lang/IllegalStateException" 23 := ⟨[⟨0, 12, 15, 13⟩, ⟨0, 12, 19, 15⟩], ⟨0, 12, 23, 17⟩, [], "java/lang/IllegalStateException", rfl, List.forall_mem_cons.mpr ⟨Or.inr ⟨by decide, "java/lang/IndexOutOfBoundsException", tw_189, by decide⟩, List.forall_mem_cons.mpr ⟨Or.inr ⟨by decide, "java/lang/IllegalArgumentException", tw_190, by decide⟩, fun u hu => absurd hu List.not_mem_nil⟩⟩, by decide, by decide, tw_191, tw_289, rfl⟩
set_option maxRecDepth 100000 in
set_option maxHeartbeats 4000000 in
theorem w_La_file {X : CX} {KX : Int32 × MS → Prop} {a0 : Option Nat} {a1 : Int32} {a2 : Int32} {a3 : Int32} {a4 : Option Nat} {s : MS} (ok : Ok X cL_file RL rm_La_file 6 true) (hret : ∀ r : Int32 × MS, KX r → Fiw X [(0, 12, 15, 13), (0, 12, 19, 15), (0, 12, 23, 17)] 3 94 (some (vI r.1)) r.2)  (hl : X.1.2.1.stackTraces = false)  {res : Int32 × MS} (h : f_La_file a0 a1 a2 a3 a4 s = some res) (hk : KX res) : G X s 0 0 0 [(0, vR a0), (1, vI a1), (2, vI a2), (3, vI a3), (4, vR a4)] [] := by
  unfold f_La_file at h
  refine g_aload (i := 4) 4 ok d_La_file_0 rfl ?_
  refine g_iconst (v := (0 : Int32)) ok d_La_file_2 (by decide) ?_
  refine g_aload_n (i := 0) 0 ok d_La_file_3 rfl rfl ?_
  refine g_iload_n (i := 1) 1 ok d_La_file_4 rfl rfl ?_
  refine g_iload_n (i := 2) 2 ok d_La_file_5 rfl rfl ?_
  refine g_iload_n (i := 3) 3 ok d_La_file_6 rfl rfl ?_
  obtain ⟨k1, hk2, h⟩ := bnd_go h
  refine g_sub [] rfl ?_
  obtain ⟨n3, hn4, h⟩ := bnd_go h
  obtain ⟨t6, x7, s8, hc9, h⟩ := bnd3_go h
  refine g_callX (rm2 := rm_Sk_file) (As := [vI a1, vI a2, vI a3]) (rest := [vI (0 : Int32), vR a4]) ok (hret _ hk) hk2 lay_0 rfl (c_Sk_file hl (rf_self hk2) hc9) cm_Sk_file cv_Sk_file tw_509 ⟨rfl, rfl⟩ ⟨le_t rfl, le_t rfl⟩ ⟨rfl, le_t rfl⟩ ⟨le_t rfl, le_t rfl⟩ trivial ⟨trivial, ⟨(rk_rl hn4), trivial⟩⟩ d_La_file_7 rfl (fun c11 m10 => ?_) (fun E c11 => ?_)
  · have c0 : t6 = 0 := tcode_0 c11
    replace h := (if_pos c0).symm.trans h
    show G X s8 3 94 10 [] [vI x7, vI (0 : Int32), vR a4]
    refine g_i2l ok d_La_file_10 ?_
    obtain ⟨k12, hk13, h⟩ := bnd_go h
    refine g_last ok hk13 d_La_file_11 ?_
    obtain ⟨s14, e15⟩ : ∃ z, wi s8 k12 (0 : Int32).toNatClampNeg x7 = z := ⟨_, rfl⟩
    replace h := lt_go h e15
    have m16 := mo_wi e15
    rw [e15]
    refine g_goto (tgt := 27) ok d_La_file_12 (by decide) ?_
    refine g_iconst (v := (0 : Int32)) ok d_La_file_27 (by decide) ?_
    cases h
    exact g_iretW ok (hret _ hk) (by decide) (by decide) d_La_file_28
  · have c0 : ¬ t6 = 0 := tcode_n c11
    replace h := (if_neg c0).symm.trans h
    by_cases c1 : t6 = 1
    · replace h := (if_pos c1).symm.trans h
      have hE : (some "java/lang/IndexOutOfBoundsException" : Option String) = some E := by rw [← c11, c1]; rfl
      cases hE
      refine ⟨15, hx_La_file_1, fun q9 m10 => ?_⟩
      refine g_astorew (i := 5) [(5, vW (Value.ref q9))] ok d_La_file_15 (by decide) rfl ?_
      refine g_iconst (v := (1 : Int32)) ok d_La_file_17 (by decide) ?_
      cases h
      exact g_iretW ok (hret _ hk) (by decide) (by decide) d_La_file_18
    · replace h := (if_neg c1).symm.trans h
      by_cases c2 : t6 = 2
      · replace h := (if_pos c2).symm.trans h
        have hE : (some "java/lang/IllegalArgumentException" : Option String) = some E := by rw [← c11, c2]; rfl
        cases hE
        refine ⟨19, hx_La_file_2, fun q9 m10 => ?_⟩
        refine g_astorew (i := 5) [(5, vW (Value.ref q9))] ok d_La_file_19 (by decide) rfl ?_
        refine g_iconst (v := (2 : Int32)) ok d_La_file_21 (by decide) ?_
        cases h
        exact g_iretW ok (hret _ hk) (by decide) (by decide) d_La_file_22
      · replace h := (if_neg c2).symm.trans h
        by_cases c3 : t6 = 3
        · replace h := (if_pos c3).symm.trans h
          have hE : (some "java/lang/IllegalStateException" : Option String) = some E := by rw [← c11, c3]; rfl
          cases hE
          refine ⟨23, hx_La_file_3, fun q9 m10 => ?_⟩
          refine g_astorew (i := 5) [(5, vW (Value.ref q9))] ok d_La_file_23 (by decide) rfl ?_
          refine g_iconst (v := (3 : Int32)) ok d_La_file_25 (by decide) ?_
          cases h
          exact g_iretW ok (hret _ hk) (by decide) (by decide) d_La_file_26
        · replace h := (if_neg c3).symm.trans h
          cases h
theorem c_La_file {l : Launch} (hl : l.stackTraces = false) {a0 : Option Nat} {a1 : Int32} {a2 : Int32} {a3 : Int32} {a4 : Option Nat} {s : MS} {r : Int32} {z : MS} (h : f_La_file a0 a1 a2 a3 a4 s = some (r, z)) : Cw l yL_file (.codeWith yL_file cL_file 6 (some .int) [(0, 12, 15, 13), (0, 12, 19, 15), (0, 12, 23, 17)]) rm_La_file 3 94 [vR a0, vI a1, vI a2, vI a3, vR a4] s (some (vI r)) z :=
  Cw.of rfl (by decide +kernel) ⟨rfl, le_t rfl⟩ cm_La_file.1 (fun X ok fn _ hl2 => w_La_file (KX := fun y => y = (r, z)) ok (fun y hy => by subst hy; exact fn) (by rw [hl2]; exact hl) h rfl)
abbrev rm_La_withdraw : Room := { frames := 7, cells := 1, slots := 6, locals := 112 }
theorem cm_La_withdraw : (Cond.codeWith yL_withdraw cL_withdraw 3 (some .int) [(0, 5, 8, 13), (0, 5, 11, 17)]) ∈ TT ∧ (Cond.initialized yL_withdraw.cls) ∈ TT ∧ yL_withdraw.cls ≠ "java/lang/invoke/MethodHandle" ∧ yL_withdraw.cls ≠ "java/lang/invoke/VarHandle" ∧ (parseMethodDescriptor yL_withdraw.desc).map (fun d => d.parameters.length) = some 2 := ⟨tw_577, tw_0, by decide, by decide, by decide +kernel⟩
theorem cs_La_withdraw : cfS yL_withdraw := tw_576
theorem d_La_withdraw_0 : decode cL_withdraw 0 = .ok (.aload_n 0, 1) := by decide +kernel
theorem d_La_withdraw_1 : decode cL_withdraw 1 = .ok (.iload_n 1, 1) := by decide +kernel
theorem d_La_withdraw_2 : decode cL_withdraw 2 = .ok (.invokevirtual 50, 3) := by decide +kernel
theorem d_La_withdraw_5 : decode cL_withdraw 5 = .ok (.goto 9, 3) := by decide +kernel
theorem d_La_withdraw_8 : decode cL_withdraw 8 = .ok (.astore_n 2, 1) := by decide +kernel
theorem d_La_withdraw_9 : decode cL_withdraw 9 = .ok (.iconst 1, 1) := by decide +kernel
theorem d_La_withdraw_10 : decode cL_withdraw 10 = .ok (.ireturn, 1) := by decide +kernel
theorem d_La_withdraw_11 : decode cL_withdraw 11 = .ok (.astore_n 2, 1) := by decide +kernel
theorem d_La_withdraw_12 : decode cL_withdraw 12 = .ok (.iconst 2, 1) := by decide +kernel
theorem d_La_withdraw_13 : decode cL_withdraw 13 = .ok (.ireturn, 1) := by decide +kernel
theorem d_La_withdraw_14 : decode cL_withdraw 14 = .ok (.iconst 0, 1) := by decide +kernel
theorem d_La_withdraw_15 : decode cL_withdraw 15 = .ok (.ireturn, 1) := by decide +kernel
theorem hx_La_withdraw_1 : hdl RL (tableOf [(0, 5, 8, 13), (0, 5, 11, 17)]) 2 "java/lang/IndexOutOfBoundsException" 8 := ⟨[], ⟨0, 5, 8, 13⟩, [⟨0, 5, 11, 17⟩], "java/lang/IndexOutOfBoundsException", rfl, fun u hu => absurd hu List.not_mem_nil, by decide, by decide, tw_189, tw_201, rfl⟩
theorem hx_La_withdraw_3 : hdl RL (tableOf [(0, 5, 8, 13), (0, 5, 11, 17)]) 2 "java/lang/IllegalStateException" 11 := ⟨[⟨0, 5, 8, 13⟩], ⟨0, 5, 11, 17⟩, [], "java/lang/IllegalStateException", rfl, List.forall_mem_cons.mpr ⟨Or.inr ⟨by decide, "java/lang/IndexOutOfBoundsException", tw_189, by decide⟩, fun u hu => absurd hu List.not_mem_nil⟩, by decide, by decide, tw_191, tw_289, rfl⟩
set_option maxRecDepth 100000 in
set_option maxHeartbeats 4000000 in
theorem w_La_withdraw {X : CX} {KX : Int32 × MS → Prop} {a0 : Option Nat} {a1 : Int32} {s : MS} (ok : Ok X cL_withdraw RL rm_La_withdraw 3 true) (hret : ∀ r : Int32 × MS, KX r → Fiw X [(0, 5, 8, 13), (0, 5, 11, 17)] 1 6 (some (vI r.1)) r.2)  (hl : X.1.2.1.stackTraces = false)  {res : Int32 × MS} (h : f_La_withdraw a0 a1 s = some res) (hk : KX res) : G X s 0 0 0 [(0, vR a0), (1, vI a1)] [] := by
  unfold f_La_withdraw at h
  refine g_aload_n (i := 0) 0 ok d_La_withdraw_0 rfl rfl ?_
  refine g_iload_n (i := 1) 1 ok d_La_withdraw_1 rfl rfl ?_
  obtain ⟨k1, hk2, h⟩ := bnd_go h
  refine g_sub [] rfl ?_
  obtain ⟨t4, x5, s6, hc7, h⟩ := bnd3_go h
  refine g_callX (rm2 := rm_Sk_withdraw) (As := [vI a1]) (rest := []) ok (hret _ hk) hk2 lay_0 rfl (c_Sk_withdraw hl (rf_self hk2) hc7) cm_Sk_withdraw cv_Sk_withdraw tw_578 ⟨rfl, rfl⟩ ⟨le_t rfl, le_t rfl⟩ ⟨rfl, le_t rfl⟩ ⟨le_t rfl, le_t rfl⟩ trivial trivial d_La_withdraw_2 rfl (fun c9 m8 => ?_) (fun E c9 => ?_)
  · have c0 : t4 = 0 := tcode_0 c9
    replace h := (if_pos c0).symm.trans h
    show G X s6 1 6 5 [] []
    refine g_goto (tgt := 14) ok d_La_withdraw_5 (by decide) ?_
    refine g_iconst (v := (0 : Int32)) ok d_La_withdraw_14 (by decide) ?_
    cases h
    exact g_iretW ok (hret _ hk) (by decide) (by decide) d_La_withdraw_15
  · have c0 : ¬ t4 = 0 := tcode_n c9
    replace h := (if_neg c0).symm.trans h
    by_cases c1 : t4 = 1
    · replace h := (if_pos c1).symm.trans h
      have hE : (some "java/lang/IndexOutOfBoundsException" : Option String) = some E := by rw [← c9, c1]; rfl
      cases hE
      refine ⟨8, hx_La_withdraw_1, fun q9 m8 => ?_⟩
      refine g_astorew_n (i := 2) [(2, vW (Value.ref q9))] ok d_La_withdraw_8 rfl (by decide) rfl ?_
      refine g_iconst (v := (1 : Int32)) ok d_La_withdraw_9 (by decide) ?_
      cases h
      exact g_iretW ok (hret _ hk) (by decide) (by decide) d_La_withdraw_10
    · replace h := (if_neg c1).symm.trans h
      by_cases c3 : t4 = 3
      · replace h := (if_pos c3).symm.trans h
        have hE : (some "java/lang/IllegalStateException" : Option String) = some E := by rw [← c9, c3]; rfl
        cases hE
        refine ⟨11, hx_La_withdraw_3, fun q9 m8 => ?_⟩
        refine g_astorew_n (i := 2) [(2, vW (Value.ref q9))] ok d_La_withdraw_11 rfl (by decide) rfl ?_
        refine g_iconst (v := (2 : Int32)) ok d_La_withdraw_12 (by decide) ?_
        cases h
        exact g_iretW ok (hret _ hk) (by decide) (by decide) d_La_withdraw_13
      · replace h := (if_neg c3).symm.trans h
        cases h
theorem c_La_withdraw {l : Launch} (hl : l.stackTraces = false) {a0 : Option Nat} {a1 : Int32} {s : MS} {r : Int32} {z : MS} (h : f_La_withdraw a0 a1 s = some (r, z)) : Cw l yL_withdraw (.codeWith yL_withdraw cL_withdraw 3 (some .int) [(0, 5, 8, 13), (0, 5, 11, 17)]) rm_La_withdraw 1 6 [vR a0, vI a1] s (some (vI r)) z :=
  Cw.of rfl (by decide +kernel) ⟨rfl, le_t rfl⟩ cm_La_withdraw.1 (fun X ok fn _ hl2 => w_La_withdraw (KX := fun y => y = (r, z)) ok (fun y hy => by subst hy; exact fn) (by rw [hl2]; exact hl) h rfl)
abbrev rm_La_tick : Room := { frames := 7, cells := 1, slots := 6, locals := 155 }
theorem cm_La_tick : (Cond.codeWith yL_tick cL_tick 4 (some .int) [(0, 9, 12, 15), (0, 9, 15, 17)]) ∈ TT ∧ (Cond.initialized yL_tick.cls) ∈ TT ∧ yL_tick.cls ≠ "java/lang/invoke/MethodHandle" ∧ yL_tick.cls ≠ "java/lang/invoke/VarHandle" ∧ (parseMethodDescriptor yL_tick.desc).map (fun d => d.parameters.length) = some 3 := ⟨tw_586, tw_0, by decide, by decide, by decide +kernel⟩
theorem cs_La_tick : cfS yL_tick := tw_585
theorem d_La_tick_0 : decode cL_tick 0 = .ok (.aload_n 2, 1) := by decide +kernel
theorem d_La_tick_1 : decode cL_tick 1 = .ok (.iconst 0, 1) := by decide +kernel
theorem d_La_tick_2 : decode cL_tick 2 = .ok (.aload_n 0, 1) := by decide +kernel
theorem d_La_tick_3 : decode cL_tick 3 = .ok (.iload_n 1, 1) := by decide +kernel
theorem d_La_tick_4 : decode cL_tick 4 = .ok (.invokevirtual 53, 3) := by decide +kernel
theorem d_La_tick_7 : decode cL_tick 7 = .ok (.i2l, 1) := by decide +kernel
theorem d_La_tick_8 : decode cL_tick 8 = .ok (.lastore, 1) := by decide +kernel
theorem d_La_tick_9 : decode cL_tick 9 = .ok (.goto 9, 3) := by decide +kernel
theorem d_La_tick_12 : decode cL_tick 12 = .ok (.astore_n 3, 1) := by decide +kernel
theorem d_La_tick_13 : decode cL_tick 13 = .ok (.iconst 1, 1) := by decide +kernel
theorem d_La_tick_14 : decode cL_tick 14 = .ok (.ireturn, 1) := by decide +kernel
theorem d_La_tick_15 : decode cL_tick 15 = .ok (.astore_n 3, 1) := by decide +kernel
theorem d_La_tick_16 : decode cL_tick 16 = .ok (.iconst 2, 1) := by decide +kernel
theorem d_La_tick_17 : decode cL_tick 17 = .ok (.ireturn, 1) := by decide +kernel
theorem d_La_tick_18 : decode cL_tick 18 = .ok (.iconst 0, 1) := by decide +kernel
theorem d_La_tick_19 : decode cL_tick 19 = .ok (.ireturn, 1) := by decide +kernel
theorem hx_La_tick_2 : hdl RL (tableOf [(0, 9, 12, 15), (0, 9, 15, 17)]) 4 "java/lang/IllegalArgumentException" 12 := ⟨[], ⟨0, 9, 12, 15⟩, [⟨0, 9, 15, 17⟩], "java/lang/IllegalArgumentException", rfl, fun u hu => absurd hu List.not_mem_nil, by decide, by decide, tw_190, tw_269, rfl⟩
theorem hx_La_tick_3 : hdl RL (tableOf [(0, 9, 12, 15), (0, 9, 15, 17)]) 4 "java/lang/IllegalStateException" 15 := ⟨[⟨0, 9, 12, 15⟩], ⟨0, 9, 15, 17⟩, [], "java/lang/IllegalStateException", rfl, List.forall_mem_cons.mpr ⟨Or.inr ⟨by decide, "java/lang/IllegalArgumentException", tw_190, by decide⟩, fun u hu => absurd hu List.not_mem_nil⟩, by decide, by decide, tw_191, tw_289, rfl⟩
set_option maxRecDepth 100000 in
set_option maxHeartbeats 4000000 in
theorem w_La_tick {X : CX} {KX : Int32 × MS → Prop} {a0 : Option Nat} {a1 : Int32} {a2 : Option Nat} {s : MS} (ok : Ok X cL_tick RL rm_La_tick 4 true) (hret : ∀ r : Int32 × MS, KX r → Fiw X [(0, 9, 12, 15), (0, 9, 15, 17)] 1 6 (some (vI r.1)) r.2)  (hl : X.1.2.1.stackTraces = false)  {res : Int32 × MS} (h : f_La_tick a0 a1 a2 s = some res) (hk : KX res) : G X s 0 0 0 [(0, vR a0), (1, vI a1), (2, vR a2)] [] := by
  unfold f_La_tick at h
  refine g_aload_n (i := 2) 2 ok d_La_tick_0 rfl rfl ?_
  refine g_iconst (v := (0 : Int32)) ok d_La_tick_1 (by decide) ?_
  refine g_aload_n (i := 0) 0 ok d_La_tick_2 rfl rfl ?_
  refine g_iload_n (i := 1) 1 ok d_La_tick_3 rfl rfl ?_
  obtain ⟨k1, hk2, h⟩ := bnd_go h
  refine g_sub [] rfl ?_
  obtain ⟨n3, hn4, h⟩ := bnd_go h
  obtain ⟨t6, x7, s8, hc9, h⟩ := bnd3_go h
  refine g_callX (rm2 := rm_Sk_tick) (As := [vI a1]) (rest := [vI (0 : Int32), vR a2]) ok (hret _ hk) hk2 lay_0 rfl (c_Sk_tick hl (rf_self hk2) hc9) cm_Sk_tick cv_Sk_tick tw_587 ⟨rfl, rfl⟩ ⟨le_t rfl, le_t rfl⟩ ⟨rfl, le_t rfl⟩ ⟨le_t rfl, le_t rfl⟩ trivial ⟨trivial, ⟨(rk_rl hn4), trivial⟩⟩ d_La_tick_4 rfl (fun c11 m10 => ?_) (fun E c11 => ?_)
  · have c0 : t6 = 0 := tcode_0 c11
    replace h := (if_pos c0).symm.trans h
    show G X s8 1 6 7 [] [vI x7, vI (0 : Int32), vR a2]
    refine g_i2l ok d_La_tick_7 ?_
    obtain ⟨k12, hk13, h⟩ := bnd_go h
    refine g_last ok hk13 d_La_tick_8 ?_
    obtain ⟨s14, e15⟩ : ∃ z, wi s8 k12 (0 : Int32).toNatClampNeg x7 = z := ⟨_, rfl⟩
    replace h := lt_go h e15
    have m16 := mo_wi e15
    rw [e15]
    refine g_goto (tgt := 18) ok d_La_tick_9 (by decide) ?_
    refine g_iconst (v := (0 : Int32)) ok d_La_tick_18 (by decide) ?_
    cases h
    exact g_iretW ok (hret _ hk) (by decide) (by decide) d_La_tick_19
  · have c0 : ¬ t6 = 0 := tcode_n c11
    replace h := (if_neg c0).symm.trans h
    by_cases c2 : t6 = 2
    · replace h := (if_pos c2).symm.trans h
      have hE : (some "java/lang/IllegalArgumentException" : Option String) = some E := by rw [← c11, c2]; rfl
      cases hE
      refine ⟨12, hx_La_tick_2, fun q9 m10 => ?_⟩
      refine g_astorew_n (i := 3) [(3, vW (Value.ref q9))] ok d_La_tick_12 rfl (by decide) rfl ?_
      refine g_iconst (v := (1 : Int32)) ok d_La_tick_13 (by decide) ?_
      cases h
      exact g_iretW ok (hret _ hk) (by decide) (by decide) d_La_tick_14
    · replace h := (if_neg c2).symm.trans h
      by_cases c3 : t6 = 3
      · replace h := (if_pos c3).symm.trans h
        have hE : (some "java/lang/IllegalStateException" : Option String) = some E := by rw [← c11, c3]; rfl
        cases hE
        refine ⟨15, hx_La_tick_3, fun q9 m10 => ?_⟩
        refine g_astorew_n (i := 3) [(3, vW (Value.ref q9))] ok d_La_tick_15 rfl (by decide) rfl ?_
        refine g_iconst (v := (2 : Int32)) ok d_La_tick_16 (by decide) ?_
        cases h
        exact g_iretW ok (hret _ hk) (by decide) (by decide) d_La_tick_17
      · replace h := (if_neg c3).symm.trans h
        cases h
theorem c_La_tick {l : Launch} (hl : l.stackTraces = false) {a0 : Option Nat} {a1 : Int32} {a2 : Option Nat} {s : MS} {r : Int32} {z : MS} (h : f_La_tick a0 a1 a2 s = some (r, z)) : Cw l yL_tick (.codeWith yL_tick cL_tick 4 (some .int) [(0, 9, 12, 15), (0, 9, 15, 17)]) rm_La_tick 1 6 [vR a0, vI a1, vR a2] s (some (vI r)) z :=
  Cw.of rfl (by decide +kernel) ⟨rfl, le_t rfl⟩ cm_La_tick.1 (fun X ok fn _ hl2 => w_La_tick (KX := fun y => y = (r, z)) ok (fun y hy => by subst hy; exact fn) (by rw [hl2]; exact hl) h rfl)
abbrev rm_La_lose : Room := { frames := 7, cells := 1, slots := 6, locals := 113 }
theorem cm_La_lose : (Cond.codeWith yL_lose cL_lose 4 (some .int) [(0, 9, 12, 13), (0, 9, 15, 17)]) ∈ TT ∧ (Cond.initialized yL_lose.cls) ∈ TT ∧ yL_lose.cls ≠ "java/lang/invoke/MethodHandle" ∧ yL_lose.cls ≠ "java/lang/invoke/VarHandle" ∧ (parseMethodDescriptor yL_lose.desc).map (fun d => d.parameters.length) = some 3 := ⟨tw_638, tw_0, by decide, by decide, by decide +kernel⟩
theorem cs_La_lose : cfS yL_lose := tw_637
theorem d_La_lose_0 : decode cL_lose 0 = .ok (.aload_n 2, 1) := by decide +kernel
theorem d_La_lose_1 : decode cL_lose 1 = .ok (.iconst 0, 1) := by decide +kernel
theorem d_La_lose_2 : decode cL_lose 2 = .ok (.aload_n 0, 1) := by decide +kernel
theorem d_La_lose_3 : decode cL_lose 3 = .ok (.iload_n 1, 1) := by decide +kernel
theorem d_La_lose_4 : decode cL_lose 4 = .ok (.invokevirtual 56, 3) := by decide +kernel
theorem d_La_lose_7 : decode cL_lose 7 = .ok (.i2l, 1) := by decide +kernel
theorem d_La_lose_8 : decode cL_lose 8 = .ok (.lastore, 1) := by decide +kernel
theorem d_La_lose_9 : decode cL_lose 9 = .ok (.goto 9, 3) := by decide +kernel
theorem d_La_lose_12 : decode cL_lose 12 = .ok (.astore_n 3, 1) := by decide +kernel
theorem d_La_lose_13 : decode cL_lose 13 = .ok (.iconst 1, 1) := by decide +kernel
theorem d_La_lose_14 : decode cL_lose 14 = .ok (.ireturn, 1) := by decide +kernel
theorem d_La_lose_15 : decode cL_lose 15 = .ok (.astore_n 3, 1) := by decide +kernel
theorem d_La_lose_16 : decode cL_lose 16 = .ok (.iconst 2, 1) := by decide +kernel
theorem d_La_lose_17 : decode cL_lose 17 = .ok (.ireturn, 1) := by decide +kernel
theorem d_La_lose_18 : decode cL_lose 18 = .ok (.iconst 0, 1) := by decide +kernel
theorem d_La_lose_19 : decode cL_lose 19 = .ok (.ireturn, 1) := by decide +kernel
theorem hx_La_lose_1 : hdl RL (tableOf [(0, 9, 12, 13), (0, 9, 15, 17)]) 4 "java/lang/IndexOutOfBoundsException" 12 := ⟨[], ⟨0, 9, 12, 13⟩, [⟨0, 9, 15, 17⟩], "java/lang/IndexOutOfBoundsException", rfl, fun u hu => absurd hu List.not_mem_nil, by decide, by decide, tw_189, tw_201, rfl⟩
theorem hx_La_lose_3 : hdl RL (tableOf [(0, 9, 12, 13), (0, 9, 15, 17)]) 4 "java/lang/IllegalStateException" 15 := ⟨[⟨0, 9, 12, 13⟩], ⟨0, 9, 15, 17⟩, [], "java/lang/IllegalStateException", rfl, List.forall_mem_cons.mpr ⟨Or.inr ⟨by decide, "java/lang/IndexOutOfBoundsException", tw_189, by decide⟩, fun u hu => absurd hu List.not_mem_nil⟩, by decide, by decide, tw_191, tw_289, rfl⟩
set_option maxRecDepth 100000 in
set_option maxHeartbeats 4000000 in
theorem w_La_lose {X : CX} {KX : Int32 × MS → Prop} {a0 : Option Nat} {a1 : Int32} {a2 : Option Nat} {s : MS} (ok : Ok X cL_lose RL rm_La_lose 4 true) (hret : ∀ r : Int32 × MS, KX r → Fiw X [(0, 9, 12, 13), (0, 9, 15, 17)] 1 6 (some (vI r.1)) r.2)  (hl : X.1.2.1.stackTraces = false)  {res : Int32 × MS} (h : f_La_lose a0 a1 a2 s = some res) (hk : KX res) : G X s 0 0 0 [(0, vR a0), (1, vI a1), (2, vR a2)] [] := by
  unfold f_La_lose at h
  refine g_aload_n (i := 2) 2 ok d_La_lose_0 rfl rfl ?_
  refine g_iconst (v := (0 : Int32)) ok d_La_lose_1 (by decide) ?_
  refine g_aload_n (i := 0) 0 ok d_La_lose_2 rfl rfl ?_
  refine g_iload_n (i := 1) 1 ok d_La_lose_3 rfl rfl ?_
  obtain ⟨k1, hk2, h⟩ := bnd_go h
  refine g_sub [] rfl ?_
  obtain ⟨n3, hn4, h⟩ := bnd_go h
  obtain ⟨t6, x7, s8, hc9, h⟩ := bnd3_go h
  refine g_callX (rm2 := rm_Sk_lose) (As := [vI a1]) (rest := [vI (0 : Int32), vR a2]) ok (hret _ hk) hk2 lay_0 rfl (c_Sk_lose hl (rf_self hk2) hc9) cm_Sk_lose cv_Sk_lose tw_639 ⟨rfl, rfl⟩ ⟨le_t rfl, le_t rfl⟩ ⟨rfl, le_t rfl⟩ ⟨le_t rfl, le_t rfl⟩ trivial ⟨trivial, ⟨(rk_rl hn4), trivial⟩⟩ d_La_lose_4 rfl (fun c11 m10 => ?_) (fun E c11 => ?_)
  · have c0 : t6 = 0 := tcode_0 c11
    replace h := (if_pos c0).symm.trans h
    show G X s8 1 6 7 [] [vI x7, vI (0 : Int32), vR a2]
    refine g_i2l ok d_La_lose_7 ?_
    obtain ⟨k12, hk13, h⟩ := bnd_go h
    refine g_last ok hk13 d_La_lose_8 ?_
    obtain ⟨s14, e15⟩ : ∃ z, wi s8 k12 (0 : Int32).toNatClampNeg x7 = z := ⟨_, rfl⟩
    replace h := lt_go h e15
    have m16 := mo_wi e15
    rw [e15]
    refine g_goto (tgt := 18) ok d_La_lose_9 (by decide) ?_
    refine g_iconst (v := (0 : Int32)) ok d_La_lose_18 (by decide) ?_
    cases h
    exact g_iretW ok (hret _ hk) (by decide) (by decide) d_La_lose_19
  · have c0 : ¬ t6 = 0 := tcode_n c11
    replace h := (if_neg c0).symm.trans h
    by_cases c1 : t6 = 1
    · replace h := (if_pos c1).symm.trans h
      have hE : (some "java/lang/IndexOutOfBoundsException" : Option String) = some E := by rw [← c11, c1]; rfl
      cases hE
      refine ⟨12, hx_La_lose_1, fun q9 m10 => ?_⟩
      refine g_astorew_n (i := 3) [(3, vW (Value.ref q9))] ok d_La_lose_12 rfl (by decide) rfl ?_
      refine g_iconst (v := (1 : Int32)) ok d_La_lose_13 (by decide) ?_
      cases h
      exact g_iretW ok (hret _ hk) (by decide) (by decide) d_La_lose_14
    · replace h := (if_neg c1).symm.trans h
      by_cases c3 : t6 = 3
      · replace h := (if_pos c3).symm.trans h
        have hE : (some "java/lang/IllegalStateException" : Option String) = some E := by rw [← c11, c3]; rfl
        cases hE
        refine ⟨15, hx_La_lose_3, fun q9 m10 => ?_⟩
        refine g_astorew_n (i := 3) [(3, vW (Value.ref q9))] ok d_La_lose_15 rfl (by decide) rfl ?_
        refine g_iconst (v := (2 : Int32)) ok d_La_lose_16 (by decide) ?_
        cases h
        exact g_iretW ok (hret _ hk) (by decide) (by decide) d_La_lose_17
      · replace h := (if_neg c3).symm.trans h
        cases h
theorem c_La_lose {l : Launch} (hl : l.stackTraces = false) {a0 : Option Nat} {a1 : Int32} {a2 : Option Nat} {s : MS} {r : Int32} {z : MS} (h : f_La_lose a0 a1 a2 s = some (r, z)) : Cw l yL_lose (.codeWith yL_lose cL_lose 4 (some .int) [(0, 9, 12, 13), (0, 9, 15, 17)]) rm_La_lose 1 6 [vR a0, vI a1, vR a2] s (some (vI r)) z :=
  Cw.of rfl (by decide +kernel) ⟨rfl, le_t rfl⟩ cm_La_lose.1 (fun X ok fn _ hl2 => w_La_lose (KX := fun y => y = (r, z)) ok (fun y hy => by subst hy; exact fn) (by rw [hl2]; exact hl) h rfl)
abbrev rm_La_hold : Room := { frames := 7, cells := 1, slots := 6, locals := 166 }
theorem cm_La_hold : (Cond.codeWith yL_hold cL_hold 5 (some .int) [(0, 10, 13, 13), (0, 10, 17, 15), (0, 10, 21, 17)]) ∈ TT ∧ (Cond.initialized yL_hold.cls) ∈ TT ∧ yL_hold.cls ≠ "java/lang/invoke/MethodHandle" ∧ yL_hold.cls ≠ "java/lang/invoke/VarHandle" ∧ (parseMethodDescriptor yL_hold.desc).map (fun d => d.parameters.length) = some 4 := ⟨tw_647, tw_0, by decide, by decide, by decide +kernel⟩
theorem cs_La_hold : cfS yL_hold := tw_646
theorem d_La_hold_0 : decode cL_hold 0 = .ok (.aload_n 3, 1) := by decide +kernel
theorem d_La_hold_1 : decode cL_hold 1 = .ok (.iconst 0, 1) := by decide +kernel
theorem d_La_hold_2 : decode cL_hold 2 = .ok (.aload_n 0, 1) := by decide +kernel
theorem d_La_hold_3 : decode cL_hold 3 = .ok (.iload_n 1, 1) := by decide +kernel
theorem d_La_hold_4 : decode cL_hold 4 = .ok (.iload_n 2, 1) := by decide +kernel
theorem d_La_hold_5 : decode cL_hold 5 = .ok (.invokevirtual 59, 3) := by decide +kernel
theorem d_La_hold_8 : decode cL_hold 8 = .ok (.i2l, 1) := by decide +kernel
theorem d_La_hold_9 : decode cL_hold 9 = .ok (.lastore, 1) := by decide +kernel
theorem d_La_hold_10 : decode cL_hold 10 = .ok (.goto 15, 3) := by decide +kernel
theorem d_La_hold_13 : decode cL_hold 13 = .ok (.astore 4, 2) := by decide +kernel
theorem d_La_hold_15 : decode cL_hold 15 = .ok (.iconst 1, 1) := by decide +kernel
theorem d_La_hold_16 : decode cL_hold 16 = .ok (.ireturn, 1) := by decide +kernel
theorem d_La_hold_17 : decode cL_hold 17 = .ok (.astore 4, 2) := by decide +kernel
theorem d_La_hold_19 : decode cL_hold 19 = .ok (.iconst 2, 1) := by decide +kernel
theorem d_La_hold_20 : decode cL_hold 20 = .ok (.ireturn, 1) := by decide +kernel
theorem d_La_hold_21 : decode cL_hold 21 = .ok (.astore 4, 2) := by decide +kernel
theorem d_La_hold_23 : decode cL_hold 23 = .ok (.iconst 3, 1) := by decide +kernel
theorem d_La_hold_24 : decode cL_hold 24 = .ok (.ireturn, 1) := by decide +kernel
theorem d_La_hold_25 : decode cL_hold 25 = .ok (.iconst 0, 1) := by decide +kernel
theorem d_La_hold_26 : decode cL_hold 26 = .ok (.ireturn, 1) := by decide +kernel
theorem hx_La_hold_1 : hdl RL (tableOf [(0, 10, 13, 13), (0, 10, 17, 15), (0, 10, 21, 17)]) 5 "java/lang/IndexOutOfBoundsException" 13 := ⟨[], ⟨0, 10, 13, 13⟩, [⟨0, 10, 17, 15⟩, ⟨0, 10, 21, 17⟩], "java/lang/IndexOutOfBoundsException", rfl, fun u hu => absurd hu List.not_mem_nil, by decide, by decide, tw_189, tw_201, rfl⟩
theorem hx_La_hold_2 : hdl RL (tableOf [(0, 10, 13, 13), (0, 10, 17, 15), (0, 10, 21, 17)]) 5 "java/lang/IllegalArgumentException" 17 := ⟨[⟨0, 10, 13, 13⟩], ⟨0, 10, 17, 15⟩, [⟨0, 10, 21, 17⟩], "java/lang/IllegalArgumentException", rfl, List.forall_mem_cons.mpr ⟨Or.inr ⟨by decide, "java/lang/IndexOutOfBoundsException", tw_189, by decide⟩, fun u hu => absurd hu List.not_mem_nil⟩, by decide, by decide, tw_190, tw_269, rfl⟩
theorem hx_La_hold_3 : hdl RL (tableOf [(0, 10, 13, 13), (0, 10, 17, 15), (0, 10, 21, 17)]) 5 "java/lang/IllegalStateException" 21 := ⟨[⟨0, 10, 13, 13⟩, ⟨0, 10, 17, 15⟩], ⟨0, 10, 21, 17⟩, [], "java/lang/IllegalStateException", rfl, List.forall_mem_cons.mpr ⟨Or.inr ⟨by decide, "java/lang/IndexOutOfBoundsException", tw_189, by decide⟩, List.forall_mem_cons.mpr ⟨Or.inr ⟨by decide, "java/lang/IllegalArgumentException", tw_190, by decide⟩, fun u hu => absurd hu List.not_mem_nil⟩⟩, by decide, by decide, tw_191, tw_289, rfl⟩
set_option maxRecDepth 100000 in
set_option maxHeartbeats 4000000 in
theorem w_La_hold {X : CX} {KX : Int32 × MS → Prop} {a0 : Option Nat} {a1 : Int32} {a2 : Int32} {a3 : Option Nat} {s : MS} (ok : Ok X cL_hold RL rm_La_hold 5 true) (hret : ∀ r : Int32 × MS, KX r → Fiw X [(0, 10, 13, 13), (0, 10, 17, 15), (0, 10, 21, 17)] 1 6 (some (vI r.1)) r.2)  (hl : X.1.2.1.stackTraces = false)  {res : Int32 × MS} (h : f_La_hold a0 a1 a2 a3 s = some res) (hk : KX res) : G X s 0 0 0 [(0, vR a0), (1, vI a1), (2, vI a2), (3, vR a3)] [] := by
  unfold f_La_hold at h
  refine g_aload_n (i := 3) 3 ok d_La_hold_0 rfl rfl ?_
  refine g_iconst (v := (0 : Int32)) ok d_La_hold_1 (by decide) ?_
  refine g_aload_n (i := 0) 0 ok d_La_hold_2 rfl rfl ?_
  refine g_iload_n (i := 1) 1 ok d_La_hold_3 rfl rfl ?_
  refine g_iload_n (i := 2) 2 ok d_La_hold_4 rfl rfl ?_
  obtain ⟨k1, hk2, h⟩ := bnd_go h
  refine g_sub [] rfl ?_
  obtain ⟨n3, hn4, h⟩ := bnd_go h
  obtain ⟨t6, x7, s8, hc9, h⟩ := bnd3_go h
  refine g_callX (rm2 := rm_Sk_hold) (As := [vI a1, vI a2]) (rest := [vI (0 : Int32), vR a3]) ok (hret _ hk) hk2 lay_0 rfl (c_Sk_hold hl (rf_self hk2) hc9) cm_Sk_hold cv_Sk_hold tw_648 ⟨rfl, rfl⟩ ⟨le_t rfl, le_t rfl⟩ ⟨rfl, le_t rfl⟩ ⟨le_t rfl, le_t rfl⟩ trivial ⟨trivial, ⟨(rk_rl hn4), trivial⟩⟩ d_La_hold_5 rfl (fun c11 m10 => ?_) (fun E c11 => ?_)
  · have c0 : t6 = 0 := tcode_0 c11
    replace h := (if_pos c0).symm.trans h
    show G X s8 1 6 8 [] [vI x7, vI (0 : Int32), vR a3]
    refine g_i2l ok d_La_hold_8 ?_
    obtain ⟨k12, hk13, h⟩ := bnd_go h
    refine g_last ok hk13 d_La_hold_9 ?_
    obtain ⟨s14, e15⟩ : ∃ z, wi s8 k12 (0 : Int32).toNatClampNeg x7 = z := ⟨_, rfl⟩
    replace h := lt_go h e15
    have m16 := mo_wi e15
    rw [e15]
    refine g_goto (tgt := 25) ok d_La_hold_10 (by decide) ?_
    refine g_iconst (v := (0 : Int32)) ok d_La_hold_25 (by decide) ?_
    cases h
    exact g_iretW ok (hret _ hk) (by decide) (by decide) d_La_hold_26
  · have c0 : ¬ t6 = 0 := tcode_n c11
    replace h := (if_neg c0).symm.trans h
    by_cases c1 : t6 = 1
    · replace h := (if_pos c1).symm.trans h
      have hE : (some "java/lang/IndexOutOfBoundsException" : Option String) = some E := by rw [← c11, c1]; rfl
      cases hE
      refine ⟨13, hx_La_hold_1, fun q9 m10 => ?_⟩
      refine g_astorew (i := 4) [(4, vW (Value.ref q9))] ok d_La_hold_13 (by decide) rfl ?_
      refine g_iconst (v := (1 : Int32)) ok d_La_hold_15 (by decide) ?_
      cases h
      exact g_iretW ok (hret _ hk) (by decide) (by decide) d_La_hold_16
    · replace h := (if_neg c1).symm.trans h
      by_cases c2 : t6 = 2
      · replace h := (if_pos c2).symm.trans h
        have hE : (some "java/lang/IllegalArgumentException" : Option String) = some E := by rw [← c11, c2]; rfl
        cases hE
        refine ⟨17, hx_La_hold_2, fun q9 m10 => ?_⟩
        refine g_astorew (i := 4) [(4, vW (Value.ref q9))] ok d_La_hold_17 (by decide) rfl ?_
        refine g_iconst (v := (2 : Int32)) ok d_La_hold_19 (by decide) ?_
        cases h
        exact g_iretW ok (hret _ hk) (by decide) (by decide) d_La_hold_20
      · replace h := (if_neg c2).symm.trans h
        by_cases c3 : t6 = 3
        · replace h := (if_pos c3).symm.trans h
          have hE : (some "java/lang/IllegalStateException" : Option String) = some E := by rw [← c11, c3]; rfl
          cases hE
          refine ⟨21, hx_La_hold_3, fun q9 m10 => ?_⟩
          refine g_astorew (i := 4) [(4, vW (Value.ref q9))] ok d_La_hold_21 (by decide) rfl ?_
          refine g_iconst (v := (3 : Int32)) ok d_La_hold_23 (by decide) ?_
          cases h
          exact g_iretW ok (hret _ hk) (by decide) (by decide) d_La_hold_24
        · replace h := (if_neg c3).symm.trans h
          cases h
theorem c_La_hold {l : Launch} (hl : l.stackTraces = false) {a0 : Option Nat} {a1 : Int32} {a2 : Int32} {a3 : Option Nat} {s : MS} {r : Int32} {z : MS} (h : f_La_hold a0 a1 a2 a3 s = some (r, z)) : Cw l yL_hold (.codeWith yL_hold cL_hold 5 (some .int) [(0, 10, 13, 13), (0, 10, 17, 15), (0, 10, 21, 17)]) rm_La_hold 1 6 [vR a0, vI a1, vI a2, vR a3] s (some (vI r)) z :=
  Cw.of rfl (by decide +kernel) ⟨rfl, le_t rfl⟩ cm_La_hold.1 (fun X ok fn _ hl2 => w_La_hold (KX := fun y => y = (r, z)) ok (fun y hy => by subst hy; exact fn) (by rw [hl2]; exact hl) h rfl)
abbrev rm_La_home : Room := { frames := 7, cells := 1, slots := 6, locals := 111 }
theorem cm_La_home : (Cond.codeWith yL_home cL_home 4 (some .int) [(0, 9, 12, 13)]) ∈ TT ∧ (Cond.initialized yL_home.cls) ∈ TT ∧ yL_home.cls ≠ "java/lang/invoke/MethodHandle" ∧ yL_home.cls ≠ "java/lang/invoke/VarHandle" ∧ (parseMethodDescriptor yL_home.desc).map (fun d => d.parameters.length) = some 3 := ⟨tw_669, tw_0, by decide, by decide, by decide +kernel⟩
theorem cs_La_home : cfS yL_home := tw_668
theorem d_La_home_0 : decode cL_home 0 = .ok (.aload_n 2, 1) := by decide +kernel
theorem d_La_home_1 : decode cL_home 1 = .ok (.iconst 0, 1) := by decide +kernel
theorem d_La_home_2 : decode cL_home 2 = .ok (.aload_n 0, 1) := by decide +kernel
theorem d_La_home_3 : decode cL_home 3 = .ok (.iload_n 1, 1) := by decide +kernel
theorem d_La_home_4 : decode cL_home 4 = .ok (.invokevirtual 62, 3) := by decide +kernel
theorem d_La_home_7 : decode cL_home 7 = .ok (.i2l, 1) := by decide +kernel
theorem d_La_home_8 : decode cL_home 8 = .ok (.lastore, 1) := by decide +kernel
theorem d_La_home_9 : decode cL_home 9 = .ok (.goto 6, 3) := by decide +kernel
theorem d_La_home_12 : decode cL_home 12 = .ok (.astore_n 3, 1) := by decide +kernel
theorem d_La_home_13 : decode cL_home 13 = .ok (.iconst 1, 1) := by decide +kernel
theorem d_La_home_14 : decode cL_home 14 = .ok (.ireturn, 1) := by decide +kernel
theorem d_La_home_15 : decode cL_home 15 = .ok (.iconst 0, 1) := by decide +kernel
theorem d_La_home_16 : decode cL_home 16 = .ok (.ireturn, 1) := by decide +kernel
theorem hx_La_home_1 : hdl RL (tableOf [(0, 9, 12, 13)]) 4 "java/lang/IndexOutOfBoundsException" 12 := ⟨[], ⟨0, 9, 12, 13⟩, [], "java/lang/IndexOutOfBoundsException", rfl, fun u hu => absurd hu List.not_mem_nil, by decide, by decide, tw_189, tw_201, rfl⟩
set_option maxRecDepth 100000 in
set_option maxHeartbeats 4000000 in
theorem w_La_home {X : CX} {KX : Int32 × MS → Prop} {a0 : Option Nat} {a1 : Int32} {a2 : Option Nat} {s : MS} (ok : Ok X cL_home RL rm_La_home 4 true) (hret : ∀ r : Int32 × MS, KX r → Fiw X [(0, 9, 12, 13)] 1 6 (some (vI r.1)) r.2)  (hl : X.1.2.1.stackTraces = false)  {res : Int32 × MS} (h : f_La_home a0 a1 a2 s = some res) (hk : KX res) : G X s 0 0 0 [(0, vR a0), (1, vI a1), (2, vR a2)] [] := by
  unfold f_La_home at h
  refine g_aload_n (i := 2) 2 ok d_La_home_0 rfl rfl ?_
  refine g_iconst (v := (0 : Int32)) ok d_La_home_1 (by decide) ?_
  refine g_aload_n (i := 0) 0 ok d_La_home_2 rfl rfl ?_
  refine g_iload_n (i := 1) 1 ok d_La_home_3 rfl rfl ?_
  obtain ⟨k1, hk2, h⟩ := bnd_go h
  refine g_sub [] rfl ?_
  obtain ⟨n3, hn4, h⟩ := bnd_go h
  obtain ⟨t6, x7, s8, hc9, h⟩ := bnd3_go h
  refine g_callX (rm2 := rm_Sk_home) (As := [vI a1]) (rest := [vI (0 : Int32), vR a2]) ok (hret _ hk) hk2 lay_0 rfl (c_Sk_home hl (rf_self hk2) hc9) cm_Sk_home cv_Sk_home tw_670 ⟨rfl, rfl⟩ ⟨le_t rfl, le_t rfl⟩ ⟨rfl, le_t rfl⟩ ⟨le_t rfl, le_t rfl⟩ trivial ⟨trivial, ⟨(rk_rl hn4), trivial⟩⟩ d_La_home_4 rfl (fun c11 m10 => ?_) (fun E c11 => ?_)
  · have c0 : t6 = 0 := tcode_0 c11
    replace h := (if_pos c0).symm.trans h
    show G X s8 1 6 7 [] [vI x7, vI (0 : Int32), vR a2]
    refine g_i2l ok d_La_home_7 ?_
    obtain ⟨k12, hk13, h⟩ := bnd_go h
    refine g_last ok hk13 d_La_home_8 ?_
    obtain ⟨s14, e15⟩ : ∃ z, wi s8 k12 (0 : Int32).toNatClampNeg x7 = z := ⟨_, rfl⟩
    replace h := lt_go h e15
    have m16 := mo_wi e15
    rw [e15]
    refine g_goto (tgt := 15) ok d_La_home_9 (by decide) ?_
    refine g_iconst (v := (0 : Int32)) ok d_La_home_15 (by decide) ?_
    cases h
    exact g_iretW ok (hret _ hk) (by decide) (by decide) d_La_home_16
  · have c0 : ¬ t6 = 0 := tcode_n c11
    replace h := (if_neg c0).symm.trans h
    by_cases c1 : t6 = 1
    · replace h := (if_pos c1).symm.trans h
      have hE : (some "java/lang/IndexOutOfBoundsException" : Option String) = some E := by rw [← c11, c1]; rfl
      cases hE
      refine ⟨12, hx_La_home_1, fun q9 m10 => ?_⟩
      refine g_astorew_n (i := 3) [(3, vW (Value.ref q9))] ok d_La_home_12 rfl (by decide) rfl ?_
      refine g_iconst (v := (1 : Int32)) ok d_La_home_13 (by decide) ?_
      cases h
      exact g_iretW ok (hret _ hk) (by decide) (by decide) d_La_home_14
    · replace h := (if_neg c1).symm.trans h
      cases h
theorem c_La_home {l : Launch} (hl : l.stackTraces = false) {a0 : Option Nat} {a1 : Int32} {a2 : Option Nat} {s : MS} {r : Int32} {z : MS} (h : f_La_home a0 a1 a2 s = some (r, z)) : Cw l yL_home (.codeWith yL_home cL_home 4 (some .int) [(0, 9, 12, 13)]) rm_La_home 1 6 [vR a0, vI a1, vR a2] s (some (vI r)) z :=
  Cw.of rfl (by decide +kernel) ⟨rfl, le_t rfl⟩ cm_La_home.1 (fun X ok fn _ hl2 => w_La_home (KX := fun y => y = (r, z)) ok (fun y hy => by subst hy; exact fn) (by rw [hl2]; exact hl) h rfl)
abbrev rm_La_placeAt : Room := { frames := 7, cells := 1, slots := 6, locals := 113 }
theorem cm_La_placeAt : (Cond.codeWith yL_placeAt cL_placeAt 5 (some .int) [(0, 10, 13, 13)]) ∈ TT ∧ (Cond.initialized yL_placeAt.cls) ∈ TT ∧ yL_placeAt.cls ≠ "java/lang/invoke/MethodHandle" ∧ yL_placeAt.cls ≠ "java/lang/invoke/VarHandle" ∧ (parseMethodDescriptor yL_placeAt.desc).map (fun d => d.parameters.length) = some 4 := ⟨tw_676, tw_0, by decide, by decide, by decide +kernel⟩
theorem cs_La_placeAt : cfS yL_placeAt := tw_675
theorem d_La_placeAt_0 : decode cL_placeAt 0 = .ok (.aload_n 3, 1) := by decide +kernel
theorem d_La_placeAt_1 : decode cL_placeAt 1 = .ok (.iconst 0, 1) := by decide +kernel
theorem d_La_placeAt_2 : decode cL_placeAt 2 = .ok (.aload_n 0, 1) := by decide +kernel
theorem d_La_placeAt_3 : decode cL_placeAt 3 = .ok (.iload_n 1, 1) := by decide +kernel
theorem d_La_placeAt_4 : decode cL_placeAt 4 = .ok (.iload_n 2, 1) := by decide +kernel
theorem d_La_placeAt_5 : decode cL_placeAt 5 = .ok (.invokevirtual 65, 3) := by decide +kernel
theorem d_La_placeAt_8 : decode cL_placeAt 8 = .ok (.i2l, 1) := by decide +kernel
theorem d_La_placeAt_9 : decode cL_placeAt 9 = .ok (.lastore, 1) := by decide +kernel
theorem d_La_placeAt_10 : decode cL_placeAt 10 = .ok (.goto 7, 3) := by decide +kernel
theorem d_La_placeAt_13 : decode cL_placeAt 13 = .ok (.astore 4, 2) := by decide +kernel
theorem d_La_placeAt_15 : decode cL_placeAt 15 = .ok (.iconst 1, 1) := by decide +kernel
theorem d_La_placeAt_16 : decode cL_placeAt 16 = .ok (.ireturn, 1) := by decide +kernel
theorem d_La_placeAt_17 : decode cL_placeAt 17 = .ok (.iconst 0, 1) := by decide +kernel
theorem d_La_placeAt_18 : decode cL_placeAt 18 = .ok (.ireturn, 1) := by decide +kernel
theorem hx_La_placeAt_1 : hdl RL (tableOf [(0, 10, 13, 13)]) 5 "java/lang/IndexOutOfBoundsException" 13 := ⟨[], ⟨0, 10, 13, 13⟩, [], "java/lang/IndexOutOfBoundsException", rfl, fun u hu => absurd hu List.not_mem_nil, by decide, by decide, tw_189, tw_201, rfl⟩
set_option maxRecDepth 100000 in
set_option maxHeartbeats 4000000 in
theorem w_La_placeAt {X : CX} {KX : Int32 × MS → Prop} {a0 : Option Nat} {a1 : Int32} {a2 : Int32} {a3 : Option Nat} {s : MS} (ok : Ok X cL_placeAt RL rm_La_placeAt 5 true) (hret : ∀ r : Int32 × MS, KX r → Fiw X [(0, 10, 13, 13)] 1 6 (some (vI r.1)) r.2)  (hl : X.1.2.1.stackTraces = false)  {res : Int32 × MS} (h : f_La_placeAt a0 a1 a2 a3 s = some res) (hk : KX res) : G X s 0 0 0 [(0, vR a0), (1, vI a1), (2, vI a2), (3, vR a3)] [] := by
  unfold f_La_placeAt at h
  refine g_aload_n (i := 3) 3 ok d_La_placeAt_0 rfl rfl ?_
  refine g_iconst (v := (0 : Int32)) ok d_La_placeAt_1 (by decide) ?_
  refine g_aload_n (i := 0) 0 ok d_La_placeAt_2 rfl rfl ?_
  refine g_iload_n (i := 1) 1 ok d_La_placeAt_3 rfl rfl ?_
  refine g_iload_n (i := 2) 2 ok d_La_placeAt_4 rfl rfl ?_
  obtain ⟨k1, hk2, h⟩ := bnd_go h
  refine g_sub [] rfl ?_
  obtain ⟨n3, hn4, h⟩ := bnd_go h
  obtain ⟨t6, x7, s8, hc9, h⟩ := bnd3_go h
  refine g_callX (rm2 := rm_Sk_placeAt) (As := [vI a1, vI a2]) (rest := [vI (0 : Int32), vR a3]) ok (hret _ hk) hk2 lay_0 rfl (c_Sk_placeAt hl (rf_self hk2) hc9) cm_Sk_placeAt cv_Sk_placeAt tw_677 ⟨rfl, rfl⟩ ⟨le_t rfl, le_t rfl⟩ ⟨rfl, le_t rfl⟩ ⟨le_t rfl, le_t rfl⟩ trivial ⟨trivial, ⟨(rk_rl hn4), trivial⟩⟩ d_La_placeAt_5 rfl (fun c11 m10 => ?_) (fun E c11 => ?_)
  · have c0 : t6 = 0 := tcode_0 c11
    replace h := (if_pos c0).symm.trans h
    show G X s8 1 6 8 [] [vI x7, vI (0 : Int32), vR a3]
    refine g_i2l ok d_La_placeAt_8 ?_
    obtain ⟨k12, hk13, h⟩ := bnd_go h
    refine g_last ok hk13 d_La_placeAt_9 ?_
    obtain ⟨s14, e15⟩ : ∃ z, wi s8 k12 (0 : Int32).toNatClampNeg x7 = z := ⟨_, rfl⟩
    replace h := lt_go h e15
    have m16 := mo_wi e15
    rw [e15]
    refine g_goto (tgt := 17) ok d_La_placeAt_10 (by decide) ?_
    refine g_iconst (v := (0 : Int32)) ok d_La_placeAt_17 (by decide) ?_
    cases h
    exact g_iretW ok (hret _ hk) (by decide) (by decide) d_La_placeAt_18
  · have c0 : ¬ t6 = 0 := tcode_n c11
    replace h := (if_neg c0).symm.trans h
    by_cases c1 : t6 = 1
    · replace h := (if_pos c1).symm.trans h
      have hE : (some "java/lang/IndexOutOfBoundsException" : Option String) = some E := by rw [← c11, c1]; rfl
      cases hE
      refine ⟨13, hx_La_placeAt_1, fun q9 m10 => ?_⟩
      refine g_astorew (i := 4) [(4, vW (Value.ref q9))] ok d_La_placeAt_13 (by decide) rfl ?_
      refine g_iconst (v := (1 : Int32)) ok d_La_placeAt_15 (by decide) ?_
      cases h
      exact g_iretW ok (hret _ hk) (by decide) (by decide) d_La_placeAt_16
    · replace h := (if_neg c1).symm.trans h
      cases h
theorem c_La_placeAt {l : Launch} (hl : l.stackTraces = false) {a0 : Option Nat} {a1 : Int32} {a2 : Int32} {a3 : Option Nat} {s : MS} {r : Int32} {z : MS} (h : f_La_placeAt a0 a1 a2 a3 s = some (r, z)) : Cw l yL_placeAt (.codeWith yL_placeAt cL_placeAt 5 (some .int) [(0, 10, 13, 13)]) rm_La_placeAt 1 6 [vR a0, vI a1, vI a2, vR a3] s (some (vI r)) z :=
  Cw.of rfl (by decide +kernel) ⟨rfl, le_t rfl⟩ cm_La_placeAt.1 (fun X ok fn _ hl2 => w_La_placeAt (KX := fun y => y = (r, z)) ok (fun y hy => by subst hy; exact fn) (by rw [hl2]; exact hl) h rfl)
abbrev rm_La_meets : Room := { frames := 7, cells := 1, slots := 6, locals := 114 }
theorem cm_La_meets : (Cond.codeWith yL_meets cL_meets 5 (some .int) [(0, 17, 20, 13)]) ∈ TT ∧ (Cond.initialized yL_meets.cls) ∈ TT ∧ yL_meets.cls ≠ "java/lang/invoke/MethodHandle" ∧ yL_meets.cls ≠ "java/lang/invoke/VarHandle" ∧ (parseMethodDescriptor yL_meets.desc).map (fun d => d.parameters.length) = some 4 := ⟨tw_683, tw_0, by decide, by decide, by decide +kernel⟩
theorem cs_La_meets : cfS yL_meets := tw_682
theorem d_La_meets_0 : decode cL_meets 0 = .ok (.aload_n 3, 1) := by decide +kernel
theorem d_La_meets_1 : decode cL_meets 1 = .ok (.iconst 0, 1) := by decide +kernel
theorem d_La_meets_2 : decode cL_meets 2 = .ok (.aload_n 0, 1) := by decide +kernel
theorem d_La_meets_3 : decode cL_meets 3 = .ok (.iload_n 1, 1) := by decide +kernel
theorem d_La_meets_4 : decode cL_meets 4 = .ok (.iload_n 2, 1) := by decide +kernel
theorem d_La_meets_5 : decode cL_meets 5 = .ok (.invokevirtual 68, 3) := by decide +kernel
theorem d_La_meets_8 : decode cL_meets 8 = .ok (.ifCond .eq 7, 3) := by decide +kernel
theorem d_La_meets_11 : decode cL_meets 11 = .ok (.lconst 1, 1) := by decide +kernel
theorem d_La_meets_12 : decode cL_meets 12 = .ok (.goto 4, 3) := by decide +kernel
theorem d_La_meets_15 : decode cL_meets 15 = .ok (.lconst 0, 1) := by decide +kernel
theorem d_La_meets_16 : decode cL_meets 16 = .ok (.lastore, 1) := by decide +kernel
theorem d_La_meets_17 : decode cL_meets 17 = .ok (.goto 7, 3) := by decide +kernel
theorem d_La_meets_20 : decode cL_meets 20 = .ok (.astore 4, 2) := by decide +kernel
theorem d_La_meets_22 : decode cL_meets 22 = .ok (.iconst 1, 1) := by decide +kernel
theorem d_La_meets_23 : decode cL_meets 23 = .ok (.ireturn, 1) := by decide +kernel
theorem d_La_meets_24 : decode cL_meets 24 = .ok (.iconst 0, 1) := by decide +kernel
theorem d_La_meets_25 : decode cL_meets 25 = .ok (.ireturn, 1) := by decide +kernel
theorem hx_La_meets_1 : hdl RL (tableOf [(0, 17, 20, 13)]) 5 "java/lang/IndexOutOfBoundsException" 20 := ⟨[], ⟨0, 17, 20, 13⟩, [], "java/lang/IndexOutOfBoundsException", rfl, fun u hu => absurd hu List.not_mem_nil, by decide, by decide, tw_189, tw_201, rfl⟩
set_option maxRecDepth 100000 in
set_option maxHeartbeats 4000000 in
theorem w_La_meets {X : CX} {KX : Int32 × MS → Prop} {a0 : Option Nat} {a1 : Int32} {a2 : Int32} {a3 : Option Nat} {s : MS} (ok : Ok X cL_meets RL rm_La_meets 5 true) (hret : ∀ r : Int32 × MS, KX r → Fiw X [(0, 17, 20, 13)] 1 6 (some (vI r.1)) r.2)  (hl : X.1.2.1.stackTraces = false)  {res : Int32 × MS} (h : f_La_meets a0 a1 a2 a3 s = some res) (hk : KX res) : G X s 0 0 0 [(0, vR a0), (1, vI a1), (2, vI a2), (3, vR a3)] [] := by
  unfold f_La_meets at h
  refine g_aload_n (i := 3) 3 ok d_La_meets_0 rfl rfl ?_
  refine g_iconst (v := (0 : Int32)) ok d_La_meets_1 (by decide) ?_
  refine g_aload_n (i := 0) 0 ok d_La_meets_2 rfl rfl ?_
  refine g_iload_n (i := 1) 1 ok d_La_meets_3 rfl rfl ?_
  refine g_iload_n (i := 2) 2 ok d_La_meets_4 rfl rfl ?_
  obtain ⟨k1, hk2, h⟩ := bnd_go h
  refine g_sub [] rfl ?_
  obtain ⟨n3, hn4, h⟩ := bnd_go h
  obtain ⟨t6, x7, s8, hc9, h⟩ := bnd3_go h
  refine g_callX (rm2 := rm_Sk_meets) (As := [vI a1, vI a2]) (rest := [vI (0 : Int32), vR a3]) ok (hret _ hk) hk2 lay_0 rfl (c_Sk_meets hl (rf_self hk2) hc9) cm_Sk_meets cv_Sk_meets tw_684 ⟨rfl, rfl⟩ ⟨le_t rfl, le_t rfl⟩ ⟨rfl, le_t rfl⟩ ⟨le_t rfl, le_t rfl⟩ trivial ⟨trivial, ⟨(rk_rl hn4), trivial⟩⟩ d_La_meets_5 rfl (fun c11 m10 => ?_) (fun E c11 => ?_)
  · have c0 : t6 = 0 := tcode_0 c11
    replace h := (if_pos c0).symm.trans h
    show G X s8 1 6 8 [] [vI x7, vI (0 : Int32), vR a3]
    refine g_if_eq (tgt := 15) ok d_La_meets_8 (by decide) (fun c12 => ?_) (fun c12 => ?_)
    · replace h := (if_pos c12).symm.trans h
      refine g_lconst (v := (0 : Int32)) ok d_La_meets_15 (by decide) ?_
      obtain ⟨k13, hk14, h⟩ := bnd_go h
      refine g_last ok hk14 d_La_meets_16 ?_
      obtain ⟨s15, e16⟩ : ∃ z, wi s8 k13 (0 : Int32).toNatClampNeg (0 : Int32) = z := ⟨_, rfl⟩
      replace h := lt_go h e16
      have m17 := mo_wi e16
      rw [e16]
      refine g_goto (tgt := 24) ok d_La_meets_17 (by decide) ?_
      refine g_iconst (v := (0 : Int32)) ok d_La_meets_24 (by decide) ?_
      cases h
      exact g_iretW ok (hret _ hk) (by decide) (by decide) d_La_meets_25
    · replace h := (if_neg c12).symm.trans h
      refine g_lconst (v := (1 : Int32)) ok d_La_meets_11 (by decide) ?_
      refine g_goto (tgt := 16) ok d_La_meets_12 (by decide) ?_
      obtain ⟨k18, hk19, h⟩ := bnd_go h
      refine g_last ok hk19 d_La_meets_16 ?_
      obtain ⟨s20, e21⟩ : ∃ z, wi s8 k18 (0 : Int32).toNatClampNeg (1 : Int32) = z := ⟨_, rfl⟩
      replace h := lt_go h e21
      have m22 := mo_wi e21
      rw [e21]
      refine g_goto (tgt := 24) ok d_La_meets_17 (by decide) ?_
      refine g_iconst (v := (0 : Int32)) ok d_La_meets_24 (by decide) ?_
      cases h
      exact g_iretW ok (hret _ hk) (by decide) (by decide) d_La_meets_25
  · have c0 : ¬ t6 = 0 := tcode_n c11
    replace h := (if_neg c0).symm.trans h
    by_cases c1 : t6 = 1
    · replace h := (if_pos c1).symm.trans h
      have hE : (some "java/lang/IndexOutOfBoundsException" : Option String) = some E := by rw [← c11, c1]; rfl
      cases hE
      refine ⟨20, hx_La_meets_1, fun q9 m10 => ?_⟩
      refine g_astorew (i := 4) [(4, vW (Value.ref q9))] ok d_La_meets_20 (by decide) rfl ?_
      refine g_iconst (v := (1 : Int32)) ok d_La_meets_22 (by decide) ?_
      cases h
      exact g_iretW ok (hret _ hk) (by decide) (by decide) d_La_meets_23
    · replace h := (if_neg c1).symm.trans h
      cases h
theorem c_La_meets {l : Launch} (hl : l.stackTraces = false) {a0 : Option Nat} {a1 : Int32} {a2 : Int32} {a3 : Option Nat} {s : MS} {r : Int32} {z : MS} (h : f_La_meets a0 a1 a2 a3 s = some (r, z)) : Cw l yL_meets (.codeWith yL_meets cL_meets 5 (some .int) [(0, 17, 20, 13)]) rm_La_meets 1 6 [vR a0, vI a1, vI a2, vR a3] s (some (vI r)) z :=
  Cw.of rfl (by decide +kernel) ⟨rfl, le_t rfl⟩ cm_La_meets.1 (fun X ok fn _ hl2 => w_La_meets (KX := fun y => y = (r, z)) ok (fun y hy => by subst hy; exact fn) (by rw [hl2]; exact hl) h rfl)
abbrev rm_La_meetsAnew : Room := { frames := 7, cells := 1, slots := 6, locals := 114 }
theorem cm_La_meetsAnew : (Cond.codeWith yL_meetsAnew cL_meetsAnew 5 (some .int) [(0, 17, 20, 13)]) ∈ TT ∧ (Cond.initialized yL_meetsAnew.cls) ∈ TT ∧ yL_meetsAnew.cls ≠ "java/lang/invoke/MethodHandle" ∧ yL_meetsAnew.cls ≠ "java/lang/invoke/VarHandle" ∧ (parseMethodDescriptor yL_meetsAnew.desc).map (fun d => d.parameters.length) = some 4 := ⟨tw_690, tw_0, by decide, by decide, by decide +kernel⟩
theorem cs_La_meetsAnew : cfS yL_meetsAnew := tw_689
theorem d_La_meetsAnew_0 : decode cL_meetsAnew 0 = .ok (.aload_n 3, 1) := by decide +kernel
theorem d_La_meetsAnew_1 : decode cL_meetsAnew 1 = .ok (.iconst 0, 1) := by decide +kernel
theorem d_La_meetsAnew_2 : decode cL_meetsAnew 2 = .ok (.aload_n 0, 1) := by decide +kernel
theorem d_La_meetsAnew_3 : decode cL_meetsAnew 3 = .ok (.iload_n 1, 1) := by decide +kernel
theorem d_La_meetsAnew_4 : decode cL_meetsAnew 4 = .ok (.iload_n 2, 1) := by decide +kernel
theorem d_La_meetsAnew_5 : decode cL_meetsAnew 5 = .ok (.invokevirtual 72, 3) := by decide +kernel
theorem d_La_meetsAnew_8 : decode cL_meetsAnew 8 = .ok (.ifCond .eq 7, 3) := by decide +kernel
theorem d_La_meetsAnew_11 : decode cL_meetsAnew 11 = .ok (.lconst 1, 1) := by decide +kernel
theorem d_La_meetsAnew_12 : decode cL_meetsAnew 12 = .ok (.goto 4, 3) := by decide +kernel
theorem d_La_meetsAnew_15 : decode cL_meetsAnew 15 = .ok (.lconst 0, 1) := by decide +kernel
theorem d_La_meetsAnew_16 : decode cL_meetsAnew 16 = .ok (.lastore, 1) := by decide +kernel
theorem d_La_meetsAnew_17 : decode cL_meetsAnew 17 = .ok (.goto 7, 3) := by decide +kernel
theorem d_La_meetsAnew_20 : decode cL_meetsAnew 20 = .ok (.astore 4, 2) := by decide +kernel
theorem d_La_meetsAnew_22 : decode cL_meetsAnew 22 = .ok (.iconst 1, 1) := by decide +kernel
theorem d_La_meetsAnew_23 : decode cL_meetsAnew 23 = .ok (.ireturn, 1) := by decide +kernel
theorem d_La_meetsAnew_24 : decode cL_meetsAnew 24 = .ok (.iconst 0, 1) := by decide +kernel
theorem d_La_meetsAnew_25 : decode cL_meetsAnew 25 = .ok (.ireturn, 1) := by decide +kernel
theorem hx_La_meetsAnew_1 : hdl RL (tableOf [(0, 17, 20, 13)]) 5 "java/lang/IndexOutOfBoundsException" 20 := ⟨[], ⟨0, 17, 20, 13⟩, [], "java/lang/IndexOutOfBoundsException", rfl, fun u hu => absurd hu List.not_mem_nil, by decide, by decide, tw_189, tw_201, rfl⟩
set_option maxRecDepth 100000 in
set_option maxHeartbeats 4000000 in
theorem w_La_meetsAnew {X : CX} {KX : Int32 × MS → Prop} {a0 : Option Nat} {a1 : Int32} {a2 : Int32} {a3 : Option Nat} {s : MS} (ok : Ok X cL_meetsAnew RL rm_La_meetsAnew 5 true) (hret : ∀ r : Int32 × MS, KX r → Fiw X [(0, 17, 20, 13)] 1 6 (some (vI r.1)) r.2)  (hl : X.1.2.1.stackTraces = false)  {res : Int32 × MS} (h : f_La_meetsAnew a0 a1 a2 a3 s = some res) (hk : KX res) : G X s 0 0 0 [(0, vR a0), (1, vI a1), (2, vI a2), (3, vR a3)] [] := by
  unfold f_La_meetsAnew at h
  refine g_aload_n (i := 3) 3 ok d_La_meetsAnew_0 rfl rfl ?_
  refine g_iconst (v := (0 : Int32)) ok d_La_meetsAnew_1 (by decide) ?_
  refine g_aload_n (i := 0) 0 ok d_La_meetsAnew_2 rfl rfl ?_
  refine g_iload_n (i := 1) 1 ok d_La_meetsAnew_3 rfl rfl ?_
  refine g_iload_n (i := 2) 2 ok d_La_meetsAnew_4 rfl rfl ?_
  obtain ⟨k1, hk2, h⟩ := bnd_go h
  refine g_sub [] rfl ?_
  obtain ⟨n3, hn4, h⟩ := bnd_go h
  obtain ⟨t6, x7, s8, hc9, h⟩ := bnd3_go h
  refine g_callX (rm2 := rm_Sk_meetsAnew) (As := [vI a1, vI a2]) (rest := [vI (0 : Int32), vR a3]) ok (hret _ hk) hk2 lay_0 rfl (c_Sk_meetsAnew hl (rf_self hk2) hc9) cm_Sk_meetsAnew cv_Sk_meetsAnew tw_691 ⟨rfl, rfl⟩ ⟨le_t rfl, le_t rfl⟩ ⟨rfl, le_t rfl⟩ ⟨le_t rfl, le_t rfl⟩ trivial ⟨trivial, ⟨(rk_rl hn4), trivial⟩⟩ d_La_meetsAnew_5 rfl (fun c11 m10 => ?_) (fun E c11 => ?_)
  · have c0 : t6 = 0 := tcode_0 c11
    replace h := (if_pos c0).symm.trans h
    show G X s8 1 6 8 [] [vI x7, vI (0 : Int32), vR a3]
    refine g_if_eq (tgt := 15) ok d_La_meetsAnew_8 (by decide) (fun c12 => ?_) (fun c12 => ?_)
    · replace h := (if_pos c12).symm.trans h
      refine g_lconst (v := (0 : Int32)) ok d_La_meetsAnew_15 (by decide) ?_
      obtain ⟨k13, hk14, h⟩ := bnd_go h
      refine g_last ok hk14 d_La_meetsAnew_16 ?_
      obtain ⟨s15, e16⟩ : ∃ z, wi s8 k13 (0 : Int32).toNatClampNeg (0 : Int32) = z := ⟨_, rfl⟩
      replace h := lt_go h e16
      have m17 := mo_wi e16
      rw [e16]
      refine g_goto (tgt := 24) ok d_La_meetsAnew_17 (by decide) ?_
      refine g_iconst (v := (0 : Int32)) ok d_La_meetsAnew_24 (by decide) ?_
      cases h
      exact g_iretW ok (hret _ hk) (by decide) (by decide) d_La_meetsAnew_25
    · replace h := (if_neg c12).symm.trans h
      refine g_lconst (v := (1 : Int32)) ok d_La_meetsAnew_11 (by decide) ?_
      refine g_goto (tgt := 16) ok d_La_meetsAnew_12 (by decide) ?_
      obtain ⟨k18, hk19, h⟩ := bnd_go h
      refine g_last ok hk19 d_La_meetsAnew_16 ?_
      obtain ⟨s20, e21⟩ : ∃ z, wi s8 k18 (0 : Int32).toNatClampNeg (1 : Int32) = z := ⟨_, rfl⟩
      replace h := lt_go h e21
      have m22 := mo_wi e21
      rw [e21]
      refine g_goto (tgt := 24) ok d_La_meetsAnew_17 (by decide) ?_
      refine g_iconst (v := (0 : Int32)) ok d_La_meetsAnew_24 (by decide) ?_
      cases h
      exact g_iretW ok (hret _ hk) (by decide) (by decide) d_La_meetsAnew_25
  · have c0 : ¬ t6 = 0 := tcode_n c11
    replace h := (if_neg c0).symm.trans h
    by_cases c1 : t6 = 1
    · replace h := (if_pos c1).symm.trans h
      have hE : (some "java/lang/IndexOutOfBoundsException" : Option String) = some E := by rw [← c11, c1]; rfl
      cases hE
      refine ⟨20, hx_La_meetsAnew_1, fun q9 m10 => ?_⟩
      refine g_astorew (i := 4) [(4, vW (Value.ref q9))] ok d_La_meetsAnew_20 (by decide) rfl ?_
      refine g_iconst (v := (1 : Int32)) ok d_La_meetsAnew_22 (by decide) ?_
      cases h
      exact g_iretW ok (hret _ hk) (by decide) (by decide) d_La_meetsAnew_23
    · replace h := (if_neg c1).symm.trans h
      cases h
theorem c_La_meetsAnew {l : Launch} (hl : l.stackTraces = false) {a0 : Option Nat} {a1 : Int32} {a2 : Int32} {a3 : Option Nat} {s : MS} {r : Int32} {z : MS} (h : f_La_meetsAnew a0 a1 a2 a3 s = some (r, z)) : Cw l yL_meetsAnew (.codeWith yL_meetsAnew cL_meetsAnew 5 (some .int) [(0, 17, 20, 13)]) rm_La_meetsAnew 1 6 [vR a0, vI a1, vI a2, vR a3] s (some (vI r)) z :=
  Cw.of rfl (by decide +kernel) ⟨rfl, le_t rfl⟩ cm_La_meetsAnew.1 (fun X ok fn _ hl2 => w_La_meetsAnew (KX := fun y => y = (r, z)) ok (fun y hy => by subst hy; exact fn) (by rw [hl2]; exact hl) h rfl)
abbrev rm_La_ofMachine : Room := { frames := 7, cells := 1, slots := 6, locals := 113 }
theorem cm_La_ofMachine : (Cond.codeWith yL_ofMachine cL_ofMachine 5 (some .int) [(0, 10, 13, 13), (0, 10, 17, 15)]) ∈ TT ∧ (Cond.initialized yL_ofMachine.cls) ∈ TT ∧ yL_ofMachine.cls ≠ "java/lang/invoke/MethodHandle" ∧ yL_ofMachine.cls ≠ "java/lang/invoke/VarHandle" ∧ (parseMethodDescriptor yL_ofMachine.desc).map (fun d => d.parameters.length) = some 4 := ⟨tw_704, tw_0, by decide, by decide, by decide +kernel⟩
theorem cs_La_ofMachine : cfS yL_ofMachine := tw_703
theorem d_La_ofMachine_0 : decode cL_ofMachine 0 = .ok (.aload_n 3, 1) := by decide +kernel
theorem d_La_ofMachine_1 : decode cL_ofMachine 1 = .ok (.iconst 0, 1) := by decide +kernel
theorem d_La_ofMachine_2 : decode cL_ofMachine 2 = .ok (.aload_n 0, 1) := by decide +kernel
theorem d_La_ofMachine_3 : decode cL_ofMachine 3 = .ok (.iload_n 1, 1) := by decide +kernel
theorem d_La_ofMachine_4 : decode cL_ofMachine 4 = .ok (.iload_n 2, 1) := by decide +kernel
theorem d_La_ofMachine_5 : decode cL_ofMachine 5 = .ok (.invokevirtual 75, 3) := by decide +kernel
theorem d_La_ofMachine_8 : decode cL_ofMachine 8 = .ok (.i2l, 1) := by decide +kernel
theorem d_La_ofMachine_9 : decode cL_ofMachine 9 = .ok (.lastore, 1) := by decide +kernel
theorem d_La_ofMachine_10 : decode cL_ofMachine 10 = .ok (.goto 11, 3) := by decide +kernel
theorem d_La_ofMachine_13 : decode cL_ofMachine 13 = .ok (.astore 4, 2) := by decide +kernel
theorem d_La_ofMachine_15 : decode cL_ofMachine 15 = .ok (.iconst 1, 1) := by decide +kernel
theorem d_La_ofMachine_16 : decode cL_ofMachine 16 = .ok (.ireturn, 1) := by decide +kernel
theorem d_La_ofMachine_17 : decode cL_ofMachine 17 = .ok (.astore 4, 2) := by decide +kernel
theorem d_La_ofMachine_19 : decode cL_ofMachine 19 = .ok (.iconst 2, 1) := by decide +kernel
theorem d_La_ofMachine_20 : decode cL_ofMachine 20 = .ok (.ireturn, 1) := by decide +kernel
theorem d_La_ofMachine_21 : decode cL_ofMachine 21 = .ok (.iconst 0, 1) := by decide +kernel
theorem d_La_ofMachine_22 : decode cL_ofMachine 22 = .ok (.ireturn, 1) := by decide +kernel
theorem hx_La_ofMachine_1 : hdl RL (tableOf [(0, 10, 13, 13), (0, 10, 17, 15)]) 5 "java/lang/IndexOutOfBoundsException" 13 := ⟨[], ⟨0, 10, 13, 13⟩, [⟨0, 10, 17, 15⟩], "java/lang/IndexOutOfBoundsException", rfl, fun u hu => absurd hu List.not_mem_nil, by decide, by decide, tw_189, tw_201, rfl⟩
theorem hx_La_ofMachine_2 : hdl RL (tableOf [(0, 10, 13, 13), (0, 10, 17, 15)]) 5 "java/lang/IllegalArgumentException" 17 := ⟨[⟨0, 10, 13, 13⟩], ⟨0, 10, 17, 15⟩, [], "java/lang/IllegalArgumentException", rfl, List.forall_mem_cons.mpr ⟨Or.inr ⟨by decide, "java/lang/IndexOutOfBoundsException", tw_189, by decide⟩, fun u hu => absurd hu List.not_mem_nil⟩, by decide, by decide, tw_190, tw_269, rfl⟩
set_option maxRecDepth 100000 in
set_option maxHeartbeats 4000000 in
theorem w_La_ofMachine {X : CX} {KX : Int32 × MS → Prop} {a0 : Option Nat} {a1 : Int32} {a2 : Int32} {a3 : Option Nat} {s : MS} (ok : Ok X cL_ofMachine RL rm_La_ofMachine 5 true) (hret : ∀ r : Int32 × MS, KX r → Fiw X [(0, 10, 13, 13), (0, 10, 17, 15)] 1 6 (some (vI r.1)) r.2)  (hl : X.1.2.1.stackTraces = false)  {res : Int32 × MS} (h : f_La_ofMachine a0 a1 a2 a3 s = some res) (hk : KX res) : G X s 0 0 0 [(0, vR a0), (1, vI a1), (2, vI a2), (3, vR a3)] [] := by
  unfold f_La_ofMachine at h
  refine g_aload_n (i := 3) 3 ok d_La_ofMachine_0 rfl rfl ?_
  refine g_iconst (v := (0 : Int32)) ok d_La_ofMachine_1 (by decide) ?_
  refine g_aload_n (i := 0) 0 ok d_La_ofMachine_2 rfl rfl ?_
  refine g_iload_n (i := 1) 1 ok d_La_ofMachine_3 rfl rfl ?_
  refine g_iload_n (i := 2) 2 ok d_La_ofMachine_4 rfl rfl ?_
  obtain ⟨k1, hk2, h⟩ := bnd_go h
  refine g_sub [] rfl ?_
  obtain ⟨n3, hn4, h⟩ := bnd_go h
  obtain ⟨t6, x7, s8, hc9, h⟩ := bnd3_go h
  refine g_callX (rm2 := rm_Sk_ofMachine) (As := [vI a1, vI a2]) (rest := [vI (0 : Int32), vR a3]) ok (hret _ hk) hk2 lay_0 rfl (c_Sk_ofMachine hl (rf_self hk2) hc9) cm_Sk_ofMachine cv_Sk_ofMachine tw_705 ⟨rfl, rfl⟩ ⟨le_t rfl, le_t rfl⟩ ⟨rfl, le_t rfl⟩ ⟨le_t rfl, le_t rfl⟩ trivial ⟨trivial, ⟨(rk_rl hn4), trivial⟩⟩ d_La_ofMachine_5 rfl (fun c11 m10 => ?_) (fun E c11 => ?_)
  · have c0 : t6 = 0 := tcode_0 c11
    replace h := (if_pos c0).symm.trans h
    show G X s8 1 6 8 [] [vI x7, vI (0 : Int32), vR a3]
    refine g_i2l ok d_La_ofMachine_8 ?_
    obtain ⟨k12, hk13, h⟩ := bnd_go h
    refine g_last ok hk13 d_La_ofMachine_9 ?_
    obtain ⟨s14, e15⟩ : ∃ z, wi s8 k12 (0 : Int32).toNatClampNeg x7 = z := ⟨_, rfl⟩
    replace h := lt_go h e15
    have m16 := mo_wi e15
    rw [e15]
    refine g_goto (tgt := 21) ok d_La_ofMachine_10 (by decide) ?_
    refine g_iconst (v := (0 : Int32)) ok d_La_ofMachine_21 (by decide) ?_
    cases h
    exact g_iretW ok (hret _ hk) (by decide) (by decide) d_La_ofMachine_22
  · have c0 : ¬ t6 = 0 := tcode_n c11
    replace h := (if_neg c0).symm.trans h
    by_cases c1 : t6 = 1
    · replace h := (if_pos c1).symm.trans h
      have hE : (some "java/lang/IndexOutOfBoundsException" : Option String) = some E := by rw [← c11, c1]; rfl
      cases hE
      refine ⟨13, hx_La_ofMachine_1, fun q9 m10 => ?_⟩
      refine g_astorew (i := 4) [(4, vW (Value.ref q9))] ok d_La_ofMachine_13 (by decide) rfl ?_
      refine g_iconst (v := (1 : Int32)) ok d_La_ofMachine_15 (by decide) ?_
      cases h
      exact g_iretW ok (hret _ hk) (by decide) (by decide) d_La_ofMachine_16
    · replace h := (if_neg c1).symm.trans h
      by_cases c2 : t6 = 2
      · replace h := (if_pos c2).symm.trans h
        have hE : (some "java/lang/IllegalArgumentException" : Option String) = some E := by rw [← c11, c2]; rfl
        cases hE
        refine ⟨17, hx_La_ofMachine_2, fun q9 m10 => ?_⟩
        refine g_astorew (i := 4) [(4, vW (Value.ref q9))] ok d_La_ofMachine_17 (by decide) rfl ?_
        refine g_iconst (v := (2 : Int32)) ok d_La_ofMachine_19 (by decide) ?_
        cases h
        exact g_iretW ok (hret _ hk) (by decide) (by decide) d_La_ofMachine_20
      · replace h := (if_neg c2).symm.trans h
        cases h
theorem c_La_ofMachine {l : Launch} (hl : l.stackTraces = false) {a0 : Option Nat} {a1 : Int32} {a2 : Int32} {a3 : Option Nat} {s : MS} {r : Int32} {z : MS} (h : f_La_ofMachine a0 a1 a2 a3 s = some (r, z)) : Cw l yL_ofMachine (.codeWith yL_ofMachine cL_ofMachine 5 (some .int) [(0, 10, 13, 13), (0, 10, 17, 15)]) rm_La_ofMachine 1 6 [vR a0, vI a1, vI a2, vR a3] s (some (vI r)) z :=
  Cw.of rfl (by decide +kernel) ⟨rfl, le_t rfl⟩ cm_La_ofMachine.1 (fun X ok fn _ hl2 => w_La_ofMachine (KX := fun y => y = (r, z)) ok (fun y hy => by subst hy; exact fn) (by rw [hl2]; exact hl) h rfl)
abbrev rm_La_ofPath : Room := { frames := 7, cells := 1, slots := 6, locals := 113 }
theorem cm_La_ofPath : (Cond.codeWith yL_ofPath cL_ofPath 5 (some .int) [(0, 10, 13, 13), (0, 10, 17, 15)]) ∈ TT ∧ (Cond.initialized yL_ofPath.cls) ∈ TT ∧ yL_ofPath.cls ≠ "java/lang/invoke/MethodHandle" ∧ yL_ofPath.cls ≠ "java/lang/invoke/VarHandle" ∧ (parseMethodDescriptor yL_ofPath.desc).map (fun d => d.parameters.length) = some 4 := ⟨tw_712, tw_0, by decide, by decide, by decide +kernel⟩
theorem cs_La_ofPath : cfS yL_ofPath := tw_711
theorem d_La_ofPath_0 : decode cL_ofPath 0 = .ok (.aload_n 3, 1) := by decide +kernel
theorem d_La_ofPath_1 : decode cL_ofPath 1 = .ok (.iconst 0, 1) := by decide +kernel
theorem d_La_ofPath_2 : decode cL_ofPath 2 = .ok (.aload_n 0, 1) := by decide +kernel
theorem d_La_ofPath_3 : decode cL_ofPath 3 = .ok (.iload_n 1, 1) := by decide +kernel
theorem d_La_ofPath_4 : decode cL_ofPath 4 = .ok (.iload_n 2, 1) := by decide +kernel
theorem d_La_ofPath_5 : decode cL_ofPath 5 = .ok (.invokevirtual 78, 3) := by decide +kernel
theorem d_La_ofPath_8 : decode cL_ofPath 8 = .ok (.i2l, 1) := by decide +kernel
theorem d_La_ofPath_9 : decode cL_ofPath 9 = .ok (.lastore, 1) := by decide +kernel
theorem d_La_ofPath_10 : decode cL_ofPath 10 = .ok (.goto 11, 3) := by decide +kernel
theorem d_La_ofPath_13 : decode cL_ofPath 13 = .ok (.astore 4, 2) := by decide +kernel
theorem d_La_ofPath_15 : decode cL_ofPath 15 = .ok (.iconst 1, 1) := by decide +kernel
theorem d_La_ofPath_16 : decode cL_ofPath 16 = .ok (.ireturn, 1) := by decide +kernel
theorem d_La_ofPath_17 : decode cL_ofPath 17 = .ok (.astore 4, 2) := by decide +kernel
theorem d_La_ofPath_19 : decode cL_ofPath 19 = .ok (.iconst 2, 1) := by decide +kernel
theorem d_La_ofPath_20 : decode cL_ofPath 20 = .ok (.ireturn, 1) := by decide +kernel
theorem d_La_ofPath_21 : decode cL_ofPath 21 = .ok (.iconst 0, 1) := by decide +kernel
theorem d_La_ofPath_22 : decode cL_ofPath 22 = .ok (.ireturn, 1) := by decide +kernel
theorem hx_La_ofPath_1 : hdl RL (tableOf [(0, 10, 13, 13), (0, 10, 17, 15)]) 5 "java/lang/IndexOutOfBoundsException" 13 := ⟨[], ⟨0, 10, 13, 13⟩, [⟨0, 10, 17, 15⟩], "java/lang/IndexOutOfBoundsException", rfl, fun u hu => absurd hu List.not_mem_nil, by decide, by decide, tw_189, tw_201, rfl⟩
theorem hx_La_ofPath_2 : hdl RL (tableOf [(0, 10, 13, 13), (0, 10, 17, 15)]) 5 "java/lang/IllegalArgumentException" 17 := ⟨[⟨0, 10, 13, 13⟩], ⟨0, 10, 17, 15⟩, [], "java/lang/IllegalArgumentException", rfl, List.forall_mem_cons.mpr ⟨Or.inr ⟨by decide, "java/lang/IndexOutOfBoundsException", tw_189, by decide⟩, fun u hu => absurd hu List.not_mem_nil⟩, by decide, by decide, tw_190, tw_269, rfl⟩
set_option maxRecDepth 100000 in
set_option maxHeartbeats 4000000 in
theorem w_La_ofPath {X : CX} {KX : Int32 × MS → Prop} {a0 : Option Nat} {a1 : Int32} {a2 : Int32} {a3 : Option Nat} {s : MS} (ok : Ok X cL_ofPath RL rm_La_ofPath 5 true) (hret : ∀ r : Int32 × MS, KX r → Fiw X [(0, 10, 13, 13), (0, 10, 17, 15)] 1 6 (some (vI r.1)) r.2)  (hl : X.1.2.1.stackTraces = false)  {res : Int32 × MS} (h : f_La_ofPath a0 a1 a2 a3 s = some res) (hk : KX res) : G X s 0 0 0 [(0, vR a0), (1, vI a1), (2, vI a2), (3, vR a3)] [] := by
  unfold f_La_ofPath at h
  refine g_aload_n (i := 3) 3 ok d_La_ofPath_0 rfl rfl ?_
  refine g_iconst (v := (0 : Int32)) ok d_La_ofPath_1 (by decide) ?_
  refine g_aload_n (i := 0) 0 ok d_La_ofPath_2 rfl rfl ?_
  refine g_iload_n (i := 1) 1 ok d_La_ofPath_3 rfl rfl ?_
  refine g_iload_n (i := 2) 2 ok d_La_ofPath_4 rfl rfl ?_
  obtain ⟨k1, hk2, h⟩ := bnd_go h
  refine g_sub [] rfl ?_
  obtain ⟨n3, hn4, h⟩ := bnd_go h
  obtain ⟨t6, x7, s8, hc9, h⟩ := bnd3_go h
  refine g_callX (rm2 := rm_Sk_ofPath) (As := [vI a1, vI a2]) (rest := [vI (0 : Int32), vR a3]) ok (hret _ hk) hk2 lay_0 rfl (c_Sk_ofPath hl (rf_self hk2) hc9) cm_Sk_ofPath cv_Sk_ofPath tw_713 ⟨rfl, rfl⟩ ⟨le_t rfl, le_t rfl⟩ ⟨rfl, le_t rfl⟩ ⟨le_t rfl, le_t rfl⟩ trivial ⟨trivial, ⟨(rk_rl hn4), trivial⟩⟩ d_La_ofPath_5 rfl (fun c11 m10 => ?_) (fun E c11 => ?_)
  · have c0 : t6 = 0 := tcode_0 c11
    replace h := (if_pos c0).symm.trans h
    show G X s8 1 6 8 [] [vI x7, vI (0 : Int32), vR a3]
    refine g_i2l ok d_La_ofPath_8 ?_
    obtain ⟨k12, hk13, h⟩ := bnd_go h
    refine g_last ok hk13 d_La_ofPath_9 ?_
    obtain ⟨s14, e15⟩ : ∃ z, wi s8 k12 (0 : Int32).toNatClampNeg x7 = z := ⟨_, rfl⟩
    replace h := lt_go h e15
    have m16 := mo_wi e15
    rw [e15]
    refine g_goto (tgt := 21) ok d_La_ofPath_10 (by decide) ?_
    refine g_iconst (v := (0 : Int32)) ok d_La_ofPath_21 (by decide) ?_
    cases h
    exact g_iretW ok (hret _ hk) (by decide) (by decide) d_La_ofPath_22
  · have c0 : ¬ t6 = 0 := tcode_n c11
    replace h := (if_neg c0).symm.trans h
    by_cases c1 : t6 = 1
    · replace h := (if_pos c1).symm.trans h
      have hE : (some "java/lang/IndexOutOfBoundsException" : Option String) = some E := by rw [← c11, c1]; rfl
      cases hE
      refine ⟨13, hx_La_ofPath_1, fun q9 m10 => ?_⟩
      refine g_astorew (i := 4) [(4, vW (Value.ref q9))] ok d_La_ofPath_13 (by decide) rfl ?_
      refine g_iconst (v := (1 : Int32)) ok d_La_ofPath_15 (by decide) ?_
      cases h
      exact g_iretW ok (hret _ hk) (by decide) (by decide) d_La_ofPath_16
    · replace h := (if_neg c1).symm.trans h
      by_cases c2 : t6 = 2
      · replace h := (if_pos c2).symm.trans h
        have hE : (some "java/lang/IllegalArgumentException" : Option String) = some E := by rw [← c11, c2]; rfl
        cases hE
        refine ⟨17, hx_La_ofPath_2, fun q9 m10 => ?_⟩
        refine g_astorew (i := 4) [(4, vW (Value.ref q9))] ok d_La_ofPath_17 (by decide) rfl ?_
        refine g_iconst (v := (2 : Int32)) ok d_La_ofPath_19 (by decide) ?_
        cases h
        exact g_iretW ok (hret _ hk) (by decide) (by decide) d_La_ofPath_20
      · replace h := (if_neg c2).symm.trans h
        cases h
theorem c_La_ofPath {l : Launch} (hl : l.stackTraces = false) {a0 : Option Nat} {a1 : Int32} {a2 : Int32} {a3 : Option Nat} {s : MS} {r : Int32} {z : MS} (h : f_La_ofPath a0 a1 a2 a3 s = some (r, z)) : Cw l yL_ofPath (.codeWith yL_ofPath cL_ofPath 5 (some .int) [(0, 10, 13, 13), (0, 10, 17, 15)]) rm_La_ofPath 1 6 [vR a0, vI a1, vI a2, vR a3] s (some (vI r)) z :=
  Cw.of rfl (by decide +kernel) ⟨rfl, le_t rfl⟩ cm_La_ofPath.1 (fun X ok fn _ hl2 => w_La_ofPath (KX := fun y => y = (r, z)) ok (fun y hy => by subst hy; exact fn) (by rw [hl2]; exact hl) h rfl)
abbrev rm_La_count : Room := { frames := 7, cells := 1, slots := 6, locals := 111 }
theorem cm_La_count : (Cond.codeWith yL_count cL_count 4 (some .int) [(0, 9, 12, 15)]) ∈ TT ∧ (Cond.initialized yL_count.cls) ∈ TT ∧ yL_count.cls ≠ "java/lang/invoke/MethodHandle" ∧ yL_count.cls ≠ "java/lang/invoke/VarHandle" ∧ (parseMethodDescriptor yL_count.desc).map (fun d => d.parameters.length) = some 3 := ⟨tw_719, tw_0, by decide, by decide, by decide +kernel⟩
theorem cs_La_count : cfS yL_count := tw_718
theorem d_La_count_0 : decode cL_count 0 = .ok (.aload_n 2, 1) := by decide +kernel
theorem d_La_count_1 : decode cL_count 1 = .ok (.iconst 0, 1) := by decide +kernel
theorem d_La_count_2 : decode cL_count 2 = .ok (.aload_n 0, 1) := by decide +kernel
theorem d_La_count_3 : decode cL_count 3 = .ok (.iload_n 1, 1) := by decide +kernel
theorem d_La_count_4 : decode cL_count 4 = .ok (.invokevirtual 81, 3) := by decide +kernel
theorem d_La_count_7 : decode cL_count 7 = .ok (.i2l, 1) := by decide +kernel
theorem d_La_count_8 : decode cL_count 8 = .ok (.lastore, 1) := by decide +kernel
theorem d_La_count_9 : decode cL_count 9 = .ok (.goto 6, 3) := by decide +kernel
theorem d_La_count_12 : decode cL_count 12 = .ok (.astore_n 3, 1) := by decide +kernel
theorem d_La_count_13 : decode cL_count 13 = .ok (.iconst 1, 1) := by decide +kernel
theorem d_La_count_14 : decode cL_count 14 = .ok (.ireturn, 1) := by decide +kernel
theorem d_La_count_15 : decode cL_count 15 = .ok (.iconst 0, 1) := by decide +kernel
theorem d_La_count_16 : decode cL_count 16 = .ok (.ireturn, 1) := by decide +kernel
theorem hx_La_count_2 : hdl RL (tableOf [(0, 9, 12, 15)]) 4 "java/lang/IllegalArgumentException" 12 := ⟨[], ⟨0, 9, 12, 15⟩, [], "java/lang/IllegalArgumentException", rfl, fun u hu => absurd hu List.not_mem_nil, by decide, by decide, tw_190, tw_269, rfl⟩
set_option maxRecDepth 100000 in
set_option maxHeartbeats 4000000 in
theorem w_La_count {X : CX} {KX : Int32 × MS → Prop} {a0 : Option Nat} {a1 : Int32} {a2 : Option Nat} {s : MS} (ok : Ok X cL_count RL rm_La_count 4 true) (hret : ∀ r : Int32 × MS, KX r → Fiw X [(0, 9, 12, 15)] 1 6 (some (vI r.1)) r.2)  (hl : X.1.2.1.stackTraces = false)  {res : Int32 × MS} (h : f_La_count a0 a1 a2 s = some res) (hk : KX res) : G X s 0 0 0 [(0, vR a0), (1, vI a1), (2, vR a2)] [] := by
  unfold f_La_count at h
  refine g_aload_n (i := 2) 2 ok d_La_count_0 rfl rfl ?_
  refine g_iconst (v := (0 : Int32)) ok d_La_count_1 (by decide) ?_
  refine g_aload_n (i := 0) 0 ok d_La_count_2 rfl rfl ?_
  refine g_iload_n (i := 1) 1 ok d_La_count_3 rfl rfl ?_
  obtain ⟨k1, hk2, h⟩ := bnd_go h
  refine g_sub [] rfl ?_
  obtain ⟨n3, hn4, h⟩ := bnd_go h
  obtain ⟨t6, x7, s8, hc9, h⟩ := bnd3_go h
  refine g_callX (rm2 := rm_Sk_count) (As := [vI a1]) (rest := [vI (0 : Int32), vR a2]) ok (hret _ hk) hk2 lay_0 rfl (c_Sk_count hl (rf_self hk2) hc9) cm_Sk_count cv_Sk_count tw_720 ⟨rfl, rfl⟩ ⟨le_t rfl, le_t rfl⟩ ⟨rfl, le_t rfl⟩ ⟨le_t rfl, le_t rfl⟩ trivial ⟨trivial, ⟨(rk_rl hn4), trivial⟩⟩ d_La_count_4 rfl (fun c11 m10 => ?_) (fun E c11 => ?_)
  · have c0 : t6 = 0 := tcode_0 c11
    replace h := (if_pos c0).symm.trans h
    show G X s8 1 6 7 [] [vI x7, vI (0 : Int32), vR a2]
    refine g_i2l ok d_La_count_7 ?_
    obtain ⟨k12, hk13, h⟩ := bnd_go h
    refine g_last ok hk13 d_La_count_8 ?_
    obtain ⟨s14, e15⟩ : ∃ z, wi s8 k12 (0 : Int32).toNatClampNeg x7 = z := ⟨_, rfl⟩
    replace h := lt_go h e15
    have m16 := mo_wi e15
    rw [e15]
    refine g_goto (tgt := 15) ok d_La_count_9 (by decide) ?_
    refine g_iconst (v := (0 : Int32)) ok d_La_count_15 (by decide) ?_
    cases h
    exact g_iretW ok (hret _ hk) (by decide) (by decide) d_La_count_16
  · have c0 : ¬ t6 = 0 := tcode_n c11
    replace h := (if_neg c0).symm.trans h
    by_cases c2 : t6 = 2
    · replace h := (if_pos c2).symm.trans h
      have hE : (some "java/lang/IllegalArgumentException" : Option String) = some E := by rw [← c11, c2]; rfl
      cases hE
      refine ⟨12, hx_La_count_2, fun q9 m10 => ?_⟩
      refine g_astorew_n (i := 3) [(3, vW (Value.ref q9))] ok d_La_count_12 rfl (by decide) rfl ?_
      refine g_iconst (v := (1 : Int32)) ok d_La_count_13 (by decide) ?_
      cases h
      exact g_iretW ok (hret _ hk) (by decide) (by decide) d_La_count_14
    · replace h := (if_neg c2).symm.trans h
      cases h
theorem c_La_count {l : Launch} (hl : l.stackTraces = false) {a0 : Option Nat} {a1 : Int32} {a2 : Option Nat} {s : MS} {r : Int32} {z : MS} (h : f_La_count a0 a1 a2 s = some (r, z)) : Cw l yL_count (.codeWith yL_count cL_count 4 (some .int) [(0, 9, 12, 15)]) rm_La_count 1 6 [vR a0, vI a1, vR a2] s (some (vI r)) z :=
  Cw.of rfl (by decide +kernel) ⟨rfl, le_t rfl⟩ cm_La_count.1 (fun X ok fn _ hl2 => w_La_count (KX := fun y => y = (r, z)) ok (fun y hy => by subst hy; exact fn) (by rw [hl2]; exact hl) h rfl)
