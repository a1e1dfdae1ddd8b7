abbrev rm_Mo_takes : Room := { frames := 3, cells := 0, slots := 0, locals := 73 }
theorem cm_Mo_takes : cfM yX5_takes cX5_takes 5 (some .int) 1 := ⟨tw_889, tw_4, by decide, by decide, by decide +kernel⟩
theorem cv_Mo_takes : cfV yX5_takes := ⟨tw_887, tw_888⟩
theorem d_Mo_takes_0 : decode cX5_takes 0 = .ok (.aload_n 0, 1) := by decide +kernel
theorem d_Mo_takes_1 : decode cX5_takes 1 = .ok (.iload_n 1, 1) := by decide +kernel
theorem d_Mo_takes_2 : decode cX5_takes 2 = .ok (.invokevirtual 123, 3) := by decide +kernel
theorem d_Mo_takes_5 : decode cX5_takes 5 = .ok (.istore_n 2, 1) := by decide +kernel
theorem d_Mo_takes_6 : decode cX5_takes 6 = .ok (.aload_n 0, 1) := by decide +kernel
theorem d_Mo_takes_7 : decode cX5_takes 7 = .ok (.iload_n 2, 1) := by decide +kernel
theorem d_Mo_takes_8 : decode cX5_takes 8 = .ok (.ifCond .eq 7, 3) := by decide +kernel
theorem d_Mo_takes_11 : decode cX5_takes 11 = .ok (.iconst 0, 1) := by decide +kernel
theorem d_Mo_takes_12 : decode cX5_takes 12 = .ok (.goto 4, 3) := by decide +kernel
theorem d_Mo_takes_15 : decode cX5_takes 15 = .ok (.iconst 1, 1) := by decide +kernel
theorem d_Mo_takes_16 : decode cX5_takes 16 = .ok (.invokevirtual 89, 3) := by decide +kernel
theorem d_Mo_takes_19 : decode cX5_takes 19 = .ok (.ifCond .ne 21, 3) := by decide +kernel
theorem d_Mo_takes_22 : decode cX5_takes 22 = .ok (.aload_n 0, 1) := by decide +kernel
theorem d_Mo_takes_23 : decode cX5_takes 23 = .ok (.getfield 35, 3) := by decide +kernel
theorem d_Mo_takes_26 : decode cX5_takes 26 = .ok (.iload_n 1, 1) := by decide +kernel
theorem d_Mo_takes_27 : decode cX5_takes 27 = .ok (.iaload, 1) := by decide +kernel
theorem d_Mo_takes_28 : decode cX5_takes 28 = .ok (.ifCond .ne 12, 3) := by decide +kernel
theorem d_Mo_takes_31 : decode cX5_takes 31 = .ok (.aload_n 0, 1) := by decide +kernel
theorem d_Mo_takes_32 : decode cX5_takes 32 = .ok (.iload_n 1, 1) := by decide +kernel
theorem d_Mo_takes_33 : decode cX5_takes 33 = .ok (.invokevirtual 126, 3) := by decide +kernel
theorem d_Mo_takes_36 : decode cX5_takes 36 = .ok (.iconst (-1), 1) := by decide +kernel
theorem d_Mo_takes_37 : decode cX5_takes 37 = .ok (.if_icmp .eq 13, 3) := by decide +kernel
theorem d_Mo_takes_40 : decode cX5_takes 40 = .ok (.iload_n 2, 1) := by decide +kernel
theorem d_Mo_takes_41 : decode cX5_takes 41 = .ok (.ifCond .eq 7, 3) := by decide +kernel
theorem d_Mo_takes_44 : decode cX5_takes 44 = .ok (.iconst (-1), 1) := by decide +kernel
theorem d_Mo_takes_45 : decode cX5_takes 45 = .ok (.goto 4, 3) := by decide +kernel
theorem d_Mo_takes_48 : decode cX5_takes 48 = .ok (.iconst 0, 1) := by decide +kernel
theorem d_Mo_takes_49 : decode cX5_takes 49 = .ok (.ireturn, 1) := by decide +kernel
theorem d_Mo_takes_50 : decode cX5_takes 50 = .ok (.iconst 0, 1) := by decide +kernel
theorem d_Mo_takes_51 : decode cX5_takes 51 = .ok (.istore_n 3, 1) := by decide +kernel
theorem d_Mo_takes_52 : decode cX5_takes 52 = .ok (.sipush 3240, 3) := by decide +kernel
theorem d_Mo_takes_55 : decode cX5_takes 55 = .ok (.istore 4, 2) := by decide +kernel
theorem d_Mo_takes_57 : decode cX5_takes 57 = .ok (.iload 4, 2) := by decide +kernel
theorem d_Mo_takes_59 : decode cX5_takes 59 = .ok (.sipush 3240, 3) := by decide +kernel
theorem d_Mo_takes_62 : decode cX5_takes 62 = .ok (.aload_n 0, 1) := by decide +kernel
theorem d_Mo_takes_63 : decode cX5_takes 63 = .ok (.getfield 117, 3) := by decide +kernel
theorem d_Mo_takes_66 : decode cX5_takes 66 = .ok (.iadd, 1) := by decide +kernel
theorem d_Mo_takes_67 : decode cX5_takes 67 = .ok (.if_icmp .ge 35, 3) := by decide +kernel
theorem d_Mo_takes_70 : decode cX5_takes 70 = .ok (.iload_n 3, 1) := by decide +kernel
theorem d_Mo_takes_71 : decode cX5_takes 71 = .ok (.aload_n 0, 1) := by decide +kernel
theorem d_Mo_takes_72 : decode cX5_takes 72 = .ok (.getfield 62, 3) := by decide +kernel
theorem d_Mo_takes_75 : decode cX5_takes 75 = .ok (.iload 4, 2) := by decide +kernel
theorem d_Mo_takes_77 : decode cX5_takes 77 = .ok (.iaload, 1) := by decide +kernel
theorem d_Mo_takes_78 : decode cX5_takes 78 = .ok (.aload_n 0, 1) := by decide +kernel
theorem d_Mo_takes_79 : decode cX5_takes 79 = .ok (.getfield 62, 3) := by decide +kernel
theorem d_Mo_takes_82 : decode cX5_takes 82 = .ok (.iload 4, 2) := by decide +kernel
theorem d_Mo_takes_84 : decode cX5_takes 84 = .ok (.iconst 1, 1) := by decide +kernel
theorem d_Mo_takes_85 : decode cX5_takes 85 = .ok (.iadd, 1) := by decide +kernel
theorem d_Mo_takes_86 : decode cX5_takes 86 = .ok (.iaload, 1) := by decide +kernel
theorem d_Mo_takes_87 : decode cX5_takes 87 = .ok (.aload_n 0, 1) := by decide +kernel
theorem d_Mo_takes_88 : decode cX5_takes 88 = .ok (.getfield 17, 3) := by decide +kernel
theorem d_Mo_takes_91 : decode cX5_takes 91 = .ok (.invokestatic 129, 3) := by decide +kernel
theorem d_Mo_takes_94 : decode cX5_takes 94 = .ok (.iadd, 1) := by decide +kernel
theorem d_Mo_takes_95 : decode cX5_takes 95 = .ok (.istore_n 3, 1) := by decide +kernel
theorem d_Mo_takes_96 : decode cX5_takes 96 = .ok (.iinc 4 1, 3) := by decide +kernel
theorem d_Mo_takes_99 : decode cX5_takes 99 = .ok (.goto (-42), 3) := by decide +kernel
theorem d_Mo_takes_102 : decode cX5_takes 102 = .ok (.iload_n 3, 1) := by decide +kernel
theorem d_Mo_takes_103 : decode cX5_takes 103 = .ok (.ireturn, 1) := by decide +kernel
set_option maxRecDepth 100000 in
set_option maxHeartbeats 4000000 in
theorem w_b_Mo_takes_57 {X : CX} {KX : Int32 → Prop} {k : Nat} {a3 : Int32} {a4 : Int32} {s : MS} {rec : Int32 → Int32 → Option (Int32)} (ok : Ok X cX5_takes RX5 rm_Mo_takes 5 false) (hexit : ∀ (e3 : Int32), KX e3 → G X s 0 0 102 [(0, vR (some k)), (3, vI e3)] []) (hrec : ∀ (v3 : Int32) (v4 : Int32), ∀ y, rec v3 v4 = some y → KX y → G X s 0 0 57 [(0, vR (some k)), (3, vI v3), (4, vI v4)] []) (ht : rf s.2.2 20 (some k) = some k) {res : Int32} (h : b_Mo_takes_57 k a3 a4 s rec = some res) (hk : KX res) : G X s 0 0 57 [(0, vR (some k)), (3, vI a3), (4, vI a4)] [] := by
  unfold b_Mo_takes_57 at h
  refine g_iload (i := 4) 2 ok d_Mo_takes_57 rfl ?_
  refine g_sipush (v := (3240 : Int32)) ok d_Mo_takes_59 (by decide) ?_
  refine g_aload_n (i := 0) 0 ok d_Mo_takes_62 rfl rfl ?_
  refine g_geti (s0 := 20) (j := 15) (ci := 5) (C := RX5) (T := TX5) (N := 29) ok ht lay_20 rfl inX5 (by decide) rfl tw_753 rfl d_Mo_takes_63 ?_
  refine g_iadd ok d_Mo_takes_66 ?_
  refine g_icmp_ge (tgt := 102) ok d_Mo_takes_67 (by decide) (fun c20 => ?_) (fun c20 => ?_)
  · replace h := (if_pos c20).symm.trans h
    refine g_iload_n (i := 3) 1 ok d_Mo_takes_70 rfl rfl ?_
    refine g_aload_n (i := 0) 0 ok d_Mo_takes_71 rfl rfl ?_
    refine g_getr (s0 := 20) (j := 23) (ci := 5) (C := RX5) (T := TX5) (N := 29) ok ht lay_20 rfl inX5 (by decide) rfl tw_761 rfl d_Mo_takes_72 ?_
    refine g_iload (i := 4) 2 ok d_Mo_takes_75 rfl ?_
    obtain ⟨k21, hk22, h⟩ := bnd_go h
    refine g_iald ok hk22 d_Mo_takes_77 ?_
    refine g_aload_n (i := 0) 0 ok d_Mo_takes_78 rfl rfl ?_
    refine g_getr (s0 := 20) (j := 23) (ci := 5) (C := RX5) (T := TX5) (N := 29) ok ht lay_20 rfl inX5 (by decide) rfl tw_761 rfl d_Mo_takes_79 ?_
    refine g_iload (i := 4) 2 ok d_Mo_takes_82 rfl ?_
    refine g_iconst (v := (1 : Int32)) ok d_Mo_takes_84 (by decide) ?_
    refine g_iadd ok d_Mo_takes_85 ?_
    obtain ⟨k23, hk24, h⟩ := bnd_go h
    refine g_iald ok hk24 d_Mo_takes_86 ?_
    refine g_aload_n (i := 0) 0 ok d_Mo_takes_87 rfl rfl ?_
    refine g_getr (s0 := 20) (j := 5) (ci := 5) (C := RX5) (T := TX5) (N := 29) ok ht lay_20 rfl inX5 (by decide) rfl tw_743 rfl d_Mo_takes_88 ?_
    obtain ⟨x26, hc27, h⟩ := bnd_go h
    refine g_invS (rm2 := rm_Mo_cost) (As := [vI (s.1 k21 a4.toNatClampNeg), vI (s.1 k23 (a4 + (1 : Int32)).toNatClampNeg), vR (s.2.1 k 5)]) (rest := [vI a3]) ok (c_Mo_cost X.1.2.1 hc27) cm_Mo_cost cs_Mo_cost tw_902 ⟨rfl, rfl⟩ ⟨le_t rfl, le_t rfl⟩ ⟨rfl, le_t rfl⟩ ⟨le_t rfl, le_t rfl⟩ d_Mo_takes_91 rfl (fun m25 => ?_)
    show G X s 0 0 94 [(0, vR (some k)), (3, vI a3), (4, vI a4)] [vI x26, vI a3]
    refine g_iadd ok d_Mo_takes_94 ?_
    obtain ⟨x28, e29⟩ : ∃ z, (a3 + x26) = z := ⟨_, rfl⟩
    replace h := lt_go h e29
    rw [e29]
    refine g_istore_n (i := 3) [(3, vI x28), (0, vR (some k)), (4, vI a4)] ok d_Mo_takes_95 rfl (by decide) rfl ?_
    obtain ⟨x30, e31⟩ : ∃ z, a4 + (1 : Int32) = z := ⟨_, rfl⟩
    replace h := lt_go h e31
    refine g_iinc (i := 4) (v := x30) 2 [(4, vI x30), (3, vI x28), (0, vR (some k))] ok d_Mo_takes_96 rfl (by rw [← e31]; rfl) (by decide) rfl ?_
    refine g_goto (tgt := 57) ok d_Mo_takes_99 (by decide) ?_
    refine g_sub [2, 1, 0] rfl ?_
    exact hrec x28 x30 _ h hk
  · replace h := (if_neg c20).symm.trans h
    refine g_sub [0, 1] rfl ?_
    cases h
    exact hexit a3 hk
theorem w_l_Mo_takes_57 {X : CX} {KX : Int32 → Prop} {k : Nat} {s : MS} (ok : Ok X cX5_takes RX5 rm_Mo_takes 5 false) (hexit : ∀ (e3 : Int32), KX e3 → G X s 0 0 102 [(0, vR (some k)), (3, vI e3)] []) (ht : rf s.2.2 20 (some k) = some k) : ∀ (n : Nat) (a3 : Int32) (a4 : Int32) {res : Int32}, l_Mo_takes_57 k s n a3 a4 = some res → KX res → G X s 0 0 57 [(0, vR (some k)), (3, vI a3), (4, vI a4)] [] := by
  intro n
  induction n with
  | zero => intro _ _ res h; cases h
  | succ n ih =>
    intro a3 a4 res h hk
    exact w_b_Mo_takes_57 ok hexit (fun v3 v4 y h2 hk2 => ih v3 v4 h2 hk2) ht h hk
set_option maxRecDepth 100000 in
set_option maxHeartbeats 4000000 in
theorem w_j_Mo_takes_40 {X : CX} {KX : Int32 × MS → Prop} {k : Nat} {a2 : Int32} {s : MS} (ok : Ok X cX5_takes RX5 rm_Mo_takes 5 false) (hret : ∀ r : Int32 × MS, KX r → Fin X (some .int) 0 0 false (some (vI r.1)) r.2) (ht : rf s.2.2 20 (some k) = some k) {res : Int32 × MS} (h : j_Mo_takes_40 k a2 s = some res) (hk : KX res) : G X s 0 0 40 [(0, vR (some k)), (2, vI a2)] [] := by
  unfold j_Mo_takes_40 at h
  refine g_iload_n (i := 2) 1 ok d_Mo_takes_40 rfl rfl ?_
  refine g_if_eq (tgt := 48) ok d_Mo_takes_41 (by decide) (fun c33 => ?_) (fun c33 => ?_)
  · replace h := (if_pos c33).symm.trans h
    refine g_iconst (v := (0 : Int32)) ok d_Mo_takes_48 (by decide) ?_
    cases h
    exact g_iret ok (hret _ hk) (by decide) (by decide) d_Mo_takes_49
  · replace h := (if_neg c33).symm.trans h
    refine g_iconst (v := (-1 : Int32)) ok d_Mo_takes_44 (by decide) ?_
    refine g_goto (tgt := 49) ok d_Mo_takes_45 (by decide) ?_
    cases h
    exact g_iret ok (hret _ hk) (by decide) (by decide) d_Mo_takes_49
set_option maxRecDepth 100000 in
set_option maxHeartbeats 4000000 in
theorem w_j_Mo_takes_16 {X : CX} {KX : Int32 × MS → Prop} {k : Nat} {a1 : Int32} {a2 : Int32} {t0 : Int32} {t1 : Option Nat} {s : MS} (ok : Ok X cX5_takes RX5 rm_Mo_takes 5 false) (hret : ∀ r : Int32 × MS, KX r → Fin X (some .int) 0 0 false (some (vI r.1)) r.2) (ht : rf s.2.2 20 (some k) = some k) {res : Int32 × MS} (h : j_Mo_takes_16 k a1 a2 t0 t1 s = some res) (hk : KX res) : G X s 0 0 16 [(0, vR (some k)), (1, vI a1), (2, vI a2)] [vI t0, vR t1] := by
  unfold j_Mo_takes_16 at h
  obtain ⟨k5, hk6, h⟩ := bnd_go h
  obtain ⟨x10, s9, hc8, h⟩ := bnd2_go h
  refine g_invV (rm2 := rm_Mo_refused) (As := [vI t0]) (rest := []) ok hk6 lay_20 rfl (c_Mo_refused X.1.2.1 (rf_self hk6) hc8) cm_Mo_refused cv_Mo_refused tw_841 ⟨rfl, rfl⟩ ⟨le_t rfl, le_t rfl⟩ ⟨rfl, le_t rfl⟩ ⟨le_t rfl, le_t rfl⟩ d_Mo_takes_16 rfl (fun m7 => ?_)
  show G X s9 0 0 19 [(0, vR (some k)), (1, vI a1), (2, vI a2)] [vI x10]
  refine g_if_ne (tgt := 40) ok d_Mo_takes_19 (by decide) (fun c11 => ?_) (fun c11 => ?_)
  · replace h := (if_pos c11).symm.trans h
    refine g_aload_n (i := 0) 0 ok d_Mo_takes_22 rfl rfl ?_
    refine g_getr (s0 := 20) (j := 12) (ci := 5) (C := RX5) (T := TX5) (N := 29) ok (rf_mono m7 ht) lay_20 rfl inX5 (by decide) rfl tw_750 rfl d_Mo_takes_23 ?_
    refine g_iload_n (i := 1) 1 ok d_Mo_takes_26 rfl rfl ?_
    obtain ⟨k12, hk13, h⟩ := bnd_go h
    refine g_iald ok hk13 d_Mo_takes_27 ?_
    refine g_if_ne (tgt := 40) ok d_Mo_takes_28 (by decide) (fun c14 => ?_) (fun c14 => ?_)
    · replace h := (if_pos c14).symm.trans h
      refine g_aload_n (i := 0) 0 ok d_Mo_takes_31 rfl rfl ?_
      refine g_iload_n (i := 1) 1 ok d_Mo_takes_32 rfl rfl ?_
      obtain ⟨x18, s17, hc16, h⟩ := bnd2_go h
      refine g_invV (rm2 := rm_Mo_lay) (As := [vI a1]) (rest := []) ok (rf_mono m7 ht) lay_20 rfl (c_Mo_lay X.1.2.1 (rf_self (rf_mono m7 ht)) hc16) cm_Mo_lay cv_Mo_lay tw_894 ⟨rfl, rfl⟩ ⟨le_t rfl, le_t rfl⟩ ⟨rfl, le_t rfl⟩ ⟨le_t rfl, le_t rfl⟩ d_Mo_takes_33 rfl (fun m15 => ?_)
      show G X s17 0 0 36 [(0, vR (some k)), (1, vI a1), (2, vI a2)] [vI x18]
      refine g_iconst (v := (-1 : Int32)) ok d_Mo_takes_36 (by decide) ?_
      refine g_icmp_eq (tgt := 50) ok d_Mo_takes_37 (by decide) (fun c19 => ?_) (fun c19 => ?_)
      · replace h := (if_pos c19).symm.trans h
        refine g_iconst (v := (0 : Int32)) ok d_Mo_takes_50 (by decide) ?_
        refine g_istore_n (i := 3) [(3, vI (0 : Int32)), (0, vR (some k)), (1, vI a1), (2, vI a2)] ok d_Mo_takes_51 rfl (by decide) rfl ?_
        refine g_sipush (v := (3240 : Int32)) ok d_Mo_takes_52 (by decide) ?_
        refine g_istore (i := 4) [(4, vI (3240 : Int32)), (3, vI (0 : Int32)), (0, vR (some k)), (1, vI a1), (2, vI a2)] ok d_Mo_takes_55 (by decide) rfl ?_
        refine g_sub [2, 1, 0] rfl ?_
        obtain ⟨e32, hx, h⟩ := bnd_go h
        refine w_l_Mo_takes_57 (KX := fun y => y = e32) ok (fun y0 he => ?_) (rf_mono m15 (rf_mono m7 ht)) _ _ _ hx rfl
        cases he
        refine g_iload_n (i := 3) 1 ok d_Mo_takes_102 rfl rfl ?_
        cases h
        exact g_iret ok (hret _ hk) (by decide) (by decide) d_Mo_takes_103
      · replace h := (if_neg c19).symm.trans h
        refine g_sub [0, 2] rfl ?_
        exact w_j_Mo_takes_40 ok hret (rf_mono m15 (rf_mono m7 ht)) h hk
    · replace h := (if_neg c14).symm.trans h
      refine g_sub [0, 2] rfl ?_
      exact w_j_Mo_takes_40 ok hret (rf_mono m7 ht) h hk
  · replace h := (if_neg c11).symm.trans h
    refine g_sub [0, 2] rfl ?_
    exact w_j_Mo_takes_40 ok hret (rf_mono m7 ht) h hk
set_option maxRecDepth 100000 in
set_option maxHeartbeats 4000000 in
theorem w_Mo_takes {X : CX} {KX : Int32 × MS → Prop} {k : Nat} {a1 : Int32} {s : MS} (ok : Ok X cX5_takes RX5 rm_Mo_takes 5 false) (hret : ∀ r : Int32 × MS, KX r → Fin X (some .int) 0 0 false (some (vI r.1)) r.2)   (ht : rf s.2.2 20 (some k) = some k) {res : Int32 × MS} (h : f_Mo_takes k a1 s = some res) (hk : KX res) : G X s 0 0 0 [(0, vR (some k)), (1, vI a1)] [] := by
  unfold f_Mo_takes at h
  refine g_aload_n (i := 0) 0 ok d_Mo_takes_0 rfl rfl ?_
  refine g_iload_n (i := 1) 1 ok d_Mo_takes_1 rfl rfl ?_
  obtain ⟨x2, hc3, h⟩ := bnd_go h
  refine g_invV (rm2 := rm_Mo_isMachine) (As := [vI a1]) (rest := []) ok ht lay_20 rfl (c_Mo_isMachine X.1.2.1 (rf_self ht) hc3) cm_Mo_isMachine cv_Mo_isMachine tw_890 ⟨rfl, rfl⟩ ⟨le_t rfl, le_t rfl⟩ ⟨rfl, le_t rfl⟩ ⟨le_t rfl, le_t rfl⟩ d_Mo_takes_2 rfl (fun m1 => ?_)
  show G X s 0 0 5 [(0, vR (some k)), (1, vI a1)] [vI x2]
  refine g_istore_n (i := 2) [(2, vI x2), (0, vR (some k)), (1, vI a1)] ok d_Mo_takes_5 rfl (by decide) rfl ?_
  refine g_aload_n (i := 0) 1 ok d_Mo_takes_6 rfl rfl ?_
  refine g_iload_n (i := 2) 0 ok d_Mo_takes_7 rfl rfl ?_
  refine g_if_eq (tgt := 15) ok d_Mo_takes_8 (by decide) (fun c4 => ?_) (fun c4 => ?_)
  · replace h := (if_pos c4).symm.trans h
    refine g_iconst (v := (1 : Int32)) ok d_Mo_takes_15 (by decide) ?_
    refine g_sub [1, 2, 0] rfl ?_
    exact w_j_Mo_takes_16 ok hret ht h hk
  · replace h := (if_neg c4).symm.trans h
    refine g_iconst (v := (0 : Int32)) ok d_Mo_takes_11 (by decide) ?_
    refine g_goto (tgt := 16) ok d_Mo_takes_12 (by decide) ?_
    refine g_sub [1, 2, 0] rfl ?_
    exact w_j_Mo_takes_16 ok hret ht h hk
theorem c_Mo_takes (l : Launch) {k : Nat} {a1 : Int32} {s : MS} (ht : rf s.2.2 20 (some k) = some k) {r : Int32} {z : MS} (h : f_Mo_takes k a1 s = some (r, z)) : Ct l yX5_takes (.code yX5_takes cX5_takes 5 (some .int)) rm_Mo_takes 0 0 false [vR (some k), vI a1] s (some (vI r)) z :=
  Ct.of rfl (by decide +kernel) ⟨rfl, le_t rfl⟩ (fun X ok fn _ hI hl => w_Mo_takes (KX := fun y => y = (r, z)) ok (fun y hy => by subst hy; exact fn) ht h rfl)
abbrev rm_Mo_poor : Room := { frames := 4, cells := 0, slots := 0, locals := 85 }
theorem cm_Mo_poor : cfM yX5_poor cX5_poor 8 (some .int) 4 := ⟨tw_920, tw_4, by decide, by decide, by decide +kernel⟩
theorem cv_Mo_poor : cfV yX5_poor := ⟨tw_919, ts_X5_poor⟩
theorem d_Mo_poor_0 : decode cX5_poor 0 = .ok (.iload 4, 2) := by decide +kernel
theorem d_Mo_poor_2 : decode cX5_poor 2 = .ok (.istore 5, 2) := by decide +kernel
theorem d_Mo_poor_4 : decode cX5_poor 4 = .ok (.iload_n 2, 1) := by decide +kernel
theorem d_Mo_poor_5 : decode cX5_poor 5 = .ok (.istore 6, 2) := by decide +kernel
theorem d_Mo_poor_7 : decode cX5_poor 7 = .ok (.iload 6, 2) := by decide +kernel
theorem d_Mo_poor_9 : decode cX5_poor 9 = .ok (.iload_n 3, 1) := by decide +kernel
theorem d_Mo_poor_10 : decode cX5_poor 10 = .ok (.if_icmp .gt 86, 3) := by decide +kernel
theorem d_Mo_poor_13 : decode cX5_poor 13 = .ok (.aload_n 0, 1) := by decide +kernel
theorem d_Mo_poor_14 : decode cX5_poor 14 = .ok (.getfield 62, 3) := by decide +kernel
theorem d_Mo_poor_17 : decode cX5_poor 17 = .ok (.iload_n 1, 1) := by decide +kernel
theorem d_Mo_poor_18 : decode cX5_poor 18 = .ok (.iload 6, 2) := by decide +kernel
theorem d_Mo_poor_20 : decode cX5_poor 20 = .ok (.iadd, 1) := by decide +kernel
theorem d_Mo_poor_21 : decode cX5_poor 21 = .ok (.iaload, 1) := by decide +kernel
theorem d_Mo_poor_22 : decode cX5_poor 22 = .ok (.istore 7, 2) := by decide +kernel
theorem d_Mo_poor_24 : decode cX5_poor 24 = .ok (.iload 5, 2) := by decide +kernel
theorem d_Mo_poor_26 : decode cX5_poor 26 = .ok (.iload 7, 2) := by decide +kernel
theorem d_Mo_poor_28 : decode cX5_poor 28 = .ok (.bipush 99, 2) := by decide +kernel
theorem d_Mo_poor_30 : decode cX5_poor 30 = .ok (.if_icmp .le 18, 3) := by decide +kernel
theorem d_Mo_poor_33 : decode cX5_poor 33 = .ok (.aload_n 0, 1) := by decide +kernel
theorem d_Mo_poor_34 : decode cX5_poor 34 = .ok (.iload 7, 2) := by decide +kernel
theorem d_Mo_poor_36 : decode cX5_poor 36 = .ok (.bipush 100, 2) := by decide +kernel
theorem d_Mo_poor_38 : decode cX5_poor 38 = .ok (.irem, 1) := by decide +kernel
theorem d_Mo_poor_39 : decode cX5_poor 39 = .ok (.invokevirtual 133, 3) := by decide +kernel
theorem d_Mo_poor_42 : decode cX5_poor 42 = .ok (.bipush 10, 2) := by decide +kernel
theorem d_Mo_poor_44 : decode cX5_poor 44 = .ok (.iadd, 1) := by decide +kernel
theorem d_Mo_poor_45 : decode cX5_poor 45 = .ok (.goto 4, 3) := by decide +kernel
theorem d_Mo_poor_48 : decode cX5_poor 48 = .ok (.iconst 0, 1) := by decide +kernel
theorem d_Mo_poor_49 : decode cX5_poor 49 = .ok (.if_icmp .ge 6, 3) := by decide +kernel
theorem d_Mo_poor_52 : decode cX5_poor 52 = .ok (.iload 6, 2) := by decide +kernel
theorem d_Mo_poor_54 : decode cX5_poor 54 = .ok (.ireturn, 1) := by decide +kernel
theorem d_Mo_poor_55 : decode cX5_poor 55 = .ok (.iload 5, 2) := by decide +kernel
theorem d_Mo_poor_57 : decode cX5_poor 57 = .ok (.iload 6, 2) := by decide +kernel
theorem d_Mo_poor_59 : decode cX5_poor 59 = .ok (.iload_n 3, 1) := by decide +kernel
theorem d_Mo_poor_60 : decode cX5_poor 60 = .ok (.if_icmp .ge 26, 3) := by decide +kernel
theorem d_Mo_poor_63 : decode cX5_poor 63 = .ok (.iload 7, 2) := by decide +kernel
theorem d_Mo_poor_65 : decode cX5_poor 65 = .ok (.aload_n 0, 1) := by decide +kernel
theorem d_Mo_poor_66 : decode cX5_poor 66 = .ok (.getfield 62, 3) := by decide +kernel
theorem d_Mo_poor_69 : decode cX5_poor 69 = .ok (.iload_n 1, 1) := by decide +kernel
theorem d_Mo_poor_70 : decode cX5_poor 70 = .ok (.iload 6, 2) := by decide +kernel
theorem d_Mo_poor_72 : decode cX5_poor 72 = .ok (.iadd, 1) := by decide +kernel
theorem d_Mo_poor_73 : decode cX5_poor 73 = .ok (.iconst 1, 1) := by decide +kernel
theorem d_Mo_poor_74 : decode cX5_poor 74 = .ok (.iadd, 1) := by decide +kernel
theorem d_Mo_poor_75 : decode cX5_poor 75 = .ok (.iaload, 1) := by decide +kernel
theorem d_Mo_poor_76 : decode cX5_poor 76 = .ok (.aload_n 0, 1) := by decide +kernel
theorem d_Mo_poor_77 : decode cX5_poor 77 = .ok (.getfield 17, 3) := by decide +kernel
theorem d_Mo_poor_80 : decode cX5_poor 80 = .ok (.invokestatic 129, 3) := by decide +kernel
theorem d_Mo_poor_83 : decode cX5_poor 83 = .ok (.goto 4, 3) := by decide +kernel
theorem d_Mo_poor_86 : decode cX5_poor 86 = .ok (.iconst 0, 1) := by decide +kernel
theorem d_Mo_poor_87 : decode cX5_poor 87 = .ok (.isub, 1) := by decide +kernel
theorem d_Mo_poor_88 : decode cX5_poor 88 = .ok (.istore 5, 2) := by decide +kernel
theorem d_Mo_poor_90 : decode cX5_poor 90 = .ok (.iinc 6 1, 3) := by decide +kernel
theorem d_Mo_poor_93 : decode cX5_poor 93 = .ok (.goto (-86), 3) := by decide +kernel
theorem d_Mo_poor_96 : decode cX5_poor 96 = .ok (.iconst (-1), 1) := by decide +kernel
theorem d_Mo_poor_97 : decode cX5_poor 97 = .ok (.ireturn, 1) := by decide +kernel
set_option maxRecDepth 100000 in
set_option maxHeartbeats 4000000 in
theorem w_j_Mo_poor_49 {X : CX} {KX : (Int32) ⊕ (Unit) → Prop} {k : Nat} {a1 : Int32} {a3 : Int32} {a5 : Int32} {a6 : Int32} {a7 : Int32} {t0 : Int32} {t1 : Int32} {s : MS} {rec : Int32 → Int32 → Option ((Int32) ⊕ (Unit))} (ok : Ok X cX5_poor RX5 rm_Mo_poor 8 false) (hret : ∀ r : Int32, KX (.inl r) → Fin X (some .int) 0 0 false (some (vI r)) s) (hexit : KX (.inr ()) → G X s 0 0 96 [(0, vR (some k))] []) (hrec : ∀ (v5 : Int32) (v6 : Int32), ∀ y, rec v5 v6 = some y → KX y → G X s 0 0 7 [(0, vR (some k)), (1, vI a1), (3, vI a3), (5, vI v5), (6, vI v6)] []) (ht : rf s.2.2 20 (some k) = some k) {res : (Int32) ⊕ (Unit)} (h : j_Mo_poor_49 k a1 a3 a5 a6 a7 t0 t1 s rec = some res) (hk : KX res) : G X s 0 0 49 [(0, vR (some k)), (1, vI a1), (3, vI a3), (5, vI a5), (6, vI a6), (7, vI a7)] [vI t0, vI t1] := by
  unfold j_Mo_poor_49 at h
  refine g_icmp_ge (tgt := 55) ok d_Mo_poor_49 (by decide) (fun c10 => ?_) (fun c10 => ?_)
  · replace h := (if_pos c10).symm.trans h
    refine g_iload (i := 6) 4 ok d_Mo_poor_52 rfl ?_
    cases h
    exact g_iret ok (hret _ hk) (by decide) (by decide) d_Mo_poor_54
  · replace h := (if_neg c10).symm.trans h
    refine g_iload (i := 5) 3 ok d_Mo_poor_55 rfl ?_
    refine g_iload (i := 6) 4 ok d_Mo_poor_57 rfl ?_
    refine g_iload_n (i := 3) 2 ok d_Mo_poor_59 rfl rfl ?_
    refine g_icmp_ge (tgt := 86) ok d_Mo_poor_60 (by decide) (fun c11 => ?_) (fun c11 => ?_)
    · replace h := (if_pos c11).symm.trans h
      refine g_iload (i := 7) 5 ok d_Mo_poor_63 rfl ?_
      refine g_aload_n (i := 0) 0 ok d_Mo_poor_65 rfl rfl ?_
      refine g_getr (s0 := 20) (j := 23) (ci := 5) (C := RX5) (T := TX5) (N := 29) ok ht lay_20 rfl inX5 (by decide) rfl tw_761 rfl d_Mo_poor_66 ?_
      refine g_iload_n (i := 1) 1 ok d_Mo_poor_69 rfl rfl ?_
      refine g_iload (i := 6) 4 ok d_Mo_poor_70 rfl ?_
      refine g_iadd ok d_Mo_poor_72 ?_
      refine g_iconst (v := (1 : Int32)) ok d_Mo_poor_73 (by decide) ?_
      refine g_iadd ok d_Mo_poor_74 ?_
      obtain ⟨k12, hk13, h⟩ := bnd_go h
      refine g_iald ok hk13 d_Mo_poor_75 ?_
      refine g_aload_n (i := 0) 0 ok d_Mo_poor_76 rfl rfl ?_
      refine g_getr (s0 := 20) (j := 5) (ci := 5) (C := RX5) (T := TX5) (N := 29) ok ht lay_20 rfl inX5 (by decide) rfl tw_743 rfl d_Mo_poor_77 ?_
      obtain ⟨x15, hc16, h⟩ := bnd_go h
      refine g_invS (rm2 := rm_Mo_cost) (As := [vI a7, vI (s.1 k12 ((a1 + a6) + (1 : Int32)).toNatClampNeg), vR (s.2.1 k 5)]) (rest := [vI a5]) ok (c_Mo_cost X.1.2.1 hc16) cm_Mo_cost cs_Mo_cost tw_902 ⟨rfl, rfl⟩ ⟨le_t rfl, le_t rfl⟩ ⟨rfl, le_t rfl⟩ ⟨le_t rfl, le_t rfl⟩ d_Mo_poor_80 rfl (fun m14 => ?_)
      show G X s 0 0 83 [(0, vR (some k)), (1, vI a1), (3, vI a3), (5, vI a5), (6, vI a6), (7, vI a7)] [vI x15, vI a5]
      refine g_goto (tgt := 87) ok d_Mo_poor_83 (by decide) ?_
      refine g_isub ok d_Mo_poor_87 ?_
      obtain ⟨x17, e18⟩ : ∃ z, (a5 - x15) = z := ⟨_, rfl⟩
      replace h := lt_go h e18
      rw [e18]
      refine g_istore (i := 5) [(5, vI x17), (0, vR (some k)), (1, vI a1), (3, vI a3), (6, vI a6), (7, vI a7)] ok d_Mo_poor_88 (by decide) rfl ?_
      obtain ⟨x19, e20⟩ : ∃ z, a6 + (1 : Int32) = z := ⟨_, rfl⟩
      replace h := lt_go h e20
      refine g_iinc (i := 6) (v := x19) 4 [(6, vI x19), (5, vI x17), (0, vR (some k)), (1, vI a1), (3, vI a3), (7, vI a7)] ok d_Mo_poor_90 rfl (by rw [← e20]; rfl) (by decide) rfl ?_
      refine g_goto (tgt := 7) ok d_Mo_poor_93 (by decide) ?_
      refine g_sub [2, 3, 4, 1, 0] rfl ?_
      exact hrec x17 x19 _ h hk
    · replace h := (if_neg c11).symm.trans h
      refine g_iconst (v := (0 : Int32)) ok d_Mo_poor_86 (by decide) ?_
      refine g_isub ok d_Mo_poor_87 ?_
      obtain ⟨x21, e22⟩ : ∃ z, (a5 - (0 : Int32)) = z := ⟨_, rfl⟩
      replace h := lt_go h e22
      rw [e22]
      refine g_istore (i := 5) [(5, vI x21), (0, vR (some k)), (1, vI a1), (3, vI a3), (6, vI a6), (7, vI a7)] ok d_Mo_poor_88 (by decide) rfl ?_
      obtain ⟨x23, e24⟩ : ∃ z, a6 + (1 : Int32) = z := ⟨_, rfl⟩
      replace h := lt_go h e24
      refine g_iinc (i := 6) (v := x23) 4 [(6, vI x23), (5, vI x21), (0, vR (some k)), (1, vI a1), (3, vI a3), (7, vI a7)] ok d_Mo_poor_90 rfl (by rw [← e24]; rfl) (by decide) rfl ?_
      refine g_goto (tgt := 7) ok d_Mo_poor_93 (by decide) ?_
      refine g_sub [2, 3, 4, 1, 0] rfl ?_
      exact hrec x21 x23 _ h hk
set_option maxRecDepth 100000 in
set_option maxHeartbeats 4000000 in
theorem w_b_Mo_poor_7 {X : CX} {KX : (Int32) ⊕ (Unit) → Prop} {k : Nat} {a1 : Int32} {a3 : Int32} {a5 : Int32} {a6 : Int32} {s : MS} {rec : Int32 → Int32 → Option ((Int32) ⊕ (Unit))} (ok : Ok X cX5_poor RX5 rm_Mo_poor 8 false) (hret : ∀ r : Int32, KX (.inl r) → Fin X (some .int) 0 0 false (some (vI r)) s) (hexit : KX (.inr ()) → G X s 0 0 96 [(0, vR (some k))] []) (hrec : ∀ (v5 : Int32) (v6 : Int32), ∀ y, rec v5 v6 = some y → KX y → G X s 0 0 7 [(0, vR (some k)), (1, vI a1), (3, vI a3), (5, vI v5), (6, vI v6)] []) (ht : rf s.2.2 20 (some k) = some k) {res : (Int32) ⊕ (Unit)} (h : b_Mo_poor_7 k a1 a3 a5 a6 s rec = some res) (hk : KX res) : G X s 0 0 7 [(0, vR (some k)), (1, vI a1), (3, vI a3), (5, vI a5), (6, vI a6)] [] := by
  unfold b_Mo_poor_7 at h
  refine g_iload (i := 6) 4 ok d_Mo_poor_7 rfl ?_
  refine g_iload_n (i := 3) 2 ok d_Mo_poor_9 rfl rfl ?_
  refine g_icmp_gt (tgt := 96) ok d_Mo_poor_10 (by decide) (fun c1 => ?_) (fun c1 => ?_)
  · replace h := (if_pos c1).symm.trans h
    refine g_sub [0] rfl ?_
    cases h
    exact hexit hk
  · replace h := (if_neg c1).symm.trans h
    refine g_aload_n (i := 0) 0 ok d_Mo_poor_13 rfl rfl ?_
    refine g_getr (s0 := 20) (j := 23) (ci := 5) (C := RX5) (T := TX5) (N := 29) ok ht lay_20 rfl inX5 (by decide) rfl tw_761 rfl d_Mo_poor_14 ?_
    refine g_iload_n (i := 1) 1 ok d_Mo_poor_17 rfl rfl ?_
    refine g_iload (i := 6) 4 ok d_Mo_poor_18 rfl ?_
    refine g_iadd ok d_Mo_poor_20 ?_
    obtain ⟨k2, hk3, h⟩ := bnd_go h
    refine g_iald ok hk3 d_Mo_poor_21 ?_
    obtain ⟨x4, e5⟩ : ∃ z, (s.1 k2 (a1 + a6).toNatClampNeg) = z := ⟨_, rfl⟩
    replace h := lt_go h e5
    rw [e5]
    refine g_istore (i := 7) [(7, vI x4), (0, vR (some k)), (1, vI a1), (3, vI a3), (5, vI a5), (6, vI a6)] ok d_Mo_poor_22 (by decide) rfl ?_
    refine g_iload (i := 5) 4 ok d_Mo_poor_24 rfl ?_
    refine g_iload (i := 7) 0 ok d_Mo_poor_26 rfl ?_
    refine g_bipush (v := (99 : Int32)) ok d_Mo_poor_28 (by decide) ?_
    refine g_icmp_le (tgt := 48) ok d_Mo_poor_30 (by decide) (fun c6 => ?_) (fun c6 => ?_)
    · replace h := (if_pos c6).symm.trans h
      refine g_aload_n (i := 0) 1 ok d_Mo_poor_33 rfl rfl ?_
      refine g_iload (i := 7) 0 ok d_Mo_poor_34 rfl ?_
      refine g_bipush (v := (100 : Int32)) ok d_Mo_poor_36 (by decide) ?_
      refine g_irem ok d_Mo_poor_38 (by decide) ?_
      obtain ⟨x8, hc9, h⟩ := bnd_go h
      refine g_invV (rm2 := rm_Mo_homeOf) (As := [vI (x4 - x4 / (100 : Int32) * (100 : Int32))]) (rest := [vI a5]) ok ht lay_20 rfl (c_Mo_homeOf X.1.2.1 (rf_self ht) hc9) cm_Mo_homeOf cv_Mo_homeOf tw_921 ⟨rfl, rfl⟩ ⟨le_t rfl, le_t rfl⟩ ⟨rfl, le_t rfl⟩ ⟨le_t rfl, le_t rfl⟩ d_Mo_poor_39 rfl (fun m7 => ?_)
      show G X s 0 0 42 [(7, vI x4), (0, vR (some k)), (1, vI a1), (3, vI a3), (5, vI a5), (6, vI a6)] [vI x8, vI a5]
      refine g_bipush (v := (10 : Int32)) ok d_Mo_poor_42 (by decide) ?_
      refine g_iadd ok d_Mo_poor_44 ?_
      refine g_goto (tgt := 49) ok d_Mo_poor_45 (by decide) ?_
      refine g_sub [1, 2, 3, 4, 5, 0] rfl ?_
      exact w_j_Mo_poor_49 ok hret hexit hrec ht h hk
    · replace h := (if_neg c6).symm.trans h
      refine g_iconst (v := (0 : Int32)) ok d_Mo_poor_48 (by decide) ?_
      refine g_sub [1, 2, 3, 4, 5, 0] rfl ?_
      exact w_j_Mo_poor_49 ok hret hexit hrec ht h hk
theorem w_l_Mo_poor_7 {X : CX} {KX : (Int32) ⊕ (Unit) → Prop} {k : Nat} {a1 : Int32} {a3 : Int32} {s : MS} (ok : Ok X cX5_poor RX5 rm_Mo_poor 8 false) (hret : ∀ r : Int32, KX (.inl r) → Fin X (some .int) 0 0 false (some (vI r)) s) (hexit : KX (.inr ()) → G X s 0 0 96 [(0, vR (some k))] []) (ht : rf s.2.2 20 (some k) = some k) : ∀ (n : Nat) (a5 : Int32) (a6 : Int32) {res : (Int32) ⊕ (Unit)}, l_Mo_poor_7 k a1 a3 s n a5 a6 = some res → KX res → G X s 0 0 7 [(0, vR (some k)), (1, vI a1), (3, vI a3), (5, vI a5), (6, vI a6)] [] := by
  intro n
  induction n with
  | zero => intro _ _ res h; cases h
  | succ n ih =>
    intro a5 a6 res h hk
    exact w_b_Mo_poor_7 ok hret hexit (fun v5 v6 y h2 hk2 => ih v5 v6 h2 hk2) ht h hk
set_option maxRecDepth 100000 in
set_option maxHeartbeats 4000000 in
theorem w_Mo_poor {X : CX} {KX : Int32 → Prop} {k : Nat} {a1 : Int32} {a2 : Int32} {a3 : Int32} {a4 : Int32} {s : MS} (ok : Ok X cX5_poor RX5 rm_Mo_poor 8 false) (hret : ∀ r : Int32, KX r → Fin X (some .int) 0 0 false (some (vI r)) s)   (ht : rf s.2.2 20 (some k) = some k) {res : Int32} (h : f_Mo_poor k a1 a2 a3 a4 s = some res) (hk : KX res) : G X s 0 0 0 [(0, vR (some k)), (1, vI a1), (2, vI a2), (3, vI a3), (4, vI a4)] [] := by
  unfold f_Mo_poor at h
  refine g_iload (i := 4) 4 ok d_Mo_poor_0 rfl ?_
  refine g_istore (i := 5) [(5, vI a4), (0, vR (some k)), (1, vI a1), (2, vI a2), (3, vI a3), (4, vI a4)] ok d_Mo_poor_2 (by decide) rfl ?_
  refine g_iload_n (i := 2) 3 ok d_Mo_poor_4 rfl rfl ?_
  refine g_istore (i := 6) [(6, vI a2), (5, vI a4), (0, vR (some k)), (1, vI a1), (2, vI a2), (3, vI a3), (4, vI a4)] ok d_Mo_poor_5 (by decide) rfl ?_
  refine g_sub [2, 3, 5, 1, 0] rfl ?_
  rcases el0_go h with ⟨r, hx, h⟩ | ⟨hx, h⟩
  · refine w_l_Mo_poor_7 (KX := fun y => y = .inl r) ok (fun r2 he => ?_) (fun he => by cases he) ht _ _ _ hx rfl
    cases he
    cases h
    exact hret _ hk
  · refine w_l_Mo_poor_7 (KX := fun y => y = .inr ()) ok (fun r2 he => by cases he) (fun he => ?_) ht _ _ _ hx rfl
    cases he
    refine g_iconst (v := (-1 : Int32)) ok d_Mo_poor_96 (by decide) ?_
    cases h
    exact g_iret ok (hret _ hk) (by decide) (by decide) d_Mo_poor_97
theorem c_Mo_poor (l : Launch) {k : Nat} {a1 : Int32} {a2 : Int32} {a3 : Int32} {a4 : Int32} {s : MS} (ht : rf s.2.2 20 (some k) = some k) {r : Int32} (h : f_Mo_poor k a1 a2 a3 a4 s = some r) : Ct l yX5_poor (.code yX5_poor cX5_poor 8 (some .int)) rm_Mo_poor 0 0 false [vR (some k), vI a1, vI a2, vI a3, vI a4] s (some (vI r)) s :=
  Ct.of rfl (by decide +kernel) ⟨rfl, le_t rfl⟩ (fun X ok fn _ hI hl => w_Mo_poor (KX := fun y => y = r) ok (fun y hy => by subst hy; exact fn) ht h rfl)
abbrev rm_Mo_meet : Room := { frames := 1, cells := 0, slots := 0, locals := 22 }
theorem cm_Mo_meet : cfM yX5_meet cX5_meet 11 (some .boolean) 5 := ⟨tw_942, tw_4, by decide, by decide, by decide +kernel⟩
theorem cv_Mo_meet : cfV yX5_meet := ⟨tw_941, ts_X5_meet⟩
theorem d_Mo_meet_0 : decode cX5_meet 0 = .ok (.iconst 0, 1) := by decide +kernel
theorem d_Mo_meet_1 : decode cX5_meet 1 = .ok (.istore 6, 2) := by decide +kernel
theorem d_Mo_meet_3 : decode cX5_meet 3 = .ok (.iconst 0, 1) := by decide +kernel
theorem d_Mo_meet_4 : decode cX5_meet 4 = .ok (.istore 7, 2) := by decide +kernel
theorem d_Mo_meet_6 : decode cX5_meet 6 = .ok (.iload 7, 2) := by decide +kernel
theorem d_Mo_meet_8 : decode cX5_meet 8 = .ok (.iload_n 3, 1) := by decide +kernel
theorem d_Mo_meet_9 : decode cX5_meet 9 = .ok (.if_icmp .gt 141, 3) := by decide +kernel
theorem d_Mo_meet_12 : decode cX5_meet 12 = .ok (.iconst (-1), 1) := by decide +kernel
theorem d_Mo_meet_13 : decode cX5_meet 13 = .ok (.istore 8, 2) := by decide +kernel
theorem d_Mo_meet_15 : decode cX5_meet 15 = .ok (.iload 8, 2) := by decide +kernel
theorem d_Mo_meet_17 : decode cX5_meet 17 = .ok (.iconst 2, 1) := by decide +kernel
theorem d_Mo_meet_18 : decode cX5_meet 18 = .ok (.if_icmp .ge 126, 3) := by decide +kernel
theorem d_Mo_meet_21 : decode cX5_meet 21 = .ok (.iload_n 2, 1) := by decide +kernel
theorem d_Mo_meet_22 : decode cX5_meet 22 = .ok (.iload 7, 2) := by decide +kernel
theorem d_Mo_meet_24 : decode cX5_meet 24 = .ok (.iadd, 1) := by decide +kernel
theorem d_Mo_meet_25 : decode cX5_meet 25 = .ok (.iload 8, 2) := by decide +kernel
theorem d_Mo_meet_27 : decode cX5_meet 27 = .ok (.iadd, 1) := by decide +kernel
theorem d_Mo_meet_28 : decode cX5_meet 28 = .ok (.aload_n 0, 1) := by decide +kernel
theorem d_Mo_meet_29 : decode cX5_meet 29 = .ok (.getfield 50, 3) := by decide +kernel
theorem d_Mo_meet_32 : decode cX5_meet 32 = .ok (.iload 4, 2) := by decide +kernel
theorem d_Mo_meet_34 : decode cX5_meet 34 = .ok (.iaload, 1) := by decide +kernel
theorem d_Mo_meet_35 : decode cX5_meet 35 = .ok (.isub, 1) := by decide +kernel
theorem d_Mo_meet_36 : decode cX5_meet 36 = .ok (.istore 9, 2) := by decide +kernel
theorem d_Mo_meet_38 : decode cX5_meet 38 = .ok (.iload 9, 2) := by decide +kernel
theorem d_Mo_meet_40 : decode cX5_meet 40 = .ok (.iconst 0, 1) := by decide +kernel
theorem d_Mo_meet_41 : decode cX5_meet 41 = .ok (.aload_n 0, 1) := by decide +kernel
theorem d_Mo_meet_42 : decode cX5_meet 42 = .ok (.getfield 53, 3) := by decide +kernel
theorem d_Mo_meet_45 : decode cX5_meet 45 = .ok (.iload 4, 2) := by decide +kernel
theorem d_Mo_meet_47 : decode cX5_meet 47 = .ok (.iaload, 1) := by decide +kernel
theorem d_Mo_meet_48 : decode cX5_meet 48 = .ok (.invokestatic 75, 3) := by decide +kernel
theorem d_Mo_meet_51 : decode cX5_meet 51 = .ok (.ifCond .eq 28, 3) := by decide +kernel
theorem d_Mo_meet_54 : decode cX5_meet 54 = .ok (.iload_n 2, 1) := by decide +kernel
theorem d_Mo_meet_55 : decode cX5_meet 55 = .ok (.iload 7, 2) := by decide +kernel
theorem d_Mo_meet_57 : decode cX5_meet 57 = .ok (.iadd, 1) := by decide +kernel
theorem d_Mo_meet_58 : decode cX5_meet 58 = .ok (.iload 5, 2) := by decide +kernel
theorem d_Mo_meet_60 : decode cX5_meet 60 = .ok (.if_icmp .lt 19, 3) := by decide +kernel
theorem d_Mo_meet_63 : decode cX5_meet 63 = .ok (.iload_n 2, 1) := by decide +kernel
theorem d_Mo_meet_64 : decode cX5_meet 64 = .ok (.iload 7, 2) := by decide +kernel
theorem d_Mo_meet_66 : decode cX5_meet 66 = .ok (.iadd, 1) := by decide +kernel
theorem d_Mo_meet_67 : decode cX5_meet 67 = .ok (.iload 8, 2) := by decide +kernel
theorem d_Mo_meet_69 : decode cX5_meet 69 = .ok (.iadd, 1) := by decide +kernel
theorem d_Mo_meet_70 : decode cX5_meet 70 = .ok (.iload 5, 2) := by decide +kernel
theorem d_Mo_meet_72 : decode cX5_meet 72 = .ok (.if_icmp .lt 7, 3) := by decide +kernel
theorem d_Mo_meet_75 : decode cX5_meet 75 = .ok (.iconst 1, 1) := by decide +kernel
theorem d_Mo_meet_76 : decode cX5_meet 76 = .ok (.goto 4, 3) := by decide +kernel
theorem d_Mo_meet_79 : decode cX5_meet 79 = .ok (.iconst 0, 1) := by decide +kernel
theorem d_Mo_meet_80 : decode cX5_meet 80 = .ok (.istore 10, 2) := by decide +kernel
theorem d_Mo_meet_82 : decode cX5_meet 82 = .ok (.iload 6, 2) := by decide +kernel
theorem d_Mo_meet_84 : decode cX5_meet 84 = .ok (.ifCond .ne 47, 3) := by decide +kernel
theorem d_Mo_meet_87 : decode cX5_meet 87 = .ok (.iload 10, 2) := by decide +kernel
theorem d_Mo_meet_89 : decode cX5_meet 89 = .ok (.ifCond .eq 46, 3) := by decide +kernel
theorem d_Mo_meet_92 : decode cX5_meet 92 = .ok (.aload_n 0, 1) := by decide +kernel
theorem d_Mo_meet_93 : decode cX5_meet 93 = .ok (.getfield 62, 3) := by decide +kernel
theorem d_Mo_meet_96 : decode cX5_meet 96 = .ok (.iload_n 1, 1) := by decide +kernel
theorem d_Mo_meet_97 : decode cX5_meet 97 = .ok (.iload 7, 2) := by decide +kernel
theorem d_Mo_meet_99 : decode cX5_meet 99 = .ok (.iadd, 1) := by decide +kernel
theorem d_Mo_meet_100 : decode cX5_meet 100 = .ok (.iaload, 1) := by decide +kernel
theorem d_Mo_meet_101 : decode cX5_meet 101 = .ok (.bipush 99, 2) := by decide +kernel
theorem d_Mo_meet_103 : decode cX5_meet 103 = .ok (.if_icmp .le 32, 3) := by decide +kernel
theorem d_Mo_meet_106 : decode cX5_meet 106 = .ok (.aload_n 0, 1) := by decide +kernel
theorem d_Mo_meet_107 : decode cX5_meet 107 = .ok (.getfield 62, 3) := by decide +kernel
theorem d_Mo_meet_110 : decode cX5_meet 110 = .ok (.iload_n 1, 1) := by decide +kernel
theorem d_Mo_meet_111 : decode cX5_meet 111 = .ok (.iload 7, 2) := by decide +kernel
theorem d_Mo_meet_113 : decode cX5_meet 113 = .ok (.iadd, 1) := by decide +kernel
theorem d_Mo_meet_114 : decode cX5_meet 114 = .ok (.iaload, 1) := by decide +kernel
theorem d_Mo_meet_115 : decode cX5_meet 115 = .ok (.aload_n 0, 1) := by decide +kernel
theorem d_Mo_meet_116 : decode cX5_meet 116 = .ok (.getfield 62, 3) := by decide +kernel
theorem d_Mo_meet_119 : decode cX5_meet 119 = .ok (.bipush 81, 2) := by decide +kernel
theorem d_Mo_meet_121 : decode cX5_meet 121 = .ok (.iload 4, 2) := by decide +kernel
theorem d_Mo_meet_123 : decode cX5_meet 123 = .ok (.imul, 1) := by decide +kernel
theorem d_Mo_meet_124 : decode cX5_meet 124 = .ok (.iload 9, 2) := by decide +kernel
theorem d_Mo_meet_126 : decode cX5_meet 126 = .ok (.iadd, 1) := by decide +kernel
theorem d_Mo_meet_127 : decode cX5_meet 127 = .ok (.iaload, 1) := by decide +kernel
theorem d_Mo_meet_128 : decode cX5_meet 128 = .ok (.if_icmp .ne 7, 3) := by decide +kernel
theorem d_Mo_meet_131 : decode cX5_meet 131 = .ok (.iconst 1, 1) := by decide +kernel
theorem d_Mo_meet_132 : decode cX5_meet 132 = .ok (.goto 4, 3) := by decide +kernel
theorem d_Mo_meet_135 : decode cX5_meet 135 = .ok (.iconst 0, 1) := by decide +kernel
theorem d_Mo_meet_136 : decode cX5_meet 136 = .ok (.istore 6, 2) := by decide +kernel
theorem d_Mo_meet_138 : decode cX5_meet 138 = .ok (.iinc 8 1, 3) := by decide +kernel
theorem d_Mo_meet_141 : decode cX5_meet 141 = .ok (.goto (-126), 3) := by decide +kernel
theorem d_Mo_meet_144 : decode cX5_meet 144 = .ok (.iinc 7 1, 3) := by decide +kernel
theorem d_Mo_meet_147 : decode cX5_meet 147 = .ok (.goto (-141), 3) := by decide +kernel
theorem d_Mo_meet_150 : decode cX5_meet 150 = .ok (.iload 6, 2) := by decide +kernel
theorem d_Mo_meet_152 : decode cX5_meet 152 = .ok (.ireturn, 1) := by decide +kernel
set_option maxRecDepth 100000 in
set_option maxHeartbeats 4000000 in
theorem w_j_Mo_meet_80 {X : CX} {KX : Int32 → Prop} {k : Nat} {a1 : Int32} {a2 : Int32} {a3 : Int32} {a4 : Int32} {a5 : Int32} {a6 : Int32} {a7 : Int32} {a8 : Int32} {a9 : Int32} {t0 : Int32} {s : MS} {rec : Int32 → Int32 → Option (Int32)} (ok : Ok X cX5_meet RX5 rm_Mo_meet 11 false) (hexit : ∀ (e6 : Int32), KX e6 → G X s 0 0 144 [(0, vR (some k)), (1, vI a1), (2, vI a2), (3, vI a3), (4, vI a4), (5, vI a5), (6, vI e6), (7, vI a7)] []) (hrec : ∀ (v6 : Int32) (v8 : Int32), ∀ y, rec v6 v8 = some y → KX y → G X s 0 0 15 [(0, vR (some k)), (1, vI a1), (2, vI a2), (3, vI a3), (4, vI a4), (5, vI a5), (6, vI v6), (7, vI a7), (8, vI v8)] []) (ht : rf s.2.2 20 (some k) = some k) {res : Int32} (h : j_Mo_meet_80 k a1 a2 a3 a4 a5 a6 a7 a8 a9 t0 s rec = some res) (hk : KX res) : G X s 0 0 80 [(0, vR (some k)), (1, vI a1), (2, vI a2), (3, vI a3), (4, vI a4), (5, vI a5), (6, vI a6), (7, vI a7), (8, vI a8), (9, vI a9)] [vI t0] := by
  unfold j_Mo_meet_80 at h
  refine g_istore (i := 10) [(10, vI t0), (0, vR (some k)), (1, vI a1), (2, vI a2), (3, vI a3), (4, vI a4), (5, vI a5), (6, vI a6), (7, vI a7), (8, vI a8), (9, vI a9)] ok d_Mo_meet_80 (by decide) rfl ?_
  refine g_iload (i := 6) 7 ok d_Mo_meet_82 rfl ?_
  refine g_if_ne (tgt := 131) ok d_Mo_meet_84 (by decide) (fun c11 => ?_) (fun c11 => ?_)
  · replace h := (if_pos c11).symm.trans h
    refine g_iload (i := 10) 0 ok d_Mo_meet_87 rfl ?_
    refine g_if_eq (tgt := 135) ok d_Mo_meet_89 (by decide) (fun c12 => ?_) (fun c12 => ?_)
    · replace h := (if_pos c12).symm.trans h
      refine g_iconst (v := (0 : Int32)) ok d_Mo_meet_135 (by decide) ?_
      refine g_istore (i := 6) [(6, vI (0 : Int32)), (10, vI t0), (0, vR (some k)), (1, vI a1), (2, vI a2), (3, vI a3), (4, vI a4), (5, vI a5), (7, vI a7), (8, vI a8), (9, vI a9)] ok d_Mo_meet_136 (by decide) rfl ?_
      obtain ⟨x13, e14⟩ : ∃ z, a8 + (1 : Int32) = z := ⟨_, rfl⟩
      replace h := lt_go h e14
      refine g_iinc (i := 8) (v := x13) 9 [(8, vI x13), (6, vI (0 : Int32)), (10, vI t0), (0, vR (some k)), (1, vI a1), (2, vI a2), (3, vI a3), (4, vI a4), (5, vI a5), (7, vI a7), (9, vI a9)] ok d_Mo_meet_138 rfl (by rw [← e14]; rfl) (by decide) rfl ?_
      refine g_goto (tgt := 15) ok d_Mo_meet_141 (by decide) ?_
      refine g_sub [3, 4, 5, 6, 7, 8, 1, 9, 0] rfl ?_
      exact hrec (0 : Int32) x13 _ h hk
    · replace h := (if_neg c12).symm.trans h
      refine g_aload_n (i := 0) 1 ok d_Mo_meet_92 rfl rfl ?_
      refine g_getr (s0 := 20) (j := 23) (ci := 5) (C := RX5) (T := TX5) (N := 29) ok ht lay_20 rfl inX5 (by decide) rfl tw_761 rfl d_Mo_meet_93 ?_
      refine g_iload_n (i := 1) 2 ok d_Mo_meet_96 rfl rfl ?_
      refine g_iload (i := 7) 8 ok d_Mo_meet_97 rfl ?_
      refine g_iadd ok d_Mo_meet_99 ?_
      obtain ⟨k15, hk16, h⟩ := bnd_go h
      refine g_iald ok hk16 d_Mo_meet_100 ?_
      refine g_bipush (v := (99 : Int32)) ok d_Mo_meet_101 (by decide) ?_
      refine g_icmp_le (tgt := 135) ok d_Mo_meet_103 (by decide) (fun c17 => ?_) (fun c17 => ?_)
      · replace h := (if_pos c17).symm.trans h
        refine g_aload_n (i := 0) 1 ok d_Mo_meet_106 rfl rfl ?_
        refine g_getr (s0 := 20) (j := 23) (ci := 5) (C := RX5) (T := TX5) (N := 29) ok ht lay_20 rfl inX5 (by decide) rfl tw_761 rfl d_Mo_meet_107 ?_
        refine g_iload_n (i := 1) 2 ok d_Mo_meet_110 rfl rfl ?_
        refine g_iload (i := 7) 8 ok d_Mo_meet_111 rfl ?_
        refine g_iadd ok d_Mo_meet_113 ?_
        obtain ⟨k18, hk19, h⟩ := bnd_go h
        refine g_iald ok hk19 d_Mo_meet_114 ?_
        refine g_aload_n (i := 0) 1 ok d_Mo_meet_115 rfl rfl ?_
        refine g_getr (s0 := 20) (j := 23) (ci := 5) (C := RX5) (T := TX5) (N := 29) ok ht lay_20 rfl inX5 (by decide) rfl tw_761 rfl d_Mo_meet_116 ?_
        refine g_bipush (v := (81 : Int32)) ok d_Mo_meet_119 (by decide) ?_
        refine g_iload (i := 4) 5 ok d_Mo_meet_121 rfl ?_
        refine g_imul ok d_Mo_meet_123 ?_
        refine g_iload (i := 9) 10 ok d_Mo_meet_124 rfl ?_
        refine g_iadd ok d_Mo_meet_126 ?_
        obtain ⟨k20, hk21, h⟩ := bnd_go h
        refine g_iald ok hk21 d_Mo_meet_127 ?_
        refine g_icmp_ne (tgt := 135) ok d_Mo_meet_128 (by decide) (fun c22 => ?_) (fun c22 => ?_)
        · replace h := (if_pos c22).symm.trans h
          refine g_iconst (v := (1 : Int32)) ok d_Mo_meet_131 (by decide) ?_
          refine g_goto (tgt := 136) ok d_Mo_meet_132 (by decide) ?_
          refine g_istore (i := 6) [(6, vI (1 : Int32)), (10, vI t0), (0, vR (some k)), (1, vI a1), (2, vI a2), (3, vI a3), (4, vI a4), (5, vI a5), (7, vI a7), (8, vI a8), (9, vI a9)] ok d_Mo_meet_136 (by decide) rfl ?_
          obtain ⟨x23, e24⟩ : ∃ z, a8 + (1 : Int32) = z := ⟨_, rfl⟩
          replace h := lt_go h e24
          refine g_iinc (i := 8) (v := x23) 9 [(8, vI x23), (6, vI (1 : Int32)), (10, vI t0), (0, vR (some k)), (1, vI a1), (2, vI a2), (3, vI a3), (4, vI a4), (5, vI a5), (7, vI a7), (9, vI a9)] ok d_Mo_meet_138 rfl (by rw [← e24]; rfl) (by decide) rfl ?_
          refine g_goto (tgt := 15) ok d_Mo_meet_141 (by decide) ?_
          refine g_sub [3, 4, 5, 6, 7, 8, 1, 9, 0] rfl ?_
          exact hrec (1 : Int32) x23 _ h hk
        · replace h := (if_neg c22).symm.trans h
          refine g_iconst (v := (0 : Int32)) ok d_Mo_meet_135 (by decide) ?_
          refine g_istore (i := 6) [(6, vI (0 : Int32)), (10, vI t0), (0, vR (some k)), (1, vI a1), (2, vI a2), (3, vI a3), (4, vI a4), (5, vI a5), (7, vI a7), (8, vI a8), (9, vI a9)] ok d_Mo_meet_136 (by decide) rfl ?_
          obtain ⟨x25, e26⟩ : ∃ z, a8 + (1 : Int32) = z := ⟨_, rfl⟩
          replace h := lt_go h e26
          refine g_iinc (i := 8) (v := x25) 9 [(8, vI x25), (6, vI (0 : Int32)), (10, vI t0), (0, vR (some k)), (1, vI a1), (2, vI a2), (3, vI a3), (4, vI a4), (5, vI a5), (7, vI a7), (9, vI a9)] ok d_Mo_meet_138 rfl (by rw [← e26]; rfl) (by decide) rfl ?_
          refine g_goto (tgt := 15) ok d_Mo_meet_141 (by decide) ?_
          refine g_sub [3, 4, 5, 6, 7, 8, 1, 9, 0] rfl ?_
          exact hrec (0 : Int32) x25 _ h hk
      · replace h := (if_neg c17).symm.trans h
        refine g_iconst (v := (0 : Int32)) ok d_Mo_meet_135 (by decide) ?_
        refine g_istore (i := 6) [(6, vI (0 : Int32)), (10, vI t0), (0, vR (some k)), (1, vI a1), (2, vI a2), (3, vI a3), (4, vI a4), (5, vI a5), (7, vI a7), (8, vI a8), (9, vI a9)] ok d_Mo_meet_136 (by decide) rfl ?_
        obtain ⟨x27, e28⟩ : ∃ z, a8 + (1 : Int32) = z := ⟨_, rfl⟩
        replace h := lt_go h e28
        refine g_iinc (i := 8) (v := x27) 9 [(8, vI x27), (6, vI (0 : Int32)), (10, vI t0), (0, vR (some k)), (1, vI a1), (2, vI a2), (3, vI a3), (4, vI a4), (5, vI a5), (7, vI a7), (9, vI a9)] ok d_Mo_meet_138 rfl (by rw [← e28]; rfl) (by decide) rfl ?_
        refine g_goto (tgt := 15) ok d_Mo_meet_141 (by decide) ?_
        refine g_sub [3, 4, 5, 6, 7, 8, 1, 9, 0] rfl ?_
        exact hrec (0 : Int32) x27 _ h hk
  · replace h := (if_neg c11).symm.trans h
    refine g_iconst (v := (1 : Int32)) ok d_Mo_meet_131 (by decide) ?_
    refine g_goto (tgt := 136) ok d_Mo_meet_132 (by decide) ?_
    refine g_istore (i := 6) [(6, vI (1 : Int32)), (10, vI t0), (0, vR (some k)), (1, vI a1), (2, vI a2), (3, vI a3), (4, vI a4), (5, vI a5), (7, vI a7), (8, vI a8), (9, vI a9)] ok d_Mo_meet_136 (by decide) rfl ?_
    obtain ⟨x29, e30⟩ : ∃ z, a8 + (1 : Int32) = z := ⟨_, rfl⟩
    replace h := lt_go h e30
    refine g_iinc (i := 8) (v := x29) 9 [(8, vI x29), (6, vI (1 : Int32)), (10, vI t0), (0, vR (some k)), (1, vI a1), (2, vI a2), (3, vI a3), (4, vI a4), (5, vI a5), (7, vI a7), (9, vI a9)] ok d_Mo_meet_138 rfl (by rw [← e30]; rfl) (by decide) rfl ?_
    refine g_goto (tgt := 15) ok d_Mo_meet_141 (by decide) ?_
    refine g_sub [3, 4, 5, 6, 7, 8, 1, 9, 0] rfl ?_
    exact hrec (1 : Int32) x29 _ h hk
set_option maxRecDepth 100000 in
set_option maxHeartbeats 4000000 in
theorem w_j_Mo_meet_79 {X : CX} {KX : Int32 → Prop} {k : Nat} {a1 : Int32} {a2 : Int32} {a3 : Int32} {a4 : Int32} {a5 : Int32} {a6 : Int32} {a7 : Int32} {a8 : Int32} {a9 : Int32} {s : MS} {rec : Int32 → Int32 → Option (Int32)} (ok : Ok X cX5_meet RX5 rm_Mo_meet 11 false) (hexit : ∀ (e6 : Int32), KX e6 → G X s 0 0 144 [(0, vR (some k)), (1, vI a1), (2, vI a2), (3, vI a3), (4, vI a4), (5, vI a5), (6, vI e6), (7, vI a7)] []) (hrec : ∀ (v6 : Int32) (v8 : Int32), ∀ y, rec v6 v8 = some y → KX y → G X s 0 0 15 [(0, vR (some k)), (1, vI a1), (2, vI a2), (3, vI a3), (4, vI a4), (5, vI a5), (6, vI v6), (7, vI a7), (8, vI v8)] []) (ht : rf s.2.2 20 (some k) = some k) {res : Int32} (h : j_Mo_meet_79 k a1 a2 a3 a4 a5 a6 a7 a8 a9 s rec = some res) (hk : KX res) : G X s 0 0 79 [(0, vR (some k)), (1, vI a1), (2, vI a2), (3, vI a3), (4, vI a4), (5, vI a5), (6, vI a6), (7, vI a7), (8, vI a8), (9, vI a9)] [] := by
  unfold j_Mo_meet_79 at h
  refine g_iconst (v := (0 : Int32)) ok d_Mo_meet_79 (by decide) ?_
  exact w_j_Mo_meet_80 ok hexit hrec ht h hk
set_option maxRecDepth 100000 in
set_option maxHeartbeats 4000000 in
theorem w_b_Mo_meet_15 {X : CX} {KX : Int32 → Prop} {k : Nat} {a1 : Int32} {a2 : Int32} {a3 : Int32} {a4 : Int32} {a5 : Int32} {a6 : Int32} {a7 : Int32} {a8 : Int32} {s : MS} {rec : Int32 → Int32 → Option (Int32)} (ok : Ok X cX5_meet RX5 rm_Mo_meet 11 false) (hexit : ∀ (e6 : Int32), KX e6 → G X s 0 0 144 [(0, vR (some k)), (1, vI a1), (2, vI a2), (3, vI a3), (4, vI a4), (5, vI a5), (6, vI e6), (7, vI a7)] []) (hrec : ∀ (v6 : Int32) (v8 : Int32), ∀ y, rec v6 v8 = some y → KX y → G X s 0 0 15 [(0, vR (some k)), (1, vI a1), (2, vI a2), (3, vI a3), (4, vI a4), (5, vI a5), (6, vI v6), (7, vI a7), (8, vI v8)] []) (ht : rf s.2.2 20 (some k) = some k) {res : Int32} (h : b_Mo_meet_15 k a1 a2 a3 a4 a5 a6 a7 a8 s rec = some res) (hk : KX res) : G X s 0 0 15 [(0, vR (some k)), (1, vI a1), (2, vI a2), (3, vI a3), (4, vI a4), (5, vI a5), (6, vI a6), (7, vI a7), (8, vI a8)] [] := by
  unfold b_Mo_meet_15 at h
  refine g_iload (i := 8) 8 ok d_Mo_meet_15 rfl ?_
  refine g_iconst (v := (2 : Int32)) ok d_Mo_meet_17 (by decide) ?_
  refine g_icmp_ge (tgt := 144) ok d_Mo_meet_18 (by decide) (fun c2 => ?_) (fun c2 => ?_)
  · replace h := (if_pos c2).symm.trans h
    refine g_iload_n (i := 2) 2 ok d_Mo_meet_21 rfl rfl ?_
    refine g_iload (i := 7) 7 ok d_Mo_meet_22 rfl ?_
    refine g_iadd ok d_Mo_meet_24 ?_
    refine g_iload (i := 8) 8 ok d_Mo_meet_25 rfl ?_
    refine g_iadd ok d_Mo_meet_27 ?_
    refine g_aload_n (i := 0) 0 ok d_Mo_meet_28 rfl rfl ?_
    refine g_getr (s0 := 20) (j := 19) (ci := 5) (C := RX5) (T := TX5) (N := 29) ok ht lay_20 rfl inX5 (by decide) rfl tw_757 rfl d_Mo_meet_29 ?_
    refine g_iload (i := 4) 4 ok d_Mo_meet_32 rfl ?_
    obtain ⟨k3, hk4, h⟩ := bnd_go h
    refine g_iald ok hk4 d_Mo_meet_34 ?_
    refine g_isub ok d_Mo_meet_35 ?_
    obtain ⟨x5, e6⟩ : ∃ z, (((a2 + a7) + a8) - (s.1 k3 a4.toNatClampNeg)) = z := ⟨_, rfl⟩
    replace h := lt_go h e6
    rw [e6]
    refine g_istore (i := 9) [(9, vI x5), (0, vR (some k)), (1, vI a1), (2, vI a2), (3, vI a3), (4, vI a4), (5, vI a5), (6, vI a6), (7, vI a7), (8, vI a8)] ok d_Mo_meet_36 (by decide) rfl ?_
    refine g_iload (i := 9) 0 ok d_Mo_meet_38 rfl ?_
    refine g_iconst (v := (0 : Int32)) ok d_Mo_meet_40 (by decide) ?_
    refine g_aload_n (i := 0) 1 ok d_Mo_meet_41 rfl rfl ?_
    refine g_getr (s0 := 20) (j := 20) (ci := 5) (C := RX5) (T := TX5) (N := 29) ok ht lay_20 rfl inX5 (by decide) rfl tw_758 rfl d_Mo_meet_42 ?_
    refine g_iload (i := 4) 5 ok d_Mo_meet_45 rfl ?_
    obtain ⟨k7, hk8, h⟩ := bnd_go h
    refine g_iald ok hk8 d_Mo_meet_47 ?_
    refine g_invS (rm2 := rm_Mo_within) (As := [vI x5, vI (0 : Int32), vI (s.1 k7 a4.toNatClampNeg)]) (rest := []) ok (c_Mo_within X.1.2.1) cm_Mo_within cs_Mo_within tw_838 ⟨rfl, rfl⟩ ⟨le_t rfl, le_t rfl⟩ ⟨rfl, le_t rfl⟩ ⟨le_t rfl, le_t rfl⟩ d_Mo_meet_48 rfl (fun m9 => ?_)
    show G X s 0 0 51 [(9, vI x5), (0, vR (some k)), (1, vI a1), (2, vI a2), (3, vI a3), (4, vI a4), (5, vI a5), (6, vI a6), (7, vI a7), (8, vI a8)] [vI (f_Mo_within x5 (0 : Int32) (s.1 k7 a4.toNatClampNeg))]
    refine g_if_eq (tgt := 79) ok d_Mo_meet_51 (by decide) (fun c10 => ?_) (fun c10 => ?_)
    · replace h := (if_pos c10).symm.trans h
      refine g_sub [1, 2, 3, 4, 5, 6, 7, 8, 9, 0] rfl ?_
      exact w_j_Mo_meet_79 ok hexit hrec ht h hk
    · replace h := (if_neg c10).symm.trans h
      refine g_iload_n (i := 2) 3 ok d_Mo_meet_54 rfl rfl ?_
      refine g_iload (i := 7) 8 ok d_Mo_meet_55 rfl ?_
      refine g_iadd ok d_Mo_meet_57 ?_
      refine g_iload (i := 5) 6 ok d_Mo_meet_58 rfl ?_
      refine g_icmp_lt (tgt := 79) ok d_Mo_meet_60 (by decide) (fun c31 => ?_) (fun c31 => ?_)
      · replace h := (if_pos c31).symm.trans h
        refine g_sub [1, 2, 3, 4, 5, 6, 7, 8, 9, 0] rfl ?_
        exact w_j_Mo_meet_79 ok hexit hrec ht h hk
      · replace h := (if_neg c31).symm.trans h
        refine g_iload_n (i := 2) 3 ok d_Mo_meet_63 rfl rfl ?_
        refine g_iload (i := 7) 8 ok d_Mo_meet_64 rfl ?_
        refine g_iadd ok d_Mo_meet_66 ?_
        refine g_iload (i := 8) 9 ok d_Mo_meet_67 rfl ?_
        refine g_iadd ok d_Mo_meet_69 ?_
        refine g_iload (i := 5) 6 ok d_Mo_meet_70 rfl ?_
        refine g_icmp_lt (tgt := 79) ok d_Mo_meet_72 (by decide) (fun c32 => ?_) (fun c32 => ?_)
        · replace h := (if_pos c32).symm.trans h
          refine g_sub [1, 2, 3, 4, 5, 6, 7, 8, 9, 0] rfl ?_
          exact w_j_Mo_meet_79 ok hexit hrec ht h hk
        · replace h := (if_neg c32).symm.trans h
          refine g_iconst (v := (1 : Int32)) ok d_Mo_meet_75 (by decide) ?_
          refine g_goto (tgt := 80) ok d_Mo_meet_76 (by decide) ?_
          refine g_sub [1, 2, 3, 4, 5, 6, 7, 8, 9, 0] rfl ?_
          exact w_j_Mo_meet_80 ok hexit hrec ht h hk
  · replace h := (if_neg c2).symm.trans h
    refine g_sub [0, 1, 2, 3, 4, 5, 6, 7] rfl ?_
    cases h
    exact hexit a6 hk
theorem w_l_Mo_meet_15 {X : CX} {KX : Int32 → Prop} {k : Nat} {a1 : Int32} {a2 : Int32} {a3 : Int32} {a4 : Int32} {a5 : Int32} {a7 : Int32} {s : MS} (ok : Ok X cX5_meet RX5 rm_Mo_meet 11 false) (hexit : ∀ (e6 : Int32), KX e6 → G X s 0 0 144 [(0, vR (some k)), (1, vI a1), (2, vI a2), (3, vI a3), (4, vI a4), (5, vI a5), (6, vI e6), (7, vI a7)] []) (ht : rf s.2.2 20 (some k) = some k) : ∀ (n : Nat) (a6 : Int32) (a8 : Int32) {res : Int32}, l_Mo_meet_15 k a1 a2 a3 a4 a5 a7 s n a6 a8 = some res → KX res → G X s 0 0 15 [(0, vR (some k)), (1, vI a1), (2, vI a2), (3, vI a3), (4, vI a4), (5, vI a5), (6, vI a6), (7, vI a7), (8, vI a8)] [] := by
  intro n
  induction n with
  | zero => intro _ _ res h; cases h
  | succ n ih =>
    intro a6 a8 res h hk
    exact w_b_Mo_meet_15 ok hexit (fun v6 v8 y h2 hk2 => ih v6 v8 h2 hk2) ht h hk
set_option maxRecDepth 100000 in
set_option maxHeartbeats 4000000 in
theorem w_b_Mo_meet_6 {X : CX} {KX : Int32 → Prop} {k : Nat} {a1 : Int32} {a2 : Int32} {a3 : Int32} {a4 : Int32} {a5 : Int32} {a6 : Int32} {a7 : Int32} {s : MS} {rec : Int32 → Int32 → Option (Int32)} (ok : Ok X cX5_meet RX5 rm_Mo_meet 11 false) (hexit : ∀ (e6 : Int32), KX e6 → G X s 0 0 150 [(0, vR (some k)), (6, vI e6)] []) (hrec : ∀ (v6 : Int32) (v7 : Int32), ∀ y, rec v6 v7 = some y → KX y → G X s 0 0 6 [(0, vR (some k)), (1, vI a1), (2, vI a2), (3, vI a3), (4, vI a4), (5, vI a5), (6, vI v6), (7, vI v7)] []) (ht : rf s.2.2 20 (some k) = some k) {res : Int32} (h : b_Mo_meet_6 k a1 a2 a3 a4 a5 a6 a7 s rec = some res) (hk : KX res) : G X s 0 0 6 [(0, vR (some k)), (1, vI a1), (2, vI a2), (3, vI a3), (4, vI a4), (5, vI a5), (6, vI a6), (7, vI a7)] [] := by
  unfold b_Mo_meet_6 at h
  refine g_iload (i := 7) 7 ok d_Mo_meet_6 rfl ?_
  refine g_iload_n (i := 3) 3 ok d_Mo_meet_8 rfl rfl ?_
  refine g_icmp_gt (tgt := 150) ok d_Mo_meet_9 (by decide) (fun c1 => ?_) (fun c1 => ?_)
  · replace h := (if_pos c1).symm.trans h
    refine g_sub [0, 6] rfl ?_
    cases h
    exact hexit a6 hk
  · replace h := (if_neg c1).symm.trans h
    refine g_iconst (v := (-1 : Int32)) ok d_Mo_meet_12 (by decide) ?_
    refine g_istore (i := 8) [(8, vI (-1 : Int32)), (0, vR (some k)), (1, vI a1), (2, vI a2), (3, vI a3), (4, vI a4), (5, vI a5), (6, vI a6), (7, vI a7)] ok d_Mo_meet_13 (by decide) rfl ?_
    refine g_sub [1, 2, 3, 4, 5, 6, 7, 8, 0] rfl ?_
    obtain ⟨e33, hx, h⟩ := bnd_go h
    refine w_l_Mo_meet_15 (KX := fun y => y = e33) ok (fun y0 he => ?_) ht _ _ _ hx rfl
    cases he
    obtain ⟨x34, e35⟩ : ∃ z, a7 + (1 : Int32) = z := ⟨_, rfl⟩
    replace h := lt_go h e35
    refine g_iinc (i := 7) (v := x34) 7 [(7, vI x34), (0, vR (some k)), (1, vI a1), (2, vI a2), (3, vI a3), (4, vI a4), (5, vI a5), (6, vI e33)] ok d_Mo_meet_144 rfl (by rw [← e35]; rfl) (by decide) rfl ?_
    refine g_goto (tgt := 6) ok d_Mo_meet_147 (by decide) ?_
    refine g_sub [1, 2, 3, 4, 5, 6, 7, 0] rfl ?_
    exact hrec e33 x34 _ h hk
theorem w_l_Mo_meet_6 {X : CX} {KX : Int32 → Prop} {k : Nat} {a1 : Int32} {a2 : Int32} {a3 : Int32} {a4 : Int32} {a5 : Int32} {s : MS} (ok : Ok X cX5_meet RX5 rm_Mo_meet 11 false) (hexit : ∀ (e6 : Int32), KX e6 → G X s 0 0 150 [(0, vR (some k)), (6, vI e6)] []) (ht : rf s.2.2 20 (some k) = some k) : ∀ (n : Nat) (a6 : Int32) (a7 : Int32) {res : Int32}, l_Mo_meet_6 k a1 a2 a3 a4 a5 s n a6 a7 = some res → KX res → G X s 0 0 6 [(0, vR (some k)), (1, vI a1), (2, vI a2), (3, vI a3), (4, vI a4), (5, vI a5), (6, vI a6), (7, vI a7)] [] := by
  intro n
  induction n with
  | zero => intro _ _ res h; cases h
  | succ n ih =>
    intro a6 a7 res h hk
    exact w_b_Mo_meet_6 ok hexit (fun v6 v7 y h2 hk2 => ih v6 v7 h2 hk2) ht h hk
set_option maxRecDepth 100000 in
set_option maxHeartbeats 4000000 in
theorem w_Mo_meet {X : CX} {KX : Int32 → Prop} {k : Nat} {a1 : Int32} {a2 : Int32} {a3 : Int32} {a4 : Int32} {a5 : Int32} {s : MS} (ok : Ok X cX5_meet RX5 rm_Mo_meet 11 false) (hret : ∀ r : Int32, KX r → Fin X (some .boolean) 0 0 false (some (vI r)) s)   (ht : rf s.2.2 20 (some k) = some k) {res : Int32} (h : f_Mo_meet k a1 a2 a3 a4 a5 s = some res) (hk : KX res) : G X s 0 0 0 [(0, vR (some k)), (1, vI a1), (2, vI a2), (3, vI a3), (4, vI a4), (5, vI a5)] [] := by
  unfold f_Mo_meet at h
  refine g_iconst (v := (0 : Int32)) ok d_Mo_meet_0 (by decide) ?_
  refine g_istore (i := 6) [(6, vI (0 : Int32)), (0, vR (some k)), (1, vI a1), (2, vI a2), (3, vI a3), (4, vI a4), (5, vI a5)] ok d_Mo_meet_1 (by decide) rfl ?_
  refine g_iconst (v := (0 : Int32)) ok d_Mo_meet_3 (by decide) ?_
  refine g_istore (i := 7) [(7, vI (0 : Int32)), (6, vI (0 : Int32)), (0, vR (some k)), (1, vI a1), (2, vI a2), (3, vI a3), (4, vI a4), (5, vI a5)] ok d_Mo_meet_4 (by decide) rfl ?_
  refine g_sub [2, 3, 4, 5, 6, 7, 1, 0] rfl ?_
  obtain ⟨e36, hx, h⟩ := bnd_go h
  refine w_l_Mo_meet_6 (KX := fun y => y = e36) ok (fun y0 he => ?_) ht _ _ _ hx rfl
  cases he
  refine g_iload (i := 6) 1 ok d_Mo_meet_150 rfl ?_
  obtain ⟨g37, h⟩ := gd_go h
  cases h
  exact g_zret ok (hret _ hk) g37 (by decide) (by decide) d_Mo_meet_152
theorem c_Mo_meet (l : Launch) {k : Nat} {a1 : Int32} {a2 : Int32} {a3 : Int32} {a4 : Int32} {a5 : Int32} {s : MS} (ht : rf s.2.2 20 (some k) = some k) {r : Int32} (h : f_Mo_meet k a1 a2 a3 a4 a5 s = some r) : Ct l yX5_meet (.code yX5_meet cX5_meet 11 (some .boolean)) rm_Mo_meet 0 0 false [vR (some k), vI a1, vI a2, vI a3, vI a4, vI a5] s (some (vI r)) s :=
  Ct.of rfl (by decide +kernel) ⟨rfl, le_t rfl⟩ (fun X ok fn _ hI hl => w_Mo_meet (KX := fun y => y = r) ok (fun y hy => by subst hy; exact fn) ht h rfl)
abbrev rm_Mo_waiting : Room := { frames := 0, cells := 0, slots := 0, locals := 0 }
theorem cm_Mo_waiting : cfM yX5_waiting cX5_waiting 4 (some .int) 1 := ⟨tw_916, tw_4, by decide, by decide, by decide +kernel⟩
theorem cv_Mo_waiting : cfV yX5_waiting := ⟨tw_915, ts_X5_waiting⟩
theorem d_Mo_waiting_0 : decode cX5_waiting 0 = .ok (.iconst 0, 1) := by decide +kernel
theorem d_Mo_waiting_1 : decode cX5_waiting 1 = .ok (.istore_n 2, 1) := by decide +kernel
theorem d_Mo_waiting_2 : decode cX5_waiting 2 = .ok (.iconst 0, 1) := by decide +kernel
theorem d_Mo_waiting_3 : decode cX5_waiting 3 = .ok (.istore_n 3, 1) := by decide +kernel
theorem d_Mo_waiting_4 : decode cX5_waiting 4 = .ok (.iload_n 3, 1) := by decide +kernel
theorem d_Mo_waiting_5 : decode cX5_waiting 5 = .ok (.aload_n 0, 1) := by decide +kernel
theorem d_Mo_waiting_6 : decode cX5_waiting 6 = .ok (.getfield 82, 3) := by decide +kernel
theorem d_Mo_waiting_9 : decode cX5_waiting 9 = .ok (.if_icmp .ge 41, 3) := by decide +kernel
theorem d_Mo_waiting_12 : decode cX5_waiting 12 = .ok (.iload_n 2, 1) := by decide +kernel
theorem d_Mo_waiting_13 : decode cX5_waiting 13 = .ok (.aload_n 0, 1) := by decide +kernel
theorem d_Mo_waiting_14 : decode cX5_waiting 14 = .ok (.getfield 59, 3) := by decide +kernel
theorem d_Mo_waiting_17 : decode cX5_waiting 17 = .ok (.iload_n 3, 1) := by decide +kernel
theorem d_Mo_waiting_18 : decode cX5_waiting 18 = .ok (.iaload, 1) := by decide +kernel
theorem d_Mo_waiting_19 : decode cX5_waiting 19 = .ok (.ifCond .ne 22, 3) := by decide +kernel
theorem d_Mo_waiting_22 : decode cX5_waiting 22 = .ok (.aload_n 0, 1) := by decide +kernel
theorem d_Mo_waiting_23 : decode cX5_waiting 23 = .ok (.getfield 23, 3) := by decide +kernel
theorem d_Mo_waiting_26 : decode cX5_waiting 26 = .ok (.aload_n 0, 1) := by decide +kernel
theorem d_Mo_waiting_27 : decode cX5_waiting 27 = .ok (.getfield 47, 3) := by decide +kernel
theorem d_Mo_waiting_30 : decode cX5_waiting 30 = .ok (.iload_n 3, 1) := by decide +kernel
theorem d_Mo_waiting_31 : decode cX5_waiting 31 = .ok (.iaload, 1) := by decide +kernel
theorem d_Mo_waiting_32 : decode cX5_waiting 32 = .ok (.iaload, 1) := by decide +kernel
theorem d_Mo_waiting_33 : decode cX5_waiting 33 = .ok (.iload_n 1, 1) := by decide +kernel
theorem d_Mo_waiting_34 : decode cX5_waiting 34 = .ok (.if_icmp .ne 7, 3) := by decide +kernel
theorem d_Mo_waiting_37 : decode cX5_waiting 37 = .ok (.iconst 1, 1) := by decide +kernel
theorem d_Mo_waiting_38 : decode cX5_waiting 38 = .ok (.goto 4, 3) := by decide +kernel
theorem d_Mo_waiting_41 : decode cX5_waiting 41 = .ok (.iconst 0, 1) := by decide +kernel
theorem d_Mo_waiting_42 : decode cX5_waiting 42 = .ok (.iadd, 1) := by decide +kernel
theorem d_Mo_waiting_43 : decode cX5_waiting 43 = .ok (.istore_n 2, 1) := by decide +kernel
theorem d_Mo_waiting_44 : decode cX5_waiting 44 = .ok (.iinc 3 1, 3) := by decide +kernel
theorem d_Mo_waiting_47 : decode cX5_waiting 47 = .ok (.goto (-43), 3) := by decide +kernel
theorem d_Mo_waiting_50 : decode cX5_waiting 50 = .ok (.iload_n 2, 1) := by decide +kernel
theorem d_Mo_waiting_51 : decode cX5_waiting 51 = .ok (.ireturn, 1) := by decide +kernel
set_option maxRecDepth 100000 in
set_option maxHeartbeats 4000000 in
theorem w_b_Mo_waiting_4 {X : CX} {KX : Int32 → Prop} {k : Nat} {a1 : Int32} {a2 : Int32} {a3 : Int32} {s : MS} {rec : Int32 → Int32 → Option (Int32)} (ok : Ok X cX5_waiting RX5 rm_Mo_waiting 4 false) (hexit : ∀ (e2 : Int32), KX e2 → G X s 0 0 50 [(0, vR (some k)), (2, vI e2)] []) (hrec : ∀ (v2 : Int32) (v3 : Int32), ∀ y, rec v2 v3 = some y → KX y → G X s 0 0 4 [(0, vR (some k)), (1, vI a1), (2, vI v2), (3, vI v3)] []) (ht : rf s.2.2 20 (some k) = some k) {res : Int32} (h : b_Mo_waiting_4 k a1 a2 a3 s rec = some res) (hk : KX res) : G X s 0 0 4 [(0, vR (some k)), (1, vI a1), (2, vI a2), (3, vI a3)] [] := by
  unfold b_Mo_waiting_4 at h
  refine g_iload_n (i := 3) 3 ok d_Mo_waiting_4 rfl rfl ?_
  refine g_aload_n (i := 0) 0 ok d_Mo_waiting_5 rfl rfl ?_
  refine g_geti (s0 := 20) (j := 17) (ci := 5) (C := RX5) (T := TX5) (N := 29) ok ht lay_20 rfl inX5 (by decide) rfl tw_755 rfl d_Mo_waiting_6 ?_
  refine g_icmp_ge (tgt := 50) ok d_Mo_waiting_9 (by decide) (fun c1 => ?_) (fun c1 => ?_)
  · replace h := (if_pos c1).symm.trans h
    refine g_iload_n (i := 2) 2 ok d_Mo_waiting_12 rfl rfl ?_
    refine g_aload_n (i := 0) 0 ok d_Mo_waiting_13 rfl rfl ?_
    refine g_getr (s0 := 20) (j := 22) (ci := 5) (C := RX5) (T := TX5) (N := 29) ok ht lay_20 rfl inX5 (by decide) rfl tw_760 rfl d_Mo_waiting_14 ?_
    refine g_iload_n (i := 3) 3 ok d_Mo_waiting_17 rfl rfl ?_
    obtain ⟨k2, hk3, h⟩ := bnd_go h
    refine g_iald ok hk3 d_Mo_waiting_18 ?_
    refine g_if_ne (tgt := 41) ok d_Mo_waiting_19 (by decide) (fun c4 => ?_) (fun c4 => ?_)
    · replace h := (if_pos c4).symm.trans h
      refine g_aload_n (i := 0) 0 ok d_Mo_waiting_22 rfl rfl ?_
      refine g_getr (s0 := 20) (j := 8) (ci := 5) (C := RX5) (T := TX5) (N := 29) ok ht lay_20 rfl inX5 (by decide) rfl tw_746 rfl d_Mo_waiting_23 ?_
      refine g_aload_n (i := 0) 0 ok d_Mo_waiting_26 rfl rfl ?_
      refine g_getr (s0 := 20) (j := 18) (ci := 5) (C := RX5) (T := TX5) (N := 29) ok ht lay_20 rfl inX5 (by decide) rfl tw_756 rfl d_Mo_waiting_27 ?_
      refine g_iload_n (i := 3) 3 ok d_Mo_waiting_30 rfl rfl ?_
      obtain ⟨k5, hk6, h⟩ := bnd_go h
      refine g_iald ok hk6 d_Mo_waiting_31 ?_
      obtain ⟨k7, hk8, h⟩ := bnd_go h
      refine g_iald ok hk8 d_Mo_waiting_32 ?_
      refine g_iload_n (i := 1) 1 ok d_Mo_waiting_33 rfl rfl ?_
      refine g_icmp_ne (tgt := 41) ok d_Mo_waiting_34 (by decide) (fun c9 => ?_) (fun c9 => ?_)
      · replace h := (if_pos c9).symm.trans h
        refine g_iconst (v := (1 : Int32)) ok d_Mo_waiting_37 (by decide) ?_
        refine g_goto (tgt := 42) ok d_Mo_waiting_38 (by decide) ?_
        refine g_iadd ok d_Mo_waiting_42 ?_
        obtain ⟨x10, e11⟩ : ∃ z, (a2 + (1 : Int32)) = z := ⟨_, rfl⟩
        replace h := lt_go h e11
        rw [e11]
        refine g_istore_n (i := 2) [(2, vI x10), (0, vR (some k)), (1, vI a1), (3, vI a3)] ok d_Mo_waiting_43 rfl (by decide) rfl ?_
        obtain ⟨x12, e13⟩ : ∃ z, a3 + (1 : Int32) = z := ⟨_, rfl⟩
        replace h := lt_go h e13
        refine g_iinc (i := 3) (v := x12) 3 [(3, vI x12), (2, vI x10), (0, vR (some k)), (1, vI a1)] ok d_Mo_waiting_44 rfl (by rw [← e13]; rfl) (by decide) rfl ?_
        refine g_goto (tgt := 4) ok d_Mo_waiting_47 (by decide) ?_
        refine g_sub [2, 3, 1, 0] rfl ?_
        exact hrec x10 x12 _ h hk
      · replace h := (if_neg c9).symm.trans h
        refine g_iconst (v := (0 : Int32)) ok d_Mo_waiting_41 (by decide) ?_
        refine g_iadd ok d_Mo_waiting_42 ?_
        obtain ⟨x14, e15⟩ : ∃ z, (a2 + (0 : Int32)) = z := ⟨_, rfl⟩
        replace h := lt_go h e15
        rw [e15]
        refine g_istore_n (i := 2) [(2, vI x14), (0, vR (some k)), (1, vI a1), (3, vI a3)] ok d_Mo_waiting_43 rfl (by decide) rfl ?_
        obtain ⟨x16, e17⟩ : ∃ z, a3 + (1 : Int32) = z := ⟨_, rfl⟩
        replace h := lt_go h e17
        refine g_iinc (i := 3) (v := x16) 3 [(3, vI x16), (2, vI x14), (0, vR (some k)), (1, vI a1)] ok d_Mo_waiting_44 rfl (by rw [← e17]; rfl) (by decide) rfl ?_
        refine g_goto (tgt := 4) ok d_Mo_waiting_47 (by decide) ?_
        refine g_sub [2, 3, 1, 0] rfl ?_
        exact hrec x14 x16 _ h hk
    · replace h := (if_neg c4).symm.trans h
      refine g_iconst (v := (0 : Int32)) ok d_Mo_waiting_41 (by decide) ?_
      refine g_iadd ok d_Mo_waiting_42 ?_
      obtain ⟨x18, e19⟩ : ∃ z, (a2 + (0 : Int32)) = z := ⟨_, rfl⟩
      replace h := lt_go h e19
      rw [e19]
      refine g_istore_n (i := 2) [(2, vI x18), (0, vR (some k)), (1, vI a1), (3, vI a3)] ok d_Mo_waiting_43 rfl (by decide) rfl ?_
      obtain ⟨x20, e21⟩ : ∃ z, a3 + (1 : Int32) = z := ⟨_, rfl⟩
      replace h := lt_go h e21
      refine g_iinc (i := 3) (v := x20) 3 [(3, vI x20), (2, vI x18), (0, vR (some k)), (1, vI a1)] ok d_Mo_waiting_44 rfl (by rw [← e21]; rfl) (by decide) rfl ?_
      refine g_goto (tgt := 4) ok d_Mo_waiting_47 (by decide) ?_
      refine g_sub [2, 3, 1, 0] rfl ?_
      exact hrec x18 x20 _ h hk
  · replace h := (if_neg c1).symm.trans h
    refine g_sub [0, 2] rfl ?_
    cases h
    exact hexit a2 hk
theorem w_l_Mo_waiting_4 {X : CX} {KX : Int32 → Prop} {k : Nat} {a1 : Int32} {s : MS} (ok : Ok X cX5_waiting RX5 rm_Mo_waiting 4 false) (hexit : ∀ (e2 : Int32), KX e2 → G X s 0 0 50 [(0, vR (some k)), (2, vI e2)] []) (ht : rf s.2.2 20 (some k) = some k) : ∀ (n : Nat) (a2 : Int32) (a3 : Int32) {res : Int32}, l_Mo_waiting_4 k a1 s n a2 a3 = some res → KX res → G X s 0 0 4 [(0, vR (some k)), (1, vI a1), (2, vI a2), (3, vI a3)] [] := by
  intro n
  induction n with
  | zero => intro _ _ res h; cases h
  | succ n ih =>
    intro a2 a3 res h hk
    exact w_b_Mo_waiting_4 ok hexit (fun v2 v3 y h2 hk2 => ih v2 v3 h2 hk2) ht h hk
set_option maxRecDepth 100000 in
set_option maxHeartbeats 4000000 in
theorem w_Mo_waiting {X : CX} {KX : Int32 → Prop} {k : Nat} {a1 : Int32} {s : MS} (ok : Ok X cX5_waiting RX5 rm_Mo_waiting 4 false) (hret : ∀ r : Int32, KX r → Fin X (some .int) 0 0 false (some (vI r)) s)   (ht : rf s.2.2 20 (some k) = some k) {res : Int32} (h : f_Mo_waiting k a1 s = some res) (hk : KX res) : G X s 0 0 0 [(0, vR (some k)), (1, vI a1)] [] := by
  unfold f_Mo_waiting at h
  refine g_iconst (v := (0 : Int32)) ok d_Mo_waiting_0 (by decide) ?_
  refine g_istore_n (i := 2) [(2, vI (0 : Int32)), (0, vR (some k)), (1, vI a1)] ok d_Mo_waiting_1 rfl (by decide) rfl ?_
  refine g_iconst (v := (0 : Int32)) ok d_Mo_waiting_2 (by decide) ?_
  refine g_istore_n (i := 3) [(3, vI (0 : Int32)), (2, vI (0 : Int32)), (0, vR (some k)), (1, vI a1)] ok d_Mo_waiting_3 rfl (by decide) rfl ?_
  refine g_sub [2, 3, 1, 0] rfl ?_
  obtain ⟨e22, hx, h⟩ := bnd_go h
  refine w_l_Mo_waiting_4 (KX := fun y => y = e22) ok (fun y0 he => ?_) ht _ _ _ hx rfl
  cases he
  refine g_iload_n (i := 2) 1 ok d_Mo_waiting_50 rfl rfl ?_
  cases h
  exact g_iret ok (hret _ hk) (by decide) (by decide) d_Mo_waiting_51
theorem c_Mo_waiting (l : Launch) {k : Nat} {a1 : Int32} {s : MS} (ht : rf s.2.2 20 (some k) = some k) {r : Int32} (h : f_Mo_waiting k a1 s = some r) : Ct l yX5_waiting (.code yX5_waiting cX5_waiting 4 (some .int)) rm_Mo_waiting 0 0 false [vR (some k), vI a1] s (some (vI r)) s :=
  Ct.of rfl (by decide +kernel) ⟨rfl, le_t rfl⟩ (fun X ok fn _ hI hl => w_Mo_waiting (KX := fun y => y = r) ok (fun y hy => by subst hy; exact fn) ht h rfl)
abbrev rm_Mo_reason : Room := { frames := 5, cells := 0, slots := 0, locals := 112 }
theorem cm_Mo_reason : cfM yX5_reason cX5_reason 8 (some .int) 3 := ⟨tw_912, tw_4, by decide, by decide, by decide +kernel⟩
theorem cv_Mo_reason : cfV yX5_reason := ⟨tw_911, ts_X5_reason⟩
theorem d_Mo_reason_0 : decode cX5_reason 0 = .ok (.aload_n 0, 1) := by decide +kernel
theorem d_Mo_reason_1 : decode cX5_reason 1 = .ok (.getfield 35, 3) := by decide +kernel
theorem d_Mo_reason_4 : decode cX5_reason 4 = .ok (.iload_n 1, 1) := by decide +kernel
theorem d_Mo_reason_5 : decode cX5_reason 5 = .ok (.iaload, 1) := by decide +kernel
theorem d_Mo_reason_6 : decode cX5_reason 6 = .ok (.ifCond .ne 13, 3) := by decide +kernel
theorem d_Mo_reason_9 : decode cX5_reason 9 = .ok (.aload_n 0, 1) := by decide +kernel
theorem d_Mo_reason_10 : decode cX5_reason 10 = .ok (.getfield 38, 3) := by decide +kernel
theorem d_Mo_reason_13 : decode cX5_reason 13 = .ok (.iload_n 1, 1) := by decide +kernel
theorem d_Mo_reason_14 : decode cX5_reason 14 = .ok (.iaload, 1) := by decide +kernel
theorem d_Mo_reason_15 : decode cX5_reason 15 = .ok (.iconst (-1), 1) := by decide +kernel
theorem d_Mo_reason_16 : decode cX5_reason 16 = .ok (.if_icmp .eq 28, 3) := by decide +kernel
theorem d_Mo_reason_19 : decode cX5_reason 19 = .ok (.aload_n 0, 1) := by decide +kernel
theorem d_Mo_reason_20 : decode cX5_reason 20 = .ok (.aload_n 0, 1) := by decide +kernel
theorem d_Mo_reason_21 : decode cX5_reason 21 = .ok (.getfield 35, 3) := by decide +kernel
theorem d_Mo_reason_24 : decode cX5_reason 24 = .ok (.iload_n 1, 1) := by decide +kernel
theorem d_Mo_reason_25 : decode cX5_reason 25 = .ok (.iaload, 1) := by decide +kernel
theorem d_Mo_reason_26 : decode cX5_reason 26 = .ok (.ifCond .eq 7, 3) := by decide +kernel
theorem d_Mo_reason_29 : decode cX5_reason 29 = .ok (.iconst (-1), 1) := by decide +kernel
theorem d_Mo_reason_30 : decode cX5_reason 30 = .ok (.goto 9, 3) := by decide +kernel
theorem d_Mo_reason_33 : decode cX5_reason 33 = .ok (.aload_n 0, 1) := by decide +kernel
theorem d_Mo_reason_34 : decode cX5_reason 34 = .ok (.getfield 38, 3) := by decide +kernel
theorem d_Mo_reason_37 : decode cX5_reason 37 = .ok (.iload_n 1, 1) := by decide +kernel
theorem d_Mo_reason_38 : decode cX5_reason 38 = .ok (.iaload, 1) := by decide +kernel
theorem d_Mo_reason_39 : decode cX5_reason 39 = .ok (.putfield 68, 3) := by decide +kernel
theorem d_Mo_reason_42 : decode cX5_reason 42 = .ok (.iconst 1, 1) := by decide +kernel
theorem d_Mo_reason_43 : decode cX5_reason 43 = .ok (.ireturn, 1) := by decide +kernel
theorem d_Mo_reason_44 : decode cX5_reason 44 = .ok (.aload_n 0, 1) := by decide +kernel
theorem d_Mo_reason_45 : decode cX5_reason 45 = .ok (.aload_n 0, 1) := by decide +kernel
theorem d_Mo_reason_46 : decode cX5_reason 46 = .ok (.getfield 23, 3) := by decide +kernel
theorem d_Mo_reason_49 : decode cX5_reason 49 = .ok (.iload_n 1, 1) := by decide +kernel
theorem d_Mo_reason_50 : decode cX5_reason 50 = .ok (.iaload, 1) := by decide +kernel
theorem d_Mo_reason_51 : decode cX5_reason 51 = .ok (.invokevirtual 136, 3) := by decide +kernel
theorem d_Mo_reason_54 : decode cX5_reason 54 = .ok (.iconst 2, 1) := by decide +kernel
theorem d_Mo_reason_55 : decode cX5_reason 55 = .ok (.if_icmp .le 10, 3) := by decide +kernel
theorem d_Mo_reason_58 : decode cX5_reason 58 = .ok (.aload_n 0, 1) := by decide +kernel
theorem d_Mo_reason_59 : decode cX5_reason 59 = .ok (.iconst (-1), 1) := by decide +kernel
theorem d_Mo_reason_60 : decode cX5_reason 60 = .ok (.putfield 68, 3) := by decide +kernel
theorem d_Mo_reason_63 : decode cX5_reason 63 = .ok (.iconst 2, 1) := by decide +kernel
theorem d_Mo_reason_64 : decode cX5_reason 64 = .ok (.ireturn, 1) := by decide +kernel
theorem d_Mo_reason_65 : decode cX5_reason 65 = .ok (.aload_n 0, 1) := by decide +kernel
theorem d_Mo_reason_66 : decode cX5_reason 66 = .ok (.iload_n 1, 1) := by decide +kernel
theorem d_Mo_reason_67 : decode cX5_reason 67 = .ok (.invokevirtual 126, 3) := by decide +kernel
theorem d_Mo_reason_70 : decode cX5_reason 70 = .ok (.istore 4, 2) := by decide +kernel
theorem d_Mo_reason_72 : decode cX5_reason 72 = .ok (.iload 4, 2) := by decide +kernel
theorem d_Mo_reason_74 : decode cX5_reason 74 = .ok (.iconst (-1), 1) := by decide +kernel
theorem d_Mo_reason_75 : decode cX5_reason 75 = .ok (.if_icmp .eq 11, 3) := by decide +kernel
theorem d_Mo_reason_78 : decode cX5_reason 78 = .ok (.aload_n 0, 1) := by decide +kernel
theorem d_Mo_reason_79 : decode cX5_reason 79 = .ok (.iload 4, 2) := by decide +kernel
theorem d_Mo_reason_81 : decode cX5_reason 81 = .ok (.putfield 68, 3) := by decide +kernel
theorem d_Mo_reason_84 : decode cX5_reason 84 = .ok (.iconst 3, 1) := by decide +kernel
theorem d_Mo_reason_85 : decode cX5_reason 85 = .ok (.ireturn, 1) := by decide +kernel
theorem d_Mo_reason_86 : decode cX5_reason 86 = .ok (.aload_n 0, 1) := by decide +kernel
theorem d_Mo_reason_87 : decode cX5_reason 87 = .ok (.getfield 29, 3) := by decide +kernel
theorem d_Mo_reason_90 : decode cX5_reason 90 = .ok (.iload_n 1, 1) := by decide +kernel
theorem d_Mo_reason_91 : decode cX5_reason 91 = .ok (.iaload, 1) := by decide +kernel
theorem d_Mo_reason_92 : decode cX5_reason 92 = .ok (.iconst 5, 1) := by decide +kernel
theorem d_Mo_reason_93 : decode cX5_reason 93 = .ok (.iload_n 2, 1) := by decide +kernel
theorem d_Mo_reason_94 : decode cX5_reason 94 = .ok (.aload_n 0, 1) := by decide +kernel
theorem d_Mo_reason_95 : decode cX5_reason 95 = .ok (.getfield 139, 3) := by decide +kernel
theorem d_Mo_reason_98 : decode cX5_reason 98 = .ok (.isub, 1) := by decide +kernel
theorem d_Mo_reason_99 : decode cX5_reason 99 = .ok (.imul, 1) := by decide +kernel
theorem d_Mo_reason_100 : decode cX5_reason 100 = .ok (.iadd, 1) := by decide +kernel
theorem d_Mo_reason_101 : decode cX5_reason 101 = .ok (.istore 5, 2) := by decide +kernel
theorem d_Mo_reason_103 : decode cX5_reason 103 = .ok (.aload_n 0, 1) := by decide +kernel
theorem d_Mo_reason_104 : decode cX5_reason 104 = .ok (.sipush 3240, 3) := by decide +kernel
theorem d_Mo_reason_107 : decode cX5_reason 107 = .ok (.iconst 0, 1) := by decide +kernel
theorem d_Mo_reason_108 : decode cX5_reason 108 = .ok (.aload_n 0, 1) := by decide +kernel
theorem d_Mo_reason_109 : decode cX5_reason 109 = .ok (.getfield 117, 3) := by decide +kernel
theorem d_Mo_reason_112 : decode cX5_reason 112 = .ok (.iload 5, 2) := by decide +kernel
theorem d_Mo_reason_114 : decode cX5_reason 114 = .ok (.aload_n 0, 1) := by decide +kernel
theorem d_Mo_reason_115 : decode cX5_reason 115 = .ok (.getfield 26, 3) := by decide +kernel
theorem d_Mo_reason_118 : decode cX5_reason 118 = .ok (.iload_n 1, 1) := by decide +kernel
theorem d_Mo_reason_119 : decode cX5_reason 119 = .ok (.iaload, 1) := by decide +kernel
theorem d_Mo_reason_120 : decode cX5_reason 120 = .ok (.if_icmp .ge 8, 3) := by decide +kernel
theorem d_Mo_reason_123 : decode cX5_reason 123 = .ok (.iload 5, 2) := by decide +kernel
theorem d_Mo_reason_125 : decode cX5_reason 125 = .ok (.goto 9, 3) := by decide +kernel
theorem d_Mo_reason_128 : decode cX5_reason 128 = .ok (.aload_n 0, 1) := by decide +kernel
theorem d_Mo_reason_129 : decode cX5_reason 129 = .ok (.getfield 26, 3) := by decide +kernel
theorem d_Mo_reason_132 : decode cX5_reason 132 = .ok (.iload_n 1, 1) := by decide +kernel
theorem d_Mo_reason_133 : decode cX5_reason 133 = .ok (.iaload, 1) := by decide +kernel
theorem d_Mo_reason_134 : decode cX5_reason 134 = .ok (.invokevirtual 142, 3) := by decide +kernel
theorem d_Mo_reason_137 : decode cX5_reason 137 = .ok (.istore 4, 2) := by decide +kernel
theorem d_Mo_reason_139 : decode cX5_reason 139 = .ok (.iload 4, 2) := by decide +kernel
theorem d_Mo_reason_141 : decode cX5_reason 141 = .ok (.iconst (-1), 1) := by decide +kernel
theorem d_Mo_reason_142 : decode cX5_reason 142 = .ok (.if_icmp .eq 11, 3) := by decide +kernel
theorem d_Mo_reason_145 : decode cX5_reason 145 = .ok (.aload_n 0, 1) := by decide +kernel
theorem d_Mo_reason_146 : decode cX5_reason 146 = .ok (.iload 4, 2) := by decide +kernel
theorem d_Mo_reason_148 : decode cX5_reason 148 = .ok (.putfield 68, 3) := by decide +kernel
theorem d_Mo_reason_151 : decode cX5_reason 151 = .ok (.iconst 4, 1) := by decide +kernel
theorem d_Mo_reason_152 : decode cX5_reason 152 = .ok (.ireturn, 1) := by decide +kernel
theorem d_Mo_reason_153 : decode cX5_reason 153 = .ok (.aload_n 0, 1) := by decide +kernel
theorem d_Mo_reason_154 : decode cX5_reason 154 = .ok (.getfield 50, 3) := by decide +kernel
theorem d_Mo_reason_157 : decode cX5_reason 157 = .ok (.aload_n 0, 1) := by decide +kernel
theorem d_Mo_reason_158 : decode cX5_reason 158 = .ok (.getfield 82, 3) := by decide +kernel
theorem d_Mo_reason_161 : decode cX5_reason 161 = .ok (.iload_n 2, 1) := by decide +kernel
theorem d_Mo_reason_162 : decode cX5_reason 162 = .ok (.iastore, 1) := by decide +kernel
theorem d_Mo_reason_163 : decode cX5_reason 163 = .ok (.aload_n 0, 1) := by decide +kernel
theorem d_Mo_reason_164 : decode cX5_reason 164 = .ok (.getfield 53, 3) := by decide +kernel
theorem d_Mo_reason_167 : decode cX5_reason 167 = .ok (.aload_n 0, 1) := by decide +kernel
theorem d_Mo_reason_168 : decode cX5_reason 168 = .ok (.getfield 82, 3) := by decide +kernel
theorem d_Mo_reason_171 : decode cX5_reason 171 = .ok (.aload_n 0, 1) := by decide +kernel
theorem d_Mo_reason_172 : decode cX5_reason 172 = .ok (.getfield 117, 3) := by decide +kernel
theorem d_Mo_reason_175 : decode cX5_reason 175 = .ok (.iastore, 1) := by decide +kernel
theorem d_Mo_reason_176 : decode cX5_reason 176 = .ok (.iconst 0, 1) := by decide +kernel
theorem d_Mo_reason_177 : decode cX5_reason 177 = .ok (.istore 6, 2) := by decide +kernel
theorem d_Mo_reason_179 : decode cX5_reason 179 = .ok (.iload 6, 2) := by decide +kernel
theorem d_Mo_reason_181 : decode cX5_reason 181 = .ok (.aload_n 0, 1) := by decide +kernel
theorem d_Mo_reason_182 : decode cX5_reason 182 = .ok (.getfield 117, 3) := by decide +kernel
theorem d_Mo_reason_185 : decode cX5_reason 185 = .ok (.if_icmp .gt 35, 3) := by decide +kernel
theorem d_Mo_reason_188 : decode cX5_reason 188 = .ok (.aload_n 0, 1) := by decide +kernel
theorem d_Mo_reason_189 : decode cX5_reason 189 = .ok (.getfield 62, 3) := by decide +kernel
theorem d_Mo_reason_192 : decode cX5_reason 192 = .ok (.bipush 81, 2) := by decide +kernel
theorem d_Mo_reason_194 : decode cX5_reason 194 = .ok (.aload_n 0, 1) := by decide +kernel
theorem d_Mo_reason_195 : decode cX5_reason 195 = .ok (.getfield 82, 3) := by decide +kernel
theorem d_Mo_reason_198 : decode cX5_reason 198 = .ok (.imul, 1) := by decide +kernel
theorem d_Mo_reason_199 : decode cX5_reason 199 = .ok (.iload 6, 2) := by decide +kernel
theorem d_Mo_reason_201 : decode cX5_reason 201 = .ok (.iadd, 1) := by decide +kernel
theorem d_Mo_reason_202 : decode cX5_reason 202 = .ok (.aload_n 0, 1) := by decide +kernel
theorem d_Mo_reason_203 : decode cX5_reason 203 = .ok (.getfield 62, 3) := by decide +kernel
theorem d_Mo_reason_206 : decode cX5_reason 206 = .ok (.sipush 3240, 3) := by decide +kernel
theorem d_Mo_reason_209 : decode cX5_reason 209 = .ok (.iload 6, 2) := by decide +kernel
theorem d_Mo_reason_211 : decode cX5_reason 211 = .ok (.iadd, 1) := by decide +kernel
theorem d_Mo_reason_212 : decode cX5_reason 212 = .ok (.iaload, 1) := by decide +kernel
theorem d_Mo_reason_213 : decode cX5_reason 213 = .ok (.iastore, 1) := by decide +kernel
theorem d_Mo_reason_214 : decode cX5_reason 214 = .ok (.iinc 6 1, 3) := by decide +kernel
theorem d_Mo_reason_217 : decode cX5_reason 217 = .ok (.goto (-38), 3) := by decide +kernel
theorem d_Mo_reason_220 : decode cX5_reason 220 = .ok (.aload_n 0, 1) := by decide +kernel
theorem d_Mo_reason_221 : decode cX5_reason 221 = .ok (.aload_n 0, 1) := by decide +kernel
theorem d_Mo_reason_222 : decode cX5_reason 222 = .ok (.getfield 82, 3) := by decide +kernel
theorem d_Mo_reason_225 : decode cX5_reason 225 = .ok (.iconst 0, 1) := by decide +kernel
theorem d_Mo_reason_226 : decode cX5_reason 226 = .ok (.invokevirtual 146, 3) := by decide +kernel
theorem d_Mo_reason_229 : decode cX5_reason 229 = .ok (.istore 4, 2) := by decide +kernel
theorem d_Mo_reason_231 : decode cX5_reason 231 = .ok (.iload 4, 2) := by decide +kernel
theorem d_Mo_reason_233 : decode cX5_reason 233 = .ok (.iconst (-1), 1) := by decide +kernel
theorem d_Mo_reason_234 : decode cX5_reason 234 = .ok (.if_icmp .eq 11, 3) := by decide +kernel
theorem d_Mo_reason_237 : decode cX5_reason 237 = .ok (.aload_n 0, 1) := by decide +kernel
theorem d_Mo_reason_238 : decode cX5_reason 238 = .ok (.iload 4, 2) := by decide +kernel
theorem d_Mo_reason_240 : decode cX5_reason 240 = .ok (.putfield 68, 3) := by decide +kernel
theorem d_Mo_reason_243 : decode cX5_reason 243 = .ok (.iconst 5, 1) := by decide +kernel
theorem d_Mo_reason_244 : decode cX5_reason 244 = .ok (.ireturn, 1) := by decide +kernel
theorem d_Mo_reason_245 : decode cX5_reason 245 = .ok (.iconst 0, 1) := by decide +kernel
theorem d_Mo_reason_246 : decode cX5_reason 246 = .ok (.istore 6, 2) := by decide +kernel
theorem d_Mo_reason_248 : decode cX5_reason 248 = .ok (.iload 6, 2) := by decide +kernel
theorem d_Mo_reason_250 : decode cX5_reason 250 = .ok (.aload_n 0, 1) := by decide +kernel
theorem d_Mo_reason_251 : decode cX5_reason 251 = .ok (.getfield 82, 3) := by decide +kernel
theorem d_Mo_reason_254 : decode cX5_reason 254 = .ok (.if_icmp .ge 80, 3) := by decide +kernel
theorem d_Mo_reason_257 : decode cX5_reason 257 = .ok (.aload_n 0, 1) := by decide +kernel
theorem d_Mo_reason_258 : decode cX5_reason 258 = .ok (.getfield 59, 3) := by decide +kernel
theorem d_Mo_reason_261 : decode cX5_reason 261 = .ok (.iload 6, 2) := by decide +kernel
theorem d_Mo_reason_263 : decode cX5_reason 263 = .ok (.iaload, 1) := by decide +kernel
theorem d_Mo_reason_264 : decode cX5_reason 264 = .ok (.iconst 1, 1) := by decide +kernel
theorem d_Mo_reason_265 : decode cX5_reason 265 = .ok (.if_icmp .eq 24, 3) := by decide +kernel
theorem d_Mo_reason_268 : decode cX5_reason 268 = .ok (.aload_n 0, 1) := by decide +kernel
theorem d_Mo_reason_269 : decode cX5_reason 269 = .ok (.getfield 59, 3) := by decide +kernel
theorem d_Mo_reason_272 : decode cX5_reason 272 = .ok (.iload 6, 2) := by decide +kernel
theorem d_Mo_reason_274 : decode cX5_reason 274 = .ok (.iaload, 1) := by decide +kernel
theorem d_Mo_reason_275 : decode cX5_reason 275 = .ok (.ifCond .ne 18, 3) := by decide +kernel
theorem d_Mo_reason_278 : decode cX5_reason 278 = .ok (.aload_n 0, 1) := by decide +kernel
theorem d_Mo_reason_279 : decode cX5_reason 279 = .ok (.getfield 56, 3) := by decide +kernel
theorem d_Mo_reason_282 : decode cX5_reason 282 = .ok (.iload 6, 2) := by decide +kernel
theorem d_Mo_reason_284 : decode cX5_reason 284 = .ok (.iaload, 1) := by decide +kernel
theorem d_Mo_reason_285 : decode cX5_reason 285 = .ok (.iload_n 3, 1) := by decide +kernel
theorem d_Mo_reason_286 : decode cX5_reason 286 = .ok (.if_icmp .gt 7, 3) := by decide +kernel
theorem d_Mo_reason_289 : decode cX5_reason 289 = .ok (.iconst 1, 1) := by decide +kernel
theorem d_Mo_reason_290 : decode cX5_reason 290 = .ok (.goto 4, 3) := by decide +kernel
theorem d_Mo_reason_293 : decode cX5_reason 293 = .ok (.iconst 0, 1) := by decide +kernel
theorem d_Mo_reason_294 : decode cX5_reason 294 = .ok (.istore 7, 2) := by decide +kernel
theorem d_Mo_reason_296 : decode cX5_reason 296 = .ok (.iload 7, 2) := by decide +kernel
theorem d_Mo_reason_298 : decode cX5_reason 298 = .ok (.ifCond .eq 30, 3) := by decide +kernel
theorem d_Mo_reason_301 : decode cX5_reason 301 = .ok (.aload_n 0, 1) := by decide +kernel
theorem d_Mo_reason_302 : decode cX5_reason 302 = .ok (.sipush 3240, 3) := by decide +kernel
theorem d_Mo_reason_305 : decode cX5_reason 305 = .ok (.iload_n 2, 1) := by decide +kernel
theorem d_Mo_reason_306 : decode cX5_reason 306 = .ok (.aload_n 0, 1) := by decide +kernel
theorem d_Mo_reason_307 : decode cX5_reason 307 = .ok (.getfield 117, 3) := by decide +kernel
theorem d_Mo_reason_310 : decode cX5_reason 310 = .ok (.iload 6, 2) := by decide +kernel
theorem d_Mo_reason_312 : decode cX5_reason 312 = .ok (.iconst 0, 1) := by decide +kernel
theorem d_Mo_reason_313 : decode cX5_reason 313 = .ok (.invokevirtual 149, 3) := by decide +kernel
theorem d_Mo_reason_316 : decode cX5_reason 316 = .ok (.ifCond .eq 12, 3) := by decide +kernel
theorem d_Mo_reason_319 : decode cX5_reason 319 = .ok (.aload_n 0, 1) := by decide +kernel
theorem d_Mo_reason_320 : decode cX5_reason 320 = .ok (.iload 6, 2) := by decide +kernel
theorem d_Mo_reason_322 : decode cX5_reason 322 = .ok (.putfield 68, 3) := by decide +kernel
theorem d_Mo_reason_325 : decode cX5_reason 325 = .ok (.bipush 6, 2) := by decide +kernel
theorem d_Mo_reason_327 : decode cX5_reason 327 = .ok (.ireturn, 1) := by decide +kernel
theorem d_Mo_reason_328 : decode cX5_reason 328 = .ok (.iinc 6 1, 3) := by decide +kernel
theorem d_Mo_reason_331 : decode cX5_reason 331 = .ok (.goto (-83), 3) := by decide +kernel
theorem d_Mo_reason_334 : decode cX5_reason 334 = .ok (.iconst 0, 1) := by decide +kernel
theorem d_Mo_reason_335 : decode cX5_reason 335 = .ok (.ireturn, 1) := by decide +kernel
set_option maxRecDepth 100000 in
set_option maxHeartbeats 4000000 in
theorem w_b_Mo_reason_179 {X : CX} {KX : MS → Prop} {k : Nat} {a2 : Int32} {a3 : Int32} {a6 : Int32} {s : MS} {rec : Int32 → MS → Option (MS)} {sb : MS} (ok : Ok X cX5_reason RX5 rm_Mo_reason 8 false) (hexit : ∀ (z : MS), KX z → (∀ q, dm sb q → dm z q) → G X z 0 0 220 [(0, vR (some k)), (2, vI a2), (3, vI a3)] []) (hrec : ∀ (v6 : Int32) (z : MS), (∀ q, dm sb q → dm z q) → ∀ y, rec v6 z = some y → KX y → G X z 0 0 179 [(0, vR (some k)), (2, vI a2), (3, vI a3), (6, vI v6)] []) (mb : ∀ q, dm sb q → dm s q) (ht : rf s.2.2 20 (some k) = some k) {res : MS} (h : b_Mo_reason_179 k a2 a3 a6 s rec = some res) (hk : KX res) : G X s 0 0 179 [(0, vR (some k)), (2, vI a2), (3, vI a3), (6, vI a6)] [] := by
  unfold b_Mo_reason_179 at h
  refine g_iload (i := 6) 3 ok d_Mo_reason_179 rfl ?_
  refine g_aload_n (i := 0) 0 ok d_Mo_reason_181 rfl rfl ?_
  refine g_geti (s0 := 20) (j := 15) (ci := 5) (C := RX5) (T := TX5) (N := 29) ok ht lay_20 rfl inX5 (by decide) rfl tw_753 rfl d_Mo_reason_182 ?_
  refine g_icmp_gt (tgt := 220) ok d_Mo_reason_185 (by decide) (fun c44 => ?_) (fun c44 => ?_)
  · replace h := (if_pos c44).symm.trans h
    refine g_sub [0, 1, 2] rfl ?_
    cases h
    exact hexit s hk mb
  · replace h := (if_neg c44).symm.trans h
    refine g_aload_n (i := 0) 0 ok d_Mo_reason_188 rfl rfl ?_
    refine g_getr (s0 := 20) (j := 23) (ci := 5) (C := RX5) (T := TX5) (N := 29) ok ht lay_20 rfl inX5 (by decide) rfl tw_761 rfl d_Mo_reason_189 ?_
    refine g_bipush (v := (81 : Int32)) ok d_Mo_reason_192 (by decide) ?_
    refine g_aload_n (i := 0) 0 ok d_Mo_reason_194 rfl rfl ?_
    refine g_geti (s0 := 20) (j := 17) (ci := 5) (C := RX5) (T := TX5) (N := 29) ok ht lay_20 rfl inX5 (by decide) rfl tw_755 rfl d_Mo_reason_195 ?_
    refine g_imul ok d_Mo_reason_198 ?_
    refine g_iload (i := 6) 3 ok d_Mo_reason_199 rfl ?_
    refine g_iadd ok d_Mo_reason_201 ?_
    refine g_aload_n (i := 0) 0 ok d_Mo_reason_202 rfl rfl ?_
    refine g_getr (s0 := 20) (j := 23) (ci := 5) (C := RX5) (T := TX5) (N := 29) ok ht lay_20 rfl inX5 (by decide) rfl tw_761 rfl d_Mo_reason_203 ?_
    refine g_sipush (v := (3240 : Int32)) ok d_Mo_reason_206 (by decide) ?_
    refine g_iload (i := 6) 3 ok d_Mo_reason_209 rfl ?_
    refine g_iadd ok d_Mo_reason_211 ?_
    obtain ⟨k45, hk46, h⟩ := bnd_go h
    refine g_iald ok hk46 d_Mo_reason_212 ?_
    obtain ⟨k47, hk48, h⟩ := bnd_go h
    refine g_iast ok hk48 d_Mo_reason_213 ?_
    obtain ⟨s49, e50⟩ : ∃ z, wi s k47 (((81 : Int32) * (s.1 k 17)) + a6).toNatClampNeg (s.1 k45 ((3240 : Int32) + a6).toNatClampNeg) = z := ⟨_, rfl⟩
    replace h := lt_go h e50
    have m51 := mo_wi e50
    rw [e50]
    obtain ⟨x52, e53⟩ : ∃ z, a6 + (1 : Int32) = z := ⟨_, rfl⟩
    replace h := lt_go h e53
    refine g_iinc (i := 6) (v := x52) 3 [(6, vI x52), (0, vR (some k)), (2, vI a2), (3, vI a3)] ok d_Mo_reason_214 rfl (by rw [← e53]; rfl) (by decide) rfl ?_
    refine g_goto (tgt := 179) ok d_Mo_reason_217 (by decide) ?_
    refine g_sub [1, 2, 3, 0] rfl ?_
    exact hrec x52 s49 (fun z hz => m51 z (mb z hz)) _ h hk
theorem wx_l_Mo_reason_179 {X : CX} {KX : MS → Prop} {k : Nat} {a2 : Int32} {a3 : Int32} {sb : MS} (ok : Ok X cX5_reason RX5 rm_Mo_reason 8 false) (hexit : ∀ (z : MS), KX z → (∀ q, dm sb q → dm z q) → G X z 0 0 220 [(0, vR (some k)), (2, vI a2), (3, vI a3)] []) (htb : rf sb.2.2 20 (some k) = some k) : ∀ (n : Nat) (a6 : Int32) (s : MS), (∀ q, dm sb q → dm s q) → ∀ (res : MS), l_Mo_reason_179 k a2 a3 n a6 s = some res → KX res → G X s 0 0 179 [(0, vR (some k)), (2, vI a2), (3, vI a3), (6, vI a6)] [] := by
  intro n
  induction n with
  | zero => intro _ s _ res h; cases h
  | succ n ih =>
    intro a6 s mb res h hk
    exact w_b_Mo_reason_179 ok hexit (fun v6 z hz y h2 hk2 => ih v6 z hz y h2 hk2) mb (rf_mono mb htb) h hk
theorem w_l_Mo_reason_179 {X : CX} {KX : MS → Prop} {k : Nat} {a2 : Int32} {a3 : Int32} {sb : MS} (ok : Ok X cX5_reason RX5 rm_Mo_reason 8 false) (hexit : ∀ (z : MS), KX z → (∀ q, dm sb q → dm z q) → G X z 0 0 220 [(0, vR (some k)), (2, vI a2), (3, vI a3)] []) (mb : ∀ q, dm sb q → dm sb q) (htb : rf sb.2.2 20 (some k) = some k) (n : Nat) (a6 : Int32) {res : MS} (h : l_Mo_reason_179 k a2 a3 n a6 sb = some res) (hk : KX res) : G X sb 0 0 179 [(0, vR (some k)), (2, vI a2), (3, vI a3), (6, vI a6)] [] := wx_l_Mo_reason_179 ok hexit htb n a6 sb mb res h hk
set_option maxRecDepth 100000 in
set_option maxHeartbeats 4000000 in
theorem w_j_Mo_reason_294 {X : CX} {KX : (Int32 × MS) ⊕ (MS) → Prop} {k : Nat} {a2 : Int32} {a3 : Int32} {a6 : Int32} {t0 : Int32} {s : MS} {rec : Int32 → MS → Option ((Int32 × MS) ⊕ (MS))} {sb : MS} (ok : Ok X cX5_reason RX5 rm_Mo_reason 8 false) (hret : ∀ r : Int32 × MS, KX (.inl r) → Fin X (some .int) 0 0 false (some (vI r.1)) r.2) (hexit : ∀ (z : MS), KX (.inr z) → (∀ q, dm sb q → dm z q) → G X z 0 0 334 [(0, vR (some k))] []) (hrec : ∀ (v6 : Int32) (z : MS), (∀ q, dm sb q → dm z q) → ∀ y, rec v6 z = some y → KX y → G X z 0 0 248 [(0, vR (some k)), (2, vI a2), (3, vI a3), (6, vI v6)] []) (mb : ∀ q, dm sb q → dm s q) (ht : rf s.2.2 20 (some k) = some k) {res : (Int32 × MS) ⊕ (MS)} (h : j_Mo_reason_294 k a2 a3 a6 t0 s rec = some res) (hk : KX res) : G X s 0 0 294 [(0, vR (some k)), (2, vI a2), (3, vI a3), (6, vI a6)] [vI t0] := by
  unfold j_Mo_reason_294 at h
  refine g_istore (i := 7) [(7, vI t0), (0, vR (some k)), (2, vI a2), (3, vI a3), (6, vI a6)] ok d_Mo_reason_294 (by decide) rfl ?_
  refine g_iload (i := 7) 0 ok d_Mo_reason_296 rfl ?_
  refine g_if_eq (tgt := 328) ok d_Mo_reason_298 (by decide) (fun c64 => ?_) (fun c64 => ?_)
  · replace h := (if_pos c64).symm.trans h
    obtain ⟨x65, e66⟩ : ∃ z, a6 + (1 : Int32) = z := ⟨_, rfl⟩
    replace h := lt_go h e66
    refine g_iinc (i := 6) (v := x65) 4 [(6, vI x65), (7, vI t0), (0, vR (some k)), (2, vI a2), (3, vI a3)] ok d_Mo_reason_328 rfl (by rw [← e66]; rfl) (by decide) rfl ?_
    refine g_goto (tgt := 248) ok d_Mo_reason_331 (by decide) ?_
    refine g_sub [2, 3, 4, 0] rfl ?_
    exact hrec x65 s mb _ h hk
  · replace h := (if_neg c64).symm.trans h
    refine g_aload_n (i := 0) 1 ok d_Mo_reason_301 rfl rfl ?_
    refine g_sipush (v := (3240 : Int32)) ok d_Mo_reason_302 (by decide) ?_
    refine g_iload_n (i := 2) 2 ok d_Mo_reason_305 rfl rfl ?_
    refine g_aload_n (i := 0) 1 ok d_Mo_reason_306 rfl rfl ?_
    refine g_geti (s0 := 20) (j := 15) (ci := 5) (C := RX5) (T := TX5) (N := 29) ok ht lay_20 rfl inX5 (by decide) rfl tw_753 rfl d_Mo_reason_307 ?_
    refine g_iload (i := 6) 4 ok d_Mo_reason_310 rfl ?_
    refine g_iconst (v := (0 : Int32)) ok d_Mo_reason_312 (by decide) ?_
    obtain ⟨x68, hc69, h⟩ := bnd_go h
    refine g_invV (rm2 := rm_Mo_meet) (As := [vI (3240 : Int32), vI a2, vI (s.1 k 15), vI a6, vI (0 : Int32)]) (rest := []) ok ht lay_20 rfl (c_Mo_meet X.1.2.1 (rf_self ht) hc69) cm_Mo_meet cv_Mo_meet tw_939 ⟨rfl, rfl⟩ ⟨le_t rfl, le_t rfl⟩ ⟨rfl, le_t rfl⟩ ⟨le_t rfl, le_t rfl⟩ d_Mo_reason_313 rfl (fun m67 => ?_)
    show G X s 0 0 316 [(7, vI t0), (0, vR (some k)), (2, vI a2), (3, vI a3), (6, vI a6)] [vI x68]
    refine g_if_eq (tgt := 328) ok d_Mo_reason_316 (by decide) (fun c70 => ?_) (fun c70 => ?_)
    · replace h := (if_pos c70).symm.trans h
      obtain ⟨x71, e72⟩ : ∃ z, a6 + (1 : Int32) = z := ⟨_, rfl⟩
      replace h := lt_go h e72
      refine g_iinc (i := 6) (v := x71) 4 [(6, vI x71), (7, vI t0), (0, vR (some k)), (2, vI a2), (3, vI a3)] ok d_Mo_reason_328 rfl (by rw [← e72]; rfl) (by decide) rfl ?_
      refine g_goto (tgt := 248) ok d_Mo_reason_331 (by decide) ?_
      refine g_sub [2, 3, 4, 0] rfl ?_
      exact hrec x71 s mb _ h hk
    · replace h := (if_neg c70).symm.trans h
      refine g_aload_n (i := 0) 1 ok d_Mo_reason_319 rfl rfl ?_
      refine g_iload (i := 6) 4 ok d_Mo_reason_320 rfl ?_
      refine g_puti (s0 := 20) (j := 26) (ci := 5) (C := RX5) (T := TX5) (N := 29) ok ht lay_20 rfl inX5 (by decide) rfl tw_764 rfl tyX5_ok nmX5 rfl (Or.inl rfl) d_Mo_reason_322 ?_
      obtain ⟨s73, e74⟩ : ∃ z, wi s k 26 a6 = z := ⟨_, rfl⟩
      replace h := lt_go h e74
      have m75 := mo_wi e74
      rw [e74]
      refine g_bipush (v := (6 : Int32)) ok d_Mo_reason_325 (by decide) ?_
      cases h
      exact g_iret ok (hret _ hk) (by decide) (by decide) d_Mo_reason_327
set_option maxRecDepth 100000 in
set_option maxHeartbeats 4000000 in
theorem w_j_Mo_reason_289 {X : CX} {KX : (Int32 × MS) ⊕ (MS) → Prop} {k : Nat} {a2 : Int32} {a3 : Int32} {a6 : Int32} {s : MS} {rec : Int32 → MS → Option ((Int32 × MS) ⊕ (MS))} {sb : MS} (ok : Ok X cX5_reason RX5 rm_Mo_reason 8 false) (hret : ∀ r : Int32 × MS, KX (.inl r) → Fin X (some .int) 0 0 false (some (vI r.1)) r.2) (hexit : ∀ (z : MS), KX (.inr z) → (∀ q, dm sb q → dm z q) → G X z 0 0 334 [(0, vR (some k))] []) (hrec : ∀ (v6 : Int32) (z : MS), (∀ q, dm sb q → dm z q) → ∀ y, rec v6 z = some y → KX y → G X z 0 0 248 [(0, vR (some k)), (2, vI a2), (3, vI a3), (6, vI v6)] []) (mb : ∀ q, dm sb q → dm s q) (ht : rf s.2.2 20 (some k) = some k) {res : (Int32 × MS) ⊕ (MS)} (h : j_Mo_reason_289 k a2 a3 a6 s rec = some res) (hk : KX res) : G X s 0 0 289 [(0, vR (some k)), (2, vI a2), (3, vI a3), (6, vI a6)] [] := by
  unfold j_Mo_reason_289 at h
  refine g_iconst (v := (1 : Int32)) ok d_Mo_reason_289 (by decide) ?_
  refine g_goto (tgt := 294) ok d_Mo_reason_290 (by decide) ?_
  exact w_j_Mo_reason_294 ok hret hexit hrec mb ht h hk
set_option maxRecDepth 100000 in
set_option maxHeartbeats 4000000 in
theorem w_j_Mo_reason_293 {X : CX} {KX : (Int32 × MS) ⊕ (MS) → Prop} {k : Nat} {a2 : Int32} {a3 : Int32} {a6 : Int32} {s : MS} {rec : Int32 → MS → Option ((Int32 × MS) ⊕ (MS))} {sb : MS} (ok : Ok X cX5_reason RX5 rm_Mo_reason 8 false) (hret : ∀ r : Int32 × MS, KX (.inl r) → Fin X (some .int) 0 0 false (some (vI r.1)) r.2) (hexit : ∀ (z : MS), KX (.inr z) → (∀ q, dm sb q → dm z q) → G X z 0 0 334 [(0, vR (some k))] []) (hrec : ∀ (v6 : Int32) (z : MS), (∀ q, dm sb q → dm z q) → ∀ y, rec v6 z = some y → KX y → G X z 0 0 248 [(0, vR (some k)), (2, vI a2), (3, vI a3), (6, vI v6)] []) (mb : ∀ q, dm sb q → dm s q) (ht : rf s.2.2 20 (some k) = some k) {res : (Int32 × MS) ⊕ (MS)} (h : j_Mo_reason_293 k a2 a3 a6 s rec = some res) (hk : KX res) : G X s 0 0 293 [(0, vR (some k)), (2, vI a2), (3, vI a3), (6, vI a6)] [] := by
  unfold j_Mo_reason_293 at h
  refine g_iconst (v := (0 : Int32)) ok d_Mo_reason_293 (by decide) ?_
  exact w_j_Mo_reason_294 ok hret hexit hrec mb ht h hk
set_option maxRecDepth 100000 in
set_option maxHeartbeats 4000000 in
theorem w_b_Mo_reason_248 {X : CX} {KX : (Int32 × MS) ⊕ (MS) → Prop} {k : Nat} {a2 : Int32} {a3 : Int32} {a6 : Int32} {s : MS} {rec : Int32 → MS → Option ((Int32 × MS) ⊕ (MS))} {sb : MS} (ok : Ok X cX5_reason RX5 rm_Mo_reason 8 false) (hret : ∀ r : Int32 × MS, KX (.inl r) → Fin X (some .int) 0 0 false (some (vI r.1)) r.2) (hexit : ∀ (z : MS), KX (.inr z) → (∀ q, dm sb q → dm z q) → G X z 0 0 334 [(0, vR (some k))] []) (hrec : ∀ (v6 : Int32) (z : MS), (∀ q, dm sb q → dm z q) → ∀ y, rec v6 z = some y → KX y → G X z 0 0 248 [(0, vR (some k)), (2, vI a2), (3, vI a3), (6, vI v6)] []) (mb : ∀ q, dm sb q → dm s q) (ht : rf s.2.2 20 (some k) = some k) {res : (Int32 × MS) ⊕ (MS)} (h : b_Mo_reason_248 k a2 a3 a6 s rec = some res) (hk : KX res) : G X s 0 0 248 [(0, vR (some k)), (2, vI a2), (3, vI a3), (6, vI a6)] [] := by
  unfold b_Mo_reason_248 at h
  refine g_iload (i := 6) 3 ok d_Mo_reason_248 rfl ?_
  refine g_aload_n (i := 0) 0 ok d_Mo_reason_250 rfl rfl ?_
  refine g_geti (s0 := 20) (j := 17) (ci := 5) (C := RX5) (T := TX5) (N := 29) ok ht lay_20 rfl inX5 (by decide) rfl tw_755 rfl d_Mo_reason_251 ?_
  refine g_icmp_ge (tgt := 334) ok d_Mo_reason_254 (by decide) (fun c60 => ?_) (fun c60 => ?_)
  · replace h := (if_pos c60).symm.trans h
    refine g_aload_n (i := 0) 0 ok d_Mo_reason_257 rfl rfl ?_
    refine g_getr (s0 := 20) (j := 22) (ci := 5) (C := RX5) (T := TX5) (N := 29) ok ht lay_20 rfl inX5 (by decide) rfl tw_760 rfl d_Mo_reason_258 ?_
    refine g_iload (i := 6) 3 ok d_Mo_reason_261 rfl ?_
    obtain ⟨k61, hk62, h⟩ := bnd_go h
    refine g_iald ok hk62 d_Mo_reason_263 ?_
    refine g_iconst (v := (1 : Int32)) ok d_Mo_reason_264 (by decide) ?_
    refine g_icmp_eq (tgt := 289) ok d_Mo_reason_265 (by decide) (fun c63 => ?_) (fun c63 => ?_)
    · replace h := (if_pos c63).symm.trans h
      exact w_j_Mo_reason_289 ok hret hexit hrec mb ht h hk
    · replace h := (if_neg c63).symm.trans h
      refine g_aload_n (i := 0) 0 ok d_Mo_reason_268 rfl rfl ?_
      refine g_getr (s0 := 20) (j := 22) (ci := 5) (C := RX5) (T := TX5) (N := 29) ok ht lay_20 rfl inX5 (by decide) rfl tw_760 rfl d_Mo_reason_269 ?_
      refine g_iload (i := 6) 3 ok d_Mo_reason_272 rfl ?_
      obtain ⟨k76, hk77, h⟩ := bnd_go h
      refine g_iald ok hk77 d_Mo_reason_274 ?_
      refine g_if_ne (tgt := 293) ok d_Mo_reason_275 (by decide) (fun c78 => ?_) (fun c78 => ?_)
      · replace h := (if_pos c78).symm.trans h
        refine g_aload_n (i := 0) 0 ok d_Mo_reason_278 rfl rfl ?_
        refine g_getr (s0 := 20) (j := 21) (ci := 5) (C := RX5) (T := TX5) (N := 29) ok ht lay_20 rfl inX5 (by decide) rfl tw_759 rfl d_Mo_reason_279 ?_
        refine g_iload (i := 6) 3 ok d_Mo_reason_282 rfl ?_
        obtain ⟨k79, hk80, h⟩ := bnd_go h
        refine g_iald ok hk80 d_Mo_reason_284 ?_
        refine g_iload_n (i := 3) 2 ok d_Mo_reason_285 rfl rfl ?_
        refine g_icmp_gt (tgt := 293) ok d_Mo_reason_286 (by decide) (fun c81 => ?_) (fun c81 => ?_)
        · replace h := (if_pos c81).symm.trans h
          exact w_j_Mo_reason_293 ok hret hexit hrec mb ht h hk
        · replace h := (if_neg c81).symm.trans h
          exact w_j_Mo_reason_289 ok hret hexit hrec mb ht h hk
      · replace h := (if_neg c78).symm.trans h
        exact w_j_Mo_reason_293 ok hret hexit hrec mb ht h hk
  · replace h := (if_neg c60).symm.trans h
    refine g_sub [0] rfl ?_
    cases h
    exact hexit s hk mb
theorem wx_l_Mo_reason_248 {X : CX} {KX : (Int32 × MS) ⊕ (MS) → Prop} {k : Nat} {a2 : Int32} {a3 : Int32} {sb : MS} (ok : Ok X cX5_reason RX5 rm_Mo_reason 8 false) (hret : ∀ r : Int32 × MS, KX (.inl r) → Fin X (some .int) 0 0 false (some (vI r.1)) r.2) (hexit : ∀ (z : MS), KX (.inr z) → (∀ q, dm sb q → dm z q) → G X z 0 0 334 [(0, vR (some k))] []) (htb : rf sb.2.2 20 (some k) = some k) : ∀ (n : Nat) (a6 : Int32) (s : MS), (∀ q, dm sb q → dm s q) → ∀ (res : (Int32 × MS) ⊕ (MS)), l_Mo_reason_248 k a2 a3 n a6 s = some res → KX res → G X s 0 0 248 [(0, vR (some k)), (2, vI a2), (3, vI a3), (6, vI a6)] [] := by
  intro n
  induction n with
  | zero => intro _ s _ res h; cases h
  | succ n ih =>
    intro a6 s mb res h hk
    exact w_b_Mo_reason_248 ok hret hexit (fun v6 z hz y h2 hk2 => ih v6 z hz y h2 hk2) mb (rf_mono mb htb) h hk
theorem w_l_Mo_reason_248 {X : CX} {KX : (Int32 × MS) ⊕ (MS) → Prop} {k : Nat} {a2 : Int32} {a3 : Int32} {sb : MS} (ok : Ok X cX5_reason RX5 rm_Mo_reason 8 false) (hret : ∀ r : Int32 × MS, KX (.inl r) → Fin X (some .int) 0 0 false (some (vI r.1)) r.2) (hexit : ∀ (z : MS), KX (.inr z) → (∀ q, dm sb q → dm z q) → G X z 0 0 334 [(0, vR (some k))] []) (mb : ∀ q, dm sb q → dm sb q) (htb : rf sb.2.2 20 (some k) = some k) (n : Nat) (a6 : Int32) {res : (Int32 × MS) ⊕ (MS)} (h : l_Mo_reason_248 k a2 a3 n a6 sb = some res) (hk : KX res) : G X sb 0 0 248 [(0, vR (some k)), (2, vI a2), (3, vI a3), (6, vI a6)] [] := wx_l_Mo_reason_248 ok hret hexit htb n a6 sb mb res h hk
set_option maxRecDepth 100000 in
set_option maxHeartbeats 4000000 in
theorem w_j_Mo_reason_134 {X : CX} {KX : Int32 × MS → Prop} {k : Nat} {a2 : Int32} {a3 : Int32} {t0 : Int32} {t1 : Int32} {t2 : Int32} {t3 : Int32} {t4 : Option Nat} {s : MS} (ok : Ok X cX5_reason RX5 rm_Mo_reason 8 false) (hret : ∀ r : Int32 × MS, KX r → Fin X (some .int) 0 0 false (some (vI r.1)) r.2) (ht : rf s.2.2 20 (some k) = some k) {res : Int32 × MS} (h : j_Mo_reason_134 k a2 a3 t0 t1 t2 t3 t4 s = some res) (hk : KX res) : G X s 0 0 134 [(0, vR (some k)), (2, vI a2), (3, vI a3)] [vI t0, vI t1, vI t2, vI t3, vR t4] := by
  unfold j_Mo_reason_134 at h
  obtain ⟨k28, hk29, h⟩ := bnd_go h
  obtain ⟨x31, hc32, h⟩ := bnd_go h
  refine g_invV (rm2 := rm_Mo_poor) (As := [vI t3, vI t2, vI t1, vI t0]) (rest := []) ok hk29 lay_20 rfl (c_Mo_poor X.1.2.1 (rf_self hk29) hc32) cm_Mo_poor cv_Mo_poor tw_917 ⟨rfl, rfl⟩ ⟨le_t rfl, le_t rfl⟩ ⟨rfl, le_t rfl⟩ ⟨le_t rfl, le_t rfl⟩ d_Mo_reason_134 rfl (fun m30 => ?_)
  show G X s 0 0 137 [(0, vR (some k)), (2, vI a2), (3, vI a3)] [vI x31]
  refine g_istore (i := 4) [(4, vI x31), (0, vR (some k)), (2, vI a2), (3, vI a3)] ok d_Mo_reason_137 (by decide) rfl ?_
  refine g_iload (i := 4) 0 ok d_Mo_reason_139 rfl ?_
  refine g_iconst (v := (-1 : Int32)) ok d_Mo_reason_141 (by decide) ?_
  refine g_icmp_eq (tgt := 153) ok d_Mo_reason_142 (by decide) (fun c33 => ?_) (fun c33 => ?_)
  · replace h := (if_pos c33).symm.trans h
    refine g_aload_n (i := 0) 1 ok d_Mo_reason_153 rfl rfl ?_
    refine g_getr (s0 := 20) (j := 19) (ci := 5) (C := RX5) (T := TX5) (N := 29) ok ht lay_20 rfl inX5 (by decide) rfl tw_757 rfl d_Mo_reason_154 ?_
    refine g_aload_n (i := 0) 1 ok d_Mo_reason_157 rfl rfl ?_
    refine g_geti (s0 := 20) (j := 17) (ci := 5) (C := RX5) (T := TX5) (N := 29) ok ht lay_20 rfl inX5 (by decide) rfl tw_755 rfl d_Mo_reason_158 ?_
    refine g_iload_n (i := 2) 2 ok d_Mo_reason_161 rfl rfl ?_
    obtain ⟨k34, hk35, h⟩ := bnd_go h
    refine g_iast ok hk35 d_Mo_reason_162 ?_
    obtain ⟨s36, e37⟩ : ∃ z, wi s k34 (s.1 k 17).toNatClampNeg a2 = z := ⟨_, rfl⟩
    replace h := lt_go h e37
    have m38 := mo_wi e37
    rw [e37]
    refine g_aload_n (i := 0) 1 ok d_Mo_reason_163 rfl rfl ?_
    refine g_getr (s0 := 20) (j := 20) (ci := 5) (C := RX5) (T := TX5) (N := 29) ok (rf_mono m38 ht) lay_20 rfl inX5 (by decide) rfl tw_758 rfl d_Mo_reason_164 ?_
    refine g_aload_n (i := 0) 1 ok d_Mo_reason_167 rfl rfl ?_
    refine g_geti (s0 := 20) (j := 17) (ci := 5) (C := RX5) (T := TX5) (N := 29) ok (rf_mono m38 ht) lay_20 rfl inX5 (by decide) rfl tw_755 rfl d_Mo_reason_168 ?_
    refine g_aload_n (i := 0) 1 ok d_Mo_reason_171 rfl rfl ?_
    refine g_geti (s0 := 20) (j := 15) (ci := 5) (C := RX5) (T := TX5) (N := 29) ok (rf_mono m38 ht) lay_20 rfl inX5 (by decide) rfl tw_753 rfl d_Mo_reason_172 ?_
    obtain ⟨k39, hk40, h⟩ := bnd_go h
    refine g_iast ok hk40 d_Mo_reason_175 ?_
    obtain ⟨s41, e42⟩ : ∃ z, wi s36 k39 (s36.1 k 17).toNatClampNeg (s36.1 k 15) = z := ⟨_, rfl⟩
    replace h := lt_go h e42
    have m43 := mo_wi e42
    rw [e42]
    refine g_iconst (v := (0 : Int32)) ok d_Mo_reason_176 (by decide) ?_
    refine g_istore (i := 6) [(6, vI (0 : Int32)), (4, vI x31), (0, vR (some k)), (2, vI a2), (3, vI a3)] ok d_Mo_reason_177 (by decide) rfl ?_
    refine g_sub [2, 3, 4, 0] rfl ?_
    obtain ⟨s55, hx, h⟩ := bnd_go h
    refine w_l_Mo_reason_179 (KX := fun y => y = s55) ok (fun y0 he m54 => ?_) (fun _ hz => hz) (rf_mono m43 (rf_mono m38 ht)) _ _ hx rfl
    cases he
    refine g_aload_n (i := 0) 0 ok d_Mo_reason_220 rfl rfl ?_
    refine g_aload_n (i := 0) 0 ok d_Mo_reason_221 rfl rfl ?_
    refine g_geti (s0 := 20) (j := 17) (ci := 5) (C := RX5) (T := TX5) (N := 29) ok (rf_mono m54 (rf_mono m43 (rf_mono m38 ht))) lay_20 rfl inX5 (by decide) rfl tw_755 rfl d_Mo_reason_222 ?_
    refine g_iconst (v := (0 : Int32)) ok d_Mo_reason_225 (by decide) ?_
    obtain ⟨x57, hc58, h⟩ := bnd_go h
    refine g_invV (rm2 := rm_Mo_roomOf) (As := [vI (s55.1 k 17), vI (0 : Int32)]) (rest := []) ok (rf_mono m54 (rf_mono m43 (rf_mono m38 ht))) lay_20 rfl (c_Mo_roomOf X.1.2.1 (rf_self (rf_mono m54 (rf_mono m43 (rf_mono m38 ht)))) hc58) cm_Mo_roomOf cv_Mo_roomOf tw_935 ⟨rfl, rfl⟩ ⟨le_t rfl, le_t rfl⟩ ⟨rfl, le_t rfl⟩ ⟨le_t rfl, le_t rfl⟩ d_Mo_reason_226 rfl (fun m56 => ?_)
    show G X s55 0 0 229 [(0, vR (some k)), (2, vI a2), (3, vI a3)] [vI x57]
    refine g_istore (i := 4) [(4, vI x57), (0, vR (some k)), (2, vI a2), (3, vI a3)] ok d_Mo_reason_229 (by decide) rfl ?_
    refine g_iload (i := 4) 0 ok d_Mo_reason_231 rfl ?_
    refine g_iconst (v := (-1 : Int32)) ok d_Mo_reason_233 (by decide) ?_
    refine g_icmp_eq (tgt := 245) ok d_Mo_reason_234 (by decide) (fun c59 => ?_) (fun c59 => ?_)
    · replace h := (if_pos c59).symm.trans h
      refine g_iconst (v := (0 : Int32)) ok d_Mo_reason_245 (by decide) ?_
      refine g_istore (i := 6) [(6, vI (0 : Int32)), (4, vI x57), (0, vR (some k)), (2, vI a2), (3, vI a3)] ok d_Mo_reason_246 (by decide) rfl ?_
      refine g_sub [2, 3, 4, 0] rfl ?_
      rcases el1_go h with ⟨r, hx, h⟩ | ⟨s83, hx, h⟩
      · refine w_l_Mo_reason_248 (KX := fun y => y = .inl r) ok (fun r2 he => ?_) (fun _ he _ => by cases he) (fun _ hz => hz) (rf_mono m54 (rf_mono m43 (rf_mono m38 ht))) _ _ hx rfl
        cases he
        cases h
        exact hret _ hk
      · refine w_l_Mo_reason_248 (KX := fun y => y = .inr s83) ok (fun r2 he => by cases he) (fun y0 he m82 => ?_) (fun _ hz => hz) (rf_mono m54 (rf_mono m43 (rf_mono m38 ht))) _ _ hx rfl
        cases he
        refine g_iconst (v := (0 : Int32)) ok d_Mo_reason_334 (by decide) ?_
        cases h
        exact g_iret ok (hret _ hk) (by decide) (by decide) d_Mo_reason_335
    · replace h := (if_neg c59).symm.trans h
      refine g_aload_n (i := 0) 1 ok d_Mo_reason_237 rfl rfl ?_
      refine g_iload (i := 4) 0 ok d_Mo_reason_238 rfl ?_
      refine g_puti (s0 := 20) (j := 26) (ci := 5) (C := RX5) (T := TX5) (N := 29) ok (rf_mono m54 (rf_mono m43 (rf_mono m38 ht))) lay_20 rfl inX5 (by decide) rfl tw_764 rfl tyX5_ok nmX5 rfl (Or.inl rfl) d_Mo_reason_240 ?_
      obtain ⟨s84, e85⟩ : ∃ z, wi s55 k 26 x57 = z := ⟨_, rfl⟩
      replace h := lt_go h e85
      have m86 := mo_wi e85
      rw [e85]
      refine g_iconst (v := (5 : Int32)) ok d_Mo_reason_243 (by decide) ?_
      cases h
      exact g_iret ok (hret _ hk) (by decide) (by decide) d_Mo_reason_244
  · replace h := (if_neg c33).symm.trans h
    refine g_aload_n (i := 0) 1 ok d_Mo_reason_145 rfl rfl ?_
    refine g_iload (i := 4) 0 ok d_Mo_reason_146 rfl ?_
    refine g_puti (s0 := 20) (j := 26) (ci := 5) (C := RX5) (T := TX5) (N := 29) ok ht lay_20 rfl inX5 (by decide) rfl tw_764 rfl tyX5_ok nmX5 rfl (Or.inl rfl) d_Mo_reason_148 ?_
    obtain ⟨s87, e88⟩ : ∃ z, wi s k 26 x31 = z := ⟨_, rfl⟩
    replace h := lt_go h e88
    have m89 := mo_wi e88
    rw [e88]
    refine g_iconst (v := (4 : Int32)) ok d_Mo_reason_151 (by decide) ?_
    cases h
    exact g_iret ok (hret _ hk) (by decide) (by decide) d_Mo_reason_152
set_option maxRecDepth 100000 in
set_option maxHeartbeats 4000000 in
theorem w_j_Mo_reason_19 {X : CX} {KX : Int32 × MS → Prop} {k : Nat} {a1 : Int32} {s : MS} (ok : Ok X cX5_reason RX5 rm_Mo_reason 8 false) (hret : ∀ r : Int32 × MS, KX r → Fin X (some .int) 0 0 false (some (vI r.1)) r.2) (ht : rf s.2.2 20 (some k) = some k) {res : Int32 × MS} (h : j_Mo_reason_19 k a1 s = some res) (hk : KX res) : G X s 0 0 19 [(0, vR (some k)), (1, vI a1)] [] := by
  unfold j_Mo_reason_19 at h
  refine g_aload_n (i := 0) 0 ok d_Mo_reason_19 rfl rfl ?_
  refine g_aload_n (i := 0) 0 ok d_Mo_reason_20 rfl rfl ?_
  refine g_getr (s0 := 20) (j := 12) (ci := 5) (C := RX5) (T := TX5) (N := 29) ok ht lay_20 rfl inX5 (by decide) rfl tw_750 rfl d_Mo_reason_21 ?_
  refine g_iload_n (i := 1) 1 ok d_Mo_reason_24 rfl rfl ?_
  obtain ⟨k95, hk96, h⟩ := bnd_go h
  refine g_iald ok hk96 d_Mo_reason_25 ?_
  refine g_if_eq (tgt := 33) ok d_Mo_reason_26 (by decide) (fun c97 => ?_) (fun c97 => ?_)
  · replace h := (if_pos c97).symm.trans h
    refine g_aload_n (i := 0) 0 ok d_Mo_reason_33 rfl rfl ?_
    refine g_getr (s0 := 20) (j := 13) (ci := 5) (C := RX5) (T := TX5) (N := 29) ok ht lay_20 rfl inX5 (by decide) rfl tw_751 rfl d_Mo_reason_34 ?_
    refine g_iload_n (i := 1) 1 ok d_Mo_reason_37 rfl rfl ?_
    obtain ⟨k98, hk99, h⟩ := bnd_go h
    refine g_iald ok hk99 d_Mo_reason_38 ?_
    refine g_puti (s0 := 20) (j := 26) (ci := 5) (C := RX5) (T := TX5) (N := 29) ok ht lay_20 rfl inX5 (by decide) rfl tw_764 rfl tyX5_ok nmX5 rfl (Or.inl rfl) d_Mo_reason_39 ?_
    obtain ⟨s100, e101⟩ : ∃ z, wi s k 26 (s.1 k98 a1.toNatClampNeg) = z := ⟨_, rfl⟩
    replace h := lt_go h e101
    have m102 := mo_wi e101
    rw [e101]
    refine g_iconst (v := (1 : Int32)) ok d_Mo_reason_42 (by decide) ?_
    cases h
    exact g_iret ok (hret _ hk) (by decide) (by decide) d_Mo_reason_43
  · replace h := (if_neg c97).symm.trans h
    refine g_iconst (v := (-1 : Int32)) ok d_Mo_reason_29 (by decide) ?_
    refine g_goto (tgt := 39) ok d_Mo_reason_30 (by decide) ?_
    refine g_puti (s0 := 20) (j := 26) (ci := 5) (C := RX5) (T := TX5) (N := 29) ok ht lay_20 rfl inX5 (by decide) rfl tw_764 rfl tyX5_ok nmX5 rfl (Or.inl rfl) d_Mo_reason_39 ?_
    obtain ⟨s103, e104⟩ : ∃ z, wi s k 26 (-1 : Int32) = z := ⟨_, rfl⟩
    replace h := lt_go h e104
    have m105 := mo_wi e104
    rw [e104]
    refine g_iconst (v := (1 : Int32)) ok d_Mo_reason_42 (by decide) ?_
    cases h
    exact g_iret ok (hret _ hk) (by decide) (by decide) d_Mo_reason_43
set_option maxRecDepth 100000 in
set_option maxHeartbeats 4000000 in
theorem w_Mo_reason {X : CX} {KX : Int32 × MS → Prop} {k : Nat} {a1 : Int32} {a2 : Int32} {a3 : Int32} {s : MS} (ok : Ok X cX5_reason RX5 rm_Mo_reason 8 false) (hret : ∀ r : Int32 × MS, KX r → Fin X (some .int) 0 0 false (some (vI r.1)) r.2)   (ht : rf s.2.2 20 (some k) = some k) {res : Int32 × MS} (h : f_Mo_reason k a1 a2 a3 s = some res) (hk : KX res) : G X s 0 0 0 [(0, vR (some k)), (1, vI a1), (2, vI a2), (3, vI a3)] [] := by
  unfold f_Mo_reason at h
  refine g_aload_n (i := 0) 0 ok d_Mo_reason_0 rfl rfl ?_
  refine g_getr (s0 := 20) (j := 12) (ci := 5) (C := RX5) (T := TX5) (N := 29) ok ht lay_20 rfl inX5 (by decide) rfl tw_750 rfl d_Mo_reason_1 ?_
  refine g_iload_n (i := 1) 1 ok d_Mo_reason_4 rfl rfl ?_
  obtain ⟨k1, hk2, h⟩ := bnd_go h
  refine g_iald ok hk2 d_Mo_reason_5 ?_
  refine g_if_ne (tgt := 19) ok d_Mo_reason_6 (by decide) (fun c3 => ?_) (fun c3 => ?_)
  · replace h := (if_pos c3).symm.trans h
    refine g_aload_n (i := 0) 0 ok d_Mo_reason_9 rfl rfl ?_
    refine g_getr (s0 := 20) (j := 13) (ci := 5) (C := RX5) (T := TX5) (N := 29) ok ht lay_20 rfl inX5 (by decide) rfl tw_751 rfl d_Mo_reason_10 ?_
    refine g_iload_n (i := 1) 1 ok d_Mo_reason_13 rfl rfl ?_
    obtain ⟨k4, hk5, h⟩ := bnd_go h
    refine g_iald ok hk5 d_Mo_reason_14 ?_
    refine g_iconst (v := (-1 : Int32)) ok d_Mo_reason_15 (by decide) ?_
    refine g_icmp_eq (tgt := 44) ok d_Mo_reason_16 (by decide) (fun c6 => ?_) (fun c6 => ?_)
    · replace h := (if_pos c6).symm.trans h
      refine g_aload_n (i := 0) 0 ok d_Mo_reason_44 rfl rfl ?_
      refine g_aload_n (i := 0) 0 ok d_Mo_reason_45 rfl rfl ?_
      refine g_getr (s0 := 20) (j := 8) (ci := 5) (C := RX5) (T := TX5) (N := 29) ok ht lay_20 rfl inX5 (by decide) rfl tw_746 rfl d_Mo_reason_46 ?_
      refine g_iload_n (i := 1) 1 ok d_Mo_reason_49 rfl rfl ?_
      obtain ⟨k7, hk8, h⟩ := bnd_go h
      refine g_iald ok hk8 d_Mo_reason_50 ?_
      obtain ⟨x10, hc11, h⟩ := bnd_go h
      refine g_invV (rm2 := rm_Mo_waiting) (As := [vI (s.1 k7 a1.toNatClampNeg)]) (rest := []) ok ht lay_20 rfl (c_Mo_waiting X.1.2.1 (rf_self ht) hc11) cm_Mo_waiting cv_Mo_waiting tw_913 ⟨rfl, rfl⟩ ⟨le_t rfl, le_t rfl⟩ ⟨rfl, le_t rfl⟩ ⟨le_t rfl, le_t rfl⟩ d_Mo_reason_51 rfl (fun m9 => ?_)
      show G X s 0 0 54 [(0, vR (some k)), (1, vI a1), (2, vI a2), (3, vI a3)] [vI x10]
      refine g_iconst (v := (2 : Int32)) ok d_Mo_reason_54 (by decide) ?_
      refine g_icmp_le (tgt := 65) ok d_Mo_reason_55 (by decide) (fun c12 => ?_) (fun c12 => ?_)
      · replace h := (if_pos c12).symm.trans h
        refine g_aload_n (i := 0) 0 ok d_Mo_reason_58 rfl rfl ?_
        refine g_iconst (v := (-1 : Int32)) ok d_Mo_reason_59 (by decide) ?_
        refine g_puti (s0 := 20) (j := 26) (ci := 5) (C := RX5) (T := TX5) (N := 29) ok ht lay_20 rfl inX5 (by decide) rfl tw_764 rfl tyX5_ok nmX5 rfl (Or.inl rfl) d_Mo_reason_60 ?_
        obtain ⟨s13, e14⟩ : ∃ z, wi s k 26 (-1 : Int32) = z := ⟨_, rfl⟩
        replace h := lt_go h e14
        have m15 := mo_wi e14
        rw [e14]
        refine g_iconst (v := (2 : Int32)) ok d_Mo_reason_63 (by decide) ?_
        cases h
        exact g_iret ok (hret _ hk) (by decide) (by decide) d_Mo_reason_64
      · replace h := (if_neg c12).symm.trans h
        refine g_aload_n (i := 0) 0 ok d_Mo_reason_65 rfl rfl ?_
        refine g_iload_n (i := 1) 1 ok d_Mo_reason_66 rfl rfl ?_
        obtain ⟨x19, s18, hc17, h⟩ := bnd2_go h
        refine g_invV (rm2 := rm_Mo_lay) (As := [vI a1]) (rest := []) ok ht lay_20 rfl (c_Mo_lay X.1.2.1 (rf_self ht) hc17) cm_Mo_lay cv_Mo_lay tw_894 ⟨rfl, rfl⟩ ⟨le_t rfl, le_t rfl⟩ ⟨rfl, le_t rfl⟩ ⟨le_t rfl, le_t rfl⟩ d_Mo_reason_67 rfl (fun m16 => ?_)
        show G X s18 0 0 70 [(0, vR (some k)), (1, vI a1), (2, vI a2), (3, vI a3)] [vI x19]
        refine g_istore (i := 4) [(4, vI x19), (0, vR (some k)), (1, vI a1), (2, vI a2), (3, vI a3)] ok d_Mo_reason_70 (by decide) rfl ?_
        refine g_iload (i := 4) 0 ok d_Mo_reason_72 rfl ?_
        refine g_iconst (v := (-1 : Int32)) ok d_Mo_reason_74 (by decide) ?_
        refine g_icmp_eq (tgt := 86) ok d_Mo_reason_75 (by decide) (fun c20 => ?_) (fun c20 => ?_)
        · replace h := (if_pos c20).symm.trans h
          refine g_aload_n (i := 0) 1 ok d_Mo_reason_86 rfl rfl ?_
          refine g_getr (s0 := 20) (j := 10) (ci := 5) (C := RX5) (T := TX5) (N := 29) ok (rf_mono m16 ht) lay_20 rfl inX5 (by decide) rfl tw_748 rfl d_Mo_reason_87 ?_
          refine g_iload_n (i := 1) 2 ok d_Mo_reason_90 rfl rfl ?_
          obtain ⟨k21, hk22, h⟩ := bnd_go h
          refine g_iald ok hk22 d_Mo_reason_91 ?_
          refine g_iconst (v := (5 : Int32)) ok d_Mo_reason_92 (by decide) ?_
          refine g_iload_n (i := 2) 3 ok d_Mo_reason_93 rfl rfl ?_
          refine g_aload_n (i := 0) 1 ok d_Mo_reason_94 rfl rfl ?_
          refine g_geti (s0 := 20) (j := 1) (ci := 5) (C := RX5) (T := TX5) (N := 29) ok (rf_mono m16 ht) lay_20 rfl inX5 (by decide) rfl tw_739 rfl d_Mo_reason_95 ?_
          refine g_isub ok d_Mo_reason_98 ?_
          refine g_imul ok d_Mo_reason_99 ?_
          refine g_iadd ok d_Mo_reason_100 ?_
          obtain ⟨x23, e24⟩ : ∃ z, ((s18.1 k21 a1.toNatClampNeg) + ((5 : Int32) * (a2 - (s18.1 k 1)))) = z := ⟨_, rfl⟩
          replace h := lt_go h e24
          rw [e24]
          refine g_istore (i := 5) [(5, vI x23), (4, vI x19), (0, vR (some k)), (1, vI a1), (2, vI a2), (3, vI a3)] ok d_Mo_reason_101 (by decide) rfl ?_
          refine g_aload_n (i := 0) 2 ok d_Mo_reason_103 rfl rfl ?_
          refine g_sipush (v := (3240 : Int32)) ok d_Mo_reason_104 (by decide) ?_
          refine g_iconst (v := (0 : Int32)) ok d_Mo_reason_107 (by decide) ?_
          refine g_aload_n (i := 0) 2 ok d_Mo_reason_108 rfl rfl ?_
          refine g_geti (s0 := 20) (j := 15) (ci := 5) (C := RX5) (T := TX5) (N := 29) ok (rf_mono m16 ht) lay_20 rfl inX5 (by decide) rfl tw_753 rfl d_Mo_reason_109 ?_
          refine g_iload (i := 5) 0 ok d_Mo_reason_112 rfl ?_
          refine g_aload_n (i := 0) 2 ok d_Mo_reason_114 rfl rfl ?_
          refine g_getr (s0 := 20) (j := 9) (ci := 5) (C := RX5) (T := TX5) (N := 29) ok (rf_mono m16 ht) lay_20 rfl inX5 (by decide) rfl tw_747 rfl d_Mo_reason_115 ?_
          refine g_iload_n (i := 1) 3 ok d_Mo_reason_118 rfl rfl ?_
          obtain ⟨k25, hk26, h⟩ := bnd_go h
          refine g_iald ok hk26 d_Mo_reason_119 ?_
          refine g_icmp_ge (tgt := 128) ok d_Mo_reason_120 (by decide) (fun c27 => ?_) (fun c27 => ?_)
          · replace h := (if_pos c27).symm.trans h
            refine g_iload (i := 5) 0 ok d_Mo_reason_123 rfl ?_
            refine g_goto (tgt := 134) ok d_Mo_reason_125 (by decide) ?_
            refine g_sub [2, 4, 5] rfl ?_
            exact w_j_Mo_reason_134 ok hret (rf_mono m16 ht) h hk
          · replace h := (if_neg c27).symm.trans h
            refine g_aload_n (i := 0) 2 ok d_Mo_reason_128 rfl rfl ?_
            refine g_getr (s0 := 20) (j := 9) (ci := 5) (C := RX5) (T := TX5) (N := 29) ok (rf_mono m16 ht) lay_20 rfl inX5 (by decide) rfl tw_747 rfl d_Mo_reason_129 ?_
            refine g_iload_n (i := 1) 3 ok d_Mo_reason_132 rfl rfl ?_
            obtain ⟨k90, hk91, h⟩ := bnd_go h
            refine g_iald ok hk91 d_Mo_reason_133 ?_
            refine g_sub [2, 4, 5] rfl ?_
            exact w_j_Mo_reason_134 ok hret (rf_mono m16 ht) h hk
        · replace h := (if_neg c20).symm.trans h
          refine g_aload_n (i := 0) 1 ok d_Mo_reason_78 rfl rfl ?_
          refine g_iload (i := 4) 0 ok d_Mo_reason_79 rfl ?_
          refine g_puti (s0 := 20) (j := 26) (ci := 5) (C := RX5) (T := TX5) (N := 29) ok (rf_mono m16 ht) lay_20 rfl inX5 (by decide) rfl tw_764 rfl tyX5_ok nmX5 rfl (Or.inl rfl) d_Mo_reason_81 ?_
          obtain ⟨s92, e93⟩ : ∃ z, wi s18 k 26 x19 = z := ⟨_, rfl⟩
          replace h := lt_go h e93
          have m94 := mo_wi e93
          rw [e93]
          refine g_iconst (v := (3 : Int32)) ok d_Mo_reason_84 (by decide) ?_
          cases h
          exact g_iret ok (hret _ hk) (by decide) (by decide) d_Mo_reason_85
    · replace h := (if_neg c6).symm.trans h
      refine g_sub [0, 1] rfl ?_
      exact w_j_Mo_reason_19 ok hret ht h hk
  · replace h := (if_neg c3).symm.trans h
    refine g_sub [0, 1] rfl ?_
    exact w_j_Mo_reason_19 ok hret ht h hk
theorem c_Mo_reason (l : Launch) {k : Nat} {a1 : Int32} {a2 : Int32} {a3 : Int32} {s : MS} (ht : rf s.2.2 20 (some k) = some k) {r : Int32} {z : MS} (h : f_Mo_reason k a1 a2 a3 s = some (r, z)) : Ct l yX5_reason (.code yX5_reason cX5_reason 8 (some .int)) rm_Mo_reason 0 0 false [vR (some k), vI a1, vI a2, vI a3] s (some (vI r)) z :=
  Ct.of rfl (by decide +kernel) ⟨rfl, le_t rfl⟩ (fun X ok fn _ hI hl => w_Mo_reason (KX := fun y => y = (r, z)) ok (fun y hy => by subst hy; exact fn) ht h rfl)
abbrev rm_Mo_file : Room := { frames := 6, cells := 0, slots := 0, locals := 139 }
theorem cm_Mo_file : cfM yX5_file cX5_file 7 (some .int) 3 := ⟨tw_908, tw_4, by decide, by decide, by decide +kernel⟩
theorem cv_Mo_file : cfV yX5_file := ⟨tw_906, tw_907⟩
theorem d_Mo_file_0 : decode cX5_file 0 = .ok (.iload_n 3, 1) := by decide +kernel
theorem d_Mo_file_1 : decode cX5_file 1 = .ok (.iconst 0, 1) := by decide +kernel
theorem d_Mo_file_2 : decode cX5_file 2 = .ok (.iconst 3, 1) := by decide +kernel
theorem d_Mo_file_3 : decode cX5_file 3 = .ok (.invokestatic 75, 3) := by decide +kernel
theorem d_Mo_file_6 : decode cX5_file 6 = .ok (.ifCond .eq 28, 3) := by decide +kernel
theorem d_Mo_file_9 : decode cX5_file 9 = .ok (.iload_n 2, 1) := by decide +kernel
theorem d_Mo_file_10 : decode cX5_file 10 = .ok (.aload_n 0, 1) := by decide +kernel
theorem d_Mo_file_11 : decode cX5_file 11 = .ok (.getfield 139, 3) := by decide +kernel
theorem d_Mo_file_14 : decode cX5_file 14 = .ok (.iconst 1, 1) := by decide +kernel
theorem d_Mo_file_15 : decode cX5_file 15 = .ok (.iadd, 1) := by decide +kernel
theorem d_Mo_file_16 : decode cX5_file 16 = .ok (.aload_n 0, 1) := by decide +kernel
theorem d_Mo_file_17 : decode cX5_file 17 = .ok (.getfield 139, 3) := by decide +kernel
theorem d_Mo_file_20 : decode cX5_file 20 = .ok (.sipush 200, 3) := by decide +kernel
theorem d_Mo_file_23 : decode cX5_file 23 = .ok (.iadd, 1) := by decide +kernel
theorem d_Mo_file_24 : decode cX5_file 24 = .ok (.invokestatic 75, 3) := by decide +kernel
theorem d_Mo_file_27 : decode cX5_file 27 = .ok (.ifCond .eq 7, 3) := by decide +kernel
theorem d_Mo_file_30 : decode cX5_file 30 = .ok (.iconst 1, 1) := by decide +kernel
theorem d_Mo_file_31 : decode cX5_file 31 = .ok (.goto 4, 3) := by decide +kernel
theorem d_Mo_file_34 : decode cX5_file 34 = .ok (.iconst 0, 1) := by decide +kernel
theorem d_Mo_file_35 : decode cX5_file 35 = .ok (.istore 4, 2) := by decide +kernel
theorem d_Mo_file_37 : decode cX5_file 37 = .ok (.aload_n 0, 1) := by decide +kernel
theorem d_Mo_file_38 : decode cX5_file 38 = .ok (.aload_n 0, 1) := by decide +kernel
theorem d_Mo_file_39 : decode cX5_file 39 = .ok (.iload_n 1, 1) := by decide +kernel
theorem d_Mo_file_40 : decode cX5_file 40 = .ok (.invokevirtual 123, 3) := by decide +kernel
theorem d_Mo_file_43 : decode cX5_file 43 = .ok (.ifCond .ne 7, 3) := by decide +kernel
theorem d_Mo_file_46 : decode cX5_file 46 = .ok (.iconst 1, 1) := by decide +kernel
theorem d_Mo_file_47 : decode cX5_file 47 = .ok (.goto 26, 3) := by decide +kernel
theorem d_Mo_file_50 : decode cX5_file 50 = .ok (.iload 4, 2) := by decide +kernel
theorem d_Mo_file_52 : decode cX5_file 52 = .ok (.ifCond .ne 7, 3) := by decide +kernel
theorem d_Mo_file_55 : decode cX5_file 55 = .ok (.iconst 2, 1) := by decide +kernel
theorem d_Mo_file_56 : decode cX5_file 56 = .ok (.goto 17, 3) := by decide +kernel
theorem d_Mo_file_59 : decode cX5_file 59 = .ok (.aload_n 0, 1) := by decide +kernel
theorem d_Mo_file_60 : decode cX5_file 60 = .ok (.getfield 82, 3) := by decide +kernel
theorem d_Mo_file_63 : decode cX5_file 63 = .ok (.bipush 40, 2) := by decide +kernel
theorem d_Mo_file_65 : decode cX5_file 65 = .ok (.if_icmp .ne 7, 3) := by decide +kernel
theorem d_Mo_file_68 : decode cX5_file 68 = .ok (.iconst 3, 1) := by decide +kernel
theorem d_Mo_file_69 : decode cX5_file 69 = .ok (.goto 4, 3) := by decide +kernel
theorem d_Mo_file_72 : decode cX5_file 72 = .ok (.iconst 0, 1) := by decide +kernel
theorem d_Mo_file_73 : decode cX5_file 73 = .ok (.invokevirtual 89, 3) := by decide +kernel
theorem d_Mo_file_76 : decode cX5_file 76 = .ok (.ifCond .eq 5, 3) := by decide +kernel
theorem d_Mo_file_79 : decode cX5_file 79 = .ok (.iconst 0, 1) := by decide +kernel
theorem d_Mo_file_80 : decode cX5_file 80 = .ok (.ireturn, 1) := by decide +kernel
theorem d_Mo_file_81 : decode cX5_file 81 = .ok (.aload_n 0, 1) := by decide +kernel
theorem d_Mo_file_82 : decode cX5_file 82 = .ok (.iload_n 1, 1) := by decide +kernel
theorem d_Mo_file_83 : decode cX5_file 83 = .ok (.iload_n 2, 1) := by decide +kernel
theorem d_Mo_file_84 : decode cX5_file 84 = .ok (.iload_n 3, 1) := by decide +kernel
theorem d_Mo_file_85 : decode cX5_file 85 = .ok (.invokevirtual 153, 3) := by decide +kernel
theorem d_Mo_file_88 : decode cX5_file 88 = .ok (.istore 5, 2) := by decide +kernel
theorem d_Mo_file_90 : decode cX5_file 90 = .ok (.iload 5, 2) := by decide +kernel
theorem d_Mo_file_92 : decode cX5_file 92 = .ok (.ifCond .le 17, 3) := by decide +kernel
theorem d_Mo_file_95 : decode cX5_file 95 = .ok (.aload_n 0, 1) := by decide +kernel
theorem d_Mo_file_96 : decode cX5_file 96 = .ok (.dup, 1) := by decide +kernel
theorem d_Mo_file_97 : decode cX5_file 97 = .ok (.getfield 157, 3) := by decide +kernel
theorem d_Mo_file_100 : decode cX5_file 100 = .ok (.iconst 1, 1) := by decide +kernel
theorem d_Mo_file_101 : decode cX5_file 101 = .ok (.iadd, 1) := by decide +kernel
theorem d_Mo_file_102 : decode cX5_file 102 = .ok (.putfield 157, 3) := by decide +kernel
theorem d_Mo_file_105 : decode cX5_file 105 = .ok (.iload 5, 2) := by decide +kernel
theorem d_Mo_file_107 : decode cX5_file 107 = .ok (.ineg, 1) := by decide +kernel
theorem d_Mo_file_108 : decode cX5_file 108 = .ok (.ireturn, 1) := by decide +kernel
theorem d_Mo_file_109 : decode cX5_file 109 = .ok (.iconst 0, 1) := by decide +kernel
theorem d_Mo_file_110 : decode cX5_file 110 = .ok (.istore 6, 2) := by decide +kernel
theorem d_Mo_file_112 : decode cX5_file 112 = .ok (.iload 6, 2) := by decide +kernel
theorem d_Mo_file_114 : decode cX5_file 114 = .ok (.aload_n 0, 1) := by decide +kernel
theorem d_Mo_file_115 : decode cX5_file 115 = .ok (.getfield 82, 3) := by decide +kernel
theorem d_Mo_file_118 : decode cX5_file 118 = .ok (.if_icmp .ge 44, 3) := by decide +kernel
theorem d_Mo_file_121 : decode cX5_file 121 = .ok (.aload_n 0, 1) := by decide +kernel
theorem d_Mo_file_122 : decode cX5_file 122 = .ok (.getfield 59, 3) := by decide +kernel
theorem d_Mo_file_125 : decode cX5_file 125 = .ok (.iload 6, 2) := by decide +kernel
theorem d_Mo_file_127 : decode cX5_file 127 = .ok (.iaload, 1) := by decide +kernel
theorem d_Mo_file_128 : decode cX5_file 128 = .ok (.ifCond .ne 28, 3) := by decide +kernel
theorem d_Mo_file_131 : decode cX5_file 131 = .ok (.aload_n 0, 1) := by decide +kernel
theorem d_Mo_file_132 : decode cX5_file 132 = .ok (.sipush 3240, 3) := by decide +kernel
theorem d_Mo_file_135 : decode cX5_file 135 = .ok (.iload_n 2, 1) := by decide +kernel
theorem d_Mo_file_136 : decode cX5_file 136 = .ok (.aload_n 0, 1) := by decide +kernel
theorem d_Mo_file_137 : decode cX5_file 137 = .ok (.getfield 117, 3) := by decide +kernel
theorem d_Mo_file_140 : decode cX5_file 140 = .ok (.iload 6, 2) := by decide +kernel
theorem d_Mo_file_142 : decode cX5_file 142 = .ok (.iconst 0, 1) := by decide +kernel
theorem d_Mo_file_143 : decode cX5_file 143 = .ok (.invokevirtual 149, 3) := by decide +kernel
theorem d_Mo_file_146 : decode cX5_file 146 = .ok (.ifCond .eq 10, 3) := by decide +kernel
theorem d_Mo_file_149 : decode cX5_file 149 = .ok (.aload_n 0, 1) := by decide +kernel
theorem d_Mo_file_150 : decode cX5_file 150 = .ok (.iload 6, 2) := by decide +kernel
theorem d_Mo_file_152 : decode cX5_file 152 = .ok (.iconst 3, 1) := by decide +kernel
theorem d_Mo_file_153 : decode cX5_file 153 = .ok (.invokevirtual 113, 3) := by decide +kernel
theorem d_Mo_file_156 : decode cX5_file 156 = .ok (.iinc 6 1, 3) := by decide +kernel
theorem d_Mo_file_159 : decode cX5_file 159 = .ok (.goto (-47), 3) := by decide +kernel
theorem d_Mo_file_162 : decode cX5_file 162 = .ok (.aload_n 0, 1) := by decide +kernel
theorem d_Mo_file_163 : decode cX5_file 163 = .ok (.getfield 47, 3) := by decide +kernel
theorem d_Mo_file_166 : decode cX5_file 166 = .ok (.aload_n 0, 1) := by decide +kernel
theorem d_Mo_file_167 : decode cX5_file 167 = .ok (.getfield 82, 3) := by decide +kernel
theorem d_Mo_file_170 : decode cX5_file 170 = .ok (.iload_n 1, 1) := by decide +kernel
theorem d_Mo_file_171 : decode cX5_file 171 = .ok (.iastore, 1) := by decide +kernel
theorem d_Mo_file_172 : decode cX5_file 172 = .ok (.aload_n 0, 1) := by decide +kernel
theorem d_Mo_file_173 : decode cX5_file 173 = .ok (.getfield 56, 3) := by decide +kernel
theorem d_Mo_file_176 : decode cX5_file 176 = .ok (.aload_n 0, 1) := by decide +kernel
theorem d_Mo_file_177 : decode cX5_file 177 = .ok (.getfield 82, 3) := by decide +kernel
theorem d_Mo_file_180 : decode cX5_file 180 = .ok (.iload_n 3, 1) := by decide +kernel
theorem d_Mo_file_181 : decode cX5_file 181 = .ok (.iastore, 1) := by decide +kernel
theorem d_Mo_file_182 : decode cX5_file 182 = .ok (.aload_n 0, 1) := by decide +kernel
theorem d_Mo_file_183 : decode cX5_file 183 = .ok (.getfield 38, 3) := by decide +kernel
theorem d_Mo_file_186 : decode cX5_file 186 = .ok (.iload_n 1, 1) := by decide +kernel
theorem d_Mo_file_187 : decode cX5_file 187 = .ok (.aload_n 0, 1) := by decide +kernel
theorem d_Mo_file_188 : decode cX5_file 188 = .ok (.getfield 82, 3) := by decide +kernel
theorem d_Mo_file_191 : decode cX5_file 191 = .ok (.iastore, 1) := by decide +kernel
theorem d_Mo_file_192 : decode cX5_file 192 = .ok (.aload_n 0, 1) := by decide +kernel
theorem d_Mo_file_193 : decode cX5_file 193 = .ok (.iconst 0, 1) := by decide +kernel
theorem d_Mo_file_194 : decode cX5_file 194 = .ok (.putfield 117, 3) := by decide +kernel
theorem d_Mo_file_197 : decode cX5_file 197 = .ok (.aload_n 0, 1) := by decide +kernel
theorem d_Mo_file_198 : decode cX5_file 198 = .ok (.dup, 1) := by decide +kernel
theorem d_Mo_file_199 : decode cX5_file 199 = .ok (.getfield 82, 3) := by decide +kernel
theorem d_Mo_file_202 : decode cX5_file 202 = .ok (.iconst 1, 1) := by decide +kernel
theorem d_Mo_file_203 : decode cX5_file 203 = .ok (.iadd, 1) := by decide +kernel
theorem d_Mo_file_204 : decode cX5_file 204 = .ok (.putfield 82, 3) := by decide +kernel
theorem d_Mo_file_207 : decode cX5_file 207 = .ok (.aload_n 0, 1) := by decide +kernel
theorem d_Mo_file_208 : decode cX5_file 208 = .ok (.getfield 82, 3) := by decide +kernel
theorem d_Mo_file_211 : decode cX5_file 211 = .ok (.iconst 1, 1) := by decide +kernel
theorem d_Mo_file_212 : decode cX5_file 212 = .ok (.isub, 1) := by decide +kernel
theorem d_Mo_file_213 : decode cX5_file 213 = .ok (.ireturn, 1) := by decide +kernel
set_option maxRecDepth 100000 in
set_option maxHeartbeats 4000000 in
theorem w_b_Mo_file_112 {X : CX} {KX : MS → Prop} {k : Nat} {a1 : Int32} {a2 : Int32} {a3 : Int32} {a6 : Int32} {s : MS} {rec : Int32 → MS → Option (MS)} {sb : MS} (ok : Ok X cX5_file RX5 rm_Mo_file 7 false) (hexit : ∀ (z : MS), KX z → (∀ q, dm sb q → dm z q) → G X z 0 0 162 [(0, vR (some k)), (1, vI a1), (3, vI a3)] []) (hrec : ∀ (v6 : Int32) (z : MS), (∀ q, dm sb q → dm z q) → ∀ y, rec v6 z = some y → KX y → G X z 0 0 112 [(0, vR (some k)), (1, vI a1), (2, vI a2), (3, vI a3), (6, vI v6)] []) (mb : ∀ q, dm sb q → dm s q) (ht : rf s.2.2 20 (some k) = some k) {res : MS} (h : b_Mo_file_112 k a1 a2 a3 a6 s rec = some res) (hk : KX res) : G X s 0 0 112 [(0, vR (some k)), (1, vI a1), (2, vI a2), (3, vI a3), (6, vI a6)] [] := by
  unfold b_Mo_file_112 at h
  refine g_iload (i := 6) 4 ok d_Mo_file_112 rfl ?_
  refine g_aload_n (i := 0) 0 ok d_Mo_file_114 rfl rfl ?_
  refine g_geti (s0 := 20) (j := 17) (ci := 5) (C := RX5) (T := TX5) (N := 29) ok ht lay_20 rfl inX5 (by decide) rfl tw_755 rfl d_Mo_file_115 ?_
  refine g_icmp_ge (tgt := 162) ok d_Mo_file_118 (by decide) (fun c22 => ?_) (fun c22 => ?_)
  · replace h := (if_pos c22).symm.trans h
    refine g_aload_n (i := 0) 0 ok d_Mo_file_121 rfl rfl ?_
    refine g_getr (s0 := 20) (j := 22) (ci := 5) (C := RX5) (T := TX5) (N := 29) ok ht lay_20 rfl inX5 (by decide) rfl tw_760 rfl d_Mo_file_122 ?_
    refine g_iload (i := 6) 4 ok d_Mo_file_125 rfl ?_
    obtain ⟨k23, hk24, h⟩ := bnd_go h
    refine g_iald ok hk24 d_Mo_file_127 ?_
    refine g_if_ne (tgt := 156) ok d_Mo_file_128 (by decide) (fun c25 => ?_) (fun c25 => ?_)
    · replace h := (if_pos c25).symm.trans h
      refine g_aload_n (i := 0) 0 ok d_Mo_file_131 rfl rfl ?_
      refine g_sipush (v := (3240 : Int32)) ok d_Mo_file_132 (by decide) ?_
      refine g_iload_n (i := 2) 2 ok d_Mo_file_135 rfl rfl ?_
      refine g_aload_n (i := 0) 0 ok d_Mo_file_136 rfl rfl ?_
      refine g_geti (s0 := 20) (j := 15) (ci := 5) (C := RX5) (T := TX5) (N := 29) ok ht lay_20 rfl inX5 (by decide) rfl tw_753 rfl d_Mo_file_137 ?_
      refine g_iload (i := 6) 4 ok d_Mo_file_140 rfl ?_
      refine g_iconst (v := (0 : Int32)) ok d_Mo_file_142 (by decide) ?_
      obtain ⟨x27, hc28, h⟩ := bnd_go h
      refine g_invV (rm2 := rm_Mo_meet) (As := [vI (3240 : Int32), vI a2, vI (s.1 k 15), vI a6, vI (0 : Int32)]) (rest := []) ok ht lay_20 rfl (c_Mo_meet X.1.2.1 (rf_self ht) hc28) cm_Mo_meet cv_Mo_meet tw_939 ⟨rfl, rfl⟩ ⟨le_t rfl, le_t rfl⟩ ⟨rfl, le_t rfl⟩ ⟨le_t rfl, le_t rfl⟩ d_Mo_file_143 rfl (fun m26 => ?_)
      show G X s 0 0 146 [(0, vR (some k)), (1, vI a1), (2, vI a2), (3, vI a3), (6, vI a6)] [vI x27]
      refine g_if_eq (tgt := 156) ok d_Mo_file_146 (by decide) (fun c29 => ?_) (fun c29 => ?_)
      · replace h := (if_pos c29).symm.trans h
        obtain ⟨x30, e31⟩ : ∃ z, a6 + (1 : Int32) = z := ⟨_, rfl⟩
        replace h := lt_go h e31
        refine g_iinc (i := 6) (v := x30) 4 [(6, vI x30), (0, vR (some k)), (1, vI a1), (2, vI a2), (3, vI a3)] ok d_Mo_file_156 rfl (by rw [← e31]; rfl) (by decide) rfl ?_
        refine g_goto (tgt := 112) ok d_Mo_file_159 (by decide) ?_
        refine g_sub [1, 2, 3, 4, 0] rfl ?_
        exact hrec x30 s mb _ h hk
      · replace h := (if_neg c29).symm.trans h
        refine g_aload_n (i := 0) 0 ok d_Mo_file_149 rfl rfl ?_
        refine g_iload (i := 6) 4 ok d_Mo_file_150 rfl ?_
        refine g_iconst (v := (3 : Int32)) ok d_Mo_file_152 (by decide) ?_
        obtain ⟨s34, hc33, h⟩ := bnd_go h
        refine g_invV (rm2 := rm_Mo_takeBack) (As := [vI a6, vI (3 : Int32)]) (rest := []) ok ht lay_20 rfl (c_Mo_takeBack X.1.2.1 (rf_self ht) hc33) cm_Mo_takeBack cv_Mo_takeBack tw_866 ⟨rfl, rfl⟩ ⟨le_t rfl, le_t rfl⟩ ⟨rfl, le_t rfl⟩ ⟨le_t rfl, le_t rfl⟩ d_Mo_file_153 rfl (fun m32 => ?_)
        show G X s34 0 0 156 [(0, vR (some k)), (1, vI a1), (2, vI a2), (3, vI a3), (6, vI a6)] []
        obtain ⟨x35, e36⟩ : ∃ z, a6 + (1 : Int32) = z := ⟨_, rfl⟩
        replace h := lt_go h e36
        refine g_iinc (i := 6) (v := x35) 4 [(6, vI x35), (0, vR (some k)), (1, vI a1), (2, vI a2), (3, vI a3)] ok d_Mo_file_156 rfl (by rw [← e36]; rfl) (by decide) rfl ?_
        refine g_goto (tgt := 112) ok d_Mo_file_159 (by decide) ?_
        refine g_sub [1, 2, 3, 4, 0] rfl ?_
        exact hrec x35 s34 (fun z hz => m32 z (mb z hz)) _ h hk
    · replace h := (if_neg c25).symm.trans h
      obtain ⟨x37, e38⟩ : ∃ z, a6 + (1 : Int32) = z := ⟨_, rfl⟩
      replace h := lt_go h e38
      refine g_iinc (i := 6) (v := x37) 4 [(6, vI x37), (0, vR (some k)), (1, vI a1), (2, vI a2), (3, vI a3)] ok d_Mo_file_156 rfl (by rw [← e38]; rfl) (by decide) rfl ?_
      refine g_goto (tgt := 112) ok d_Mo_file_159 (by decide) ?_
      refine g_sub [1, 2, 3, 4, 0] rfl ?_
      exact hrec x37 s mb _ h hk
  · replace h := (if_neg c22).symm.trans h
    refine g_sub [0, 1, 3] rfl ?_
    cases h
    exact hexit s hk mb
theorem wx_l_Mo_file_112 {X : CX} {KX : MS → Prop} {k : Nat} {a1 : Int32} {a2 : Int32} {a3 : Int32} {sb : MS} (ok : Ok X cX5_file RX5 rm_Mo_file 7 false) (hexit : ∀ (z : MS), KX z → (∀ q, dm sb q → dm z q) → G X z 0 0 162 [(0, vR (some k)), (1, vI a1), (3, vI a3)] []) (htb : rf sb.2.2 20 (some k) = some k) : ∀ (n : Nat) (a6 : Int32) (s : MS), (∀ q, dm sb q → dm s q) → ∀ (res : MS), l_Mo_file_112 k a1 a2 a3 n a6 s = some res → KX res → G X s 0 0 112 [(0, vR (some k)), (1, vI a1), (2, vI a2), (3, vI a3), (6, vI a6)] [] := by
  intro n
  induction n with
  | zero => intro _ s _ res h; cases h
  | succ n ih =>
    intro a6 s mb res h hk
    exact w_b_Mo_file_112 ok hexit (fun v6 z hz y h2 hk2 => ih v6 z hz y h2 hk2) mb (rf_mono mb htb) h hk
theorem w_l_Mo_file_112 {X : CX} {KX : MS → Prop} {k : Nat} {a1 : Int32} {a2 : Int32} {a3 : Int32} {sb : MS} (ok : Ok X cX5_file RX5 rm_Mo_file 7 false) (hexit : ∀ (z : MS), KX z → (∀ q, dm sb q → dm z q) → G X z 0 0 162 [(0, vR (some k)), (1, vI a1), (3, vI a3)] []) (mb : ∀ q, dm sb q → dm sb q) (htb : rf sb.2.2 20 (some k) = some k) (n : Nat) (a6 : Int32) {res : MS} (h : l_Mo_file_112 k a1 a2 a3 n a6 sb = some res) (hk : KX res) : G X sb 0 0 112 [(0, vR (some k)), (1, vI a1), (2, vI a2), (3, vI a3), (6, vI a6)] [] := wx_l_Mo_file_112 ok hexit htb n a6 sb mb res h hk
set_option maxRecDepth 100000 in
set_option maxHeartbeats 4000000 in
theorem w_j_Mo_file_73 {X : CX} {KX : Int32 × MS → Prop} {k : Nat} {a1 : Int32} {a2 : Int32} {a3 : Int32} {t0 : Int32} {t1 : Option Nat} {s : MS} (ok : Ok X cX5_file RX5 rm_Mo_file 7 false) (hret : ∀ r : Int32 × MS, KX r → Fin X (some .int) 0 0 false (some (vI r.1)) r.2) (ht : rf s.2.2 20 (some k) = some k) {res : Int32 × MS} (h : j_Mo_file_73 k a1 a2 a3 t0 t1 s = some res) (hk : KX res) : G X s 0 0 73 [(0, vR (some k)), (1, vI a1), (2, vI a2), (3, vI a3)] [vI t0, vR t1] := by
  unfold j_Mo_file_73 at h
  obtain ⟨k7, hk8, h⟩ := bnd_go h
  obtain ⟨x12, s11, hc10, h⟩ := bnd2_go h
  refine g_invV (rm2 := rm_Mo_refused) (As := [vI t0]) (rest := []) ok hk8 lay_20 rfl (c_Mo_refused X.1.2.1 (rf_self hk8) hc10) cm_Mo_refused cv_Mo_refused tw_841 ⟨rfl, rfl⟩ ⟨le_t rfl, le_t rfl⟩ ⟨rfl, le_t rfl⟩ ⟨le_t rfl, le_t rfl⟩ d_Mo_file_73 rfl (fun m9 => ?_)
  show G X s11 0 0 76 [(0, vR (some k)), (1, vI a1), (2, vI a2), (3, vI a3)] [vI x12]
  refine g_if_eq (tgt := 81) ok d_Mo_file_76 (by decide) (fun c13 => ?_) (fun c13 => ?_)
  · replace h := (if_pos c13).symm.trans h
    refine g_aload_n (i := 0) 0 ok d_Mo_file_81 rfl rfl ?_
    refine g_iload_n (i := 1) 1 ok d_Mo_file_82 rfl rfl ?_
    refine g_iload_n (i := 2) 2 ok d_Mo_file_83 rfl rfl ?_
    refine g_iload_n (i := 3) 3 ok d_Mo_file_84 rfl rfl ?_
    obtain ⟨x17, s16, hc15, h⟩ := bnd2_go h
    refine g_invV (rm2 := rm_Mo_reason) (As := [vI a1, vI a2, vI a3]) (rest := []) ok (rf_mono m9 ht) lay_20 rfl (c_Mo_reason X.1.2.1 (rf_self (rf_mono m9 ht)) hc15) cm_Mo_reason cv_Mo_reason tw_909 ⟨rfl, rfl⟩ ⟨le_t rfl, le_t rfl⟩ ⟨rfl, le_t rfl⟩ ⟨le_t rfl, le_t rfl⟩ d_Mo_file_85 rfl (fun m14 => ?_)
    show G X s16 0 0 88 [(0, vR (some k)), (1, vI a1), (2, vI a2), (3, vI a3)] [vI x17]
    refine g_istore (i := 5) [(5, vI x17), (0, vR (some k)), (1, vI a1), (2, vI a2), (3, vI a3)] ok d_Mo_file_88 (by decide) rfl ?_
    refine g_iload (i := 5) 0 ok d_Mo_file_90 rfl ?_
    refine g_if_le (tgt := 109) ok d_Mo_file_92 (by decide) (fun c18 => ?_) (fun c18 => ?_)
    · replace h := (if_pos c18).symm.trans h
      refine g_aload_n (i := 0) 1 ok d_Mo_file_95 rfl rfl ?_
      refine g_dup ok d_Mo_file_96 rfl ?_
      refine g_geti (s0 := 20) (j := 27) (ci := 5) (C := RX5) (T := TX5) (N := 29) ok (rf_mono m14 (rf_mono m9 ht)) lay_20 rfl inX5 (by decide) rfl tw_765 rfl d_Mo_file_97 ?_
      refine g_iconst (v := (1 : Int32)) ok d_Mo_file_100 (by decide) ?_
      refine g_iadd ok d_Mo_file_101 ?_
      refine g_puti (s0 := 20) (j := 27) (ci := 5) (C := RX5) (T := TX5) (N := 29) ok (rf_mono m14 (rf_mono m9 ht)) lay_20 rfl inX5 (by decide) rfl tw_765 rfl tyX5_ok nmX5 rfl (Or.inl rfl) d_Mo_file_102 ?_
      obtain ⟨s19, e20⟩ : ∃ z, wi s16 k 27 ((s16.1 k 27) + (1 : Int32)) = z := ⟨_, rfl⟩
      replace h := lt_go h e20
      have m21 := mo_wi e20
      rw [e20]
      refine g_iload (i := 5) 0 ok d_Mo_file_105 rfl ?_
      refine g_ineg ok d_Mo_file_107 ?_
      cases h
      exact g_iret ok (hret _ hk) (by decide) (by decide) d_Mo_file_108
    · replace h := (if_neg c18).symm.trans h
      refine g_iconst (v := (0 : Int32)) ok d_Mo_file_109 (by decide) ?_
      refine g_istore (i := 6) [(6, vI (0 : Int32)), (5, vI x17), (0, vR (some k)), (1, vI a1), (2, vI a2), (3, vI a3)] ok d_Mo_file_110 (by decide) rfl ?_
      refine g_sub [2, 3, 4, 5, 0] rfl ?_
      obtain ⟨s40, hx, h⟩ := bnd_go h
      refine w_l_Mo_file_112 (KX := fun y => y = s40) ok (fun y0 he m39 => ?_) (fun _ hz => hz) (rf_mono m14 (rf_mono m9 ht)) _ _ hx rfl
      cases he
      refine g_aload_n (i := 0) 0 ok d_Mo_file_162 rfl rfl ?_
      refine g_getr (s0 := 20) (j := 18) (ci := 5) (C := RX5) (T := TX5) (N := 29) ok (rf_mono m39 (rf_mono m14 (rf_mono m9 ht))) lay_20 rfl inX5 (by decide) rfl tw_756 rfl d_Mo_file_163 ?_
      refine g_aload_n (i := 0) 0 ok d_Mo_file_166 rfl rfl ?_
      refine g_geti (s0 := 20) (j := 17) (ci := 5) (C := RX5) (T := TX5) (N := 29) ok (rf_mono m39 (rf_mono m14 (rf_mono m9 ht))) lay_20 rfl inX5 (by decide) rfl tw_755 rfl d_Mo_file_167 ?_
      refine g_iload_n (i := 1) 1 ok d_Mo_file_170 rfl rfl ?_
      obtain ⟨k41, hk42, h⟩ := bnd_go h
      refine g_iast ok hk42 d_Mo_file_171 ?_
      obtain ⟨s43, e44⟩ : ∃ z, wi s40 k41 (s40.1 k 17).toNatClampNeg a1 = z := ⟨_, rfl⟩
      replace h := lt_go h e44
      have m45 := mo_wi e44
      rw [e44]
      refine g_aload_n (i := 0) 0 ok d_Mo_file_172 rfl rfl ?_
      refine g_getr (s0 := 20) (j := 21) (ci := 5) (C := RX5) (T := TX5) (N := 29) ok (rf_mono m45 (rf_mono m39 (rf_mono m14 (rf_mono m9 ht)))) lay_20 rfl inX5 (by decide) rfl tw_759 rfl d_Mo_file_173 ?_
      refine g_aload_n (i := 0) 0 ok d_Mo_file_176 rfl rfl ?_
      refine g_geti (s0 := 20) (j := 17) (ci := 5) (C := RX5) (T := TX5) (N := 29) ok (rf_mono m45 (rf_mono m39 (rf_mono m14 (rf_mono m9 ht)))) lay_20 rfl inX5 (by decide) rfl tw_755 rfl d_Mo_file_177 ?_
      refine g_iload_n (i := 3) 2 ok d_Mo_file_180 rfl rfl ?_
      obtain ⟨k46, hk47, h⟩ := bnd_go h
      refine g_iast ok hk47 d_Mo_file_181 ?_
      obtain ⟨s48, e49⟩ : ∃ z, wi s43 k46 (s43.1 k 17).toNatClampNeg a3 = z := ⟨_, rfl⟩
      replace h := lt_go h e49
      have m50 := mo_wi e49
      rw [e49]
      refine g_aload_n (i := 0) 0 ok d_Mo_file_182 rfl rfl ?_
      refine g_getr (s0 := 20) (j := 13) (ci := 5) (C := RX5) (T := TX5) (N := 29) ok (rf_mono m50 (rf_mono m45 (rf_mono m39 (rf_mono m14 (rf_mono m9 ht))))) lay_20 rfl inX5 (by decide) rfl tw_751 rfl d_Mo_file_183 ?_
      refine g_iload_n (i := 1) 1 ok d_Mo_file_186 rfl rfl ?_
      refine g_aload_n (i := 0) 0 ok d_Mo_file_187 rfl rfl ?_
      refine g_geti (s0 := 20) (j := 17) (ci := 5) (C := RX5) (T := TX5) (N := 29) ok (rf_mono m50 (rf_mono m45 (rf_mono m39 (rf_mono m14 (rf_mono m9 ht))))) lay_20 rfl inX5 (by decide) rfl tw_755 rfl d_Mo_file_188 ?_
      obtain ⟨k51, hk52, h⟩ := bnd_go h
      refine g_iast ok hk52 d_Mo_file_191 ?_
      obtain ⟨s53, e54⟩ : ∃ z, wi s48 k51 a1.toNatClampNeg (s48.1 k 17) = z := ⟨_, rfl⟩
      replace h := lt_go h e54
      have m55 := mo_wi e54
      rw [e54]
      refine g_aload_n (i := 0) 0 ok d_Mo_file_192 rfl rfl ?_
      refine g_iconst (v := (0 : Int32)) ok d_Mo_file_193 (by decide) ?_
      refine g_puti (s0 := 20) (j := 15) (ci := 5) (C := RX5) (T := TX5) (N := 29) ok (rf_mono m55 (rf_mono m50 (rf_mono m45 (rf_mono m39 (rf_mono m14 (rf_mono m9 ht)))))) lay_20 rfl inX5 (by decide) rfl tw_753 rfl tyX5_ok nmX5 rfl (Or.inl rfl) d_Mo_file_194 ?_
      obtain ⟨s56, e57⟩ : ∃ z, wi s53 k 15 (0 : Int32) = z := ⟨_, rfl⟩
      replace h := lt_go h e57
      have m58 := mo_wi e57
      rw [e57]
      refine g_aload_n (i := 0) 0 ok d_Mo_file_197 rfl rfl ?_
      refine g_dup ok d_Mo_file_198 rfl ?_
      refine g_geti (s0 := 20) (j := 17) (ci := 5) (C := RX5) (T := TX5) (N := 29) ok (rf_mono m58 (rf_mono m55 (rf_mono m50 (rf_mono m45 (rf_mono m39 (rf_mono m14 (rf_mono m9 ht))))))) lay_20 rfl inX5 (by decide) rfl tw_755 rfl d_Mo_file_199 ?_
      refine g_iconst (v := (1 : Int32)) ok d_Mo_file_202 (by decide) ?_
      refine g_iadd ok d_Mo_file_203 ?_
      refine g_puti (s0 := 20) (j := 17) (ci := 5) (C := RX5) (T := TX5) (N := 29) ok (rf_mono m58 (rf_mono m55 (rf_mono m50 (rf_mono m45 (rf_mono m39 (rf_mono m14 (rf_mono m9 ht))))))) lay_20 rfl inX5 (by decide) rfl tw_755 rfl tyX5_ok nmX5 rfl (Or.inl rfl) d_Mo_file_204 ?_
      obtain ⟨s59, e60⟩ : ∃ z, wi s56 k 17 ((s56.1 k 17) + (1 : Int32)) = z := ⟨_, rfl⟩
      replace h := lt_go h e60
      have m61 := mo_wi e60
      rw [e60]
      refine g_aload_n (i := 0) 0 ok d_Mo_file_207 rfl rfl ?_
      refine g_geti (s0 := 20) (j := 17) (ci := 5) (C := RX5) (T := TX5) (N := 29) ok (rf_mono m61 (rf_mono m58 (rf_mono m55 (rf_mono m50 (rf_mono m45 (rf_mono m39 (rf_mono m14 (rf_mono m9 ht)))))))) lay_20 rfl inX5 (by decide) rfl tw_755 rfl d_Mo_file_208 ?_
      refine g_iconst (v := (1 : Int32)) ok d_Mo_file_211 (by decide) ?_
      refine g_isub ok d_Mo_file_212 ?_
      cases h
      exact g_iret ok (hret _ hk) (by decide) (by decide) d_Mo_file_213
  · replace h := (if_neg c13).symm.trans h
    refine g_iconst (v := (0 : Int32)) ok d_Mo_file_79 (by decide) ?_
    cases h
    exact g_iret ok (hret _ hk) (by decide) (by decide) d_Mo_file_80
set_option maxRecDepth 100000 in
set_option maxHeartbeats 4000000 in
theorem w_j_Mo_file_35 {X : CX} {KX : Int32 × MS → Prop} {k : Nat} {a1 : Int32} {a2 : Int32} {a3 : Int32} {t0 : Int32} {s : MS} (ok : Ok X cX5_file RX5 rm_Mo_file 7 false) (hret : ∀ r : Int32 × MS, KX r → Fin X (some .int) 0 0 false (some (vI r.1)) r.2) (ht : rf s.2.2 20 (some k) = some k) {res : Int32 × MS} (h : j_Mo_file_35 k a1 a2 a3 t0 s = some res) (hk : KX res) : G X s 0 0 35 [(0, vR (some k)), (1, vI a1), (2, vI a2), (3, vI a3)] [vI t0] := by
  unfold j_Mo_file_35 at h
  refine g_istore (i := 4) [(4, vI t0), (0, vR (some k)), (1, vI a1), (2, vI a2), (3, vI a3)] ok d_Mo_file_35 (by decide) rfl ?_
  refine g_aload_n (i := 0) 1 ok d_Mo_file_37 rfl rfl ?_
  refine g_aload_n (i := 0) 1 ok d_Mo_file_38 rfl rfl ?_
  refine g_iload_n (i := 1) 2 ok d_Mo_file_39 rfl rfl ?_
  obtain ⟨x4, hc5, h⟩ := bnd_go h
  refine g_invV (rm2 := rm_Mo_isMachine) (As := [vI a1]) (rest := [vR (some k)]) ok ht lay_20 rfl (c_Mo_isMachine X.1.2.1 (rf_self ht) hc5) cm_Mo_isMachine cv_Mo_isMachine tw_890 ⟨rfl, rfl⟩ ⟨le_t rfl, le_t rfl⟩ ⟨rfl, le_t rfl⟩ ⟨le_t rfl, le_t rfl⟩ d_Mo_file_40 rfl (fun m3 => ?_)
  show G X s 0 0 43 [(4, vI t0), (0, vR (some k)), (1, vI a1), (2, vI a2), (3, vI a3)] [vI x4, vR (some k)]
  refine g_if_ne (tgt := 50) ok d_Mo_file_43 (by decide) (fun c6 => ?_) (fun c6 => ?_)
  · replace h := (if_pos c6).symm.trans h
    refine g_iconst (v := (1 : Int32)) ok d_Mo_file_46 (by decide) ?_
    refine g_goto (tgt := 73) ok d_Mo_file_47 (by decide) ?_
    refine g_sub [1, 2, 3, 4] rfl ?_
    exact w_j_Mo_file_73 ok hret ht h hk
  · replace h := (if_neg c6).symm.trans h
    refine g_iload (i := 4) 0 ok d_Mo_file_50 rfl ?_
    refine g_if_ne (tgt := 59) ok d_Mo_file_52 (by decide) (fun c62 => ?_) (fun c62 => ?_)
    · replace h := (if_pos c62).symm.trans h
      refine g_iconst (v := (2 : Int32)) ok d_Mo_file_55 (by decide) ?_
      refine g_goto (tgt := 73) ok d_Mo_file_56 (by decide) ?_
      refine g_sub [1, 2, 3, 4] rfl ?_
      exact w_j_Mo_file_73 ok hret ht h hk
    · replace h := (if_neg c62).symm.trans h
      refine g_aload_n (i := 0) 1 ok d_Mo_file_59 rfl rfl ?_
      refine g_geti (s0 := 20) (j := 17) (ci := 5) (C := RX5) (T := TX5) (N := 29) ok ht lay_20 rfl inX5 (by decide) rfl tw_755 rfl d_Mo_file_60 ?_
      refine g_bipush (v := (40 : Int32)) ok d_Mo_file_63 (by decide) ?_
      refine g_icmp_ne (tgt := 72) ok d_Mo_file_65 (by decide) (fun c63 => ?_) (fun c63 => ?_)
      · replace h := (if_pos c63).symm.trans h
        refine g_iconst (v := (3 : Int32)) ok d_Mo_file_68 (by decide) ?_
        refine g_goto (tgt := 73) ok d_Mo_file_69 (by decide) ?_
        refine g_sub [1, 2, 3, 4] rfl ?_
        exact w_j_Mo_file_73 ok hret ht h hk
      · replace h := (if_neg c63).symm.trans h
        refine g_iconst (v := (0 : Int32)) ok d_Mo_file_72 (by decide) ?_
        refine g_sub [1, 2, 3, 4] rfl ?_
        exact w_j_Mo_file_73 ok hret ht h hk
set_option maxRecDepth 100000 in
set_option maxHeartbeats 4000000 in
theorem w_j_Mo_file_34 {X : CX} {KX : Int32 × MS → Prop} {k : Nat} {a1 : Int32} {a2 : Int32} {a3 : Int32} {s : MS} (ok : Ok X cX5_file RX5 rm_Mo_file 7 false) (hret : ∀ r : Int32 × MS, KX r → Fin X (some .int) 0 0 false (some (vI r.1)) r.2) (ht : rf s.2.2 20 (some k) = some k) {res : Int32 × MS} (h : j_Mo_file_34 k a1 a2 a3 s = some res) (hk : KX res) : G X s 0 0 34 [(0, vR (some k)), (1, vI a1), (2, vI a2), (3, vI a3)] [] := by
  unfold j_Mo_file_34 at h
  refine g_iconst (v := (0 : Int32)) ok d_Mo_file_34 (by decide) ?_
  exact w_j_Mo_file_35 ok hret ht h hk
set_option maxRecDepth 100000 in
set_option maxHeartbeats 4000000 in
theorem w_Mo_file {X : CX} {KX : Int32 × MS → Prop} {k : Nat} {a1 : Int32} {a2 : Int32} {a3 : Int32} {s : MS} (ok : Ok X cX5_file RX5 rm_Mo_file 7 false) (hret : ∀ r : Int32 × MS, KX r → Fin X (some .int) 0 0 false (some (vI r.1)) r.2)   (ht : rf s.2.2 20 (some k) = some k) {res : Int32 × MS} (h : f_Mo_file k a1 a2 a3 s = some res) (hk : KX res) : G X s 0 0 0 [(0, vR (some k)), (1, vI a1), (2, vI a2), (3, vI a3)] [] := by
  unfold f_Mo_file at h
  refine g_iload_n (i := 3) 3 ok d_Mo_file_0 rfl rfl ?_
  refine g_iconst (v := (0 : Int32)) ok d_Mo_file_1 (by decide) ?_
  refine g_iconst (v := (3 : Int32)) ok d_Mo_file_2 (by decide) ?_
  refine g_invS (rm2 := rm_Mo_within) (As := [vI a3, vI (0 : Int32), vI (3 : Int32)]) (rest := []) ok (c_Mo_within X.1.2.1) cm_Mo_within cs_Mo_within tw_838 ⟨rfl, rfl⟩ ⟨le_t rfl, le_t rfl⟩ ⟨rfl, le_t rfl⟩ ⟨le_t rfl, le_t rfl⟩ d_Mo_file_3 rfl (fun m1 => ?_)
  show G X s 0 0 6 [(0, vR (some k)), (1, vI a1), (2, vI a2), (3, vI a3)] [vI (f_Mo_within a3 (0 : Int32) (3 : Int32))]
  refine g_if_eq (tgt := 34) ok d_Mo_file_6 (by decide) (fun c2 => ?_) (fun c2 => ?_)
  · replace h := (if_pos c2).symm.trans h
    exact w_j_Mo_file_34 ok hret ht h hk
  · replace h := (if_neg c2).symm.trans h
    refine g_iload_n (i := 2) 2 ok d_Mo_file_9 rfl rfl ?_
    refine g_aload_n (i := 0) 0 ok d_Mo_file_10 rfl rfl ?_
    refine g_geti (s0 := 20) (j := 1) (ci := 5) (C := RX5) (T := TX5) (N := 29) ok ht lay_20 rfl inX5 (by decide) rfl tw_739 rfl d_Mo_file_11 ?_
    refine g_iconst (v := (1 : Int32)) ok d_Mo_file_14 (by decide) ?_
    refine g_iadd ok d_Mo_file_15 ?_
    refine g_aload_n (i := 0) 0 ok d_Mo_file_16 rfl rfl ?_
    refine g_geti (s0 := 20) (j := 1) (ci := 5) (C := RX5) (T := TX5) (N := 29) ok ht lay_20 rfl inX5 (by decide) rfl tw_739 rfl d_Mo_file_17 ?_
    refine g_sipush (v := (200 : Int32)) ok d_Mo_file_20 (by decide) ?_
    refine g_iadd ok d_Mo_file_23 ?_
    refine g_invS (rm2 := rm_Mo_within) (As := [vI a2, vI ((s.1 k 1) + (1 : Int32)), vI ((s.1 k 1) + (200 : Int32))]) (rest := []) ok (c_Mo_within X.1.2.1) cm_Mo_within cs_Mo_within tw_838 ⟨rfl, rfl⟩ ⟨le_t rfl, le_t rfl⟩ ⟨rfl, le_t rfl⟩ ⟨le_t rfl, le_t rfl⟩ d_Mo_file_24 rfl (fun m64 => ?_)
    show G X s 0 0 27 [(0, vR (some k)), (1, vI a1), (2, vI a2), (3, vI a3)] [vI (f_Mo_within a2 ((s.1 k 1) + (1 : Int32)) ((s.1 k 1) + (200 : Int32)))]
    refine g_if_eq (tgt := 34) ok d_Mo_file_27 (by decide) (fun c65 => ?_) (fun c65 => ?_)
    · replace h := (if_pos c65).symm.trans h
      exact w_j_Mo_file_34 ok hret ht h hk
    · replace h := (if_neg c65).symm.trans h
      refine g_iconst (v := (1 : Int32)) ok d_Mo_file_30 (by decide) ?_
      refine g_goto (tgt := 35) ok d_Mo_file_31 (by decide) ?_
      exact w_j_Mo_file_35 ok hret ht h hk
theorem c_Mo_file (l : Launch) {k : Nat} {a1 : Int32} {a2 : Int32} {a3 : Int32} {s : MS} (ht : rf s.2.2 20 (some k) = some k) {r : Int32} {z : MS} (h : f_Mo_file k a1 a2 a3 s = some (r, z)) : Ct l yX5_file (.code yX5_file cX5_file 7 (some .int)) rm_Mo_file 0 0 false [vR (some k), vI a1, vI a2, vI a3] s (some (vI r)) z :=
  Ct.of rfl (by decide +kernel) ⟨rfl, le_t rfl⟩ (fun X ok fn _ hI hl => w_Mo_file (KX := fun y => y = (r, z)) ok (fun y hy => by subst hy; exact fn) ht h rfl)
abbrev rm_Mo_why : Room := { frames := 0, cells := 0, slots := 0, locals := 0 }
theorem cm_Mo_why : cfM yX5_why cX5_why 1 (some .int) 0 := ⟨tw_946, tw_4, by decide, by decide, by decide +kernel⟩
theorem cv_Mo_why : cfV yX5_why := ⟨tw_944, tw_945⟩
theorem d_Mo_why_0 : decode cX5_why 0 = .ok (.aload_n 0, 1) := by decide +kernel
theorem d_Mo_why_1 : decode cX5_why 1 = .ok (.iconst 0, 1) := by decide +kernel
theorem d_Mo_why_2 : decode cX5_why 2 = .ok (.putfield 72, 3) := by decide +kernel
theorem d_Mo_why_5 : decode cX5_why 5 = .ok (.aload_n 0, 1) := by decide +kernel
theorem d_Mo_why_6 : decode cX5_why 6 = .ok (.getfield 68, 3) := by decide +kernel
theorem d_Mo_why_9 : decode cX5_why 9 = .ok (.ireturn, 1) := by decide +kernel
set_option maxRecDepth 100000 in
set_option maxHeartbeats 4000000 in
theorem w_Mo_why {X : CX} {KX : Int32 × MS → Prop} {k : Nat} {s : MS} (ok : Ok X cX5_why RX5 rm_Mo_why 1 false) (hret : ∀ r : Int32 × MS, KX r → Fin X (some .int) 0 0 false (some (vI r.1)) r.2)   (ht : rf s.2.2 20 (some k) = some k) {res : Int32 × MS} (h : f_Mo_why k s = some res) (hk : KX res) : G X s 0 0 0 [(0, vR (some k))] [] := by
  unfold f_Mo_why at h
  refine g_aload_n (i := 0) 0 ok d_Mo_why_0 rfl rfl ?_
  refine g_iconst (v := (0 : Int32)) ok d_Mo_why_1 (by decide) ?_
  refine g_puti (s0 := 20) (j := 0) (ci := 5) (C := RX5) (T := TX5) (N := 29) ok ht lay_20 rfl inX5 (by decide) rfl tw_738 rfl tyX5_ok nmX5 rfl (Or.inl rfl) d_Mo_why_2 ?_
  obtain ⟨s1, e2⟩ : ∃ z, wi s k 0 (0 : Int32) = z := ⟨_, rfl⟩
  replace h := lt_go h e2
  have m3 := mo_wi e2
  rw [e2]
  refine g_aload_n (i := 0) 0 ok d_Mo_why_5 rfl rfl ?_
  refine g_geti (s0 := 20) (j := 26) (ci := 5) (C := RX5) (T := TX5) (N := 29) ok (rf_mono m3 ht) lay_20 rfl inX5 (by decide) rfl tw_764 rfl d_Mo_why_6 ?_
  cases h
  exact g_iret ok (hret _ hk) (by decide) (by decide) d_Mo_why_9
theorem c_Mo_why (l : Launch) {k : Nat} {s : MS} (ht : rf s.2.2 20 (some k) = some k) {r : Int32} {z : MS} (h : f_Mo_why k s = some (r, z)) : Ct l yX5_why (.code yX5_why cX5_why 1 (some .int)) rm_Mo_why 0 0 false [vR (some k)] s (some (vI r)) z :=
  Ct.of rfl (by decide +kernel) ⟨rfl, le_t rfl⟩ (fun X ok fn _ hI hl => w_Mo_why (KX := fun y => y = (r, z)) ok (fun y hy => by subst hy; exact fn) ht h rfl)
abbrev rm_Mo_withdraw : Room := { frames := 2, cells := 0, slots := 0, locals := 43 }
theorem cm_Mo_withdraw : cfM yX5_withdraw cX5_withdraw 3 none 1 := ⟨tw_950, tw_4, by decide, by decide, by decide +kernel⟩
theorem cv_Mo_withdraw : cfV yX5_withdraw := ⟨tw_948, tw_949⟩
theorem d_Mo_withdraw_0 : decode cX5_withdraw 0 = .ok (.aload_n 0, 1) := by decide +kernel
theorem d_Mo_withdraw_1 : decode cX5_withdraw 1 = .ok (.iload_n 1, 1) := by decide +kernel
theorem d_Mo_withdraw_2 : decode cX5_withdraw 2 = .ok (.invokevirtual 160, 3) := by decide +kernel
theorem d_Mo_withdraw_5 : decode cX5_withdraw 5 = .ok (.istore_n 2, 1) := by decide +kernel
theorem d_Mo_withdraw_6 : decode cX5_withdraw 6 = .ok (.aload_n 0, 1) := by decide +kernel
theorem d_Mo_withdraw_7 : decode cX5_withdraw 7 = .ok (.iload_n 2, 1) := by decide +kernel
theorem d_Mo_withdraw_8 : decode cX5_withdraw 8 = .ok (.ifCond .ne 7, 3) := by decide +kernel
theorem d_Mo_withdraw_11 : decode cX5_withdraw 11 = .ok (.iconst 1, 1) := by decide +kernel
theorem d_Mo_withdraw_12 : decode cX5_withdraw 12 = .ok (.goto 17, 3) := by decide +kernel
theorem d_Mo_withdraw_15 : decode cX5_withdraw 15 = .ok (.aload_n 0, 1) := by decide +kernel
theorem d_Mo_withdraw_16 : decode cX5_withdraw 16 = .ok (.getfield 59, 3) := by decide +kernel
theorem d_Mo_withdraw_19 : decode cX5_withdraw 19 = .ok (.iload_n 1, 1) := by decide +kernel
theorem d_Mo_withdraw_20 : decode cX5_withdraw 20 = .ok (.iaload, 1) := by decide +kernel
theorem d_Mo_withdraw_21 : decode cX5_withdraw 21 = .ok (.ifCond .eq 7, 3) := by decide +kernel
theorem d_Mo_withdraw_24 : decode cX5_withdraw 24 = .ok (.iconst 2, 1) := by decide +kernel
theorem d_Mo_withdraw_25 : decode cX5_withdraw 25 = .ok (.goto 4, 3) := by decide +kernel
theorem d_Mo_withdraw_28 : decode cX5_withdraw 28 = .ok (.iconst 0, 1) := by decide +kernel
theorem d_Mo_withdraw_29 : decode cX5_withdraw 29 = .ok (.invokevirtual 89, 3) := by decide +kernel
theorem d_Mo_withdraw_32 : decode cX5_withdraw 32 = .ok (.ifCond .ne 9, 3) := by decide +kernel
theorem d_Mo_withdraw_35 : decode cX5_withdraw 35 = .ok (.aload_n 0, 1) := by decide +kernel
theorem d_Mo_withdraw_36 : decode cX5_withdraw 36 = .ok (.iload_n 1, 1) := by decide +kernel
theorem d_Mo_withdraw_37 : decode cX5_withdraw 37 = .ok (.iconst 3, 1) := by decide +kernel
theorem d_Mo_withdraw_38 : decode cX5_withdraw 38 = .ok (.invokevirtual 113, 3) := by decide +kernel
theorem d_Mo_withdraw_41 : decode cX5_withdraw 41 = .ok (.return_, 1) := by decide +kernel
set_option maxRecDepth 100000 in
set_option maxHeartbeats 4000000 in
theorem w_j_Mo_withdraw_29 {X : CX} {KX : MS → Prop} {k : Nat} {a1 : Int32} {t0 : Int32} {t1 : Option Nat} {s : MS} (ok : Ok X cX5_withdraw RX5 rm_Mo_withdraw 3 false) (hret : ∀ r : MS, KX r → Fin X none 0 0 false none r) (ht : rf s.2.2 20 (some k) = some k) {res : MS} (h : j_Mo_withdraw_29 k a1 t0 t1 s = some res) (hk : KX res) : G X s 0 0 29 [(0, vR (some k)), (1, vI a1)] [vI t0, vR t1] := by
  unfold j_Mo_withdraw_29 at h
  obtain ⟨k5, hk6, h⟩ := bnd_go h
  obtain ⟨x10, s9, hc8, h⟩ := bnd2_go h
  refine g_invV (rm2 := rm_Mo_refused) (As := [vI t0]) (rest := []) ok hk6 lay_20 rfl (c_Mo_refused X.1.2.1 (rf_self hk6) hc8) cm_Mo_refused cv_Mo_refused tw_841 ⟨rfl, rfl⟩ ⟨le_t rfl, le_t rfl⟩ ⟨rfl, le_t rfl⟩ ⟨le_t rfl, le_t rfl⟩ d_Mo_withdraw_29 rfl (fun m7 => ?_)
  show G X s9 0 0 32 [(0, vR (some k)), (1, vI a1)] [vI x10]
  refine g_if_ne (tgt := 41) ok d_Mo_withdraw_32 (by decide) (fun c11 => ?_) (fun c11 => ?_)
  · replace h := (if_pos c11).symm.trans h
    refine g_aload_n (i := 0) 0 ok d_Mo_withdraw_35 rfl rfl ?_
    refine g_iload_n (i := 1) 1 ok d_Mo_withdraw_36 rfl rfl ?_
    refine g_iconst (v := (3 : Int32)) ok d_Mo_withdraw_37 (by decide) ?_
    obtain ⟨s14, hc13, h⟩ := bnd_go h
    refine g_invV (rm2 := rm_Mo_takeBack) (As := [vI a1, vI (3 : Int32)]) (rest := []) ok (rf_mono m7 ht) lay_20 rfl (c_Mo_takeBack X.1.2.1 (rf_self (rf_mono m7 ht)) hc13) cm_Mo_takeBack cv_Mo_takeBack tw_866 ⟨rfl, rfl⟩ ⟨le_t rfl, le_t rfl⟩ ⟨rfl, le_t rfl⟩ ⟨le_t rfl, le_t rfl⟩ d_Mo_withdraw_38 rfl (fun m12 => ?_)
    show G X s14 0 0 41 [(0, vR (some k)), (1, vI a1)] []
    cases h
    exact g_vret ok (hret _ hk) (by decide) (by decide) d_Mo_withdraw_41
  · replace h := (if_neg c11).symm.trans h
    cases h
    exact g_vret ok (hret _ hk) (by decide) (by decide) d_Mo_withdraw_41
set_option maxRecDepth 100000 in
set_option maxHeartbeats 4000000 in
theorem w_Mo_withdraw {X : CX} {KX : MS → Prop} {k : Nat} {a1 : Int32} {s : MS} (ok : Ok X cX5_withdraw RX5 rm_Mo_withdraw 3 false) (hret : ∀ r : MS, KX r → Fin X none 0 0 false none r)   (ht : rf s.2.2 20 (some k) = some k) {res : MS} (h : f_Mo_withdraw k a1 s = some res) (hk : KX res) : G X s 0 0 0 [(0, vR (some k)), (1, vI a1)] [] := by
  unfold f_Mo_withdraw at h
  refine g_aload_n (i := 0) 0 ok d_Mo_withdraw_0 rfl rfl ?_
  refine g_iload_n (i := 1) 1 ok d_Mo_withdraw_1 rfl rfl ?_
  obtain ⟨x2, hc3, h⟩ := bnd_go h
  refine g_invV (rm2 := rm_Mo_isPath) (As := [vI a1]) (rest := []) ok ht lay_20 rfl (c_Mo_isPath X.1.2.1 (rf_self ht) hc3) cm_Mo_isPath cv_Mo_isPath tw_951 ⟨rfl, rfl⟩ ⟨le_t rfl, le_t rfl⟩ ⟨rfl, le_t rfl⟩ ⟨le_t rfl, le_t rfl⟩ d_Mo_withdraw_2 rfl (fun m1 => ?_)
  show G X s 0 0 5 [(0, vR (some k)), (1, vI a1)] [vI x2]
  refine g_istore_n (i := 2) [(2, vI x2), (0, vR (some k)), (1, vI a1)] ok d_Mo_withdraw_5 rfl (by decide) rfl ?_
  refine g_aload_n (i := 0) 1 ok d_Mo_withdraw_6 rfl rfl ?_
  refine g_iload_n (i := 2) 0 ok d_Mo_withdraw_7 rfl rfl ?_
  refine g_if_ne (tgt := 15) ok d_Mo_withdraw_8 (by decide) (fun c4 => ?_) (fun c4 => ?_)
  · replace h := (if_pos c4).symm.trans h
    refine g_iconst (v := (1 : Int32)) ok d_Mo_withdraw_11 (by decide) ?_
    refine g_goto (tgt := 29) ok d_Mo_withdraw_12 (by decide) ?_
    refine g_sub [1, 2] rfl ?_
    exact w_j_Mo_withdraw_29 ok hret ht h hk
  · replace h := (if_neg c4).symm.trans h
    refine g_aload_n (i := 0) 1 ok d_Mo_withdraw_15 rfl rfl ?_
    refine g_getr (s0 := 20) (j := 22) (ci := 5) (C := RX5) (T := TX5) (N := 29) ok ht lay_20 rfl inX5 (by decide) rfl tw_760 rfl d_Mo_withdraw_16 ?_
    refine g_iload_n (i := 1) 2 ok d_Mo_withdraw_19 rfl rfl ?_
    obtain ⟨k15, hk16, h⟩ := bnd_go h
    refine g_iald ok hk16 d_Mo_withdraw_20 ?_
    refine g_if_eq (tgt := 28) ok d_Mo_withdraw_21 (by decide) (fun c17 => ?_) (fun c17 => ?_)
    · replace h := (if_pos c17).symm.trans h
      refine g_iconst (v := (0 : Int32)) ok d_Mo_withdraw_28 (by decide) ?_
      refine g_sub [1, 2] rfl ?_
      exact w_j_Mo_withdraw_29 ok hret ht h hk
    · replace h := (if_neg c17).symm.trans h
      refine g_iconst (v := (2 : Int32)) ok d_Mo_withdraw_24 (by decide) ?_
      refine g_goto (tgt := 29) ok d_Mo_withdraw_25 (by decide) ?_
      refine g_sub [1, 2] rfl ?_
      exact w_j_Mo_withdraw_29 ok hret ht h hk
theorem c_Mo_withdraw (l : Launch) {k : Nat} {a1 : Int32} {s : MS} (ht : rf s.2.2 20 (some k) = some k) {z : MS} (h : f_Mo_withdraw k a1 s = some z) : Ct l yX5_withdraw (.code yX5_withdraw cX5_withdraw 3 none) rm_Mo_withdraw 0 0 false [vR (some k), vI a1] s none z :=
  Ct.of rfl (by decide +kernel) ⟨rfl, le_t rfl⟩ (fun X ok fn _ hI hl => w_Mo_withdraw (KX := fun y => y = z) ok (fun y hy => by subst hy; exact fn) ht h rfl)
abbrev rm_Mo_goTo : Room := { frames := 1, cells := 0, slots := 0, locals := 23 }
theorem cm_Mo_goTo : cfM yX5_goTo cX5_goTo 3 none 2 := ⟨tw_966, tw_4, by decide, by decide, by decide +kernel⟩
theorem cv_Mo_goTo : cfV yX5_goTo := ⟨tw_965, ts_X5_goTo⟩
theorem d_Mo_goTo_0 : decode cX5_goTo 0 = .ok (.aload_n 0, 1) := by decide +kernel
theorem d_Mo_goTo_1 : decode cX5_goTo 1 = .ok (.getfield 29, 3) := by decide +kernel
theorem d_Mo_goTo_4 : decode cX5_goTo 4 = .ok (.iload_n 1, 1) := by decide +kernel
theorem d_Mo_goTo_5 : decode cX5_goTo 5 = .ok (.dup2, 1) := by decide +kernel
theorem d_Mo_goTo_6 : decode cX5_goTo 6 = .ok (.iaload, 1) := by decide +kernel
theorem d_Mo_goTo_7 : decode cX5_goTo 7 = .ok (.aload_n 0, 1) := by decide +kernel
theorem d_Mo_goTo_8 : decode cX5_goTo 8 = .ok (.getfield 32, 3) := by decide +kernel
theorem d_Mo_goTo_11 : decode cX5_goTo 11 = .ok (.iload_n 1, 1) := by decide +kernel
theorem d_Mo_goTo_12 : decode cX5_goTo 12 = .ok (.iaload, 1) := by decide +kernel
theorem d_Mo_goTo_13 : decode cX5_goTo 13 = .ok (.iload_n 2, 1) := by decide +kernel
theorem d_Mo_goTo_14 : decode cX5_goTo 14 = .ok (.aload_n 0, 1) := by decide +kernel
theorem d_Mo_goTo_15 : decode cX5_goTo 15 = .ok (.getfield 20, 3) := by decide +kernel
theorem d_Mo_goTo_18 : decode cX5_goTo 18 = .ok (.invokestatic 129, 3) := by decide +kernel
theorem d_Mo_goTo_21 : decode cX5_goTo 21 = .ok (.isub, 1) := by decide +kernel
theorem d_Mo_goTo_22 : decode cX5_goTo 22 = .ok (.iastore, 1) := by decide +kernel
theorem d_Mo_goTo_23 : decode cX5_goTo 23 = .ok (.aload_n 0, 1) := by decide +kernel
theorem d_Mo_goTo_24 : decode cX5_goTo 24 = .ok (.getfield 32, 3) := by decide +kernel
theorem d_Mo_goTo_27 : decode cX5_goTo 27 = .ok (.iload_n 1, 1) := by decide +kernel
theorem d_Mo_goTo_28 : decode cX5_goTo 28 = .ok (.iload_n 2, 1) := by decide +kernel
theorem d_Mo_goTo_29 : decode cX5_goTo 29 = .ok (.iastore, 1) := by decide +kernel
theorem d_Mo_goTo_30 : decode cX5_goTo 30 = .ok (.return_, 1) := by decide +kernel
set_option maxRecDepth 100000 in
set_option maxHeartbeats 4000000 in
theorem w_Mo_goTo {X : CX} {KX : MS → Prop} {k : Nat} {a1 : Int32} {a2 : Int32} {s : MS} (ok : Ok X cX5_goTo RX5 rm_Mo_goTo 3 false) (hret : ∀ r : MS, KX r → Fin X none 0 0 false none r)   (ht : rf s.2.2 20 (some k) = some k) {res : MS} (h : f_Mo_goTo k a1 a2 s = some res) (hk : KX res) : G X s 0 0 0 [(0, vR (some k)), (1, vI a1), (2, vI a2)] [] := by
  unfold f_Mo_goTo at h
  refine g_aload_n (i := 0) 0 ok d_Mo_goTo_0 rfl rfl ?_
  refine g_getr (s0 := 20) (j := 10) (ci := 5) (C := RX5) (T := TX5) (N := 29) ok ht lay_20 rfl inX5 (by decide) rfl tw_748 rfl d_Mo_goTo_1 ?_
  refine g_iload_n (i := 1) 1 ok d_Mo_goTo_4 rfl rfl ?_
  refine g_dup2 ok d_Mo_goTo_5 rfl rfl ?_
  obtain ⟨k1, hk2, h⟩ := bnd_go h
  refine g_iald ok hk2 d_Mo_goTo_6 ?_
  refine g_aload_n (i := 0) 0 ok d_Mo_goTo_7 rfl rfl ?_
  refine g_getr (s0 := 20) (j := 11) (ci := 5) (C := RX5) (T := TX5) (N := 29) ok ht lay_20 rfl inX5 (by decide) rfl tw_749 rfl d_Mo_goTo_8 ?_
  refine g_iload_n (i := 1) 1 ok d_Mo_goTo_11 rfl rfl ?_
  obtain ⟨k3, hk4, h⟩ := bnd_go h
  refine g_iald ok hk4 d_Mo_goTo_12 ?_
  refine g_iload_n (i := 2) 2 ok d_Mo_goTo_13 rfl rfl ?_
  refine g_aload_n (i := 0) 0 ok d_Mo_goTo_14 rfl rfl ?_
  refine g_getr (s0 := 20) (j := 6) (ci := 5) (C := RX5) (T := TX5) (N := 29) ok ht lay_20 rfl inX5 (by decide) rfl tw_744 rfl d_Mo_goTo_15 ?_
  obtain ⟨x6, hc7, h⟩ := bnd_go h
  refine g_invS (rm2 := rm_Mo_cost) (As := [vI (s.1 k3 a1.toNatClampNeg), vI a2, vR (s.2.1 k 6)]) (rest := [vI (s.1 k1 a1.toNatClampNeg), vI a1, vR (s.2.1 k 10)]) ok (c_Mo_cost X.1.2.1 hc7) cm_Mo_cost cs_Mo_cost tw_902 ⟨rfl, rfl⟩ ⟨le_t rfl, le_t rfl⟩ ⟨rfl, le_t rfl⟩ ⟨le_t rfl, le_t rfl⟩ d_Mo_goTo_18 rfl (fun m5 => ?_)
  show G X s 0 0 21 [(0, vR (some k)), (1, vI a1), (2, vI a2)] [vI x6, vI (s.1 k1 a1.toNatClampNeg), vI a1, vR (s.2.1 k 10)]
  refine g_isub ok d_Mo_goTo_21 ?_
  obtain ⟨k8, hk9, h⟩ := bnd_go h
  refine g_iast ok hk9 d_Mo_goTo_22 ?_
  obtain ⟨s10, e11⟩ : ∃ z, wi s k8 a1.toNatClampNeg ((s.1 k1 a1.toNatClampNeg) - x6) = z := ⟨_, rfl⟩
  replace h := lt_go h e11
  have m12 := mo_wi e11
  rw [e11]
  refine g_aload_n (i := 0) 0 ok d_Mo_goTo_23 rfl rfl ?_
  refine g_getr (s0 := 20) (j := 11) (ci := 5) (C := RX5) (T := TX5) (N := 29) ok (rf_mono m12 ht) lay_20 rfl inX5 (by decide) rfl tw_749 rfl d_Mo_goTo_24 ?_
  refine g_iload_n (i := 1) 1 ok d_Mo_goTo_27 rfl rfl ?_
  refine g_iload_n (i := 2) 2 ok d_Mo_goTo_28 rfl rfl ?_
  obtain ⟨k13, hk14, h⟩ := bnd_go h
  refine g_iast ok hk14 d_Mo_goTo_29 ?_
  obtain ⟨s15, e16⟩ : ∃ z, wi s10 k13 a1.toNatClampNeg a2 = z := ⟨_, rfl⟩
  replace h := lt_go h e16
  have m17 := mo_wi e16
  rw [e16]
  cases h
  exact g_vret ok (hret _ hk) (by decide) (by decide) d_Mo_goTo_30
theorem c_Mo_goTo (l : Launch) {k : Nat} {a1 : Int32} {a2 : Int32} {s : MS} (ht : rf s.2.2 20 (some k) = some k) {z : MS} (h : f_Mo_goTo k a1 a2 s = some z) : Ct l yX5_goTo (.code yX5_goTo cX5_goTo 3 none) rm_Mo_goTo 0 0 false [vR (some k), vI a1, vI a2] s none z :=
  Ct.of rfl (by decide +kernel) ⟨rfl, le_t rfl⟩ (fun X ok fn _ hI hl => w_Mo_goTo (KX := fun y => y = z) ok (fun y hy => by subst hy; exact fn) ht h rfl)
abbrev rm_Mo_homeward : Room := { frames := 0, cells := 0, slots := 0, locals := 0 }
theorem cm_Mo_homeward : cfM yX5_homeward cX5_homeward 3 (some .int) 2 := ⟨tw_969, tw_4, by decide, by decide, by decide +kernel⟩
theorem cs_Mo_homeward : cfS yX5_homeward := tw_968
theorem d_Mo_homeward_0 : decode cX5_homeward 0 = .ok (.iload_n 0, 1) := by decide +kernel
theorem d_Mo_homeward_1 : decode cX5_homeward 1 = .ok (.bipush 100, 2) := by decide +kernel
theorem d_Mo_homeward_3 : decode cX5_homeward 3 = .ok (.irem, 1) := by decide +kernel
theorem d_Mo_homeward_4 : decode cX5_homeward 4 = .ok (.istore_n 2, 1) := by decide +kernel
theorem d_Mo_homeward_5 : decode cX5_homeward 5 = .ok (.iload_n 2, 1) := by decide +kernel
theorem d_Mo_homeward_6 : decode cX5_homeward 6 = .ok (.iload_n 1, 1) := by decide +kernel
theorem d_Mo_homeward_7 : decode cX5_homeward 7 = .ok (.if_icmp .ne 8, 3) := by decide +kernel
theorem d_Mo_homeward_10 : decode cX5_homeward 10 = .ok (.iload_n 0, 1) := by decide +kernel
theorem d_Mo_homeward_11 : decode cX5_homeward 11 = .ok (.bipush 100, 2) := by decide +kernel
theorem d_Mo_homeward_13 : decode cX5_homeward 13 = .ok (.isub, 1) := by decide +kernel
theorem d_Mo_homeward_14 : decode cX5_homeward 14 = .ok (.ireturn, 1) := by decide +kernel
theorem d_Mo_homeward_15 : decode cX5_homeward 15 = .ok (.iload_n 0, 1) := by decide +kernel
theorem d_Mo_homeward_16 : decode cX5_homeward 16 = .ok (.sipush 400, 3) := by decide +kernel
theorem d_Mo_homeward_19 : decode cX5_homeward 19 = .ok (.if_icmp .ge 8, 3) := by decide +kernel
theorem d_Mo_homeward_22 : decode cX5_homeward 22 = .ok (.iload_n 0, 1) := by decide +kernel
theorem d_Mo_homeward_23 : decode cX5_homeward 23 = .ok (.bipush 100, 2) := by decide +kernel
theorem d_Mo_homeward_25 : decode cX5_homeward 25 = .ok (.iadd, 1) := by decide +kernel
theorem d_Mo_homeward_26 : decode cX5_homeward 26 = .ok (.ireturn, 1) := by decide +kernel
theorem d_Mo_homeward_27 : decode cX5_homeward 27 = .ok (.iload_n 2, 1) := by decide +kernel
theorem d_Mo_homeward_28 : decode cX5_homeward 28 = .ok (.bipush 10, 2) := by decide +kernel
theorem d_Mo_homeward_30 : decode cX5_homeward 30 = .ok (.irem, 1) := by decide +kernel
theorem d_Mo_homeward_31 : decode cX5_homeward 31 = .ok (.iload_n 1, 1) := by decide +kernel
theorem d_Mo_homeward_32 : decode cX5_homeward 32 = .ok (.bipush 10, 2) := by decide +kernel
theorem d_Mo_homeward_34 : decode cX5_homeward 34 = .ok (.irem, 1) := by decide +kernel
theorem d_Mo_homeward_35 : decode cX5_homeward 35 = .ok (.if_icmp .eq 24, 3) := by decide +kernel
theorem d_Mo_homeward_38 : decode cX5_homeward 38 = .ok (.iload_n 2, 1) := by decide +kernel
theorem d_Mo_homeward_39 : decode cX5_homeward 39 = .ok (.bipush 10, 2) := by decide +kernel
theorem d_Mo_homeward_41 : decode cX5_homeward 41 = .ok (.irem, 1) := by decide +kernel
theorem d_Mo_homeward_42 : decode cX5_homeward 42 = .ok (.iload_n 1, 1) := by decide +kernel
theorem d_Mo_homeward_43 : decode cX5_homeward 43 = .ok (.bipush 10, 2) := by decide +kernel
theorem d_Mo_homeward_45 : decode cX5_homeward 45 = .ok (.irem, 1) := by decide +kernel
theorem d_Mo_homeward_46 : decode cX5_homeward 46 = .ok (.if_icmp .ge 9, 3) := by decide +kernel
theorem d_Mo_homeward_49 : decode cX5_homeward 49 = .ok (.iload_n 0, 1) := by decide +kernel
theorem d_Mo_homeward_50 : decode cX5_homeward 50 = .ok (.iconst 1, 1) := by decide +kernel
theorem d_Mo_homeward_51 : decode cX5_homeward 51 = .ok (.iadd, 1) := by decide +kernel
theorem d_Mo_homeward_52 : decode cX5_homeward 52 = .ok (.goto 6, 3) := by decide +kernel
theorem d_Mo_homeward_55 : decode cX5_homeward 55 = .ok (.iload_n 0, 1) := by decide +kernel
theorem d_Mo_homeward_56 : decode cX5_homeward 56 = .ok (.iconst 1, 1) := by decide +kernel
theorem d_Mo_homeward_57 : decode cX5_homeward 57 = .ok (.isub, 1) := by decide +kernel
theorem d_Mo_homeward_58 : decode cX5_homeward 58 = .ok (.ireturn, 1) := by decide +kernel
theorem d_Mo_homeward_59 : decode cX5_homeward 59 = .ok (.iload_n 2, 1) := by decide +kernel
theorem d_Mo_homeward_60 : decode cX5_homeward 60 = .ok (.iload_n 1, 1) := by decide +kernel
theorem d_Mo_homeward_61 : decode cX5_homeward 61 = .ok (.if_icmp .ge 10, 3) := by decide +kernel
theorem d_Mo_homeward_64 : decode cX5_homeward 64 = .ok (.iload_n 0, 1) := by decide +kernel
theorem d_Mo_homeward_65 : decode cX5_homeward 65 = .ok (.bipush 10, 2) := by decide +kernel
theorem d_Mo_homeward_67 : decode cX5_homeward 67 = .ok (.iadd, 1) := by decide +kernel
theorem d_Mo_homeward_68 : decode cX5_homeward 68 = .ok (.goto 7, 3) := by decide +kernel
theorem d_Mo_homeward_71 : decode cX5_homeward 71 = .ok (.iload_n 0, 1) := by decide +kernel
theorem d_Mo_homeward_72 : decode cX5_homeward 72 = .ok (.bipush 10, 2) := by decide +kernel
theorem d_Mo_homeward_74 : decode cX5_homeward 74 = .ok (.isub, 1) := by decide +kernel
theorem d_Mo_homeward_75 : decode cX5_homeward 75 = .ok (.ireturn, 1) := by decide +kernel
set_option maxRecDepth 100000 in
set_option maxHeartbeats 4000000 in
theorem w_Mo_homeward {X : CX} {KX : Int32 → Prop} {a0 : Int32} {a1 : Int32} {s : MS} (ok : Ok X cX5_homeward RX5 rm_Mo_homeward 3 false) (hret : ∀ r : Int32, KX r → Fin X (some .int) 0 0 false (some (vI r)) s)    {res : Int32} (h : f_Mo_homeward a0 a1 = res) (hk : KX res) : G X s 0 0 0 [(0, vI a0), (1, vI a1)] [] := by
  unfold f_Mo_homeward at h
  refine g_iload_n (i := 0) 0 ok d_Mo_homeward_0 rfl rfl ?_
  refine g_bipush (v := (100 : Int32)) ok d_Mo_homeward_1 (by decide) ?_
  refine g_irem ok d_Mo_homeward_3 (by decide) ?_
  obtain ⟨x1, e2⟩ : ∃ z, (a0 - a0 / (100 : Int32) * (100 : Int32)) = z := ⟨_, rfl⟩
  replace h := lt_go h e2
  rw [e2]
  refine g_istore_n (i := 2) [(2, vI x1), (0, vI a0), (1, vI a1)] ok d_Mo_homeward_4 rfl (by decide) rfl ?_
  refine g_iload_n (i := 2) 0 ok d_Mo_homeward_5 rfl rfl ?_
  refine g_iload_n (i := 1) 2 ok d_Mo_homeward_6 rfl rfl ?_
  refine g_icmp_ne (tgt := 15) ok d_Mo_homeward_7 (by decide) (fun c3 => ?_) (fun c3 => ?_)
  · replace h := (if_pos c3).symm.trans h
    refine g_iload_n (i := 0) 1 ok d_Mo_homeward_10 rfl rfl ?_
    refine g_bipush (v := (100 : Int32)) ok d_Mo_homeward_11 (by decide) ?_
    refine g_isub ok d_Mo_homeward_13 ?_
    subst h
    exact g_iret ok (hret _ hk) (by decide) (by decide) d_Mo_homeward_14
  · replace h := (if_neg c3).symm.trans h
    refine g_iload_n (i := 0) 1 ok d_Mo_homeward_15 rfl rfl ?_
    refine g_sipush (v := (400 : Int32)) ok d_Mo_homeward_16 (by decide) ?_
    refine g_icmp_ge (tgt := 27) ok d_Mo_homeward_19 (by decide) (fun c4 => ?_) (fun c4 => ?_)
    · replace h := (if_pos c4).symm.trans h
      refine g_iload_n (i := 0) 1 ok d_Mo_homeward_22 rfl rfl ?_
      refine g_bipush (v := (100 : Int32)) ok d_Mo_homeward_23 (by decide) ?_
      refine g_iadd ok d_Mo_homeward_25 ?_
      subst h
      exact g_iret ok (hret _ hk) (by decide) (by decide) d_Mo_homeward_26
    · replace h := (if_neg c4).symm.trans h
      refine g_iload_n (i := 2) 0 ok d_Mo_homeward_27 rfl rfl ?_
      refine g_bipush (v := (10 : Int32)) ok d_Mo_homeward_28 (by decide) ?_
      refine g_irem ok d_Mo_homeward_30 (by decide) ?_
      refine g_iload_n (i := 1) 2 ok d_Mo_homeward_31 rfl rfl ?_
      refine g_bipush (v := (10 : Int32)) ok d_Mo_homeward_32 (by decide) ?_
      refine g_irem ok d_Mo_homeward_34 (by decide) ?_
      refine g_icmp_eq (tgt := 59) ok d_Mo_homeward_35 (by decide) (fun c5 => ?_) (fun c5 => ?_)
      · replace h := (if_pos c5).symm.trans h
        refine g_iload_n (i := 2) 0 ok d_Mo_homeward_59 rfl rfl ?_
        refine g_iload_n (i := 1) 2 ok d_Mo_homeward_60 rfl rfl ?_
        refine g_icmp_ge (tgt := 71) ok d_Mo_homeward_61 (by decide) (fun c6 => ?_) (fun c6 => ?_)
        · replace h := (if_pos c6).symm.trans h
          refine g_iload_n (i := 0) 1 ok d_Mo_homeward_64 rfl rfl ?_
          refine g_bipush (v := (10 : Int32)) ok d_Mo_homeward_65 (by decide) ?_
          refine g_iadd ok d_Mo_homeward_67 ?_
          refine g_goto (tgt := 75) ok d_Mo_homeward_68 (by decide) ?_
          subst h
          exact g_iret ok (hret _ hk) (by decide) (by decide) d_Mo_homeward_75
        · replace h := (if_neg c6).symm.trans h
          refine g_iload_n (i := 0) 1 ok d_Mo_homeward_71 rfl rfl ?_
          refine g_bipush (v := (10 : Int32)) ok d_Mo_homeward_72 (by decide) ?_
          refine g_isub ok d_Mo_homeward_74 ?_
          subst h
          exact g_iret ok (hret _ hk) (by decide) (by decide) d_Mo_homeward_75
      · replace h := (if_neg c5).symm.trans h
        refine g_iload_n (i := 2) 0 ok d_Mo_homeward_38 rfl rfl ?_
        refine g_bipush (v := (10 : Int32)) ok d_Mo_homeward_39 (by decide) ?_
        refine g_irem ok d_Mo_homeward_41 (by decide) ?_
        refine g_iload_n (i := 1) 2 ok d_Mo_homeward_42 rfl rfl ?_
        refine g_bipush (v := (10 : Int32)) ok d_Mo_homeward_43 (by decide) ?_
        refine g_irem ok d_Mo_homeward_45 (by decide) ?_
        refine g_icmp_ge (tgt := 55) ok d_Mo_homeward_46 (by decide) (fun c7 => ?_) (fun c7 => ?_)
        · replace h := (if_pos c7).symm.trans h
          refine g_iload_n (i := 0) 1 ok d_Mo_homeward_49 rfl rfl ?_
          refine g_iconst (v := (1 : Int32)) ok d_Mo_homeward_50 (by decide) ?_
          refine g_iadd ok d_Mo_homeward_51 ?_
          refine g_goto (tgt := 58) ok d_Mo_homeward_52 (by decide) ?_
          subst h
          exact g_iret ok (hret _ hk) (by decide) (by decide) d_Mo_homeward_58
        · replace h := (if_neg c7).symm.trans h
          refine g_iload_n (i := 0) 1 ok d_Mo_homeward_55 rfl rfl ?_
          refine g_iconst (v := (1 : Int32)) ok d_Mo_homeward_56 (by decide) ?_
          refine g_isub ok d_Mo_homeward_57 ?_
          subst h
          exact g_iret ok (hret _ hk) (by decide) (by decide) d_Mo_homeward_58
theorem c_Mo_homeward (l : Launch) {a0 : Int32} {a1 : Int32} {s : MS} : Ct l yX5_homeward (.code yX5_homeward cX5_homeward 3 (some .int)) rm_Mo_homeward 0 0 false [vI a0, vI a1] s (some (vI (f_Mo_homeward a0 a1))) s :=
  Ct.of rfl (by decide +kernel) ⟨rfl, le_t rfl⟩ (fun X ok fn _ hI hl => w_Mo_homeward (KX := fun y => y = f_Mo_homeward a0 a1) ok (fun y hy => by subst hy; exact fn) rfl rfl)
abbrev rm_Mo_fall : Room := { frames := 1, cells := 0, slots := 0, locals := 22 }
theorem cm_Mo_fall : cfM yX5_fall cX5_fall 2 none 1 := ⟨tw_973, tw_4, by decide, by decide, by decide +kernel⟩
theorem cv_Mo_fall : cfV yX5_fall := ⟨tw_972, ts_X5_fall⟩
theorem d_Mo_fall_0 : decode cX5_fall 0 = .ok (.aload_n 0, 1) := by decide +kernel
theorem d_Mo_fall_1 : decode cX5_fall 1 = .ok (.getfield 35, 3) := by decide +kernel
theorem d_Mo_fall_4 : decode cX5_fall 4 = .ok (.iload_n 1, 1) := by decide +kernel
theorem d_Mo_fall_5 : decode cX5_fall 5 = .ok (.iconst 3, 1) := by decide +kernel
theorem d_Mo_fall_6 : decode cX5_fall 6 = .ok (.iastore, 1) := by decide +kernel
theorem d_Mo_fall_7 : decode cX5_fall 7 = .ok (.aload_n 0, 1) := by decide +kernel
theorem d_Mo_fall_8 : decode cX5_fall 8 = .ok (.getfield 38, 3) := by decide +kernel
theorem d_Mo_fall_11 : decode cX5_fall 11 = .ok (.iload_n 1, 1) := by decide +kernel
theorem d_Mo_fall_12 : decode cX5_fall 12 = .ok (.iaload, 1) := by decide +kernel
theorem d_Mo_fall_13 : decode cX5_fall 13 = .ok (.iconst (-1), 1) := by decide +kernel
theorem d_Mo_fall_14 : decode cX5_fall 14 = .ok (.if_icmp .eq 14, 3) := by decide +kernel
theorem d_Mo_fall_17 : decode cX5_fall 17 = .ok (.aload_n 0, 1) := by decide +kernel
theorem d_Mo_fall_18 : decode cX5_fall 18 = .ok (.aload_n 0, 1) := by decide +kernel
theorem d_Mo_fall_19 : decode cX5_fall 19 = .ok (.getfield 38, 3) := by decide +kernel
theorem d_Mo_fall_22 : decode cX5_fall 22 = .ok (.iload_n 1, 1) := by decide +kernel
theorem d_Mo_fall_23 : decode cX5_fall 23 = .ok (.iaload, 1) := by decide +kernel
theorem d_Mo_fall_24 : decode cX5_fall 24 = .ok (.iconst 4, 1) := by decide +kernel
theorem d_Mo_fall_25 : decode cX5_fall 25 = .ok (.invokevirtual 113, 3) := by decide +kernel
theorem d_Mo_fall_28 : decode cX5_fall 28 = .ok (.return_, 1) := by decide +kernel
set_option maxRecDepth 100000 in
set_option maxHeartbeats 4000000 in
theorem w_Mo_fall {X : CX} {KX : MS → Prop} {k : Nat} {a1 : Int32} {s : MS} (ok : Ok X cX5_fall RX5 rm_Mo_fall 2 false) (hret : ∀ r : MS, KX r → Fin X none 0 0 false none r)   (ht : rf s.2.2 20 (some k) = some k) {res : MS} (h : f_Mo_fall k a1 s = some res) (hk : KX res) : G X s 0 0 0 [(0, vR (some k)), (1, vI a1)] [] := by
  unfold f_Mo_fall at h
  refine g_aload_n (i := 0) 0 ok d_Mo_fall_0 rfl rfl ?_
  refine g_getr (s0 := 20) (j := 12) (ci := 5) (C := RX5) (T := TX5) (N := 29) ok ht lay_20 rfl inX5 (by decide) rfl tw_750 rfl d_Mo_fall_1 ?_
  refine g_iload_n (i := 1) 1 ok d_Mo_fall_4 rfl rfl ?_
  refine g_iconst (v := (3 : Int32)) ok d_Mo_fall_5 (by decide) ?_
  obtain ⟨k1, hk2, h⟩ := bnd_go h
  refine g_iast ok hk2 d_Mo_fall_6 ?_
  obtain ⟨s3, e4⟩ : ∃ z, wi s k1 a1.toNatClampNeg (3 : Int32) = z := ⟨_, rfl⟩
  replace h := lt_go h e4
  have m5 := mo_wi e4
  rw [e4]
  refine g_aload_n (i := 0) 0 ok d_Mo_fall_7 rfl rfl ?_
  refine g_getr (s0 := 20) (j := 13) (ci := 5) (C := RX5) (T := TX5) (N := 29) ok (rf_mono m5 ht) lay_20 rfl inX5 (by decide) rfl tw_751 rfl d_Mo_fall_8 ?_
  refine g_iload_n (i := 1) 1 ok d_Mo_fall_11 rfl rfl ?_
  obtain ⟨k6, hk7, h⟩ := bnd_go h
  refine g_iald ok hk7 d_Mo_fall_12 ?_
  refine g_iconst (v := (-1 : Int32)) ok d_Mo_fall_13 (by decide) ?_
  refine g_icmp_eq (tgt := 28) ok d_Mo_fall_14 (by decide) (fun c8 => ?_) (fun c8 => ?_)
  · replace h := (if_pos c8).symm.trans h
    cases h
    exact g_vret ok (hret _ hk) (by decide) (by decide) d_Mo_fall_28
  · replace h := (if_neg c8).symm.trans h
    refine g_aload_n (i := 0) 0 ok d_Mo_fall_17 rfl rfl ?_
    refine g_aload_n (i := 0) 0 ok d_Mo_fall_18 rfl rfl ?_
    refine g_getr (s0 := 20) (j := 13) (ci := 5) (C := RX5) (T := TX5) (N := 29) ok (rf_mono m5 ht) lay_20 rfl inX5 (by decide) rfl tw_751 rfl d_Mo_fall_19 ?_
    refine g_iload_n (i := 1) 1 ok d_Mo_fall_22 rfl rfl ?_
    obtain ⟨k9, hk10, h⟩ := bnd_go h
    refine g_iald ok hk10 d_Mo_fall_23 ?_
    refine g_iconst (v := (4 : Int32)) ok d_Mo_fall_24 (by decide) ?_
    obtain ⟨s13, hc12, h⟩ := bnd_go h
    refine g_invV (rm2 := rm_Mo_takeBack) (As := [vI (s3.1 k9 a1.toNatClampNeg), vI (4 : Int32)]) (rest := []) ok (rf_mono m5 ht) lay_20 rfl (c_Mo_takeBack X.1.2.1 (rf_self (rf_mono m5 ht)) hc12) cm_Mo_takeBack cv_Mo_takeBack tw_866 ⟨rfl, rfl⟩ ⟨le_t rfl, le_t rfl⟩ ⟨rfl, le_t rfl⟩ ⟨le_t rfl, le_t rfl⟩ d_Mo_fall_25 rfl (fun m11 => ?_)
    show G X s13 0 0 28 [(0, vR (some k)), (1, vI a1)] []
    cases h
    exact g_vret ok (hret _ hk) (by decide) (by decide) d_Mo_fall_28
theorem c_Mo_fall (l : Launch) {k : Nat} {a1 : Int32} {s : MS} (ht : rf s.2.2 20 (some k) = some k) {z : MS} (h : f_Mo_fall k a1 s = some z) : Ct l yX5_fall (.code yX5_fall cX5_fall 2 none) rm_Mo_fall 0 0 false [vR (some k), vI a1] s none z :=
  Ct.of rfl (by decide +kernel) ⟨rfl, le_t rfl⟩ (fun X ok fn _ hI hl => w_Mo_fall (KX := fun y => y = z) ok (fun y hy => by subst hy; exact fn) ht h rfl)
abbrev rm_Mo_isUp : Room := { frames := 0, cells := 0, slots := 0, locals := 0 }
theorem cm_Mo_isUp : cfM yX5_isUp cX5_isUp 2 (some .boolean) 1 := ⟨tw_981, tw_4, by decide, by decide, by decide +kernel⟩
theorem cv_Mo_isUp : cfV yX5_isUp := ⟨tw_980, ts_X5_isUp⟩
theorem d_Mo_isUp_0 : decode cX5_isUp 0 = .ok (.aload_n 0, 1) := by decide +kernel
theorem d_Mo_isUp_1 : decode cX5_isUp 1 = .ok (.getfield 35, 3) := by decide +kernel
theorem d_Mo_isUp_4 : decode cX5_isUp 4 = .ok (.iload_n 1, 1) := by decide +kernel
theorem d_Mo_isUp_5 : decode cX5_isUp 5 = .ok (.iaload, 1) := by decide +kernel
theorem d_Mo_isUp_6 : decode cX5_isUp 6 = .ok (.iconst 1, 1) := by decide +kernel
theorem d_Mo_isUp_7 : decode cX5_isUp 7 = .ok (.if_icmp .eq 13, 3) := by decide +kernel
theorem d_Mo_isUp_10 : decode cX5_isUp 10 = .ok (.aload_n 0, 1) := by decide +kernel
theorem d_Mo_isUp_11 : decode cX5_isUp 11 = .ok (.getfield 35, 3) := by decide +kernel
theorem d_Mo_isUp_14 : decode cX5_isUp 14 = .ok (.iload_n 1, 1) := by decide +kernel
theorem d_Mo_isUp_15 : decode cX5_isUp 15 = .ok (.iaload, 1) := by decide +kernel
theorem d_Mo_isUp_16 : decode cX5_isUp 16 = .ok (.iconst 2, 1) := by decide +kernel
theorem d_Mo_isUp_17 : decode cX5_isUp 17 = .ok (.if_icmp .ne 18, 3) := by decide +kernel
theorem d_Mo_isUp_20 : decode cX5_isUp 20 = .ok (.aload_n 0, 1) := by decide +kernel
theorem d_Mo_isUp_21 : decode cX5_isUp 21 = .ok (.getfield 32, 3) := by decide +kernel
theorem d_Mo_isUp_24 : decode cX5_isUp 24 = .ok (.iload_n 1, 1) := by decide +kernel
theorem d_Mo_isUp_25 : decode cX5_isUp 25 = .ok (.iaload, 1) := by decide +kernel
theorem d_Mo_isUp_26 : decode cX5_isUp 26 = .ok (.bipush 99, 2) := by decide +kernel
theorem d_Mo_isUp_28 : decode cX5_isUp 28 = .ok (.if_icmp .le 7, 3) := by decide +kernel
theorem d_Mo_isUp_31 : decode cX5_isUp 31 = .ok (.iconst 1, 1) := by decide +kernel
theorem d_Mo_isUp_32 : decode cX5_isUp 32 = .ok (.goto 4, 3) := by decide +kernel
theorem d_Mo_isUp_35 : decode cX5_isUp 35 = .ok (.iconst 0, 1) := by decide +kernel
theorem d_Mo_isUp_36 : decode cX5_isUp 36 = .ok (.ireturn, 1) := by decide +kernel
set_option maxRecDepth 100000 in
set_option maxHeartbeats 4000000 in
theorem w_j_Mo_isUp_20 {X : CX} {KX : Int32 → Prop} {k : Nat} {a1 : Int32} {s : MS} (ok : Ok X cX5_isUp RX5 rm_Mo_isUp 2 false) (hret : ∀ r : Int32, KX r → Fin X (some .boolean) 0 0 false (some (vI r)) s) (ht : rf s.2.2 20 (some k) = some k) {res : Int32} (h : j_Mo_isUp_20 k a1 s = some res) (hk : KX res) : G X s 0 0 20 [(0, vR (some k)), (1, vI a1)] [] := by
  unfold j_Mo_isUp_20 at h
  refine g_aload_n (i := 0) 0 ok d_Mo_isUp_20 rfl rfl ?_
  refine g_getr (s0 := 20) (j := 11) (ci := 5) (C := RX5) (T := TX5) (N := 29) ok ht lay_20 rfl inX5 (by decide) rfl tw_749 rfl d_Mo_isUp_21 ?_
  refine g_iload_n (i := 1) 1 ok d_Mo_isUp_24 rfl rfl ?_
  obtain ⟨k4, hk5, h⟩ := bnd_go h
  refine g_iald ok hk5 d_Mo_isUp_25 ?_
  refine g_bipush (v := (99 : Int32)) ok d_Mo_isUp_26 (by decide) ?_
  refine g_icmp_le (tgt := 35) ok d_Mo_isUp_28 (by decide) (fun c6 => ?_) (fun c6 => ?_)
  · replace h := (if_pos c6).symm.trans h
    refine g_iconst (v := (1 : Int32)) ok d_Mo_isUp_31 (by decide) ?_
    refine g_goto (tgt := 36) ok d_Mo_isUp_32 (by decide) ?_
    cases h
    exact g_zret ok (hret _ hk) (Or.inr rfl) (by decide) (by decide) d_Mo_isUp_36
  · replace h := (if_neg c6).symm.trans h
    refine g_iconst (v := (0 : Int32)) ok d_Mo_isUp_35 (by decide) ?_
    cases h
    exact g_zret ok (hret _ hk) (Or.inl rfl) (by decide) (by decide) d_Mo_isUp_36
set_option maxRecDepth 100000 in
set_option maxHeartbeats 4000000 in
theorem w_Mo_isUp {X : CX} {KX : Int32 → Prop} {k : Nat} {a1 : Int32} {s : MS} (ok : Ok X cX5_isUp RX5 rm_Mo_isUp 2 false) (hret : ∀ r : Int32, KX r → Fin X (some .boolean) 0 0 false (some (vI r)) s)   (ht : rf s.2.2 20 (some k) = some k) {res : Int32} (h : f_Mo_isUp k a1 s = some res) (hk : KX res) : G X s 0 0 0 [(0, vR (some k)), (1, vI a1)] [] := by
  unfold f_Mo_isUp at h
  refine g_aload_n (i := 0) 0 ok d_Mo_isUp_0 rfl rfl ?_
  refine g_getr (s0 := 20) (j := 12) (ci := 5) (C := RX5) (T := TX5) (N := 29) ok ht lay_20 rfl inX5 (by decide) rfl tw_750 rfl d_Mo_isUp_1 ?_
  refine g_iload_n (i := 1) 1 ok d_Mo_isUp_4 rfl rfl ?_
  obtain ⟨k1, hk2, h⟩ := bnd_go h
  refine g_iald ok hk2 d_Mo_isUp_5 ?_
  refine g_iconst (v := (1 : Int32)) ok d_Mo_isUp_6 (by decide) ?_
  refine g_icmp_eq (tgt := 20) ok d_Mo_isUp_7 (by decide) (fun c3 => ?_) (fun c3 => ?_)
  · replace h := (if_pos c3).symm.trans h
    exact w_j_Mo_isUp_20 ok hret ht h hk
  · replace h := (if_neg c3).symm.trans h
    refine g_aload_n (i := 0) 0 ok d_Mo_isUp_10 rfl rfl ?_
    refine g_getr (s0 := 20) (j := 12) (ci := 5) (C := RX5) (T := TX5) (N := 29) ok ht lay_20 rfl inX5 (by decide) rfl tw_750 rfl d_Mo_isUp_11 ?_
    refine g_iload_n (i := 1) 1 ok d_Mo_isUp_14 rfl rfl ?_
    obtain ⟨k7, hk8, h⟩ := bnd_go h
    refine g_iald ok hk8 d_Mo_isUp_15 ?_
    refine g_iconst (v := (2 : Int32)) ok d_Mo_isUp_16 (by decide) ?_
    refine g_icmp_ne (tgt := 35) ok d_Mo_isUp_17 (by decide) (fun c9 => ?_) (fun c9 => ?_)
    · replace h := (if_pos c9).symm.trans h
      exact w_j_Mo_isUp_20 ok hret ht h hk
    · replace h := (if_neg c9).symm.trans h
      refine g_iconst (v := (0 : Int32)) ok d_Mo_isUp_35 (by decide) ?_
      cases h
      exact g_zret ok (hret _ hk) (Or.inl rfl) (by decide) (by decide) d_Mo_isUp_36
theorem c_Mo_isUp (l : Launch) {k : Nat} {a1 : Int32} {s : MS} (ht : rf s.2.2 20 (some k) = some k) {r : Int32} (h : f_Mo_isUp k a1 s = some r) : Ct l yX5_isUp (.code yX5_isUp cX5_isUp 2 (some .boolean)) rm_Mo_isUp 0 0 false [vR (some k), vI a1] s (some (vI r)) s :=
  Ct.of rfl (by decide +kernel) ⟨rfl, le_t rfl⟩ (fun X ok fn _ hI hl => w_Mo_isUp (KX := fun y => y = r) ok (fun y hy => by subst hy; exact fn) ht h rfl)
abbrev rm_Mo_crash : Room := { frames := 2, cells := 0, slots := 0, locals := 43 }
theorem cm_Mo_crash : cfM yX5_crash cX5_crash 4 none 0 := ⟨tw_977, tw_4, by decide, by decide, by decide +kernel⟩
theorem cv_Mo_crash : cfV yX5_crash := ⟨tw_976, ts_X5_crash⟩
theorem d_Mo_crash_0 : decode cX5_crash 0 = .ok (.iconst 0, 1) := by decide +kernel
theorem d_Mo_crash_1 : decode cX5_crash 1 = .ok (.istore_n 1, 1) := by decide +kernel
theorem d_Mo_crash_2 : decode cX5_crash 2 = .ok (.iconst 0, 1) := by decide +kernel
theorem d_Mo_crash_3 : decode cX5_crash 3 = .ok (.istore_n 2, 1) := by decide +kernel
theorem d_Mo_crash_4 : decode cX5_crash 4 = .ok (.iload_n 2, 1) := by decide +kernel
theorem d_Mo_crash_5 : decode cX5_crash 5 = .ok (.aload_n 0, 1) := by decide +kernel
theorem d_Mo_crash_6 : decode cX5_crash 6 = .ok (.getfield 79, 3) := by decide +kernel
theorem d_Mo_crash_9 : decode cX5_crash 9 = .ok (.if_icmp .ge 71, 3) := by decide +kernel
theorem d_Mo_crash_12 : decode cX5_crash 12 = .ok (.iconst 0, 1) := by decide +kernel
theorem d_Mo_crash_13 : decode cX5_crash 13 = .ok (.istore_n 3, 1) := by decide +kernel
theorem d_Mo_crash_14 : decode cX5_crash 14 = .ok (.iload_n 3, 1) := by decide +kernel
theorem d_Mo_crash_15 : decode cX5_crash 15 = .ok (.aload_n 0, 1) := by decide +kernel
theorem d_Mo_crash_16 : decode cX5_crash 16 = .ok (.getfield 79, 3) := by decide +kernel
theorem d_Mo_crash_19 : decode cX5_crash 19 = .ok (.if_icmp .ge 55, 3) := by decide +kernel
theorem d_Mo_crash_22 : decode cX5_crash 22 = .ok (.iload_n 1, 1) := by decide +kernel
theorem d_Mo_crash_23 : decode cX5_crash 23 = .ok (.iload_n 3, 1) := by decide +kernel
theorem d_Mo_crash_24 : decode cX5_crash 24 = .ok (.iload_n 2, 1) := by decide +kernel
theorem d_Mo_crash_25 : decode cX5_crash 25 = .ok (.if_icmp .eq 40, 3) := by decide +kernel
theorem d_Mo_crash_28 : decode cX5_crash 28 = .ok (.aload_n 0, 1) := by decide +kernel
theorem d_Mo_crash_29 : decode cX5_crash 29 = .ok (.iload_n 2, 1) := by decide +kernel
theorem d_Mo_crash_30 : decode cX5_crash 30 = .ok (.invokevirtual 179, 3) := by decide +kernel
theorem d_Mo_crash_33 : decode cX5_crash 33 = .ok (.ifCond .eq 32, 3) := by decide +kernel
theorem d_Mo_crash_36 : decode cX5_crash 36 = .ok (.aload_n 0, 1) := by decide +kernel
theorem d_Mo_crash_37 : decode cX5_crash 37 = .ok (.iload_n 3, 1) := by decide +kernel
theorem d_Mo_crash_38 : decode cX5_crash 38 = .ok (.invokevirtual 179, 3) := by decide +kernel
theorem d_Mo_crash_41 : decode cX5_crash 41 = .ok (.ifCond .eq 24, 3) := by decide +kernel
theorem d_Mo_crash_44 : decode cX5_crash 44 = .ok (.aload_n 0, 1) := by decide +kernel
theorem d_Mo_crash_45 : decode cX5_crash 45 = .ok (.getfield 32, 3) := by decide +kernel
theorem d_Mo_crash_48 : decode cX5_crash 48 = .ok (.iload_n 2, 1) := by decide +kernel
theorem d_Mo_crash_49 : decode cX5_crash 49 = .ok (.iaload, 1) := by decide +kernel
theorem d_Mo_crash_50 : decode cX5_crash 50 = .ok (.aload_n 0, 1) := by decide +kernel
theorem d_Mo_crash_51 : decode cX5_crash 51 = .ok (.getfield 32, 3) := by decide +kernel
theorem d_Mo_crash_54 : decode cX5_crash 54 = .ok (.iload_n 3, 1) := by decide +kernel
theorem d_Mo_crash_55 : decode cX5_crash 55 = .ok (.iaload, 1) := by decide +kernel
theorem d_Mo_crash_56 : decode cX5_crash 56 = .ok (.if_icmp .ne 9, 3) := by decide +kernel
theorem d_Mo_crash_59 : decode cX5_crash 59 = .ok (.iconst 1, 1) := by decide +kernel
theorem d_Mo_crash_60 : decode cX5_crash 60 = .ok (.iload_n 2, 1) := by decide +kernel
theorem d_Mo_crash_61 : decode cX5_crash 61 = .ok (.ishl, 1) := by decide +kernel
theorem d_Mo_crash_62 : decode cX5_crash 62 = .ok (.goto 4, 3) := by decide +kernel
theorem d_Mo_crash_65 : decode cX5_crash 65 = .ok (.iconst 0, 1) := by decide +kernel
theorem d_Mo_crash_66 : decode cX5_crash 66 = .ok (.ior, 1) := by decide +kernel
theorem d_Mo_crash_67 : decode cX5_crash 67 = .ok (.istore_n 1, 1) := by decide +kernel
theorem d_Mo_crash_68 : decode cX5_crash 68 = .ok (.iinc 3 1, 3) := by decide +kernel
theorem d_Mo_crash_71 : decode cX5_crash 71 = .ok (.goto (-57), 3) := by decide +kernel
theorem d_Mo_crash_74 : decode cX5_crash 74 = .ok (.iinc 2 1, 3) := by decide +kernel
theorem d_Mo_crash_77 : decode cX5_crash 77 = .ok (.goto (-73), 3) := by decide +kernel
theorem d_Mo_crash_80 : decode cX5_crash 80 = .ok (.iconst 0, 1) := by decide +kernel
theorem d_Mo_crash_81 : decode cX5_crash 81 = .ok (.istore_n 2, 1) := by decide +kernel
theorem d_Mo_crash_82 : decode cX5_crash 82 = .ok (.iload_n 2, 1) := by decide +kernel
theorem d_Mo_crash_83 : decode cX5_crash 83 = .ok (.aload_n 0, 1) := by decide +kernel
theorem d_Mo_crash_84 : decode cX5_crash 84 = .ok (.getfield 79, 3) := by decide +kernel
theorem d_Mo_crash_87 : decode cX5_crash 87 = .ok (.if_icmp .ge 33, 3) := by decide +kernel
theorem d_Mo_crash_90 : decode cX5_crash 90 = .ok (.iload_n 1, 1) := by decide +kernel
theorem d_Mo_crash_91 : decode cX5_crash 91 = .ok (.iload_n 2, 1) := by decide +kernel
theorem d_Mo_crash_92 : decode cX5_crash 92 = .ok (.ishr, 1) := by decide +kernel
theorem d_Mo_crash_93 : decode cX5_crash 93 = .ok (.iconst 1, 1) := by decide +kernel
theorem d_Mo_crash_94 : decode cX5_crash 94 = .ok (.iand, 1) := by decide +kernel
theorem d_Mo_crash_95 : decode cX5_crash 95 = .ok (.iconst 1, 1) := by decide +kernel
theorem d_Mo_crash_96 : decode cX5_crash 96 = .ok (.if_icmp .ne 18, 3) := by decide +kernel
theorem d_Mo_crash_99 : decode cX5_crash 99 = .ok (.aload_n 0, 1) := by decide +kernel
theorem d_Mo_crash_100 : decode cX5_crash 100 = .ok (.iload_n 2, 1) := by decide +kernel
theorem d_Mo_crash_101 : decode cX5_crash 101 = .ok (.invokevirtual 172, 3) := by decide +kernel
theorem d_Mo_crash_104 : decode cX5_crash 104 = .ok (.aload_n 0, 1) := by decide +kernel
theorem d_Mo_crash_105 : decode cX5_crash 105 = .ok (.dup, 1) := by decide +kernel
theorem d_Mo_crash_106 : decode cX5_crash 106 = .ok (.getfield 182, 3) := by decide +kernel
theorem d_Mo_crash_109 : decode cX5_crash 109 = .ok (.iconst 1, 1) := by decide +kernel
theorem d_Mo_crash_110 : decode cX5_crash 110 = .ok (.iadd, 1) := by decide +kernel
theorem d_Mo_crash_111 : decode cX5_crash 111 = .ok (.putfield 182, 3) := by decide +kernel
theorem d_Mo_crash_114 : decode cX5_crash 114 = .ok (.iinc 2 1, 3) := by decide +kernel
theorem d_Mo_crash_117 : decode cX5_crash 117 = .ok (.goto (-35), 3) := by decide +kernel
theorem d_Mo_crash_120 : decode cX5_crash 120 = .ok (.return_, 1) := by decide +kernel
set_option maxRecDepth 100000 in
set_option maxHeartbeats 4000000 in
theorem w_b_Mo_crash_14 {X : CX} {KX : Int32 → Prop} {k : Nat} {a1 : Int32} {a2 : Int32} {a3 : Int32} {s : MS} {rec : Int32 → Int32 → Option (Int32)} (ok : Ok X cX5_crash RX5 rm_Mo_crash 4 false) (hexit : ∀ (e1 : Int32), KX e1 → G X s 0 0 74 [(0, vR (some k)), (1, vI e1), (2, vI a2)] []) (hrec : ∀ (v1 : Int32) (v3 : Int32), ∀ y, rec v1 v3 = some y → KX y → G X s 0 0 14 [(0, vR (some k)), (1, vI v1), (2, vI a2), (3, vI v3)] []) (ht : rf s.2.2 20 (some k) = some k) {res : Int32} (h : b_Mo_crash_14 k a1 a2 a3 s rec = some res) (hk : KX res) : G X s 0 0 14 [(0, vR (some k)), (1, vI a1), (2, vI a2), (3, vI a3)] [] := by
  unfold b_Mo_crash_14 at h
  refine g_iload_n (i := 3) 3 ok d_Mo_crash_14 rfl rfl ?_
  refine g_aload_n (i := 0) 0 ok d_Mo_crash_15 rfl rfl ?_
  refine g_geti (s0 := 20) (j := 7) (ci := 5) (C := RX5) (T := TX5) (N := 29) ok ht lay_20 rfl inX5 (by decide) rfl tw_745 rfl d_Mo_crash_16 ?_
  refine g_icmp_ge (tgt := 74) ok d_Mo_crash_19 (by decide) (fun c2 => ?_) (fun c2 => ?_)
  · replace h := (if_pos c2).symm.trans h
    refine g_iload_n (i := 1) 1 ok d_Mo_crash_22 rfl rfl ?_
    refine g_iload_n (i := 3) 3 ok d_Mo_crash_23 rfl rfl ?_
    refine g_iload_n (i := 2) 2 ok d_Mo_crash_24 rfl rfl ?_
    refine g_icmp_eq (tgt := 65) ok d_Mo_crash_25 (by decide) (fun c3 => ?_) (fun c3 => ?_)
    · replace h := (if_pos c3).symm.trans h
      refine g_iconst (v := (0 : Int32)) ok d_Mo_crash_65 (by decide) ?_
      refine g_ior ok d_Mo_crash_66 ?_
      obtain ⟨x4, e5⟩ : ∃ z, (a1 ||| (0 : Int32)) = z := ⟨_, rfl⟩
      replace h := lt_go h e5
      rw [e5]
      refine g_istore_n (i := 1) [(1, vI x4), (0, vR (some k)), (2, vI a2), (3, vI a3)] ok d_Mo_crash_67 rfl (by decide) rfl ?_
      obtain ⟨x6, e7⟩ : ∃ z, a3 + (1 : Int32) = z := ⟨_, rfl⟩
      replace h := lt_go h e7
      refine g_iinc (i := 3) (v := x6) 3 [(3, vI x6), (1, vI x4), (0, vR (some k)), (2, vI a2)] ok d_Mo_crash_68 rfl (by rw [← e7]; rfl) (by decide) rfl ?_
      refine g_goto (tgt := 14) ok d_Mo_crash_71 (by decide) ?_
      refine g_sub [2, 1, 3, 0] rfl ?_
      exact hrec x4 x6 _ h hk
    · replace h := (if_neg c3).symm.trans h
      refine g_aload_n (i := 0) 0 ok d_Mo_crash_28 rfl rfl ?_
      refine g_iload_n (i := 2) 2 ok d_Mo_crash_29 rfl rfl ?_
      obtain ⟨x9, hc10, h⟩ := bnd_go h
      refine g_invV (rm2 := rm_Mo_isUp) (As := [vI a2]) (rest := [vI a1]) ok ht lay_20 rfl (c_Mo_isUp X.1.2.1 (rf_self ht) hc10) cm_Mo_isUp cv_Mo_isUp tw_978 ⟨rfl, rfl⟩ ⟨le_t rfl, le_t rfl⟩ ⟨rfl, le_t rfl⟩ ⟨le_t rfl, le_t rfl⟩ d_Mo_crash_30 rfl (fun m8 => ?_)
      show G X s 0 0 33 [(0, vR (some k)), (1, vI a1), (2, vI a2), (3, vI a3)] [vI x9, vI a1]
      refine g_if_eq (tgt := 65) ok d_Mo_crash_33 (by decide) (fun c11 => ?_) (fun c11 => ?_)
      · replace h := (if_pos c11).symm.trans h
        refine g_iconst (v := (0 : Int32)) ok d_Mo_crash_65 (by decide) ?_
        refine g_ior ok d_Mo_crash_66 ?_
        obtain ⟨x12, e13⟩ : ∃ z, (a1 ||| (0 : Int32)) = z := ⟨_, rfl⟩
        replace h := lt_go h e13
        rw [e13]
        refine g_istore_n (i := 1) [(1, vI x12), (0, vR (some k)), (2, vI a2), (3, vI a3)] ok d_Mo_crash_67 rfl (by decide) rfl ?_
        obtain ⟨x14, e15⟩ : ∃ z, a3 + (1 : Int32) = z := ⟨_, rfl⟩
        replace h := lt_go h e15
        refine g_iinc (i := 3) (v := x14) 3 [(3, vI x14), (1, vI x12), (0, vR (some k)), (2, vI a2)] ok d_Mo_crash_68 rfl (by rw [← e15]; rfl) (by decide) rfl ?_
        refine g_goto (tgt := 14) ok d_Mo_crash_71 (by decide) ?_
        refine g_sub [2, 1, 3, 0] rfl ?_
        exact hrec x12 x14 _ h hk
      · replace h := (if_neg c11).symm.trans h
        refine g_aload_n (i := 0) 0 ok d_Mo_crash_36 rfl rfl ?_
        refine g_iload_n (i := 3) 3 ok d_Mo_crash_37 rfl rfl ?_
        obtain ⟨x17, hc18, h⟩ := bnd_go h
        refine g_invV (rm2 := rm_Mo_isUp) (As := [vI a3]) (rest := [vI a1]) ok ht lay_20 rfl (c_Mo_isUp X.1.2.1 (rf_self ht) hc18) cm_Mo_isUp cv_Mo_isUp tw_978 ⟨rfl, rfl⟩ ⟨le_t rfl, le_t rfl⟩ ⟨rfl, le_t rfl⟩ ⟨le_t rfl, le_t rfl⟩ d_Mo_crash_38 rfl (fun m16 => ?_)
        show G X s 0 0 41 [(0, vR (some k)), (1, vI a1), (2, vI a2), (3, vI a3)] [vI x17, vI a1]
        refine g_if_eq (tgt := 65) ok d_Mo_crash_41 (by decide) (fun c19 => ?_) (fun c19 => ?_)
        · replace h := (if_pos c19).symm.trans h
          refine g_iconst (v := (0 : Int32)) ok d_Mo_crash_65 (by decide) ?_
          refine g_ior ok d_Mo_crash_66 ?_
          obtain ⟨x20, e21⟩ : ∃ z, (a1 ||| (0 : Int32)) = z := ⟨_, rfl⟩
          replace h := lt_go h e21
          rw [e21]
          refine g_istore_n (i := 1) [(1, vI x20), (0, vR (some k)), (2, vI a2), (3, vI a3)] ok d_Mo_crash_67 rfl (by decide) rfl ?_
          obtain ⟨x22, e23⟩ : ∃ z, a3 + (1 : Int32) = z := ⟨_, rfl⟩
          replace h := lt_go h e23
          refine g_iinc (i := 3) (v := x22) 3 [(3, vI x22), (1, vI x20), (0, vR (some k)), (2, vI a2)] ok d_Mo_crash_68 rfl (by rw [← e23]; rfl) (by decide) rfl ?_
          refine g_goto (tgt := 14) ok d_Mo_crash_71 (by decide) ?_
          refine g_sub [2, 1, 3, 0] rfl ?_
          exact hrec x20 x22 _ h hk
        · replace h := (if_neg c19).symm.trans h
          refine g_aload_n (i := 0) 0 ok d_Mo_crash_44 rfl rfl ?_
          refine g_getr (s0 := 20) (j := 11) (ci := 5) (C := RX5) (T := TX5) (N := 29) ok ht lay_20 rfl inX5 (by decide) rfl tw_749 rfl d_Mo_crash_45 ?_
          refine g_iload_n (i := 2) 2 ok d_Mo_crash_48 rfl rfl ?_
          obtain ⟨k24, hk25, h⟩ := bnd_go h
          refine g_iald ok hk25 d_Mo_crash_49 ?_
          refine g_aload_n (i := 0) 0 ok d_Mo_crash_50 rfl rfl ?_
          refine g_getr (s0 := 20) (j := 11) (ci := 5) (C := RX5) (T := TX5) (N := 29) ok ht lay_20 rfl inX5 (by decide) rfl tw_749 rfl d_Mo_crash_51 ?_
          refine g_iload_n (i := 3) 3 ok d_Mo_crash_54 rfl rfl ?_
          obtain ⟨k26, hk27, h⟩ := bnd_go h
          refine g_iald ok hk27 d_Mo_crash_55 ?_
          refine g_icmp_ne (tgt := 65) ok d_Mo_crash_56 (by decide) (fun c28 => ?_) (fun c28 => ?_)
          · replace h := (if_pos c28).symm.trans h
            refine g_iconst (v := (1 : Int32)) ok d_Mo_crash_59 (by decide) ?_
            refine g_iload_n (i := 2) 2 ok d_Mo_crash_60 rfl rfl ?_
            refine g_ishl ok d_Mo_crash_61 ?_
            refine g_goto (tgt := 66) ok d_Mo_crash_62 (by decide) ?_
            refine g_ior ok d_Mo_crash_66 ?_
            obtain ⟨x29, e30⟩ : ∃ z, (a1 ||| ((1 : Int32) <<< (a2 &&& (31 : Int32)))) = z := ⟨_, rfl⟩
            replace h := lt_go h e30
            rw [e30]
            refine g_istore_n (i := 1) [(1, vI x29), (0, vR (some k)), (2, vI a2), (3, vI a3)] ok d_Mo_crash_67 rfl (by decide) rfl ?_
            obtain ⟨x31, e32⟩ : ∃ z, a3 + (1 : Int32) = z := ⟨_, rfl⟩
            replace h := lt_go h e32
            refine g_iinc (i := 3) (v := x31) 3 [(3, vI x31), (1, vI x29), (0, vR (some k)), (2, vI a2)] ok d_Mo_crash_68 rfl (by rw [← e32]; rfl) (by decide) rfl ?_
            refine g_goto (tgt := 14) ok d_Mo_crash_71 (by decide) ?_
            refine g_sub [2, 1, 3, 0] rfl ?_
            exact hrec x29 x31 _ h hk
          · replace h := (if_neg c28).symm.trans h
            refine g_iconst (v := (0 : Int32)) ok d_Mo_crash_65 (by decide) ?_
            refine g_ior ok d_Mo_crash_66 ?_
            obtain ⟨x33, e34⟩ : ∃ z, (a1 ||| (0 : Int32)) = z := ⟨_, rfl⟩
            replace h := lt_go h e34
            rw [e34]
            refine g_istore_n (i := 1) [(1, vI x33), (0, vR (some k)), (2, vI a2), (3, vI a3)] ok d_Mo_crash_67 rfl (by decide) rfl ?_
            obtain ⟨x35, e36⟩ : ∃ z, a3 + (1 : Int32) = z := ⟨_, rfl⟩
            replace h := lt_go h e36
            refine g_iinc (i := 3) (v := x35) 3 [(3, vI x35), (1, vI x33), (0, vR (some k)), (2, vI a2)] ok d_Mo_crash_68 rfl (by rw [← e36]; rfl) (by decide) rfl ?_
            refine g_goto (tgt := 14) ok d_Mo_crash_71 (by decide) ?_
            refine g_sub [2, 1, 3, 0] rfl ?_
            exact hrec x33 x35 _ h hk
  · replace h := (if_neg c2).symm.trans h
    refine g_sub [0, 1, 2] rfl ?_
    cases h
    exact hexit a1 hk
theorem w_l_Mo_crash_14 {X : CX} {KX : Int32 → Prop} {k : Nat} {a2 : Int32} {s : MS} (ok : Ok X cX5_crash RX5 rm_Mo_crash 4 false) (hexit : ∀ (e1 : Int32), KX e1 → G X s 0 0 74 [(0, vR (some k)), (1, vI e1), (2, vI a2)] []) (ht : rf s.2.2 20 (some k) = some k) : ∀ (n : Nat) (a1 : Int32) (a3 : Int32) {res : Int32}, l_Mo_crash_14 k a2 s n a1 a3 = some res → KX res → G X s 0 0 14 [(0, vR (some k)), (1, vI a1), (2, vI a2), (3, vI a3)] [] := by
  intro n
  induction n with
  | zero => intro _ _ res h; cases h
  | succ n ih =>
    intro a1 a3 res h hk
    exact w_b_Mo_crash_14 ok hexit (fun v1 v3 y h2 hk2 => ih v1 v3 h2 hk2) ht h hk
set_option maxRecDepth 100000 in
set_option maxHeartbeats 4000000 in
theorem w_b_Mo_crash_4 {X : CX} {KX : Int32 → Prop} {k : Nat} {a1 : Int32} {a2 : Int32} {s : MS} {rec : Int32 → Int32 → Option (Int32)} (ok : Ok X cX5_crash RX5 rm_Mo_crash 4 false) (hexit : ∀ (e1 : Int32), KX e1 → G X s 0 0 80 [(0, vR (some k)), (1, vI e1)] []) (hrec : ∀ (v1 : Int32) (v2 : Int32), ∀ y, rec v1 v2 = some y → KX y → G X s 0 0 4 [(0, vR (some k)), (1, vI v1), (2, vI v2)] []) (ht : rf s.2.2 20 (some k) = some k) {res : Int32} (h : b_Mo_crash_4 k a1 a2 s rec = some res) (hk : KX res) : G X s 0 0 4 [(0, vR (some k)), (1, vI a1), (2, vI a2)] [] := by
  unfold b_Mo_crash_4 at h
  refine g_iload_n (i := 2) 2 ok d_Mo_crash_4 rfl rfl ?_
  refine g_aload_n (i := 0) 0 ok d_Mo_crash_5 rfl rfl ?_
  refine g_geti (s0 := 20) (j := 7) (ci := 5) (C := RX5) (T := TX5) (N := 29) ok ht lay_20 rfl inX5 (by decide) rfl tw_745 rfl d_Mo_crash_6 ?_
  refine g_icmp_ge (tgt := 80) ok d_Mo_crash_9 (by decide) (fun c1 => ?_) (fun c1 => ?_)
  · replace h := (if_pos c1).symm.trans h
    refine g_iconst (v := (0 : Int32)) ok d_Mo_crash_12 (by decide) ?_
    refine g_istore_n (i := 3) [(3, vI (0 : Int32)), (0, vR (some k)), (1, vI a1), (2, vI a2)] ok d_Mo_crash_13 rfl (by decide) rfl ?_
    refine g_sub [1, 2, 3, 0] rfl ?_
    obtain ⟨e37, hx, h⟩ := bnd_go h
    refine w_l_Mo_crash_14 (KX := fun y => y = e37) ok (fun y0 he => ?_) ht _ _ _ hx rfl
    cases he
    obtain ⟨x38, e39⟩ : ∃ z, a2 + (1 : Int32) = z := ⟨_, rfl⟩
    replace h := lt_go h e39
    refine g_iinc (i := 2) (v := x38) 2 [(2, vI x38), (0, vR (some k)), (1, vI e37)] ok d_Mo_crash_74 rfl (by rw [← e39]; rfl) (by decide) rfl ?_
    refine g_goto (tgt := 4) ok d_Mo_crash_77 (by decide) ?_
    refine g_sub [1, 2, 0] rfl ?_
    exact hrec e37 x38 _ h hk
  · replace h := (if_neg c1).symm.trans h
    refine g_sub [0, 1] rfl ?_
    cases h
    exact hexit a1 hk
theorem w_l_Mo_crash_4 {X : CX} {KX : Int32 → Prop} {k : Nat} {s : MS} (ok : Ok X cX5_crash RX5 rm_Mo_crash 4 false) (hexit : ∀ (e1 : Int32), KX e1 → G X s 0 0 80 [(0, vR (some k)), (1, vI e1)] []) (ht : rf s.2.2 20 (some k) = some k) : ∀ (n : Nat) (a1 : Int32) (a2 : Int32) {res : Int32}, l_Mo_crash_4 k s n a1 a2 = some res → KX res → G X s 0 0 4 [(0, vR (some k)), (1, vI a1), (2, vI a2)] [] := by
  intro n
  induction n with
  | zero => intro _ _ res h; cases h
  | succ n ih =>
    intro a1 a2 res h hk
    exact w_b_Mo_crash_4 ok hexit (fun v1 v2 y h2 hk2 => ih v1 v2 h2 hk2) ht h hk
set_option maxRecDepth 100000 in
set_option maxHeartbeats 4000000 in
theorem w_b_Mo_crash_82 {X : CX} {KX : MS → Prop} {k : Nat} {a1 : Int32} {a2 : Int32} {s : MS} {rec : Int32 → MS → Option (MS)} {sb : MS} (ok : Ok X cX5_crash RX5 rm_Mo_crash 4 false) (hexit : ∀ (z : MS), KX z → (∀ q, dm sb q → dm z q) → G X z 0 0 120 [(0, vR (some k))] []) (hrec : ∀ (v2 : Int32) (z : MS), (∀ q, dm sb q → dm z q) → ∀ y, rec v2 z = some y → KX y → G X z 0 0 82 [(0, vR (some k)), (1, vI a1), (2, vI v2)] []) (mb : ∀ q, dm sb q → dm s q) (ht : rf s.2.2 20 (some k) = some k) {res : MS} (h : b_Mo_crash_82 k a1 a2 s rec = some res) (hk : KX res) : G X s 0 0 82 [(0, vR (some k)), (1, vI a1), (2, vI a2)] [] := by
  unfold b_Mo_crash_82 at h
  refine g_iload_n (i := 2) 2 ok d_Mo_crash_82 rfl rfl ?_
  refine g_aload_n (i := 0) 0 ok d_Mo_crash_83 rfl rfl ?_
  refine g_geti (s0 := 20) (j := 7) (ci := 5) (C := RX5) (T := TX5) (N := 29) ok ht lay_20 rfl inX5 (by decide) rfl tw_745 rfl d_Mo_crash_84 ?_
  refine g_icmp_ge (tgt := 120) ok d_Mo_crash_87 (by decide) (fun c41 => ?_) (fun c41 => ?_)
  · replace h := (if_pos c41).symm.trans h
    refine g_iload_n (i := 1) 1 ok d_Mo_crash_90 rfl rfl ?_
    refine g_iload_n (i := 2) 2 ok d_Mo_crash_91 rfl rfl ?_
    refine g_ishr ok d_Mo_crash_92 ?_
    refine g_iconst (v := (1 : Int32)) ok d_Mo_crash_93 (by decide) ?_
    refine g_iand ok d_Mo_crash_94 ?_
    refine g_iconst (v := (1 : Int32)) ok d_Mo_crash_95 (by decide) ?_
    refine g_icmp_ne (tgt := 114) ok d_Mo_crash_96 (by decide) (fun c42 => ?_) (fun c42 => ?_)
    · replace h := (if_pos c42).symm.trans h
      refine g_aload_n (i := 0) 0 ok d_Mo_crash_99 rfl rfl ?_
      refine g_iload_n (i := 2) 2 ok d_Mo_crash_100 rfl rfl ?_
      obtain ⟨s45, hc44, h⟩ := bnd_go h
      refine g_invV (rm2 := rm_Mo_fall) (As := [vI a2]) (rest := []) ok ht lay_20 rfl (c_Mo_fall X.1.2.1 (rf_self ht) hc44) cm_Mo_fall cv_Mo_fall tw_970 ⟨rfl, rfl⟩ ⟨le_t rfl, le_t rfl⟩ ⟨rfl, le_t rfl⟩ ⟨le_t rfl, le_t rfl⟩ d_Mo_crash_101 rfl (fun m43 => ?_)
      show G X s45 0 0 104 [(0, vR (some k)), (1, vI a1), (2, vI a2)] []
      refine g_aload_n (i := 0) 0 ok d_Mo_crash_104 rfl rfl ?_
      refine g_dup ok d_Mo_crash_105 rfl ?_
      refine g_geti (s0 := 20) (j := 28) (ci := 5) (C := RX5) (T := TX5) (N := 29) ok (rf_mono m43 ht) lay_20 rfl inX5 (by decide) rfl tw_766 rfl d_Mo_crash_106 ?_
      refine g_iconst (v := (1 : Int32)) ok d_Mo_crash_109 (by decide) ?_
      refine g_iadd ok d_Mo_crash_110 ?_
      refine g_puti (s0 := 20) (j := 28) (ci := 5) (C := RX5) (T := TX5) (N := 29) ok (rf_mono m43 ht) lay_20 rfl inX5 (by decide) rfl tw_766 rfl tyX5_ok nmX5 rfl (Or.inl rfl) d_Mo_crash_111 ?_
      obtain ⟨s46, e47⟩ : ∃ z, wi s45 k 28 ((s45.1 k 28) + (1 : Int32)) = z := ⟨_, rfl⟩
      replace h := lt_go h e47
      have m48 := mo_wi e47
      rw [e47]
      obtain ⟨x49, e50⟩ : ∃ z, a2 + (1 : Int32) = z := ⟨_, rfl⟩
      replace h := lt_go h e50
      refine g_iinc (i := 2) (v := x49) 2 [(2, vI x49), (0, vR (some k)), (1, vI a1)] ok d_Mo_crash_114 rfl (by rw [← e50]; rfl) (by decide) rfl ?_
      refine g_goto (tgt := 82) ok d_Mo_crash_117 (by decide) ?_
      refine g_sub [1, 2, 0] rfl ?_
      exact hrec x49 s46 (fun z hz => m48 z ((fun z hz => m43 z (mb z hz)) z hz)) _ h hk
    · replace h := (if_neg c42).symm.trans h
      obtain ⟨x51, e52⟩ : ∃ z, a2 + (1 : Int32) = z := ⟨_, rfl⟩
      replace h := lt_go h e52
      refine g_iinc (i := 2) (v := x51) 2 [(2, vI x51), (0, vR (some k)), (1, vI a1)] ok d_Mo_crash_114 rfl (by rw [← e52]; rfl) (by decide) rfl ?_
      refine g_goto (tgt := 82) ok d_Mo_crash_117 (by decide) ?_
      refine g_sub [1, 2, 0] rfl ?_
      exact hrec x51 s mb _ h hk
  · replace h := (if_neg c41).symm.trans h
    refine g_sub [0] rfl ?_
    cases h
    exact hexit s hk mb
theorem wx_l_Mo_crash_82 {X : CX} {KX : MS → Prop} {k : Nat} {a1 : Int32} {sb : MS} (ok : Ok X cX5_crash RX5 rm_Mo_crash 4 false) (hexit : ∀ (z : MS), KX z → (∀ q, dm sb q → dm z q) → G X z 0 0 120 [(0, vR (some k))] []) (htb : rf sb.2.2 20 (some k) = some k) : ∀ (n : Nat) (a2 : Int32) (s : MS), (∀ q, dm sb q → dm s q) → ∀ (res : MS), l_Mo_crash_82 k a1 n a2 s = some res → KX res → G X s 0 0 82 [(0, vR (some k)), (1, vI a1), (2, vI a2)] [] := by
  intro n
  induction n with
  | zero => intro _ s _ res h; cases h
  | succ n ih =>
    intro a2 s mb res h hk
    exact w_b_Mo_crash_82 ok hexit (fun v2 z hz y h2 hk2 => ih v2 z hz y h2 hk2) mb (rf_mono mb htb) h hk
theorem w_l_Mo_crash_82 {X : CX} {KX : MS → Prop} {k : Nat} {a1 : Int32} {sb : MS} (ok : Ok X cX5_crash RX5 rm_Mo_crash 4 false) (hexit : ∀ (z : MS), KX z → (∀ q, dm sb q → dm z q) → G X z 0 0 120 [(0, vR (some k))] []) (mb : ∀ q, dm sb q → dm sb q) (htb : rf sb.2.2 20 (some k) = some k) (n : Nat) (a2 : Int32) {res : MS} (h : l_Mo_crash_82 k a1 n a2 sb = some res) (hk : KX res) : G X sb 0 0 82 [(0, vR (some k)), (1, vI a1), (2, vI a2)] [] := wx_l_Mo_crash_82 ok hexit htb n a2 sb mb res h hk
set_option maxRecDepth 100000 in
set_option maxHeartbeats 4000000 in
theorem w_Mo_crash {X : CX} {KX : MS → Prop} {k : Nat} {s : MS} (ok : Ok X cX5_crash RX5 rm_Mo_crash 4 false) (hret : ∀ r : MS, KX r → Fin X none 0 0 false none r)   (ht : rf s.2.2 20 (some k) = some k) {res : MS} (h : f_Mo_crash k s = some res) (hk : KX res) : G X s 0 0 0 [(0, vR (some k))] [] := by
  unfold f_Mo_crash at h
  refine g_iconst (v := (0 : Int32)) ok d_Mo_crash_0 (by decide) ?_
  refine g_istore_n (i := 1) [(1, vI (0 : Int32)), (0, vR (some k))] ok d_Mo_crash_1 rfl (by decide) rfl ?_
  refine g_iconst (v := (0 : Int32)) ok d_Mo_crash_2 (by decide) ?_
  refine g_istore_n (i := 2) [(2, vI (0 : Int32)), (1, vI (0 : Int32)), (0, vR (some k))] ok d_Mo_crash_3 rfl (by decide) rfl ?_
  refine g_sub [2, 1, 0] rfl ?_
  obtain ⟨e40, hx, h⟩ := bnd_go h
  refine w_l_Mo_crash_4 (KX := fun y => y = e40) ok (fun y0 he => ?_) ht _ _ _ hx rfl
  cases he
  refine g_iconst (v := (0 : Int32)) ok d_Mo_crash_80 (by decide) ?_
  refine g_istore_n (i := 2) [(2, vI (0 : Int32)), (0, vR (some k)), (1, vI e40)] ok d_Mo_crash_81 rfl (by decide) rfl ?_
  refine g_sub [1, 2, 0] rfl ?_
  obtain ⟨s54, hx, h⟩ := bnd_go h
  refine w_l_Mo_crash_82 (KX := fun y => y = s54) ok (fun y0 he m53 => ?_) (fun _ hz => hz) ht _ _ hx rfl
  cases he
  cases h
  exact g_vret ok (hret _ hk) (by decide) (by decide) d_Mo_crash_120
theorem c_Mo_crash (l : Launch) {k : Nat} {s : MS} (ht : rf s.2.2 20 (some k) = some k) {z : MS} (h : f_Mo_crash k s = some z) : Ct l yX5_crash (.code yX5_crash cX5_crash 4 none) rm_Mo_crash 0 0 false [vR (some k)] s none z :=
  Ct.of rfl (by decide +kernel) ⟨rfl, le_t rfl⟩ (fun X ok fn _ hI hl => w_Mo_crash (KX := fun y => y = z) ok (fun y hy => by subst hy; exact fn) ht h rfl)
abbrev rm_Mo_step : Room := { frames := 3, cells := 0, slots := 0, locals := 66 }
theorem cm_Mo_step : cfM yX5_step cX5_step 3 none 0 := ⟨tw_962, tw_4, by decide, by decide, by decide +kernel⟩
theorem cv_Mo_step : cfV yX5_step := ⟨tw_961, ts_X5_step⟩
theorem d_Mo_step_0 : decode cX5_step 0 = .ok (.aload_n 0, 1) := by decide +kernel
theorem d_Mo_step_1 : decode cX5_step 1 = .ok (.dup, 1) := by decide +kernel
theorem d_Mo_step_2 : decode cX5_step 2 = .ok (.getfield 139, 3) := by decide +kernel
theorem d_Mo_step_5 : decode cX5_step 5 = .ok (.iconst 1, 1) := by decide +kernel
theorem d_Mo_step_6 : decode cX5_step 6 = .ok (.iadd, 1) := by decide +kernel
theorem d_Mo_step_7 : decode cX5_step 7 = .ok (.putfield 139, 3) := by decide +kernel
theorem d_Mo_step_10 : decode cX5_step 10 = .ok (.iconst 0, 1) := by decide +kernel
theorem d_Mo_step_11 : decode cX5_step 11 = .ok (.istore_n 1, 1) := by decide +kernel
theorem d_Mo_step_12 : decode cX5_step 12 = .ok (.iload_n 1, 1) := by decide +kernel
theorem d_Mo_step_13 : decode cX5_step 13 = .ok (.aload_n 0, 1) := by decide +kernel
theorem d_Mo_step_14 : decode cX5_step 14 = .ok (.getfield 79, 3) := by decide +kernel
theorem d_Mo_step_17 : decode cX5_step 17 = .ok (.if_icmp .ge 58, 3) := by decide +kernel
theorem d_Mo_step_20 : decode cX5_step 20 = .ok (.aload_n 0, 1) := by decide +kernel
theorem d_Mo_step_21 : decode cX5_step 21 = .ok (.getfield 35, 3) := by decide +kernel
theorem d_Mo_step_24 : decode cX5_step 24 = .ok (.iload_n 1, 1) := by decide +kernel
theorem d_Mo_step_25 : decode cX5_step 25 = .ok (.iaload, 1) := by decide +kernel
theorem d_Mo_step_26 : decode cX5_step 26 = .ok (.ifCond .ne 43, 3) := by decide +kernel
theorem d_Mo_step_29 : decode cX5_step 29 = .ok (.aload_n 0, 1) := by decide +kernel
theorem d_Mo_step_30 : decode cX5_step 30 = .ok (.getfield 29, 3) := by decide +kernel
theorem d_Mo_step_33 : decode cX5_step 33 = .ok (.iload_n 1, 1) := by decide +kernel
theorem d_Mo_step_34 : decode cX5_step 34 = .ok (.aload_n 0, 1) := by decide +kernel
theorem d_Mo_step_35 : decode cX5_step 35 = .ok (.getfield 29, 3) := by decide +kernel
theorem d_Mo_step_38 : decode cX5_step 38 = .ok (.iload_n 1, 1) := by decide +kernel
theorem d_Mo_step_39 : decode cX5_step 39 = .ok (.iaload, 1) := by decide +kernel
theorem d_Mo_step_40 : decode cX5_step 40 = .ok (.iconst 5, 1) := by decide +kernel
theorem d_Mo_step_41 : decode cX5_step 41 = .ok (.iadd, 1) := by decide +kernel
theorem d_Mo_step_42 : decode cX5_step 42 = .ok (.aload_n 0, 1) := by decide +kernel
theorem d_Mo_step_43 : decode cX5_step 43 = .ok (.getfield 26, 3) := by decide +kernel
theorem d_Mo_step_46 : decode cX5_step 46 = .ok (.iload_n 1, 1) := by decide +kernel
theorem d_Mo_step_47 : decode cX5_step 47 = .ok (.iaload, 1) := by decide +kernel
theorem d_Mo_step_48 : decode cX5_step 48 = .ok (.if_icmp .ge 14, 3) := by decide +kernel
theorem d_Mo_step_51 : decode cX5_step 51 = .ok (.aload_n 0, 1) := by decide +kernel
theorem d_Mo_step_52 : decode cX5_step 52 = .ok (.getfield 29, 3) := by decide +kernel
theorem d_Mo_step_55 : decode cX5_step 55 = .ok (.iload_n 1, 1) := by decide +kernel
theorem d_Mo_step_56 : decode cX5_step 56 = .ok (.iaload, 1) := by decide +kernel
theorem d_Mo_step_57 : decode cX5_step 57 = .ok (.iconst 5, 1) := by decide +kernel
theorem d_Mo_step_58 : decode cX5_step 58 = .ok (.iadd, 1) := by decide +kernel
theorem d_Mo_step_59 : decode cX5_step 59 = .ok (.goto 9, 3) := by decide +kernel
theorem d_Mo_step_62 : decode cX5_step 62 = .ok (.aload_n 0, 1) := by decide +kernel
theorem d_Mo_step_63 : decode cX5_step 63 = .ok (.getfield 26, 3) := by decide +kernel
theorem d_Mo_step_66 : decode cX5_step 66 = .ok (.iload_n 1, 1) := by decide +kernel
theorem d_Mo_step_67 : decode cX5_step 67 = .ok (.iaload, 1) := by decide +kernel
theorem d_Mo_step_68 : decode cX5_step 68 = .ok (.iastore, 1) := by decide +kernel
theorem d_Mo_step_69 : decode cX5_step 69 = .ok (.iinc 1 1, 3) := by decide +kernel
theorem d_Mo_step_72 : decode cX5_step 72 = .ok (.goto (-60), 3) := by decide +kernel
theorem d_Mo_step_75 : decode cX5_step 75 = .ok (.iconst 0, 1) := by decide +kernel
theorem d_Mo_step_76 : decode cX5_step 76 = .ok (.istore_n 1, 1) := by decide +kernel
theorem d_Mo_step_77 : decode cX5_step 77 = .ok (.iload_n 1, 1) := by decide +kernel
theorem d_Mo_step_78 : decode cX5_step 78 = .ok (.aload_n 0, 1) := by decide +kernel
theorem d_Mo_step_79 : decode cX5_step 79 = .ok (.getfield 82, 3) := by decide +kernel
theorem d_Mo_step_82 : decode cX5_step 82 = .ok (.if_icmp .ge 50, 3) := by decide +kernel
theorem d_Mo_step_85 : decode cX5_step 85 = .ok (.aload_n 0, 1) := by decide +kernel
theorem d_Mo_step_86 : decode cX5_step 86 = .ok (.getfield 59, 3) := by decide +kernel
theorem d_Mo_step_89 : decode cX5_step 89 = .ok (.iload_n 1, 1) := by decide +kernel
theorem d_Mo_step_90 : decode cX5_step 90 = .ok (.iaload, 1) := by decide +kernel
theorem d_Mo_step_91 : decode cX5_step 91 = .ok (.ifCond .ne 35, 3) := by decide +kernel
theorem d_Mo_step_94 : decode cX5_step 94 = .ok (.aload_n 0, 1) := by decide +kernel
theorem d_Mo_step_95 : decode cX5_step 95 = .ok (.getfield 50, 3) := by decide +kernel
theorem d_Mo_step_98 : decode cX5_step 98 = .ok (.iload_n 1, 1) := by decide +kernel
theorem d_Mo_step_99 : decode cX5_step 99 = .ok (.iaload, 1) := by decide +kernel
theorem d_Mo_step_100 : decode cX5_step 100 = .ok (.aload_n 0, 1) := by decide +kernel
theorem d_Mo_step_101 : decode cX5_step 101 = .ok (.getfield 139, 3) := by decide +kernel
theorem d_Mo_step_104 : decode cX5_step 104 = .ok (.if_icmp .ne 22, 3) := by decide +kernel
theorem d_Mo_step_107 : decode cX5_step 107 = .ok (.aload_n 0, 1) := by decide +kernel
theorem d_Mo_step_108 : decode cX5_step 108 = .ok (.getfield 59, 3) := by decide +kernel
theorem d_Mo_step_111 : decode cX5_step 111 = .ok (.iload_n 1, 1) := by decide +kernel
theorem d_Mo_step_112 : decode cX5_step 112 = .ok (.iconst 1, 1) := by decide +kernel
theorem d_Mo_step_113 : decode cX5_step 113 = .ok (.iastore, 1) := by decide +kernel
theorem d_Mo_step_114 : decode cX5_step 114 = .ok (.aload_n 0, 1) := by decide +kernel
theorem d_Mo_step_115 : decode cX5_step 115 = .ok (.getfield 35, 3) := by decide +kernel
theorem d_Mo_step_118 : decode cX5_step 118 = .ok (.aload_n 0, 1) := by decide +kernel
theorem d_Mo_step_119 : decode cX5_step 119 = .ok (.getfield 47, 3) := by decide +kernel
theorem d_Mo_step_122 : decode cX5_step 122 = .ok (.iload_n 1, 1) := by decide +kernel
theorem d_Mo_step_123 : decode cX5_step 123 = .ok (.iaload, 1) := by decide +kernel
theorem d_Mo_step_124 : decode cX5_step 124 = .ok (.iconst 1, 1) := by decide +kernel
theorem d_Mo_step_125 : decode cX5_step 125 = .ok (.iastore, 1) := by decide +kernel
theorem d_Mo_step_126 : decode cX5_step 126 = .ok (.iinc 1 1, 3) := by decide +kernel
theorem d_Mo_step_129 : decode cX5_step 129 = .ok (.goto (-52), 3) := by decide +kernel
theorem d_Mo_step_132 : decode cX5_step 132 = .ok (.iconst 0, 1) := by decide +kernel
theorem d_Mo_step_133 : decode cX5_step 133 = .ok (.istore_n 1, 1) := by decide +kernel
theorem d_Mo_step_134 : decode cX5_step 134 = .ok (.iload_n 1, 1) := by decide +kernel
theorem d_Mo_step_135 : decode cX5_step 135 = .ok (.aload_n 0, 1) := by decide +kernel
theorem d_Mo_step_136 : decode cX5_step 136 = .ok (.getfield 79, 3) := by decide +kernel
theorem d_Mo_step_139 : decode cX5_step 139 = .ok (.if_icmp .ge 65, 3) := by decide +kernel
theorem d_Mo_step_142 : decode cX5_step 142 = .ok (.aload_n 0, 1) := by decide +kernel
theorem d_Mo_step_143 : decode cX5_step 143 = .ok (.getfield 35, 3) := by decide +kernel
theorem d_Mo_step_146 : decode cX5_step 146 = .ok (.iload_n 1, 1) := by decide +kernel
theorem d_Mo_step_147 : decode cX5_step 147 = .ok (.iaload, 1) := by decide +kernel
theorem d_Mo_step_148 : decode cX5_step 148 = .ok (.iconst 1, 1) := by decide +kernel
theorem d_Mo_step_149 : decode cX5_step 149 = .ok (.if_icmp .ne 22, 3) := by decide +kernel
theorem d_Mo_step_152 : decode cX5_step 152 = .ok (.aload_n 0, 1) := by decide +kernel
theorem d_Mo_step_153 : decode cX5_step 153 = .ok (.getfield 139, 3) := by decide +kernel
theorem d_Mo_step_156 : decode cX5_step 156 = .ok (.aload_n 0, 1) := by decide +kernel
theorem d_Mo_step_157 : decode cX5_step 157 = .ok (.getfield 50, 3) := by decide +kernel
theorem d_Mo_step_160 : decode cX5_step 160 = .ok (.aload_n 0, 1) := by decide +kernel
theorem d_Mo_step_161 : decode cX5_step 161 = .ok (.getfield 38, 3) := by decide +kernel
theorem d_Mo_step_164 : decode cX5_step 164 = .ok (.iload_n 1, 1) := by decide +kernel
theorem d_Mo_step_165 : decode cX5_step 165 = .ok (.iaload, 1) := by decide +kernel
theorem d_Mo_step_166 : decode cX5_step 166 = .ok (.iaload, 1) := by decide +kernel
theorem d_Mo_step_167 : decode cX5_step 167 = .ok (.isub, 1) := by decide +kernel
theorem d_Mo_step_168 : decode cX5_step 168 = .ok (.goto 4, 3) := by decide +kernel
theorem d_Mo_step_171 : decode cX5_step 171 = .ok (.iconst 0, 1) := by decide +kernel
theorem d_Mo_step_172 : decode cX5_step 172 = .ok (.istore_n 2, 1) := by decide +kernel
theorem d_Mo_step_173 : decode cX5_step 173 = .ok (.iload_n 2, 1) := by decide +kernel
theorem d_Mo_step_174 : decode cX5_step 174 = .ok (.ifCond .le 24, 3) := by decide +kernel
theorem d_Mo_step_177 : decode cX5_step 177 = .ok (.aload_n 0, 1) := by decide +kernel
theorem d_Mo_step_178 : decode cX5_step 178 = .ok (.iload_n 1, 1) := by decide +kernel
theorem d_Mo_step_179 : decode cX5_step 179 = .ok (.aload_n 0, 1) := by decide +kernel
theorem d_Mo_step_180 : decode cX5_step 180 = .ok (.getfield 62, 3) := by decide +kernel
theorem d_Mo_step_183 : decode cX5_step 183 = .ok (.bipush 81, 2) := by decide +kernel
theorem d_Mo_step_185 : decode cX5_step 185 = .ok (.aload_n 0, 1) := by decide +kernel
theorem d_Mo_step_186 : decode cX5_step 186 = .ok (.getfield 38, 3) := by decide +kernel
theorem d_Mo_step_189 : decode cX5_step 189 = .ok (.iload_n 1, 1) := by decide +kernel
theorem d_Mo_step_190 : decode cX5_step 190 = .ok (.iaload, 1) := by decide +kernel
theorem d_Mo_step_191 : decode cX5_step 191 = .ok (.imul, 1) := by decide +kernel
theorem d_Mo_step_192 : decode cX5_step 192 = .ok (.iload_n 2, 1) := by decide +kernel
theorem d_Mo_step_193 : decode cX5_step 193 = .ok (.iadd, 1) := by decide +kernel
theorem d_Mo_step_194 : decode cX5_step 194 = .ok (.iaload, 1) := by decide +kernel
theorem d_Mo_step_195 : decode cX5_step 195 = .ok (.invokevirtual 166, 3) := by decide +kernel
theorem d_Mo_step_198 : decode cX5_step 198 = .ok (.iinc 1 1, 3) := by decide +kernel
theorem d_Mo_step_201 : decode cX5_step 201 = .ok (.goto (-67), 3) := by decide +kernel
theorem d_Mo_step_204 : decode cX5_step 204 = .ok (.iconst 0, 1) := by decide +kernel
theorem d_Mo_step_205 : decode cX5_step 205 = .ok (.istore_n 1, 1) := by decide +kernel
theorem d_Mo_step_206 : decode cX5_step 206 = .ok (.iload_n 1, 1) := by decide +kernel
theorem d_Mo_step_207 : decode cX5_step 207 = .ok (.aload_n 0, 1) := by decide +kernel
theorem d_Mo_step_208 : decode cX5_step 208 = .ok (.getfield 79, 3) := by decide +kernel
theorem d_Mo_step_211 : decode cX5_step 211 = .ok (.if_icmp .ge 61, 3) := by decide +kernel
theorem d_Mo_step_214 : decode cX5_step 214 = .ok (.aload_n 0, 1) := by decide +kernel
theorem d_Mo_step_215 : decode cX5_step 215 = .ok (.getfield 35, 3) := by decide +kernel
theorem d_Mo_step_218 : decode cX5_step 218 = .ok (.iload_n 1, 1) := by decide +kernel
theorem d_Mo_step_219 : decode cX5_step 219 = .ok (.iaload, 1) := by decide +kernel
theorem d_Mo_step_220 : decode cX5_step 220 = .ok (.iconst 2, 1) := by decide +kernel
theorem d_Mo_step_221 : decode cX5_step 221 = .ok (.if_icmp .ne 45, 3) := by decide +kernel
theorem d_Mo_step_224 : decode cX5_step 224 = .ok (.aload_n 0, 1) := by decide +kernel
theorem d_Mo_step_225 : decode cX5_step 225 = .ok (.iload_n 1, 1) := by decide +kernel
theorem d_Mo_step_226 : decode cX5_step 226 = .ok (.aload_n 0, 1) := by decide +kernel
theorem d_Mo_step_227 : decode cX5_step 227 = .ok (.getfield 32, 3) := by decide +kernel
theorem d_Mo_step_230 : decode cX5_step 230 = .ok (.iload_n 1, 1) := by decide +kernel
theorem d_Mo_step_231 : decode cX5_step 231 = .ok (.iaload, 1) := by decide +kernel
theorem d_Mo_step_232 : decode cX5_step 232 = .ok (.aload_n 0, 1) := by decide +kernel
theorem d_Mo_step_233 : decode cX5_step 233 = .ok (.getfield 41, 3) := by decide +kernel
theorem d_Mo_step_236 : decode cX5_step 236 = .ok (.iload_n 1, 1) := by decide +kernel
theorem d_Mo_step_237 : decode cX5_step 237 = .ok (.iaload, 1) := by decide +kernel
theorem d_Mo_step_238 : decode cX5_step 238 = .ok (.invokestatic 169, 3) := by decide +kernel
theorem d_Mo_step_241 : decode cX5_step 241 = .ok (.invokevirtual 166, 3) := by decide +kernel
theorem d_Mo_step_244 : decode cX5_step 244 = .ok (.aload_n 0, 1) := by decide +kernel
theorem d_Mo_step_245 : decode cX5_step 245 = .ok (.getfield 35, 3) := by decide +kernel
theorem d_Mo_step_248 : decode cX5_step 248 = .ok (.iload_n 1, 1) := by decide +kernel
theorem d_Mo_step_249 : decode cX5_step 249 = .ok (.aload_n 0, 1) := by decide +kernel
theorem d_Mo_step_250 : decode cX5_step 250 = .ok (.getfield 32, 3) := by decide +kernel
theorem d_Mo_step_253 : decode cX5_step 253 = .ok (.iload_n 1, 1) := by decide +kernel
theorem d_Mo_step_254 : decode cX5_step 254 = .ok (.iaload, 1) := by decide +kernel
theorem d_Mo_step_255 : decode cX5_step 255 = .ok (.bipush 100, 2) := by decide +kernel
theorem d_Mo_step_257 : decode cX5_step 257 = .ok (.if_icmp .ge 7, 3) := by decide +kernel
theorem d_Mo_step_260 : decode cX5_step 260 = .ok (.iconst 0, 1) := by decide +kernel
theorem d_Mo_step_261 : decode cX5_step 261 = .ok (.goto 4, 3) := by decide +kernel
theorem d_Mo_step_264 : decode cX5_step 264 = .ok (.iconst 2, 1) := by decide +kernel
theorem d_Mo_step_265 : decode cX5_step 265 = .ok (.iastore, 1) := by decide +kernel
theorem d_Mo_step_266 : decode cX5_step 266 = .ok (.iinc 1 1, 3) := by decide +kernel
theorem d_Mo_step_269 : decode cX5_step 269 = .ok (.goto (-63), 3) := by decide +kernel
theorem d_Mo_step_272 : decode cX5_step 272 = .ok (.iconst 0, 1) := by decide +kernel
theorem d_Mo_step_273 : decode cX5_step 273 = .ok (.istore_n 1, 1) := by decide +kernel
theorem d_Mo_step_274 : decode cX5_step 274 = .ok (.iload_n 1, 1) := by decide +kernel
theorem d_Mo_step_275 : decode cX5_step 275 = .ok (.aload_n 0, 1) := by decide +kernel
theorem d_Mo_step_276 : decode cX5_step 276 = .ok (.getfield 79, 3) := by decide +kernel
theorem d_Mo_step_279 : decode cX5_step 279 = .ok (.if_icmp .ge 33, 3) := by decide +kernel
theorem d_Mo_step_282 : decode cX5_step 282 = .ok (.aload_n 0, 1) := by decide +kernel
theorem d_Mo_step_283 : decode cX5_step 283 = .ok (.getfield 35, 3) := by decide +kernel
theorem d_Mo_step_286 : decode cX5_step 286 = .ok (.iload_n 1, 1) := by decide +kernel
theorem d_Mo_step_287 : decode cX5_step 287 = .ok (.iaload, 1) := by decide +kernel
theorem d_Mo_step_288 : decode cX5_step 288 = .ok (.iconst 3, 1) := by decide +kernel
theorem d_Mo_step_289 : decode cX5_step 289 = .ok (.if_icmp .eq 17, 3) := by decide +kernel
theorem d_Mo_step_292 : decode cX5_step 292 = .ok (.aload_n 0, 1) := by decide +kernel
theorem d_Mo_step_293 : decode cX5_step 293 = .ok (.getfield 29, 3) := by decide +kernel
theorem d_Mo_step_296 : decode cX5_step 296 = .ok (.iload_n 1, 1) := by decide +kernel
theorem d_Mo_step_297 : decode cX5_step 297 = .ok (.iaload, 1) := by decide +kernel
theorem d_Mo_step_298 : decode cX5_step 298 = .ok (.ifCond .ge 8, 3) := by decide +kernel
theorem d_Mo_step_301 : decode cX5_step 301 = .ok (.aload_n 0, 1) := by decide +kernel
theorem d_Mo_step_302 : decode cX5_step 302 = .ok (.iload_n 1, 1) := by decide +kernel
theorem d_Mo_step_303 : decode cX5_step 303 = .ok (.invokevirtual 172, 3) := by decide +kernel
theorem d_Mo_step_306 : decode cX5_step 306 = .ok (.iinc 1 1, 3) := by decide +kernel
theorem d_Mo_step_309 : decode cX5_step 309 = .ok (.goto (-35), 3) := by decide +kernel
theorem d_Mo_step_312 : decode cX5_step 312 = .ok (.aload_n 0, 1) := by decide +kernel
theorem d_Mo_step_313 : decode cX5_step 313 = .ok (.invokevirtual 176, 3) := by decide +kernel
theorem d_Mo_step_316 : decode cX5_step 316 = .ok (.iconst 0, 1) := by decide +kernel
theorem d_Mo_step_317 : decode cX5_step 317 = .ok (.istore_n 1, 1) := by decide +kernel
theorem d_Mo_step_318 : decode cX5_step 318 = .ok (.iload_n 1, 1) := by decide +kernel
theorem d_Mo_step_319 : decode cX5_step 319 = .ok (.aload_n 0, 1) := by decide +kernel
theorem d_Mo_step_320 : decode cX5_step 320 = .ok (.getfield 79, 3) := by decide +kernel
theorem d_Mo_step_323 : decode cX5_step 323 = .ok (.if_icmp .ge 59, 3) := by decide +kernel
theorem d_Mo_step_326 : decode cX5_step 326 = .ok (.aload_n 0, 1) := by decide +kernel
theorem d_Mo_step_327 : decode cX5_step 327 = .ok (.getfield 38, 3) := by decide +kernel
theorem d_Mo_step_330 : decode cX5_step 330 = .ok (.iload_n 1, 1) := by decide +kernel
theorem d_Mo_step_331 : decode cX5_step 331 = .ok (.iaload, 1) := by decide +kernel
theorem d_Mo_step_332 : decode cX5_step 332 = .ok (.istore_n 2, 1) := by decide +kernel
theorem d_Mo_step_333 : decode cX5_step 333 = .ok (.aload_n 0, 1) := by decide +kernel
theorem d_Mo_step_334 : decode cX5_step 334 = .ok (.getfield 35, 3) := by decide +kernel
theorem d_Mo_step_337 : decode cX5_step 337 = .ok (.iload_n 1, 1) := by decide +kernel
theorem d_Mo_step_338 : decode cX5_step 338 = .ok (.iaload, 1) := by decide +kernel
theorem d_Mo_step_339 : decode cX5_step 339 = .ok (.iconst 1, 1) := by decide +kernel
theorem d_Mo_step_340 : decode cX5_step 340 = .ok (.if_icmp .ne 36, 3) := by decide +kernel
theorem d_Mo_step_343 : decode cX5_step 343 = .ok (.aload_n 0, 1) := by decide +kernel
theorem d_Mo_step_344 : decode cX5_step 344 = .ok (.getfield 139, 3) := by decide +kernel
theorem d_Mo_step_347 : decode cX5_step 347 = .ok (.aload_n 0, 1) := by decide +kernel
theorem d_Mo_step_348 : decode cX5_step 348 = .ok (.getfield 50, 3) := by decide +kernel
theorem d_Mo_step_351 : decode cX5_step 351 = .ok (.iload_n 2, 1) := by decide +kernel
theorem d_Mo_step_352 : decode cX5_step 352 = .ok (.iaload, 1) := by decide +kernel
theorem d_Mo_step_353 : decode cX5_step 353 = .ok (.aload_n 0, 1) := by decide +kernel
theorem d_Mo_step_354 : decode cX5_step 354 = .ok (.getfield 53, 3) := by decide +kernel
theorem d_Mo_step_357 : decode cX5_step 357 = .ok (.iload_n 2, 1) := by decide +kernel
theorem d_Mo_step_358 : decode cX5_step 358 = .ok (.iaload, 1) := by decide +kernel
theorem d_Mo_step_359 : decode cX5_step 359 = .ok (.iadd, 1) := by decide +kernel
theorem d_Mo_step_360 : decode cX5_step 360 = .ok (.if_icmp .ne 16, 3) := by decide +kernel
theorem d_Mo_step_363 : decode cX5_step 363 = .ok (.aload_n 0, 1) := by decide +kernel
theorem d_Mo_step_364 : decode cX5_step 364 = .ok (.getfield 35, 3) := by decide +kernel
theorem d_Mo_step_367 : decode cX5_step 367 = .ok (.iload_n 1, 1) := by decide +kernel
theorem d_Mo_step_368 : decode cX5_step 368 = .ok (.iconst 0, 1) := by decide +kernel
theorem d_Mo_step_369 : decode cX5_step 369 = .ok (.iastore, 1) := by decide +kernel
theorem d_Mo_step_370 : decode cX5_step 370 = .ok (.aload_n 0, 1) := by decide +kernel
theorem d_Mo_step_371 : decode cX5_step 371 = .ok (.iload_n 2, 1) := by decide +kernel
theorem d_Mo_step_372 : decode cX5_step 372 = .ok (.iconst 2, 1) := by decide +kernel
theorem d_Mo_step_373 : decode cX5_step 373 = .ok (.invokevirtual 113, 3) := by decide +kernel
theorem d_Mo_step_376 : decode cX5_step 376 = .ok (.iinc 1 1, 3) := by decide +kernel
theorem d_Mo_step_379 : decode cX5_step 379 = .ok (.goto (-61), 3) := by decide +kernel
theorem d_Mo_step_382 : decode cX5_step 382 = .ok (.return_, 1) := by decide +kernel
set_option maxRecDepth 100000 in
set_option maxHeartbeats 4000000 in
theorem w_b_Mo_step_12 {X : CX} {KX : MS → Prop} {k : Nat} {a1 : Int32} {s : MS} {rec : Int32 → MS → Option (MS)} {sb : MS} (ok : Ok X cX5_step RX5 rm_Mo_step 3 false) (hexit : ∀ (z : MS), KX z → (∀ q, dm sb q → dm z q) → G X z 0 0 75 [(0, vR (some k))] []) (hrec : ∀ (v1 : Int32) (z : MS), (∀ q, dm sb q → dm z q) → ∀ y, rec v1 z = some y → KX y → G X z 0 0 12 [(0, vR (some k)), (1, vI v1)] []) (mb : ∀ q, dm sb q → dm s q) (ht : rf s.2.2 20 (some k) = some k) {res : MS} (h : b_Mo_step_12 k a1 s rec = some res) (hk : KX res) : G X s 0 0 12 [(0, vR (some k)), (1, vI a1)] [] := by
  unfold b_Mo_step_12 at h
  refine g_iload_n (i := 1) 1 ok d_Mo_step_12 rfl rfl ?_
  refine g_aload_n (i := 0) 0 ok d_Mo_step_13 rfl rfl ?_
  refine g_geti (s0 := 20) (j := 7) (ci := 5) (C := RX5) (T := TX5) (N := 29) ok ht lay_20 rfl inX5 (by decide) rfl tw_745 rfl d_Mo_step_14 ?_
  refine g_icmp_ge (tgt := 75) ok d_Mo_step_17 (by decide) (fun c4 => ?_) (fun c4 => ?_)
  · replace h := (if_pos c4).symm.trans h
    refine g_aload_n (i := 0) 0 ok d_Mo_step_20 rfl rfl ?_
    refine g_getr (s0 := 20) (j := 12) (ci := 5) (C := RX5) (T := TX5) (N := 29) ok ht lay_20 rfl inX5 (by decide) rfl tw_750 rfl d_Mo_step_21 ?_
    refine g_iload_n (i := 1) 1 ok d_Mo_step_24 rfl rfl ?_
    obtain ⟨k5, hk6, h⟩ := bnd_go h
    refine g_iald ok hk6 d_Mo_step_25 ?_
    refine g_if_ne (tgt := 69) ok d_Mo_step_26 (by decide) (fun c7 => ?_) (fun c7 => ?_)
    · replace h := (if_pos c7).symm.trans h
      refine g_aload_n (i := 0) 0 ok d_Mo_step_29 rfl rfl ?_
      refine g_getr (s0 := 20) (j := 10) (ci := 5) (C := RX5) (T := TX5) (N := 29) ok ht lay_20 rfl inX5 (by decide) rfl tw_748 rfl d_Mo_step_30 ?_
      refine g_iload_n (i := 1) 1 ok d_Mo_step_33 rfl rfl ?_
      refine g_aload_n (i := 0) 0 ok d_Mo_step_34 rfl rfl ?_
      refine g_getr (s0 := 20) (j := 10) (ci := 5) (C := RX5) (T := TX5) (N := 29) ok ht lay_20 rfl inX5 (by decide) rfl tw_748 rfl d_Mo_step_35 ?_
      refine g_iload_n (i := 1) 1 ok d_Mo_step_38 rfl rfl ?_
      obtain ⟨k8, hk9, h⟩ := bnd_go h
      refine g_iald ok hk9 d_Mo_step_39 ?_
      refine g_iconst (v := (5 : Int32)) ok d_Mo_step_40 (by decide) ?_
      refine g_iadd ok d_Mo_step_41 ?_
      refine g_aload_n (i := 0) 0 ok d_Mo_step_42 rfl rfl ?_
      refine g_getr (s0 := 20) (j := 9) (ci := 5) (C := RX5) (T := TX5) (N := 29) ok ht lay_20 rfl inX5 (by decide) rfl tw_747 rfl d_Mo_step_43 ?_
      refine g_iload_n (i := 1) 1 ok d_Mo_step_46 rfl rfl ?_
      obtain ⟨k10, hk11, h⟩ := bnd_go h
      refine g_iald ok hk11 d_Mo_step_47 ?_
      refine g_icmp_ge (tgt := 62) ok d_Mo_step_48 (by decide) (fun c12 => ?_) (fun c12 => ?_)
      · replace h := (if_pos c12).symm.trans h
        refine g_aload_n (i := 0) 0 ok d_Mo_step_51 rfl rfl ?_
        refine g_getr (s0 := 20) (j := 10) (ci := 5) (C := RX5) (T := TX5) (N := 29) ok ht lay_20 rfl inX5 (by decide) rfl tw_748 rfl d_Mo_step_52 ?_
        refine g_iload_n (i := 1) 1 ok d_Mo_step_55 rfl rfl ?_
        obtain ⟨k13, hk14, h⟩ := bnd_go h
        refine g_iald ok hk14 d_Mo_step_56 ?_
        refine g_iconst (v := (5 : Int32)) ok d_Mo_step_57 (by decide) ?_
        refine g_iadd ok d_Mo_step_58 ?_
        refine g_goto (tgt := 68) ok d_Mo_step_59 (by decide) ?_
        obtain ⟨k15, hk16, h⟩ := bnd_go h
        refine g_iast ok hk16 d_Mo_step_68 ?_
        obtain ⟨s17, e18⟩ : ∃ z, wi s k15 a1.toNatClampNeg ((s.1 k13 a1.toNatClampNeg) + (5 : Int32)) = z := ⟨_, rfl⟩
        replace h := lt_go h e18
        have m19 := mo_wi e18
        rw [e18]
        obtain ⟨x20, e21⟩ : ∃ z, a1 + (1 : Int32) = z := ⟨_, rfl⟩
        replace h := lt_go h e21
        refine g_iinc (i := 1) (v := x20) 1 [(1, vI x20), (0, vR (some k))] ok d_Mo_step_69 rfl (by rw [← e21]; rfl) (by decide) rfl ?_
        refine g_goto (tgt := 12) ok d_Mo_step_72 (by decide) ?_
        refine g_sub [1, 0] rfl ?_
        exact hrec x20 s17 (fun z hz => m19 z (mb z hz)) _ h hk
      · replace h := (if_neg c12).symm.trans h
        refine g_aload_n (i := 0) 0 ok d_Mo_step_62 rfl rfl ?_
        refine g_getr (s0 := 20) (j := 9) (ci := 5) (C := RX5) (T := TX5) (N := 29) ok ht lay_20 rfl inX5 (by decide) rfl tw_747 rfl d_Mo_step_63 ?_
        refine g_iload_n (i := 1) 1 ok d_Mo_step_66 rfl rfl ?_
        obtain ⟨k22, hk23, h⟩ := bnd_go h
        refine g_iald ok hk23 d_Mo_step_67 ?_
        obtain ⟨k24, hk25, h⟩ := bnd_go h
        refine g_iast ok hk25 d_Mo_step_68 ?_
        obtain ⟨s26, e27⟩ : ∃ z, wi s k24 a1.toNatClampNeg (s.1 k22 a1.toNatClampNeg) = z := ⟨_, rfl⟩
        replace h := lt_go h e27
        have m28 := mo_wi e27
        rw [e27]
        obtain ⟨x29, e30⟩ : ∃ z, a1 + (1 : Int32) = z := ⟨_, rfl⟩
        replace h := lt_go h e30
        refine g_iinc (i := 1) (v := x29) 1 [(1, vI x29), (0, vR (some k))] ok d_Mo_step_69 rfl (by rw [← e30]; rfl) (by decide) rfl ?_
        refine g_goto (tgt := 12) ok d_Mo_step_72 (by decide) ?_
        refine g_sub [1, 0] rfl ?_
        exact hrec x29 s26 (fun z hz => m28 z (mb z hz)) _ h hk
    · replace h := (if_neg c7).symm.trans h
      obtain ⟨x31, e32⟩ : ∃ z, a1 + (1 : Int32) = z := ⟨_, rfl⟩
      replace h := lt_go h e32
      refine g_iinc (i := 1) (v := x31) 1 [(1, vI x31), (0, vR (some k))] ok d_Mo_step_69 rfl (by rw [← e32]; rfl) (by decide) rfl ?_
      refine g_goto (tgt := 12) ok d_Mo_step_72 (by decide) ?_
      refine g_sub [1, 0] rfl ?_
      exact hrec x31 s mb _ h hk
  · replace h := (if_neg c4).symm.trans h
    refine g_sub [0] rfl ?_
    cases h
    exact hexit s hk mb
theorem wx_l_Mo_step_12 {X : CX} {KX : MS → Prop} {k : Nat} {sb : MS} (ok : Ok X cX5_step RX5 rm_Mo_step 3 false) (hexit : ∀ (z : MS), KX z → (∀ q, dm sb q → dm z q) → G X z 0 0 75 [(0, vR (some k))] []) (htb : rf sb.2.2 20 (some k) = some k) : ∀ (n : Nat) (a1 : Int32) (s : MS), (∀ q, dm sb q → dm s q) → ∀ (res : MS), l_Mo_step_12 k n a1 s = some res → KX res → G X s 0 0 12 [(0, vR (some k)), (1, vI a1)] [] := by
  intro n
  induction n with
  | zero => intro _ s _ res h; cases h
  | succ n ih =>
    intro a1 s mb res h hk
    exact w_b_Mo_step_12 ok hexit (fun v1 z hz y h2 hk2 => ih v1 z hz y h2 hk2) mb (rf_mono mb htb) h hk
theorem w_l_Mo_step_12 {X : CX} {KX : MS → Prop} {k : Nat} {sb : MS} (ok : Ok X cX5_step RX5 rm_Mo_step 3 false) (hexit : ∀ (z : MS), KX z → (∀ q, dm sb q → dm z q) → G X z 0 0 75 [(0, vR (some k))] []) (mb : ∀ q, dm sb q → dm sb q) (htb : rf sb.2.2 20 (some k) = some k) (n : Nat) (a1 : Int32) {res : MS} (h : l_Mo_step_12 k n a1 sb = some res) (hk : KX res) : G X sb 0 0 12 [(0, vR (some k)), (1, vI a1)] [] := wx_l_Mo_step_12 ok hexit htb n a1 sb mb res h hk
set_option maxRecDepth 100000 in
set_option maxHeartbeats 4000000 in
theorem w_b_Mo_step_77 {X : CX} {KX : MS → Prop} {k : Nat} {a1 : Int32} {s : MS} {rec : Int32 → MS → Option (MS)} {sb : MS} (ok : Ok X cX5_step RX5 rm_Mo_step 3 false) (hexit : ∀ (z : MS), KX z → (∀ q, dm sb q → dm z q) → G X z 0 0 132 [(0, vR (some k))] []) (hrec : ∀ (v1 : Int32) (z : MS), (∀ q, dm sb q → dm z q) → ∀ y, rec v1 z = some y → KX y → G X z 0 0 77 [(0, vR (some k)), (1, vI v1)] []) (mb : ∀ q, dm sb q → dm s q) (ht : rf s.2.2 20 (some k) = some k) {res : MS} (h : b_Mo_step_77 k a1 s rec = some res) (hk : KX res) : G X s 0 0 77 [(0, vR (some k)), (1, vI a1)] [] := by
  unfold b_Mo_step_77 at h
  refine g_iload_n (i := 1) 1 ok d_Mo_step_77 rfl rfl ?_
  refine g_aload_n (i := 0) 0 ok d_Mo_step_78 rfl rfl ?_
  refine g_geti (s0 := 20) (j := 17) (ci := 5) (C := RX5) (T := TX5) (N := 29) ok ht lay_20 rfl inX5 (by decide) rfl tw_755 rfl d_Mo_step_79 ?_
  refine g_icmp_ge (tgt := 132) ok d_Mo_step_82 (by decide) (fun c35 => ?_) (fun c35 => ?_)
  · replace h := (if_pos c35).symm.trans h
    refine g_aload_n (i := 0) 0 ok d_Mo_step_85 rfl rfl ?_
    refine g_getr (s0 := 20) (j := 22) (ci := 5) (C := RX5) (T := TX5) (N := 29) ok ht lay_20 rfl inX5 (by decide) rfl tw_760 rfl d_Mo_step_86 ?_
    refine g_iload_n (i := 1) 1 ok d_Mo_step_89 rfl rfl ?_
    obtain ⟨k36, hk37, h⟩ := bnd_go h
    refine g_iald ok hk37 d_Mo_step_90 ?_
    refine g_if_ne (tgt := 126) ok d_Mo_step_91 (by decide) (fun c38 => ?_) (fun c38 => ?_)
    · replace h := (if_pos c38).symm.trans h
      refine g_aload_n (i := 0) 0 ok d_Mo_step_94 rfl rfl ?_
      refine g_getr (s0 := 20) (j := 19) (ci := 5) (C := RX5) (T := TX5) (N := 29) ok ht lay_20 rfl inX5 (by decide) rfl tw_757 rfl d_Mo_step_95 ?_
      refine g_iload_n (i := 1) 1 ok d_Mo_step_98 rfl rfl ?_
      obtain ⟨k39, hk40, h⟩ := bnd_go h
      refine g_iald ok hk40 d_Mo_step_99 ?_
      refine g_aload_n (i := 0) 0 ok d_Mo_step_100 rfl rfl ?_
      refine g_geti (s0 := 20) (j := 1) (ci := 5) (C := RX5) (T := TX5) (N := 29) ok ht lay_20 rfl inX5 (by decide) rfl tw_739 rfl d_Mo_step_101 ?_
      refine g_icmp_ne (tgt := 126) ok d_Mo_step_104 (by decide) (fun c41 => ?_) (fun c41 => ?_)
      · replace h := (if_pos c41).symm.trans h
        refine g_aload_n (i := 0) 0 ok d_Mo_step_107 rfl rfl ?_
        refine g_getr (s0 := 20) (j := 22) (ci := 5) (C := RX5) (T := TX5) (N := 29) ok ht lay_20 rfl inX5 (by decide) rfl tw_760 rfl d_Mo_step_108 ?_
        refine g_iload_n (i := 1) 1 ok d_Mo_step_111 rfl rfl ?_
        refine g_iconst (v := (1 : Int32)) ok d_Mo_step_112 (by decide) ?_
        obtain ⟨k42, hk43, h⟩ := bnd_go h
        refine g_iast ok hk43 d_Mo_step_113 ?_
        obtain ⟨s44, e45⟩ : ∃ z, wi s k42 a1.toNatClampNeg (1 : Int32) = z := ⟨_, rfl⟩
        replace h := lt_go h e45
        have m46 := mo_wi e45
        rw [e45]
        refine g_aload_n (i := 0) 0 ok d_Mo_step_114 rfl rfl ?_
        refine g_getr (s0 := 20) (j := 12) (ci := 5) (C := RX5) (T := TX5) (N := 29) ok (rf_mono m46 ht) lay_20 rfl inX5 (by decide) rfl tw_750 rfl d_Mo_step_115 ?_
        refine g_aload_n (i := 0) 0 ok d_Mo_step_118 rfl rfl ?_
        refine g_getr (s0 := 20) (j := 18) (ci := 5) (C := RX5) (T := TX5) (N := 29) ok (rf_mono m46 ht) lay_20 rfl inX5 (by decide) rfl tw_756 rfl d_Mo_step_119 ?_
        refine g_iload_n (i := 1) 1 ok d_Mo_step_122 rfl rfl ?_
        obtain ⟨k47, hk48, h⟩ := bnd_go h
        refine g_iald ok hk48 d_Mo_step_123 ?_
        refine g_iconst (v := (1 : Int32)) ok d_Mo_step_124 (by decide) ?_
        obtain ⟨k49, hk50, h⟩ := bnd_go h
        refine g_iast ok hk50 d_Mo_step_125 ?_
        obtain ⟨s51, e52⟩ : ∃ z, wi s44 k49 (s44.1 k47 a1.toNatClampNeg).toNatClampNeg (1 : Int32) = z := ⟨_, rfl⟩
        replace h := lt_go h e52
        have m53 := mo_wi e52
        rw [e52]
        obtain ⟨x54, e55⟩ : ∃ z, a1 + (1 : Int32) = z := ⟨_, rfl⟩
        replace h := lt_go h e55
        refine g_iinc (i := 1) (v := x54) 1 [(1, vI x54), (0, vR (some k))] ok d_Mo_step_126 rfl (by rw [← e55]; rfl) (by decide) rfl ?_
        refine g_goto (tgt := 77) ok d_Mo_step_129 (by decide) ?_
        refine g_sub [1, 0] rfl ?_
        exact hrec x54 s51 (fun z hz => m53 z ((fun z hz => m46 z (mb z hz)) z hz)) _ h hk
      · replace h := (if_neg c41).symm.trans h
        obtain ⟨x56, e57⟩ : ∃ z, a1 + (1 : Int32) = z := ⟨_, rfl⟩
        replace h := lt_go h e57
        refine g_iinc (i := 1) (v := x56) 1 [(1, vI x56), (0, vR (some k))] ok d_Mo_step_126 rfl (by rw [← e57]; rfl) (by decide) rfl ?_
        refine g_goto (tgt := 77) ok d_Mo_step_129 (by decide) ?_
        refine g_sub [1, 0] rfl ?_
        exact hrec x56 s mb _ h hk
    · replace h := (if_neg c38).symm.trans h
      obtain ⟨x58, e59⟩ : ∃ z, a1 + (1 : Int32) = z := ⟨_, rfl⟩
      replace h := lt_go h e59
      refine g_iinc (i := 1) (v := x58) 1 [(1, vI x58), (0, vR (some k))] ok d_Mo_step_126 rfl (by rw [← e59]; rfl) (by decide) rfl ?_
      refine g_goto (tgt := 77) ok d_Mo_step_129 (by decide) ?_
      refine g_sub [1, 0] rfl ?_
      exact hrec x58 s mb _ h hk
  · replace h := (if_neg c35).symm.trans h
    refine g_sub [0] rfl ?_
    cases h
    exact hexit s hk mb
theorem wx_l_Mo_step_77 {X : CX} {KX : MS → Prop} {k : Nat} {sb : MS} (ok : Ok X cX5_step RX5 rm_Mo_step 3 false) (hexit : ∀ (z : MS), KX z → (∀ q, dm sb q → dm z q) → G X z 0 0 132 [(0, vR (some k))] []) (htb : rf sb.2.2 20 (some k) = some k) : ∀ (n : Nat) (a1 : Int32) (s : MS), (∀ q, dm sb q → dm s q) → ∀ (res : MS), l_Mo_step_77 k n a1 s = some res → KX res → G X s 0 0 77 [(0, vR (some k)), (1, vI a1)] [] := by
  intro n
  induction n with
  | zero => intro _ s _ res h; cases h
  | succ n ih =>
    intro a1 s mb res h hk
    exact w_b_Mo_step_77 ok hexit (fun v1 z hz y h2 hk2 => ih v1 z hz y h2 hk2) mb (rf_mono mb htb) h hk
theorem w_l_Mo_step_77 {X : CX} {KX : MS → Prop} {k : Nat} {sb : MS} (ok : Ok X cX5_step RX5 rm_Mo_step 3 false) (hexit : ∀ (z : MS), KX z → (∀ q, dm sb q → dm z q) → G X z 0 0 132 [(0, vR (some k))] []) (mb : ∀ q, dm sb q → dm sb q) (htb : rf sb.2.2 20 (some k) = some k) (n : Nat) (a1 : Int32) {res : MS} (h : l_Mo_step_77 k n a1 sb = some res) (hk : KX res) : G X sb 0 0 77 [(0, vR (some k)), (1, vI a1)] [] := wx_l_Mo_step_77 ok hexit htb n a1 sb mb res h hk
set_option maxRecDepth 100000 in
set_option maxHeartbeats 4000000 in
theorem w_j_Mo_step_172 {X : CX} {KX : MS → Prop} {k : Nat} {a1 : Int32} {t0 : Int32} {s : MS} {rec : Int32 → MS → Option (MS)} {sb : MS} (ok : Ok X cX5_step RX5 rm_Mo_step 3 false) (hexit : ∀ (z : MS), KX z → (∀ q, dm sb q → dm z q) → G X z 0 0 204 [(0, vR (some k))] []) (hrec : ∀ (v1 : Int32) (z : MS), (∀ q, dm sb q → dm z q) → ∀ y, rec v1 z = some y → KX y → G X z 0 0 134 [(0, vR (some k)), (1, vI v1)] []) (mb : ∀ q, dm sb q → dm s q) (ht : rf s.2.2 20 (some k) = some k) {res : MS} (h : j_Mo_step_172 k a1 t0 s rec = some res) (hk : KX res) : G X s 0 0 172 [(0, vR (some k)), (1, vI a1)] [vI t0] := by
  unfold j_Mo_step_172 at h
  refine g_istore_n (i := 2) [(2, vI t0), (0, vR (some k)), (1, vI a1)] ok d_Mo_step_172 rfl (by decide) rfl ?_
  refine g_iload_n (i := 2) 0 ok d_Mo_step_173 rfl rfl ?_
  refine g_if_le (tgt := 198) ok d_Mo_step_174 (by decide) (fun c70 => ?_) (fun c70 => ?_)
  · replace h := (if_pos c70).symm.trans h
    refine g_aload_n (i := 0) 1 ok d_Mo_step_177 rfl rfl ?_
    refine g_iload_n (i := 1) 2 ok d_Mo_step_178 rfl rfl ?_
    refine g_aload_n (i := 0) 1 ok d_Mo_step_179 rfl rfl ?_
    refine g_getr (s0 := 20) (j := 23) (ci := 5) (C := RX5) (T := TX5) (N := 29) ok ht lay_20 rfl inX5 (by decide) rfl tw_761 rfl d_Mo_step_180 ?_
    refine g_bipush (v := (81 : Int32)) ok d_Mo_step_183 (by decide) ?_
    refine g_aload_n (i := 0) 1 ok d_Mo_step_185 rfl rfl ?_
    refine g_getr (s0 := 20) (j := 13) (ci := 5) (C := RX5) (T := TX5) (N := 29) ok ht lay_20 rfl inX5 (by decide) rfl tw_751 rfl d_Mo_step_186 ?_
    refine g_iload_n (i := 1) 2 ok d_Mo_step_189 rfl rfl ?_
    obtain ⟨k71, hk72, h⟩ := bnd_go h
    refine g_iald ok hk72 d_Mo_step_190 ?_
    refine g_imul ok d_Mo_step_191 ?_
    refine g_iload_n (i := 2) 0 ok d_Mo_step_192 rfl rfl ?_
    refine g_iadd ok d_Mo_step_193 ?_
    obtain ⟨k73, hk74, h⟩ := bnd_go h
    refine g_iald ok hk74 d_Mo_step_194 ?_
    obtain ⟨s77, hc76, h⟩ := bnd_go h
    refine g_invV (rm2 := rm_Mo_goTo) (As := [vI a1, vI (s.1 k73 (((81 : Int32) * (s.1 k71 a1.toNatClampNeg)) + t0).toNatClampNeg)]) (rest := []) ok ht lay_20 rfl (c_Mo_goTo X.1.2.1 (rf_self ht) hc76) cm_Mo_goTo cv_Mo_goTo tw_963 ⟨rfl, rfl⟩ ⟨le_t rfl, le_t rfl⟩ ⟨rfl, le_t rfl⟩ ⟨le_t rfl, le_t rfl⟩ d_Mo_step_195 rfl (fun m75 => ?_)
    show G X s77 0 0 198 [(2, vI t0), (0, vR (some k)), (1, vI a1)] []
    obtain ⟨x78, e79⟩ : ∃ z, a1 + (1 : Int32) = z := ⟨_, rfl⟩
    replace h := lt_go h e79
    refine g_iinc (i := 1) (v := x78) 2 [(1, vI x78), (2, vI t0), (0, vR (some k))] ok d_Mo_step_198 rfl (by rw [← e79]; rfl) (by decide) rfl ?_
    refine g_goto (tgt := 134) ok d_Mo_step_201 (by decide) ?_
    refine g_sub [2, 0] rfl ?_
    exact hrec x78 s77 (fun z hz => m75 z (mb z hz)) _ h hk
  · replace h := (if_neg c70).symm.trans h
    obtain ⟨x80, e81⟩ : ∃ z, a1 + (1 : Int32) = z := ⟨_, rfl⟩
    replace h := lt_go h e81
    refine g_iinc (i := 1) (v := x80) 2 [(1, vI x80), (2, vI t0), (0, vR (some k))] ok d_Mo_step_198 rfl (by rw [← e81]; rfl) (by decide) rfl ?_
    refine g_goto (tgt := 134) ok d_Mo_step_201 (by decide) ?_
    refine g_sub [2, 0] rfl ?_
    exact hrec x80 s mb _ h hk
set_option maxRecDepth 100000 in
set_option maxHeartbeats 4000000 in
theorem w_b_Mo_step_134 {X : CX} {KX : MS → Prop} {k : Nat} {a1 : Int32} {s : MS} {rec : Int32 → MS → Option (MS)} {sb : MS} (ok : Ok X cX5_step RX5 rm_Mo_step 3 false) (hexit : ∀ (z : MS), KX z → (∀ q, dm sb q → dm z q) → G X z 0 0 204 [(0, vR (some k))] []) (hrec : ∀ (v1 : Int32) (z : MS), (∀ q, dm sb q → dm z q) → ∀ y, rec v1 z = some y → KX y → G X z 0 0 134 [(0, vR (some k)), (1, vI v1)] []) (mb : ∀ q, dm sb q → dm s q) (ht : rf s.2.2 20 (some k) = some k) {res : MS} (h : b_Mo_step_134 k a1 s rec = some res) (hk : KX res) : G X s 0 0 134 [(0, vR (some k)), (1, vI a1)] [] := by
  unfold b_Mo_step_134 at h
  refine g_iload_n (i := 1) 1 ok d_Mo_step_134 rfl rfl ?_
  refine g_aload_n (i := 0) 0 ok d_Mo_step_135 rfl rfl ?_
  refine g_geti (s0 := 20) (j := 7) (ci := 5) (C := RX5) (T := TX5) (N := 29) ok ht lay_20 rfl inX5 (by decide) rfl tw_745 rfl d_Mo_step_136 ?_
  refine g_icmp_ge (tgt := 204) ok d_Mo_step_139 (by decide) (fun c62 => ?_) (fun c62 => ?_)
  · replace h := (if_pos c62).symm.trans h
    refine g_aload_n (i := 0) 0 ok d_Mo_step_142 rfl rfl ?_
    refine g_getr (s0 := 20) (j := 12) (ci := 5) (C := RX5) (T := TX5) (N := 29) ok ht lay_20 rfl inX5 (by decide) rfl tw_750 rfl d_Mo_step_143 ?_
    refine g_iload_n (i := 1) 1 ok d_Mo_step_146 rfl rfl ?_
    obtain ⟨k63, hk64, h⟩ := bnd_go h
    refine g_iald ok hk64 d_Mo_step_147 ?_
    refine g_iconst (v := (1 : Int32)) ok d_Mo_step_148 (by decide) ?_
    refine g_icmp_ne (tgt := 171) ok d_Mo_step_149 (by decide) (fun c65 => ?_) (fun c65 => ?_)
    · replace h := (if_pos c65).symm.trans h
      refine g_aload_n (i := 0) 0 ok d_Mo_step_152 rfl rfl ?_
      refine g_geti (s0 := 20) (j := 1) (ci := 5) (C := RX5) (T := TX5) (N := 29) ok ht lay_20 rfl inX5 (by decide) rfl tw_739 rfl d_Mo_step_153 ?_
      refine g_aload_n (i := 0) 0 ok d_Mo_step_156 rfl rfl ?_
      refine g_getr (s0 := 20) (j := 19) (ci := 5) (C := RX5) (T := TX5) (N := 29) ok ht lay_20 rfl inX5 (by decide) rfl tw_757 rfl d_Mo_step_157 ?_
      refine g_aload_n (i := 0) 0 ok d_Mo_step_160 rfl rfl ?_
      refine g_getr (s0 := 20) (j := 13) (ci := 5) (C := RX5) (T := TX5) (N := 29) ok ht lay_20 rfl inX5 (by decide) rfl tw_751 rfl d_Mo_step_161 ?_
      refine g_iload_n (i := 1) 1 ok d_Mo_step_164 rfl rfl ?_
      obtain ⟨k66, hk67, h⟩ := bnd_go h
      refine g_iald ok hk67 d_Mo_step_165 ?_
      obtain ⟨k68, hk69, h⟩ := bnd_go h
      refine g_iald ok hk69 d_Mo_step_166 ?_
      refine g_isub ok d_Mo_step_167 ?_
      refine g_goto (tgt := 172) ok d_Mo_step_168 (by decide) ?_
      exact w_j_Mo_step_172 ok hexit hrec mb ht h hk
    · replace h := (if_neg c65).symm.trans h
      refine g_iconst (v := (0 : Int32)) ok d_Mo_step_171 (by decide) ?_
      exact w_j_Mo_step_172 ok hexit hrec mb ht h hk
  · replace h := (if_neg c62).symm.trans h
    refine g_sub [0] rfl ?_
    cases h
    exact hexit s hk mb
theorem wx_l_Mo_step_134 {X : CX} {KX : MS → Prop} {k : Nat} {sb : MS} (ok : Ok X cX5_step RX5 rm_Mo_step 3 false) (hexit : ∀ (z : MS), KX z → (∀ q, dm sb q → dm z q) → G X z 0 0 204 [(0, vR (some k))] []) (htb : rf sb.2.2 20 (some k) = some k) : ∀ (n : Nat) (a1 : Int32) (s : MS), (∀ q, dm sb q → dm s q) → ∀ (res : MS), l_Mo_step_134 k n a1 s = some res → KX res → G X s 0 0 134 [(0, vR (some k)), (1, vI a1)] [] := by
  intro n
  induction n with
  | zero => intro _ s _ res h; cases h
  | succ n ih =>
    intro a1 s mb res h hk
    exact w_b_Mo_step_134 ok hexit (fun v1 z hz y h2 hk2 => ih v1 z hz y h2 hk2) mb (rf_mono mb htb) h hk
theorem w_l_Mo_step_134 {X : CX} {KX : MS → Prop} {k : Nat} {sb : MS} (ok : Ok X cX5_step RX5 rm_Mo_step 3 false) (hexit : ∀ (z : MS), KX z → (∀ q, dm sb q → dm z q) → G X z 0 0 204 [(0, vR (some k))] []) (mb : ∀ q, dm sb q → dm sb q) (htb : rf sb.2.2 20 (some k) = some k) (n : Nat) (a1 : Int32) {res : MS} (h : l_Mo_step_134 k n a1 sb = some res) (hk : KX res) : G X sb 0 0 134 [(0, vR (some k)), (1, vI a1)] [] := wx_l_Mo_step_134 ok hexit htb n a1 sb mb res h hk
set_option maxRecDepth 100000 in
set_option maxHeartbeats 4000000 in
theorem w_b_Mo_step_206 {X : CX} {KX : MS → Prop} {k : Nat} {a1 : Int32} {s : MS} {rec : Int32 → MS → Option (MS)} {sb : MS} (ok : Ok X cX5_step RX5 rm_Mo_step 3 false) (hexit : ∀ (z : MS), KX z → (∀ q, dm sb q → dm z q) → G X z 0 0 272 [(0, vR (some k))] []) (hrec : ∀ (v1 : Int32) (z : MS), (∀ q, dm sb q → dm z q) → ∀ y, rec v1 z = some y → KX y → G X z 0 0 206 [(0, vR (some k)), (1, vI v1)] []) (mb : ∀ q, dm sb q → dm s q) (ht : rf s.2.2 20 (some k) = some k) {res : MS} (h : b_Mo_step_206 k a1 s rec = some res) (hk : KX res) : G X s 0 0 206 [(0, vR (some k)), (1, vI a1)] [] := by
  unfold b_Mo_step_206 at h
  refine g_iload_n (i := 1) 1 ok d_Mo_step_206 rfl rfl ?_
  refine g_aload_n (i := 0) 0 ok d_Mo_step_207 rfl rfl ?_
  refine g_geti (s0 := 20) (j := 7) (ci := 5) (C := RX5) (T := TX5) (N := 29) ok ht lay_20 rfl inX5 (by decide) rfl tw_745 rfl d_Mo_step_208 ?_
  refine g_icmp_ge (tgt := 272) ok d_Mo_step_211 (by decide) (fun c84 => ?_) (fun c84 => ?_)
  · replace h := (if_pos c84).symm.trans h
    refine g_aload_n (i := 0) 0 ok d_Mo_step_214 rfl rfl ?_
    refine g_getr (s0 := 20) (j := 12) (ci := 5) (C := RX5) (T := TX5) (N := 29) ok ht lay_20 rfl inX5 (by decide) rfl tw_750 rfl d_Mo_step_215 ?_
    refine g_iload_n (i := 1) 1 ok d_Mo_step_218 rfl rfl ?_
    obtain ⟨k85, hk86, h⟩ := bnd_go h
    refine g_iald ok hk86 d_Mo_step_219 ?_
    refine g_iconst (v := (2 : Int32)) ok d_Mo_step_220 (by decide) ?_
    refine g_icmp_ne (tgt := 266) ok d_Mo_step_221 (by decide) (fun c87 => ?_) (fun c87 => ?_)
    · replace h := (if_pos c87).symm.trans h
      refine g_aload_n (i := 0) 0 ok d_Mo_step_224 rfl rfl ?_
      refine g_iload_n (i := 1) 1 ok d_Mo_step_225 rfl rfl ?_
      refine g_aload_n (i := 0) 0 ok d_Mo_step_226 rfl rfl ?_
      refine g_getr (s0 := 20) (j := 11) (ci := 5) (C := RX5) (T := TX5) (N := 29) ok ht lay_20 rfl inX5 (by decide) rfl tw_749 rfl d_Mo_step_227 ?_
      refine g_iload_n (i := 1) 1 ok d_Mo_step_230 rfl rfl ?_
      obtain ⟨k88, hk89, h⟩ := bnd_go h
      refine g_iald ok hk89 d_Mo_step_231 ?_
      refine g_aload_n (i := 0) 0 ok d_Mo_step_232 rfl rfl ?_
      refine g_getr (s0 := 20) (j := 14) (ci := 5) (C := RX5) (T := TX5) (N := 29) ok ht lay_20 rfl inX5 (by decide) rfl tw_752 rfl d_Mo_step_233 ?_
      refine g_iload_n (i := 1) 1 ok d_Mo_step_236 rfl rfl ?_
      obtain ⟨k90, hk91, h⟩ := bnd_go h
      refine g_iald ok hk91 d_Mo_step_237 ?_
      refine g_invS (rm2 := rm_Mo_homeward) (As := [vI (s.1 k88 a1.toNatClampNeg), vI (s.1 k90 a1.toNatClampNeg)]) (rest := [vI a1, vR (some k)]) ok (c_Mo_homeward X.1.2.1) cm_Mo_homeward cs_Mo_homeward tw_967 ⟨rfl, rfl⟩ ⟨le_t rfl, le_t rfl⟩ ⟨rfl, le_t rfl⟩ ⟨le_t rfl, le_t rfl⟩ d_Mo_step_238 rfl (fun m92 => ?_)
      show G X s 0 0 241 [(0, vR (some k)), (1, vI a1)] [vI (f_Mo_homeward (s.1 k88 a1.toNatClampNeg) (s.1 k90 a1.toNatClampNeg)), vI a1, vR (some k)]
      obtain ⟨s95, hc94, h⟩ := bnd_go h
      refine g_invV (rm2 := rm_Mo_goTo) (As := [vI a1, vI (f_Mo_homeward (s.1 k88 a1.toNatClampNeg) (s.1 k90 a1.toNatClampNeg))]) (rest := []) ok ht lay_20 rfl (c_Mo_goTo X.1.2.1 (rf_self ht) hc94) cm_Mo_goTo cv_Mo_goTo tw_963 ⟨rfl, rfl⟩ ⟨le_t rfl, le_t rfl⟩ ⟨rfl, le_t rfl⟩ ⟨le_t rfl, le_t rfl⟩ d_Mo_step_241 rfl (fun m93 => ?_)
      show G X s95 0 0 244 [(0, vR (some k)), (1, vI a1)] []
      refine g_aload_n (i := 0) 0 ok d_Mo_step_244 rfl rfl ?_
      refine g_getr (s0 := 20) (j := 12) (ci := 5) (C := RX5) (T := TX5) (N := 29) ok (rf_mono m93 ht) lay_20 rfl inX5 (by decide) rfl tw_750 rfl d_Mo_step_245 ?_
      refine g_iload_n (i := 1) 1 ok d_Mo_step_248 rfl rfl ?_
      refine g_aload_n (i := 0) 0 ok d_Mo_step_249 rfl rfl ?_
      refine g_getr (s0 := 20) (j := 11) (ci := 5) (C := RX5) (T := TX5) (N := 29) ok (rf_mono m93 ht) lay_20 rfl inX5 (by decide) rfl tw_749 rfl d_Mo_step_250 ?_
      refine g_iload_n (i := 1) 1 ok d_Mo_step_253 rfl rfl ?_
      obtain ⟨k96, hk97, h⟩ := bnd_go h
      refine g_iald ok hk97 d_Mo_step_254 ?_
      refine g_bipush (v := (100 : Int32)) ok d_Mo_step_255 (by decide) ?_
      refine g_icmp_ge (tgt := 264) ok d_Mo_step_257 (by decide) (fun c98 => ?_) (fun c98 => ?_)
      · replace h := (if_pos c98).symm.trans h
        refine g_iconst (v := (0 : Int32)) ok d_Mo_step_260 (by decide) ?_
        refine g_goto (tgt := 265) ok d_Mo_step_261 (by decide) ?_
        obtain ⟨k99, hk100, h⟩ := bnd_go h
        refine g_iast ok hk100 d_Mo_step_265 ?_
        obtain ⟨s101, e102⟩ : ∃ z, wi s95 k99 a1.toNatClampNeg (0 : Int32) = z := ⟨_, rfl⟩
        replace h := lt_go h e102
        have m103 := mo_wi e102
        rw [e102]
        obtain ⟨x104, e105⟩ : ∃ z, a1 + (1 : Int32) = z := ⟨_, rfl⟩
        replace h := lt_go h e105
        refine g_iinc (i := 1) (v := x104) 1 [(1, vI x104), (0, vR (some k))] ok d_Mo_step_266 rfl (by rw [← e105]; rfl) (by decide) rfl ?_
        refine g_goto (tgt := 206) ok d_Mo_step_269 (by decide) ?_
        refine g_sub [1, 0] rfl ?_
        exact hrec x104 s101 (fun z hz => m103 z ((fun z hz => m93 z (mb z hz)) z hz)) _ h hk
      · replace h := (if_neg c98).symm.trans h
        refine g_iconst (v := (2 : Int32)) ok d_Mo_step_264 (by decide) ?_
        obtain ⟨k106, hk107, h⟩ := bnd_go h
        refine g_iast ok hk107 d_Mo_step_265 ?_
        obtain ⟨s108, e109⟩ : ∃ z, wi s95 k106 a1.toNatClampNeg (2 : Int32) = z := ⟨_, rfl⟩
        replace h := lt_go h e109
        have m110 := mo_wi e109
        rw [e109]
        obtain ⟨x111, e112⟩ : ∃ z, a1 + (1 : Int32) = z := ⟨_, rfl⟩
        replace h := lt_go h e112
        refine g_iinc (i := 1) (v := x111) 1 [(1, vI x111), (0, vR (some k))] ok d_Mo_step_266 rfl (by rw [← e112]; rfl) (by decide) rfl ?_
        refine g_goto (tgt := 206) ok d_Mo_step_269 (by decide) ?_
        refine g_sub [1, 0] rfl ?_
        exact hrec x111 s108 (fun z hz => m110 z ((fun z hz => m93 z (mb z hz)) z hz)) _ h hk
    · replace h := (if_neg c87).symm.trans h
      obtain ⟨x113, e114⟩ : ∃ z, a1 + (1 : Int32) = z := ⟨_, rfl⟩
      replace h := lt_go h e114
      refine g_iinc (i := 1) (v := x113) 1 [(1, vI x113), (0, vR (some k))] ok d_Mo_step_266 rfl (by rw [← e114]; rfl) (by decide) rfl ?_
      refine g_goto (tgt := 206) ok d_Mo_step_269 (by decide) ?_
      refine g_sub [1, 0] rfl ?_
      exact hrec x113 s mb _ h hk
  · replace h := (if_neg c84).symm.trans h
    refine g_sub [0] rfl ?_
    cases h
    exact hexit s hk mb
theorem wx_l_Mo_step_206 {X : CX} {KX : MS → Prop} {k : Nat} {sb : MS} (ok : Ok X cX5_step RX5 rm_Mo_step 3 false) (hexit : ∀ (z : MS), KX z → (∀ q, dm sb q → dm z q) → G X z 0 0 272 [(0, vR (some k))] []) (htb : rf sb.2.2 20 (some k) = some k) : ∀ (n : Nat) (a1 : Int32) (s : MS), (∀ q, dm sb q → dm s q) → ∀ (res : MS), l_Mo_step_206 k n a1 s = some res → KX res → G X s 0 0 206 [(0, vR (some k)), (1, vI a1)] [] := by
  intro n
  induction n with
  | zero => intro _ s _ res h; cases h
  | succ n ih =>
    intro a1 s mb res h hk
    exact w_b_Mo_step_206 ok hexit (fun v1 z hz y h2 hk2 => ih v1 z hz y h2 hk2) mb (rf_mono mb htb) h hk
theorem w_l_Mo_step_206 {X : CX} {KX : MS → Prop} {k : Nat} {sb : MS} (ok : Ok X cX5_step RX5 rm_Mo_step 3 false) (hexit : ∀ (z : MS), KX z → (∀ q, dm sb q → dm z q) → G X z 0 0 272 [(0, vR (some k))] []) (mb : ∀ q, dm sb q → dm sb q) (htb : rf sb.2.2 20 (some k) = some k) (n : Nat) (a1 : Int32) {res : MS} (h : l_Mo_step_206 k n a1 sb = some res) (hk : KX res) : G X sb 0 0 206 [(0, vR (some k)), (1, vI a1)] [] := wx_l_Mo_step_206 ok hexit htb n a1 sb mb res h hk
set_option maxRecDepth 100000 in
set_option maxHeartbeats 4000000 in
theorem w_b_Mo_step_274 {X : CX} {KX : MS → Prop} {k : Nat} {a1 : Int32} {s : MS} {rec : Int32 → MS → Option (MS)} {sb : MS} (ok : Ok X cX5_step RX5 rm_Mo_step 3 false) (hexit : ∀ (z : MS), KX z → (∀ q, dm sb q → dm z q) → G X z 0 0 312 [(0, vR (some k))] []) (hrec : ∀ (v1 : Int32) (z : MS), (∀ q, dm sb q → dm z q) → ∀ y, rec v1 z = some y → KX y → G X z 0 0 274 [(0, vR (some k)), (1, vI v1)] []) (mb : ∀ q, dm sb q → dm s q) (ht : rf s.2.2 20 (some k) = some k) {res : MS} (h : b_Mo_step_274 k a1 s rec = some res) (hk : KX res) : G X s 0 0 274 [(0, vR (some k)), (1, vI a1)] [] := by
  unfold b_Mo_step_274 at h
  refine g_iload_n (i := 1) 1 ok d_Mo_step_274 rfl rfl ?_
  refine g_aload_n (i := 0) 0 ok d_Mo_step_275 rfl rfl ?_
  refine g_geti (s0 := 20) (j := 7) (ci := 5) (C := RX5) (T := TX5) (N := 29) ok ht lay_20 rfl inX5 (by decide) rfl tw_745 rfl d_Mo_step_276 ?_
  refine g_icmp_ge (tgt := 312) ok d_Mo_step_279 (by decide) (fun c117 => ?_) (fun c117 => ?_)
  · replace h := (if_pos c117).symm.trans h
    refine g_aload_n (i := 0) 0 ok d_Mo_step_282 rfl rfl ?_
    refine g_getr (s0 := 20) (j := 12) (ci := 5) (C := RX5) (T := TX5) (N := 29) ok ht lay_20 rfl inX5 (by decide) rfl tw_750 rfl d_Mo_step_283 ?_
    refine g_iload_n (i := 1) 1 ok d_Mo_step_286 rfl rfl ?_
    obtain ⟨k118, hk119, h⟩ := bnd_go h
    refine g_iald ok hk119 d_Mo_step_287 ?_
    refine g_iconst (v := (3 : Int32)) ok d_Mo_step_288 (by decide) ?_
    refine g_icmp_eq (tgt := 306) ok d_Mo_step_289 (by decide) (fun c120 => ?_) (fun c120 => ?_)
    · replace h := (if_pos c120).symm.trans h
      obtain ⟨x121, e122⟩ : ∃ z, a1 + (1 : Int32) = z := ⟨_, rfl⟩
      replace h := lt_go h e122
      refine g_iinc (i := 1) (v := x121) 1 [(1, vI x121), (0, vR (some k))] ok d_Mo_step_306 rfl (by rw [← e122]; rfl) (by decide) rfl ?_
      refine g_goto (tgt := 274) ok d_Mo_step_309 (by decide) ?_
      refine g_sub [1, 0] rfl ?_
      exact hrec x121 s mb _ h hk
    · replace h := (if_neg c120).symm.trans h
      refine g_aload_n (i := 0) 0 ok d_Mo_step_292 rfl rfl ?_
      refine g_getr (s0 := 20) (j := 10) (ci := 5) (C := RX5) (T := TX5) (N := 29) ok ht lay_20 rfl inX5 (by decide) rfl tw_748 rfl d_Mo_step_293 ?_
      refine g_iload_n (i := 1) 1 ok d_Mo_step_296 rfl rfl ?_
      obtain ⟨k123, hk124, h⟩ := bnd_go h
      refine g_iald ok hk124 d_Mo_step_297 ?_
      refine g_if_ge (tgt := 306) ok d_Mo_step_298 (by decide) (fun c125 => ?_) (fun c125 => ?_)
      · replace h := (if_pos c125).symm.trans h
        refine g_aload_n (i := 0) 0 ok d_Mo_step_301 rfl rfl ?_
        refine g_iload_n (i := 1) 1 ok d_Mo_step_302 rfl rfl ?_
        obtain ⟨s128, hc127, h⟩ := bnd_go h
        refine g_invV (rm2 := rm_Mo_fall) (As := [vI a1]) (rest := []) ok ht lay_20 rfl (c_Mo_fall X.1.2.1 (rf_self ht) hc127) cm_Mo_fall cv_Mo_fall tw_970 ⟨rfl, rfl⟩ ⟨le_t rfl, le_t rfl⟩ ⟨rfl, le_t rfl⟩ ⟨le_t rfl, le_t rfl⟩ d_Mo_step_303 rfl (fun m126 => ?_)
        show G X s128 0 0 306 [(0, vR (some k)), (1, vI a1)] []
        obtain ⟨x129, e130⟩ : ∃ z, a1 + (1 : Int32) = z := ⟨_, rfl⟩
        replace h := lt_go h e130
        refine g_iinc (i := 1) (v := x129) 1 [(1, vI x129), (0, vR (some k))] ok d_Mo_step_306 rfl (by rw [← e130]; rfl) (by decide) rfl ?_
        refine g_goto (tgt := 274) ok d_Mo_step_309 (by decide) ?_
        refine g_sub [1, 0] rfl ?_
        exact hrec x129 s128 (fun z hz => m126 z (mb z hz)) _ h hk
      · replace h := (if_neg c125).symm.trans h
        obtain ⟨x131, e132⟩ : ∃ z, a1 + (1 : Int32) = z := ⟨_, rfl⟩
        replace h := lt_go h e132
        refine g_iinc (i := 1) (v := x131) 1 [(1, vI x131), (0, vR (some k))] ok d_Mo_step_306 rfl (by rw [← e132]; rfl) (by decide) rfl ?_
        refine g_goto (tgt := 274) ok d_Mo_step_309 (by decide) ?_
        refine g_sub [1, 0] rfl ?_
        exact hrec x131 s mb _ h hk
  · replace h := (if_neg c117).symm.trans h
    refine g_sub [0] rfl ?_
    cases h
    exact hexit s hk mb
theorem wx_l_Mo_step_274 {X : CX} {KX : MS → Prop} {k : Nat} {sb : MS} (ok : Ok X cX5_step RX5 rm_Mo_step 3 false) (hexit : ∀ (z : MS), KX z → (∀ q, dm sb q → dm z q) → G X z 0 0 312 [(0, vR (some k))] []) (htb : rf sb.2.2 20 (some k) = some k) : ∀ (n : Nat) (a1 : Int32) (s : MS), (∀ q, dm sb q → dm s q) → ∀ (res : MS), l_Mo_step_274 k n a1 s = some res → KX res → G X s 0 0 274 [(0, vR (some k)), (1, vI a1)] [] := by
  intro n
  induction n with
  | zero => intro _ s _ res h; cases h
  | succ n ih =>
    intro a1 s mb res h hk
    exact w_b_Mo_step_274 ok hexit (fun v1 z hz y h2 hk2 => ih v1 z hz y h2 hk2) mb (rf_mono mb htb) h hk
theorem w_l_Mo_step_274 {X : CX} {KX : MS → Prop} {k : Nat} {sb : MS} (ok : Ok X cX5_step RX5 rm_Mo_step 3 false) (hexit : ∀ (z : MS), KX z → (∀ q, dm sb q → dm z q) → G X z 0 0 312 [(0, vR (some k))] []) (mb : ∀ q, dm sb q → dm sb q) (htb : rf sb.2.2 20 (some k) = some k) (n : Nat) (a1 : Int32) {res : MS} (h : l_Mo_step_274 k n a1 sb = some res) (hk : KX res) : G X sb 0 0 274 [(0, vR (some k)), (1, vI a1)] [] := wx_l_Mo_step_274 ok hexit htb n a1 sb mb res h hk
set_option maxRecDepth 100000 in
set_option maxHeartbeats 4000000 in
theorem w_b_Mo_step_318 {X : CX} {KX : MS → Prop} {k : Nat} {a1 : Int32} {s : MS} {rec : Int32 → MS → Option (MS)} {sb : MS} (ok : Ok X cX5_step RX5 rm_Mo_step 3 false) (hexit : ∀ (z : MS), KX z → (∀ q, dm sb q → dm z q) → G X z 0 0 382 [(0, vR (some k))] []) (hrec : ∀ (v1 : Int32) (z : MS), (∀ q, dm sb q → dm z q) → ∀ y, rec v1 z = some y → KX y → G X z 0 0 318 [(0, vR (some k)), (1, vI v1)] []) (mb : ∀ q, dm sb q → dm s q) (ht : rf s.2.2 20 (some k) = some k) {res : MS} (h : b_Mo_step_318 k a1 s rec = some res) (hk : KX res) : G X s 0 0 318 [(0, vR (some k)), (1, vI a1)] [] := by
  unfold b_Mo_step_318 at h
  refine g_iload_n (i := 1) 1 ok d_Mo_step_318 rfl rfl ?_
  refine g_aload_n (i := 0) 0 ok d_Mo_step_319 rfl rfl ?_
  refine g_geti (s0 := 20) (j := 7) (ci := 5) (C := RX5) (T := TX5) (N := 29) ok ht lay_20 rfl inX5 (by decide) rfl tw_745 rfl d_Mo_step_320 ?_
  refine g_icmp_ge (tgt := 382) ok d_Mo_step_323 (by decide) (fun c138 => ?_) (fun c138 => ?_)
  · replace h := (if_pos c138).symm.trans h
    refine g_aload_n (i := 0) 0 ok d_Mo_step_326 rfl rfl ?_
    refine g_getr (s0 := 20) (j := 13) (ci := 5) (C := RX5) (T := TX5) (N := 29) ok ht lay_20 rfl inX5 (by decide) rfl tw_751 rfl d_Mo_step_327 ?_
    refine g_iload_n (i := 1) 1 ok d_Mo_step_330 rfl rfl ?_
    obtain ⟨k139, hk140, h⟩ := bnd_go h
    refine g_iald ok hk140 d_Mo_step_331 ?_
    obtain ⟨x141, e142⟩ : ∃ z, (s.1 k139 a1.toNatClampNeg) = z := ⟨_, rfl⟩
    replace h := lt_go h e142
    rw [e142]
    refine g_istore_n (i := 2) [(2, vI x141), (0, vR (some k)), (1, vI a1)] ok d_Mo_step_332 rfl (by decide) rfl ?_
    refine g_aload_n (i := 0) 1 ok d_Mo_step_333 rfl rfl ?_
    refine g_getr (s0 := 20) (j := 12) (ci := 5) (C := RX5) (T := TX5) (N := 29) ok ht lay_20 rfl inX5 (by decide) rfl tw_750 rfl d_Mo_step_334 ?_
    refine g_iload_n (i := 1) 2 ok d_Mo_step_337 rfl rfl ?_
    obtain ⟨k143, hk144, h⟩ := bnd_go h
    refine g_iald ok hk144 d_Mo_step_338 ?_
    refine g_iconst (v := (1 : Int32)) ok d_Mo_step_339 (by decide) ?_
    refine g_icmp_ne (tgt := 376) ok d_Mo_step_340 (by decide) (fun c145 => ?_) (fun c145 => ?_)
    · replace h := (if_pos c145).symm.trans h
      refine g_aload_n (i := 0) 1 ok d_Mo_step_343 rfl rfl ?_
      refine g_geti (s0 := 20) (j := 1) (ci := 5) (C := RX5) (T := TX5) (N := 29) ok ht lay_20 rfl inX5 (by decide) rfl tw_739 rfl d_Mo_step_344 ?_
      refine g_aload_n (i := 0) 1 ok d_Mo_step_347 rfl rfl ?_
      refine g_getr (s0 := 20) (j := 19) (ci := 5) (C := RX5) (T := TX5) (N := 29) ok ht lay_20 rfl inX5 (by decide) rfl tw_757 rfl d_Mo_step_348 ?_
      refine g_iload_n (i := 2) 0 ok d_Mo_step_351 rfl rfl ?_
      obtain ⟨k146, hk147, h⟩ := bnd_go h
      refine g_iald ok hk147 d_Mo_step_352 ?_
      refine g_aload_n (i := 0) 1 ok d_Mo_step_353 rfl rfl ?_
      refine g_getr (s0 := 20) (j := 20) (ci := 5) (C := RX5) (T := TX5) (N := 29) ok ht lay_20 rfl inX5 (by decide) rfl tw_758 rfl d_Mo_step_354 ?_
      refine g_iload_n (i := 2) 0 ok d_Mo_step_357 rfl rfl ?_
      obtain ⟨k148, hk149, h⟩ := bnd_go h
      refine g_iald ok hk149 d_Mo_step_358 ?_
      refine g_iadd ok d_Mo_step_359 ?_
      refine g_icmp_ne (tgt := 376) ok d_Mo_step_360 (by decide) (fun c150 => ?_) (fun c150 => ?_)
      · replace h := (if_pos c150).symm.trans h
        refine g_aload_n (i := 0) 1 ok d_Mo_step_363 rfl rfl ?_
        refine g_getr (s0 := 20) (j := 12) (ci := 5) (C := RX5) (T := TX5) (N := 29) ok ht lay_20 rfl inX5 (by decide) rfl tw_750 rfl d_Mo_step_364 ?_
        refine g_iload_n (i := 1) 2 ok d_Mo_step_367 rfl rfl ?_
        refine g_iconst (v := (0 : Int32)) ok d_Mo_step_368 (by decide) ?_
        obtain ⟨k151, hk152, h⟩ := bnd_go h
        refine g_iast ok hk152 d_Mo_step_369 ?_
        obtain ⟨s153, e154⟩ : ∃ z, wi s k151 a1.toNatClampNeg (0 : Int32) = z := ⟨_, rfl⟩
        replace h := lt_go h e154
        have m155 := mo_wi e154
        rw [e154]
        refine g_aload_n (i := 0) 1 ok d_Mo_step_370 rfl rfl ?_
        refine g_iload_n (i := 2) 0 ok d_Mo_step_371 rfl rfl ?_
        refine g_iconst (v := (2 : Int32)) ok d_Mo_step_372 (by decide) ?_
        obtain ⟨s158, hc157, h⟩ := bnd_go h
        refine g_invV (rm2 := rm_Mo_takeBack) (As := [vI x141, vI (2 : Int32)]) (rest := []) ok (rf_mono m155 ht) lay_20 rfl (c_Mo_takeBack X.1.2.1 (rf_self (rf_mono m155 ht)) hc157) cm_Mo_takeBack cv_Mo_takeBack tw_866 ⟨rfl, rfl⟩ ⟨le_t rfl, le_t rfl⟩ ⟨rfl, le_t rfl⟩ ⟨le_t rfl, le_t rfl⟩ d_Mo_step_373 rfl (fun m156 => ?_)
        show G X s158 0 0 376 [(2, vI x141), (0, vR (some k)), (1, vI a1)] []
        obtain ⟨x159, e160⟩ : ∃ z, a1 + (1 : Int32) = z := ⟨_, rfl⟩
        replace h := lt_go h e160
        refine g_iinc (i := 1) (v := x159) 2 [(1, vI x159), (2, vI x141), (0, vR (some k))] ok d_Mo_step_376 rfl (by rw [← e160]; rfl) (by decide) rfl ?_
        refine g_goto (tgt := 318) ok d_Mo_step_379 (by decide) ?_
        refine g_sub [2, 0] rfl ?_
        exact hrec x159 s158 (fun z hz => m156 z ((fun z hz => m155 z (mb z hz)) z hz)) _ h hk
      · replace h := (if_neg c150).symm.trans h
        obtain ⟨x161, e162⟩ : ∃ z, a1 + (1 : Int32) = z := ⟨_, rfl⟩
        replace h := lt_go h e162
        refine g_iinc (i := 1) (v := x161) 2 [(1, vI x161), (2, vI x141), (0, vR (some k))] ok d_Mo_step_376 rfl (by rw [← e162]; rfl) (by decide) rfl ?_
        refine g_goto (tgt := 318) ok d_Mo_step_379 (by decide) ?_
        refine g_sub [2, 0] rfl ?_
        exact hrec x161 s mb _ h hk
    · replace h := (if_neg c145).symm.trans h
      obtain ⟨x163, e164⟩ : ∃ z, a1 + (1 : Int32) = z := ⟨_, rfl⟩
      replace h := lt_go h e164
      refine g_iinc (i := 1) (v := x163) 2 [(1, vI x163), (2, vI x141), (0, vR (some k))] ok d_Mo_step_376 rfl (by rw [← e164]; rfl) (by decide) rfl ?_
      refine g_goto (tgt := 318) ok d_Mo_step_379 (by decide) ?_
      refine g_sub [2, 0] rfl ?_
      exact hrec x163 s mb _ h hk
  · replace h := (if_neg c138).symm.trans h
    refine g_sub [0] rfl ?_
    cases h
    exact hexit s hk mb
theorem wx_l_Mo_step_318 {X : CX} {KX : MS → Prop} {k : Nat} {sb : MS} (ok : Ok X cX5_step RX5 rm_Mo_step 3 false) (hexit : ∀ (z : MS), KX z → (∀ q, dm sb q → dm z q) → G X z 0 0 382 [(0, vR (some k))] []) (htb : rf sb.2.2 20 (some k) = some k) : ∀ (n : Nat) (a1 : Int32) (s : MS), (∀ q, dm sb q → dm s q) → ∀ (res : MS), l_Mo_step_318 k n a1 s = some res → KX res → G X s 0 0 318 [(0, vR (some k)), (1, vI a1)] [] := by
  intro n
  induction n with
  | zero => intro _ s _ res h; cases h
  | succ n ih =>
    intro a1 s mb res h hk
    exact w_b_Mo_step_318 ok hexit (fun v1 z hz y h2 hk2 => ih v1 z hz y h2 hk2) mb (rf_mono mb htb) h hk
theorem w_l_Mo_step_318 {X : CX} {KX : MS → Prop} {k : Nat} {sb : MS} (ok : Ok X cX5_step RX5 rm_Mo_step 3 false) (hexit : ∀ (z : MS), KX z → (∀ q, dm sb q → dm z q) → G X z 0 0 382 [(0, vR (some k))] []) (mb : ∀ q, dm sb q → dm sb q) (htb : rf sb.2.2 20 (some k) = some k) (n : Nat) (a1 : Int32) {res : MS} (h : l_Mo_step_318 k n a1 sb = some res) (hk : KX res) : G X sb 0 0 318 [(0, vR (some k)), (1, vI a1)] [] := wx_l_Mo_step_318 ok hexit htb n a1 sb mb res h hk
set_option maxRecDepth 100000 in
set_option maxHeartbeats 4000000 in
theorem w_Mo_step {X : CX} {KX : MS → Prop} {k : Nat} {s : MS} (ok : Ok X cX5_step RX5 rm_Mo_step 3 false) (hret : ∀ r : MS, KX r → Fin X none 0 0 false none r)   (ht : rf s.2.2 20 (some k) = some k) {res : MS} (h : f_Mo_step k s = some res) (hk : KX res) : G X s 0 0 0 [(0, vR (some k))] [] := by
  unfold f_Mo_step at h
  refine g_aload_n (i := 0) 0 ok d_Mo_step_0 rfl rfl ?_
  refine g_dup ok d_Mo_step_1 rfl ?_
  refine g_geti (s0 := 20) (j := 1) (ci := 5) (C := RX5) (T := TX5) (N := 29) ok ht lay_20 rfl inX5 (by decide) rfl tw_739 rfl d_Mo_step_2 ?_
  refine g_iconst (v := (1 : Int32)) ok d_Mo_step_5 (by decide) ?_
  refine g_iadd ok d_Mo_step_6 ?_
  refine g_puti (s0 := 20) (j := 1) (ci := 5) (C := RX5) (T := TX5) (N := 29) ok ht lay_20 rfl inX5 (by decide) rfl tw_739 rfl tyX5_ok nmX5 rfl (Or.inl rfl) d_Mo_step_7 ?_
  obtain ⟨s1, e2⟩ : ∃ z, wi s k 1 ((s.1 k 1) + (1 : Int32)) = z := ⟨_, rfl⟩
  replace h := lt_go h e2
  have m3 := mo_wi e2
  rw [e2]
  refine g_iconst (v := (0 : Int32)) ok d_Mo_step_10 (by decide) ?_
  refine g_istore_n (i := 1) [(1, vI (0 : Int32)), (0, vR (some k))] ok d_Mo_step_11 rfl (by decide) rfl ?_
  refine g_sub [1, 0] rfl ?_
  obtain ⟨s34, hx, h⟩ := bnd_go h
  refine w_l_Mo_step_12 (KX := fun y => y = s34) ok (fun y0 he m33 => ?_) (fun _ hz => hz) (rf_mono m3 ht) _ _ hx rfl
  cases he
  refine g_iconst (v := (0 : Int32)) ok d_Mo_step_75 (by decide) ?_
  refine g_istore_n (i := 1) [(1, vI (0 : Int32)), (0, vR (some k))] ok d_Mo_step_76 rfl (by decide) rfl ?_
  refine g_sub [1, 0] rfl ?_
  obtain ⟨s61, hx, h⟩ := bnd_go h
  refine w_l_Mo_step_77 (KX := fun y => y = s61) ok (fun y0 he m60 => ?_) (fun _ hz => hz) (rf_mono m33 (rf_mono m3 ht)) _ _ hx rfl
  cases he
  refine g_iconst (v := (0 : Int32)) ok d_Mo_step_132 (by decide) ?_
  refine g_istore_n (i := 1) [(1, vI (0 : Int32)), (0, vR (some k))] ok d_Mo_step_133 rfl (by decide) rfl ?_
  refine g_sub [1, 0] rfl ?_
  obtain ⟨s83, hx, h⟩ := bnd_go h
  refine w_l_Mo_step_134 (KX := fun y => y = s83) ok (fun y0 he m82 => ?_) (fun _ hz => hz) (rf_mono m60 (rf_mono m33 (rf_mono m3 ht))) _ _ hx rfl
  cases he
  refine g_iconst (v := (0 : Int32)) ok d_Mo_step_204 (by decide) ?_
  refine g_istore_n (i := 1) [(1, vI (0 : Int32)), (0, vR (some k))] ok d_Mo_step_205 rfl (by decide) rfl ?_
  refine g_sub [1, 0] rfl ?_
  obtain ⟨s116, hx, h⟩ := bnd_go h
  refine w_l_Mo_step_206 (KX := fun y => y = s116) ok (fun y0 he m115 => ?_) (fun _ hz => hz) (rf_mono m82 (rf_mono m60 (rf_mono m33 (rf_mono m3 ht)))) _ _ hx rfl
  cases he
  refine g_iconst (v := (0 : Int32)) ok d_Mo_step_272 (by decide) ?_
  refine g_istore_n (i := 1) [(1, vI (0 : Int32)), (0, vR (some k))] ok d_Mo_step_273 rfl (by decide) rfl ?_
  refine g_sub [1, 0] rfl ?_
  obtain ⟨s134, hx, h⟩ := bnd_go h
  refine w_l_Mo_step_274 (KX := fun y => y = s134) ok (fun y0 he m133 => ?_) (fun _ hz => hz) (rf_mono m115 (rf_mono m82 (rf_mono m60 (rf_mono m33 (rf_mono m3 ht))))) _ _ hx rfl
  cases he
  refine g_aload_n (i := 0) 0 ok d_Mo_step_312 rfl rfl ?_
  obtain ⟨s137, hc136, h⟩ := bnd_go h
  refine g_invV (rm2 := rm_Mo_crash) (As := []) (rest := []) ok (rf_mono m133 (rf_mono m115 (rf_mono m82 (rf_mono m60 (rf_mono m33 (rf_mono m3 ht)))))) lay_20 rfl (c_Mo_crash X.1.2.1 (rf_self (rf_mono m133 (rf_mono m115 (rf_mono m82 (rf_mono m60 (rf_mono m33 (rf_mono m3 ht))))))) hc136) cm_Mo_crash cv_Mo_crash tw_974 ⟨rfl, rfl⟩ ⟨le_t rfl, le_t rfl⟩ ⟨rfl, le_t rfl⟩ ⟨le_t rfl, le_t rfl⟩ d_Mo_step_313 rfl (fun m135 => ?_)
  show G X s137 0 0 316 [(0, vR (some k))] []
  refine g_iconst (v := (0 : Int32)) ok d_Mo_step_316 (by decide) ?_
  refine g_istore_n (i := 1) [(1, vI (0 : Int32)), (0, vR (some k))] ok d_Mo_step_317 rfl (by decide) rfl ?_
  refine g_sub [1, 0] rfl ?_
  obtain ⟨s166, hx, h⟩ := bnd_go h
  refine w_l_Mo_step_318 (KX := fun y => y = s166) ok (fun y0 he m165 => ?_) (fun _ hz => hz) (rf_mono m135 (rf_mono m133 (rf_mono m115 (rf_mono m82 (rf_mono m60 (rf_mono m33 (rf_mono m3 ht))))))) _ _ hx rfl
  cases he
  cases h
  exact g_vret ok (hret _ hk) (by decide) (by decide) d_Mo_step_382
theorem c_Mo_step (l : Launch) {k : Nat} {s : MS} (ht : rf s.2.2 20 (some k) = some k) {z : MS} (h : f_Mo_step k s = some z) : Ct l yX5_step (.code yX5_step cX5_step 3 none) rm_Mo_step 0 0 false [vR (some k)] s none z :=
  Ct.of rfl (by decide +kernel) ⟨rfl, le_t rfl⟩ (fun X ok fn _ hI hl => w_Mo_step (KX := fun y => y = z) ok (fun y hy => by subst hy; exact fn) ht h rfl)
abbrev rm_Mo_tick : Room := { frames := 4, cells := 0, slots := 0, locals := 88 }
theorem cm_Mo_tick : cfM yX5_tick cX5_tick 3 (some .int) 1 := ⟨tw_958, tw_4, by decide, by decide, by decide +kernel⟩
theorem cv_Mo_tick : cfV yX5_tick := ⟨tw_956, tw_957⟩
theorem d_Mo_tick_0 : decode cX5_tick 0 = .ok (.aload_n 0, 1) := by decide +kernel
theorem d_Mo_tick_1 : decode cX5_tick 1 = .ok (.iload_n 1, 1) := by decide +kernel
theorem d_Mo_tick_2 : decode cX5_tick 2 = .ok (.iconst 1, 1) := by decide +kernel
theorem d_Mo_tick_3 : decode cX5_tick 3 = .ok (.bipush 50, 2) := by decide +kernel
theorem d_Mo_tick_5 : decode cX5_tick 5 = .ok (.invokestatic 75, 3) := by decide +kernel
theorem d_Mo_tick_8 : decode cX5_tick 8 = .ok (.ifCond .ne 7, 3) := by decide +kernel
theorem d_Mo_tick_11 : decode cX5_tick 11 = .ok (.iconst 1, 1) := by decide +kernel
theorem d_Mo_tick_12 : decode cX5_tick 12 = .ok (.goto 20, 3) := by decide +kernel
theorem d_Mo_tick_15 : decode cX5_tick 15 = .ok (.aload_n 0, 1) := by decide +kernel
theorem d_Mo_tick_16 : decode cX5_tick 16 = .ok (.getfield 139, 3) := by decide +kernel
theorem d_Mo_tick_19 : decode cX5_tick 19 = .ok (.iload_n 1, 1) := by decide +kernel
theorem d_Mo_tick_20 : decode cX5_tick 20 = .ok (.iadd, 1) := by decide +kernel
theorem d_Mo_tick_21 : decode cX5_tick 21 = .ok (.sipush 20000, 3) := by decide +kernel
theorem d_Mo_tick_24 : decode cX5_tick 24 = .ok (.if_icmp .le 7, 3) := by decide +kernel
theorem d_Mo_tick_27 : decode cX5_tick 27 = .ok (.iconst 2, 1) := by decide +kernel
theorem d_Mo_tick_28 : decode cX5_tick 28 = .ok (.goto 4, 3) := by decide +kernel
theorem d_Mo_tick_31 : decode cX5_tick 31 = .ok (.iconst 0, 1) := by decide +kernel
theorem d_Mo_tick_32 : decode cX5_tick 32 = .ok (.invokevirtual 89, 3) := by decide +kernel
theorem d_Mo_tick_35 : decode cX5_tick 35 = .ok (.ifCond .eq 5, 3) := by decide +kernel
theorem d_Mo_tick_38 : decode cX5_tick 38 = .ok (.iconst 0, 1) := by decide +kernel
theorem d_Mo_tick_39 : decode cX5_tick 39 = .ok (.ireturn, 1) := by decide +kernel
theorem d_Mo_tick_40 : decode cX5_tick 40 = .ok (.iconst 0, 1) := by decide +kernel
theorem d_Mo_tick_41 : decode cX5_tick 41 = .ok (.istore_n 2, 1) := by decide +kernel
theorem d_Mo_tick_42 : decode cX5_tick 42 = .ok (.iload_n 2, 1) := by decide +kernel
theorem d_Mo_tick_43 : decode cX5_tick 43 = .ok (.iload_n 1, 1) := by decide +kernel
theorem d_Mo_tick_44 : decode cX5_tick 44 = .ok (.if_icmp .ge 13, 3) := by decide +kernel
theorem d_Mo_tick_47 : decode cX5_tick 47 = .ok (.aload_n 0, 1) := by decide +kernel
theorem d_Mo_tick_48 : decode cX5_tick 48 = .ok (.invokevirtual 163, 3) := by decide +kernel
theorem d_Mo_tick_51 : decode cX5_tick 51 = .ok (.iinc 2 1, 3) := by decide +kernel
theorem d_Mo_tick_54 : decode cX5_tick 54 = .ok (.goto (-12), 3) := by decide +kernel
theorem d_Mo_tick_57 : decode cX5_tick 57 = .ok (.aload_n 0, 1) := by decide +kernel
theorem d_Mo_tick_58 : decode cX5_tick 58 = .ok (.getfield 139, 3) := by decide +kernel
theorem d_Mo_tick_61 : decode cX5_tick 61 = .ok (.ireturn, 1) := by decide +kernel
set_option maxRecDepth 100000 in
set_option maxHeartbeats 4000000 in
theorem w_b_Mo_tick_42 {X : CX} {KX : MS → Prop} {k : Nat} {a1 : Int32} {a2 : Int32} {s : MS} {rec : Int32 → MS → Option (MS)} {sb : MS} (ok : Ok X cX5_tick RX5 rm_Mo_tick 3 false) (hexit : ∀ (z : MS), KX z → (∀ q, dm sb q → dm z q) → G X z 0 0 57 [(0, vR (some k))] []) (hrec : ∀ (v2 : Int32) (z : MS), (∀ q, dm sb q → dm z q) → ∀ y, rec v2 z = some y → KX y → G X z 0 0 42 [(0, vR (some k)), (1, vI a1), (2, vI v2)] []) (mb : ∀ q, dm sb q → dm s q) (ht : rf s.2.2 20 (some k) = some k) {res : MS} (h : b_Mo_tick_42 k a1 a2 s rec = some res) (hk : KX res) : G X s 0 0 42 [(0, vR (some k)), (1, vI a1), (2, vI a2)] [] := by
  unfold b_Mo_tick_42 at h
  refine g_iload_n (i := 2) 2 ok d_Mo_tick_42 rfl rfl ?_
  refine g_iload_n (i := 1) 1 ok d_Mo_tick_43 rfl rfl ?_
  refine g_icmp_ge (tgt := 57) ok d_Mo_tick_44 (by decide) (fun c10 => ?_) (fun c10 => ?_)
  · replace h := (if_pos c10).symm.trans h
    refine g_aload_n (i := 0) 0 ok d_Mo_tick_47 rfl rfl ?_
    obtain ⟨s13, hc12, h⟩ := bnd_go h
    refine g_invV (rm2 := rm_Mo_step) (As := []) (rest := []) ok ht lay_20 rfl (c_Mo_step X.1.2.1 (rf_self ht) hc12) cm_Mo_step cv_Mo_step tw_959 ⟨rfl, rfl⟩ ⟨le_t rfl, le_t rfl⟩ ⟨rfl, le_t rfl⟩ ⟨le_t rfl, le_t rfl⟩ d_Mo_tick_48 rfl (fun m11 => ?_)
    show G X s13 0 0 51 [(0, vR (some k)), (1, vI a1), (2, vI a2)] []
    obtain ⟨x14, e15⟩ : ∃ z, a2 + (1 : Int32) = z := ⟨_, rfl⟩
    replace h := lt_go h e15
    refine g_iinc (i := 2) (v := x14) 2 [(2, vI x14), (0, vR (some k)), (1, vI a1)] ok d_Mo_tick_51 rfl (by rw [← e15]; rfl) (by decide) rfl ?_
    refine g_goto (tgt := 42) ok d_Mo_tick_54 (by decide) ?_
    refine g_sub [1, 2, 0] rfl ?_
    exact hrec x14 s13 (fun z hz => m11 z (mb z hz)) _ h hk
  · replace h := (if_neg c10).symm.trans h
    refine g_sub [0] rfl ?_
    cases h
    exact hexit s hk mb
theorem wx_l_Mo_tick_42 {X : CX} {KX : MS → Prop} {k : Nat} {a1 : Int32} {sb : MS} (ok : Ok X cX5_tick RX5 rm_Mo_tick 3 false) (hexit : ∀ (z : MS), KX z → (∀ q, dm sb q → dm z q) → G X z 0 0 57 [(0, vR (some k))] []) (htb : rf sb.2.2 20 (some k) = some k) : ∀ (n : Nat) (a2 : Int32) (s : MS), (∀ q, dm sb q → dm s q) → ∀ (res : MS), l_Mo_tick_42 k a1 n a2 s = some res → KX res → G X s 0 0 42 [(0, vR (some k)), (1, vI a1), (2, vI a2)] [] := by
  intro n
  induction n with
  | zero => intro _ s _ res h; cases h
  | succ n ih =>
    intro a2 s mb res h hk
    exact w_b_Mo_tick_42 ok hexit (fun v2 z hz y h2 hk2 => ih v2 z hz y h2 hk2) mb (rf_mono mb htb) h hk
theorem w_l_Mo_tick_42 {X : CX} {KX : MS → Prop} {k : Nat} {a1 : Int32} {sb : MS} (ok : Ok X cX5_tick RX5 rm_Mo_tick 3 false) (hexit : ∀ (z : MS), KX z → (∀ q, dm sb q → dm z q) → G X z 0 0 57 [(0, vR (some k))] []) (mb : ∀ q, dm sb q → dm sb q) (htb : rf sb.2.2 20 (some k) = some k) (n : Nat) (a2 : Int32) {res : MS} (h : l_Mo_tick_42 k a1 n a2 sb = some res) (hk : KX res) : G X sb 0 0 42 [(0, vR (some k)), (1, vI a1), (2, vI a2)] [] := wx_l_Mo_tick_42 ok hexit htb n a2 sb mb res h hk
set_option maxRecDepth 100000 in
set_option maxHeartbeats 4000000 in
theorem w_j_Mo_tick_32 {X : CX} {KX : Int32 × MS → Prop} {k : Nat} {a1 : Int32} {t0 : Int32} {t1 : Option Nat} {s : MS} (ok : Ok X cX5_tick RX5 rm_Mo_tick 3 false) (hret : ∀ r : Int32 × MS, KX r → Fin X (some .int) 0 0 false (some (vI r.1)) r.2) (ht : rf s.2.2 20 (some k) = some k) {res : Int32 × MS} (h : j_Mo_tick_32 k a1 t0 t1 s = some res) (hk : KX res) : G X s 0 0 32 [(0, vR (some k)), (1, vI a1)] [vI t0, vR t1] := by
  unfold j_Mo_tick_32 at h
  obtain ⟨k3, hk4, h⟩ := bnd_go h
  obtain ⟨x8, s7, hc6, h⟩ := bnd2_go h
  refine g_invV (rm2 := rm_Mo_refused) (As := [vI t0]) (rest := []) ok hk4 lay_20 rfl (c_Mo_refused X.1.2.1 (rf_self hk4) hc6) cm_Mo_refused cv_Mo_refused tw_841 ⟨rfl, rfl⟩ ⟨le_t rfl, le_t rfl⟩ ⟨rfl, le_t rfl⟩ ⟨le_t rfl, le_t rfl⟩ d_Mo_tick_32 rfl (fun m5 => ?_)
  show G X s7 0 0 35 [(0, vR (some k)), (1, vI a1)] [vI x8]
  refine g_if_eq (tgt := 40) ok d_Mo_tick_35 (by decide) (fun c9 => ?_) (fun c9 => ?_)
  · replace h := (if_pos c9).symm.trans h
    refine g_iconst (v := (0 : Int32)) ok d_Mo_tick_40 (by decide) ?_
    refine g_istore_n (i := 2) [(2, vI (0 : Int32)), (0, vR (some k)), (1, vI a1)] ok d_Mo_tick_41 rfl (by decide) rfl ?_
    refine g_sub [1, 2, 0] rfl ?_
    obtain ⟨s17, hx, h⟩ := bnd_go h
    refine w_l_Mo_tick_42 (KX := fun y => y = s17) ok (fun y0 he m16 => ?_) (fun _ hz => hz) (rf_mono m5 ht) _ _ hx rfl
    cases he
    refine g_aload_n (i := 0) 0 ok d_Mo_tick_57 rfl rfl ?_
    refine g_geti (s0 := 20) (j := 1) (ci := 5) (C := RX5) (T := TX5) (N := 29) ok (rf_mono m16 (rf_mono m5 ht)) lay_20 rfl inX5 (by decide) rfl tw_739 rfl d_Mo_tick_58 ?_
    cases h
    exact g_iret ok (hret _ hk) (by decide) (by decide) d_Mo_tick_61
  · replace h := (if_neg c9).symm.trans h
    refine g_iconst (v := (0 : Int32)) ok d_Mo_tick_38 (by decide) ?_
    cases h
    exact g_iret ok (hret _ hk) (by decide) (by decide) d_Mo_tick_39
set_option maxRecDepth 100000 in
set_option maxHeartbeats 4000000 in
theorem w_Mo_tick {X : CX} {KX : Int32 × MS → Prop} {k : Nat} {a1 : Int32} {s : MS} (ok : Ok X cX5_tick RX5 rm_Mo_tick 3 false) (hret : ∀ r : Int32 × MS, KX r → Fin X (some .int) 0 0 false (some (vI r.1)) r.2)   (ht : rf s.2.2 20 (some k) = some k) {res : Int32 × MS} (h : f_Mo_tick k a1 s = some res) (hk : KX res) : G X s 0 0 0 [(0, vR (some k)), (1, vI a1)] [] := by
  unfold f_Mo_tick at h
  refine g_aload_n (i := 0) 0 ok d_Mo_tick_0 rfl rfl ?_
  refine g_iload_n (i := 1) 1 ok d_Mo_tick_1 rfl rfl ?_
  refine g_iconst (v := (1 : Int32)) ok d_Mo_tick_2 (by decide) ?_
  refine g_bipush (v := (50 : Int32)) ok d_Mo_tick_3 (by decide) ?_
  refine g_invS (rm2 := rm_Mo_within) (As := [vI a1, vI (1 : Int32), vI (50 : Int32)]) (rest := [vR (some k)]) ok (c_Mo_within X.1.2.1) cm_Mo_within cs_Mo_within tw_838 ⟨rfl, rfl⟩ ⟨le_t rfl, le_t rfl⟩ ⟨rfl, le_t rfl⟩ ⟨le_t rfl, le_t rfl⟩ d_Mo_tick_5 rfl (fun m1 => ?_)
  show G X s 0 0 8 [(0, vR (some k)), (1, vI a1)] [vI (f_Mo_within a1 (1 : Int32) (50 : Int32)), vR (some k)]
  refine g_if_ne (tgt := 15) ok d_Mo_tick_8 (by decide) (fun c2 => ?_) (fun c2 => ?_)
  · replace h := (if_pos c2).symm.trans h
    refine g_iconst (v := (1 : Int32)) ok d_Mo_tick_11 (by decide) ?_
    refine g_goto (tgt := 32) ok d_Mo_tick_12 (by decide) ?_
    exact w_j_Mo_tick_32 ok hret ht h hk
  · replace h := (if_neg c2).symm.trans h
    refine g_aload_n (i := 0) 0 ok d_Mo_tick_15 rfl rfl ?_
    refine g_geti (s0 := 20) (j := 1) (ci := 5) (C := RX5) (T := TX5) (N := 29) ok ht lay_20 rfl inX5 (by decide) rfl tw_739 rfl d_Mo_tick_16 ?_
    refine g_iload_n (i := 1) 1 ok d_Mo_tick_19 rfl rfl ?_
    refine g_iadd ok d_Mo_tick_20 ?_
    refine g_sipush (v := (20000 : Int32)) ok d_Mo_tick_21 (by decide) ?_
    refine g_icmp_le (tgt := 31) ok d_Mo_tick_24 (by decide) (fun c18 => ?_) (fun c18 => ?_)
    · replace h := (if_pos c18).symm.trans h
      refine g_iconst (v := (2 : Int32)) ok d_Mo_tick_27 (by decide) ?_
      refine g_goto (tgt := 32) ok d_Mo_tick_28 (by decide) ?_
      exact w_j_Mo_tick_32 ok hret ht h hk
    · replace h := (if_neg c18).symm.trans h
      refine g_iconst (v := (0 : Int32)) ok d_Mo_tick_31 (by decide) ?_
      exact w_j_Mo_tick_32 ok hret ht h hk
theorem c_Mo_tick (l : Launch) {k : Nat} {a1 : Int32} {s : MS} (ht : rf s.2.2 20 (some k) = some k) {r : Int32} {z : MS} (h : f_Mo_tick k a1 s = some (r, z)) : Ct l yX5_tick (.code yX5_tick cX5_tick 3 (some .int)) rm_Mo_tick 0 0 false [vR (some k), vI a1] s (some (vI r)) z :=
  Ct.of rfl (by decide +kernel) ⟨rfl, le_t rfl⟩ (fun X ok fn _ hI hl => w_Mo_tick (KX := fun y => y = (r, z)) ok (fun y hy => by subst hy; exact fn) ht h rfl)
abbrev rm_Mo_lose : Room := { frames := 3, cells := 0, slots := 0, locals := 64 }
theorem cm_Mo_lose : cfM yX5_lose cX5_lose 3 (some .int) 1 := ⟨tw_985, tw_4, by decide, by decide, by decide +kernel⟩
theorem cv_Mo_lose : cfV yX5_lose := ⟨tw_983, tw_984⟩
theorem d_Mo_lose_0 : decode cX5_lose 0 = .ok (.aload_n 0, 1) := by decide +kernel
theorem d_Mo_lose_1 : decode cX5_lose 1 = .ok (.iload_n 1, 1) := by decide +kernel
theorem d_Mo_lose_2 : decode cX5_lose 2 = .ok (.invokevirtual 123, 3) := by decide +kernel
theorem d_Mo_lose_5 : decode cX5_lose 5 = .ok (.istore_n 2, 1) := by decide +kernel
theorem d_Mo_lose_6 : decode cX5_lose 6 = .ok (.aload_n 0, 1) := by decide +kernel
theorem d_Mo_lose_7 : decode cX5_lose 7 = .ok (.iload_n 2, 1) := by decide +kernel
theorem d_Mo_lose_8 : decode cX5_lose 8 = .ok (.ifCond .ne 7, 3) := by decide +kernel
theorem d_Mo_lose_11 : decode cX5_lose 11 = .ok (.iconst 1, 1) := by decide +kernel
theorem d_Mo_lose_12 : decode cX5_lose 12 = .ok (.goto 29, 3) := by decide +kernel
theorem d_Mo_lose_15 : decode cX5_lose 15 = .ok (.aload_n 0, 1) := by decide +kernel
theorem d_Mo_lose_16 : decode cX5_lose 16 = .ok (.getfield 35, 3) := by decide +kernel
theorem d_Mo_lose_19 : decode cX5_lose 19 = .ok (.iload_n 1, 1) := by decide +kernel
theorem d_Mo_lose_20 : decode cX5_lose 20 = .ok (.iaload, 1) := by decide +kernel
theorem d_Mo_lose_21 : decode cX5_lose 21 = .ok (.iconst 1, 1) := by decide +kernel
theorem d_Mo_lose_22 : decode cX5_lose 22 = .ok (.if_icmp .ne 14, 3) := by decide +kernel
theorem d_Mo_lose_25 : decode cX5_lose 25 = .ok (.aload_n 0, 1) := by decide +kernel
theorem d_Mo_lose_26 : decode cX5_lose 26 = .ok (.getfield 32, 3) := by decide +kernel
theorem d_Mo_lose_29 : decode cX5_lose 29 = .ok (.iload_n 1, 1) := by decide +kernel
theorem d_Mo_lose_30 : decode cX5_lose 30 = .ok (.iaload, 1) := by decide +kernel
theorem d_Mo_lose_31 : decode cX5_lose 31 = .ok (.bipush 100, 2) := by decide +kernel
theorem d_Mo_lose_33 : decode cX5_lose 33 = .ok (.if_icmp .ge 7, 3) := by decide +kernel
theorem d_Mo_lose_36 : decode cX5_lose 36 = .ok (.iconst 2, 1) := by decide +kernel
theorem d_Mo_lose_37 : decode cX5_lose 37 = .ok (.goto 4, 3) := by decide +kernel
theorem d_Mo_lose_40 : decode cX5_lose 40 = .ok (.iconst 0, 1) := by decide +kernel
theorem d_Mo_lose_41 : decode cX5_lose 41 = .ok (.invokevirtual 89, 3) := by decide +kernel
theorem d_Mo_lose_44 : decode cX5_lose 44 = .ok (.ifCond .eq 5, 3) := by decide +kernel
theorem d_Mo_lose_47 : decode cX5_lose 47 = .ok (.iconst 0, 1) := by decide +kernel
theorem d_Mo_lose_48 : decode cX5_lose 48 = .ok (.ireturn, 1) := by decide +kernel
theorem d_Mo_lose_49 : decode cX5_lose 49 = .ok (.aload_n 0, 1) := by decide +kernel
theorem d_Mo_lose_50 : decode cX5_lose 50 = .ok (.getfield 35, 3) := by decide +kernel
theorem d_Mo_lose_53 : decode cX5_lose 53 = .ok (.iload_n 1, 1) := by decide +kernel
theorem d_Mo_lose_54 : decode cX5_lose 54 = .ok (.iconst 2, 1) := by decide +kernel
theorem d_Mo_lose_55 : decode cX5_lose 55 = .ok (.iastore, 1) := by decide +kernel
theorem d_Mo_lose_56 : decode cX5_lose 56 = .ok (.aload_n 0, 1) := by decide +kernel
theorem d_Mo_lose_57 : decode cX5_lose 57 = .ok (.getfield 41, 3) := by decide +kernel
theorem d_Mo_lose_60 : decode cX5_lose 60 = .ok (.iload_n 1, 1) := by decide +kernel
theorem d_Mo_lose_61 : decode cX5_lose 61 = .ok (.aload_n 0, 1) := by decide +kernel
theorem d_Mo_lose_62 : decode cX5_lose 62 = .ok (.aload_n 0, 1) := by decide +kernel
theorem d_Mo_lose_63 : decode cX5_lose 63 = .ok (.getfield 32, 3) := by decide +kernel
theorem d_Mo_lose_66 : decode cX5_lose 66 = .ok (.iload_n 1, 1) := by decide +kernel
theorem d_Mo_lose_67 : decode cX5_lose 67 = .ok (.iaload, 1) := by decide +kernel
theorem d_Mo_lose_68 : decode cX5_lose 68 = .ok (.bipush 100, 2) := by decide +kernel
theorem d_Mo_lose_70 : decode cX5_lose 70 = .ok (.irem, 1) := by decide +kernel
theorem d_Mo_lose_71 : decode cX5_lose 71 = .ok (.invokevirtual 103, 3) := by decide +kernel
theorem d_Mo_lose_74 : decode cX5_lose 74 = .ok (.iastore, 1) := by decide +kernel
theorem d_Mo_lose_75 : decode cX5_lose 75 = .ok (.aload_n 0, 1) := by decide +kernel
theorem d_Mo_lose_76 : decode cX5_lose 76 = .ok (.aload_n 0, 1) := by decide +kernel
theorem d_Mo_lose_77 : decode cX5_lose 77 = .ok (.getfield 38, 3) := by decide +kernel
theorem d_Mo_lose_80 : decode cX5_lose 80 = .ok (.iload_n 1, 1) := by decide +kernel
theorem d_Mo_lose_81 : decode cX5_lose 81 = .ok (.iaload, 1) := by decide +kernel
theorem d_Mo_lose_82 : decode cX5_lose 82 = .ok (.iconst 4, 1) := by decide +kernel
theorem d_Mo_lose_83 : decode cX5_lose 83 = .ok (.invokevirtual 113, 3) := by decide +kernel
theorem d_Mo_lose_86 : decode cX5_lose 86 = .ok (.aload_n 0, 1) := by decide +kernel
theorem d_Mo_lose_87 : decode cX5_lose 87 = .ok (.getfield 41, 3) := by decide +kernel
theorem d_Mo_lose_90 : decode cX5_lose 90 = .ok (.iload_n 1, 1) := by decide +kernel
theorem d_Mo_lose_91 : decode cX5_lose 91 = .ok (.iaload, 1) := by decide +kernel
theorem d_Mo_lose_92 : decode cX5_lose 92 = .ok (.ireturn, 1) := by decide +kernel
set_option maxRecDepth 100000 in
set_option maxHeartbeats 4000000 in
theorem w_j_Mo_lose_41 {X : CX} {KX : Int32 × MS → Prop} {k : Nat} {a1 : Int32} {t0 : Int32} {t1 : Option Nat} {s : MS} (ok : Ok X cX5_lose RX5 rm_Mo_lose 3 false) (hret : ∀ r : Int32 × MS, KX r → Fin X (some .int) 0 0 false (some (vI r.1)) r.2) (ht : rf s.2.2 20 (some k) = some k) {res : Int32 × MS} (h : j_Mo_lose_41 k a1 t0 t1 s = some res) (hk : KX res) : G X s 0 0 41 [(0, vR (some k)), (1, vI a1)] [vI t0, vR t1] := by
  unfold j_Mo_lose_41 at h
  obtain ⟨k5, hk6, h⟩ := bnd_go h
  obtain ⟨x10, s9, hc8, h⟩ := bnd2_go h
  refine g_invV (rm2 := rm_Mo_refused) (As := [vI t0]) (rest := []) ok hk6 lay_20 rfl (c_Mo_refused X.1.2.1 (rf_self hk6) hc8) cm_Mo_refused cv_Mo_refused tw_841 ⟨rfl, rfl⟩ ⟨le_t rfl, le_t rfl⟩ ⟨rfl, le_t rfl⟩ ⟨le_t rfl, le_t rfl⟩ d_Mo_lose_41 rfl (fun m7 => ?_)
  show G X s9 0 0 44 [(0, vR (some k)), (1, vI a1)] [vI x10]
  refine g_if_eq (tgt := 49) ok d_Mo_lose_44 (by decide) (fun c11 => ?_) (fun c11 => ?_)
  · replace h := (if_pos c11).symm.trans h
    refine g_aload_n (i := 0) 0 ok d_Mo_lose_49 rfl rfl ?_
    refine g_getr (s0 := 20) (j := 12) (ci := 5) (C := RX5) (T := TX5) (N := 29) ok (rf_mono m7 ht) lay_20 rfl inX5 (by decide) rfl tw_750 rfl d_Mo_lose_50 ?_
    refine g_iload_n (i := 1) 1 ok d_Mo_lose_53 rfl rfl ?_
    refine g_iconst (v := (2 : Int32)) ok d_Mo_lose_54 (by decide) ?_
    obtain ⟨k12, hk13, h⟩ := bnd_go h
    refine g_iast ok hk13 d_Mo_lose_55 ?_
    obtain ⟨s14, e15⟩ : ∃ z, wi s9 k12 a1.toNatClampNeg (2 : Int32) = z := ⟨_, rfl⟩
    replace h := lt_go h e15
    have m16 := mo_wi e15
    rw [e15]
    refine g_aload_n (i := 0) 0 ok d_Mo_lose_56 rfl rfl ?_
    refine g_getr (s0 := 20) (j := 14) (ci := 5) (C := RX5) (T := TX5) (N := 29) ok (rf_mono m16 (rf_mono m7 ht)) lay_20 rfl inX5 (by decide) rfl tw_752 rfl d_Mo_lose_57 ?_
    refine g_iload_n (i := 1) 1 ok d_Mo_lose_60 rfl rfl ?_
    refine g_aload_n (i := 0) 0 ok d_Mo_lose_61 rfl rfl ?_
    refine g_aload_n (i := 0) 0 ok d_Mo_lose_62 rfl rfl ?_
    refine g_getr (s0 := 20) (j := 11) (ci := 5) (C := RX5) (T := TX5) (N := 29) ok (rf_mono m16 (rf_mono m7 ht)) lay_20 rfl inX5 (by decide) rfl tw_749 rfl d_Mo_lose_63 ?_
    refine g_iload_n (i := 1) 1 ok d_Mo_lose_66 rfl rfl ?_
    obtain ⟨k17, hk18, h⟩ := bnd_go h
    refine g_iald ok hk18 d_Mo_lose_67 ?_
    refine g_bipush (v := (100 : Int32)) ok d_Mo_lose_68 (by decide) ?_
    refine g_irem ok d_Mo_lose_70 (by decide) ?_
    obtain ⟨x20, hc21, h⟩ := bnd_go h
    refine g_invV (rm2 := rm_Mo_nearest) (As := [vI ((s14.1 k17 a1.toNatClampNeg) - (s14.1 k17 a1.toNatClampNeg) / (100 : Int32) * (100 : Int32))]) (rest := [vI a1, vR (s14.2.1 k 14)]) ok (rf_mono m16 (rf_mono m7 ht)) lay_20 rfl (c_Mo_nearest X.1.2.1 (rf_self (rf_mono m16 (rf_mono m7 ht))) hc21) cm_Mo_nearest cv_Mo_nearest tw_925 ⟨rfl, rfl⟩ ⟨le_t rfl, le_t rfl⟩ ⟨rfl, le_t rfl⟩ ⟨le_t rfl, le_t rfl⟩ d_Mo_lose_71 rfl (fun m19 => ?_)
    show G X s14 0 0 74 [(0, vR (some k)), (1, vI a1)] [vI x20, vI a1, vR (s14.2.1 k 14)]
    obtain ⟨k22, hk23, h⟩ := bnd_go h
    refine g_iast ok hk23 d_Mo_lose_74 ?_
    obtain ⟨s24, e25⟩ : ∃ z, wi s14 k22 a1.toNatClampNeg x20 = z := ⟨_, rfl⟩
    replace h := lt_go h e25
    have m26 := mo_wi e25
    rw [e25]
    refine g_aload_n (i := 0) 0 ok d_Mo_lose_75 rfl rfl ?_
    refine g_aload_n (i := 0) 0 ok d_Mo_lose_76 rfl rfl ?_
    refine g_getr (s0 := 20) (j := 13) (ci := 5) (C := RX5) (T := TX5) (N := 29) ok (rf_mono m26 (rf_mono m16 (rf_mono m7 ht))) lay_20 rfl inX5 (by decide) rfl tw_751 rfl d_Mo_lose_77 ?_
    refine g_iload_n (i := 1) 1 ok d_Mo_lose_80 rfl rfl ?_
    obtain ⟨k27, hk28, h⟩ := bnd_go h
    refine g_iald ok hk28 d_Mo_lose_81 ?_
    refine g_iconst (v := (4 : Int32)) ok d_Mo_lose_82 (by decide) ?_
    obtain ⟨s31, hc30, h⟩ := bnd_go h
    refine g_invV (rm2 := rm_Mo_takeBack) (As := [vI (s24.1 k27 a1.toNatClampNeg), vI (4 : Int32)]) (rest := []) ok (rf_mono m26 (rf_mono m16 (rf_mono m7 ht))) lay_20 rfl (c_Mo_takeBack X.1.2.1 (rf_self (rf_mono m26 (rf_mono m16 (rf_mono m7 ht)))) hc30) cm_Mo_takeBack cv_Mo_takeBack tw_866 ⟨rfl, rfl⟩ ⟨le_t rfl, le_t rfl⟩ ⟨rfl, le_t rfl⟩ ⟨le_t rfl, le_t rfl⟩ d_Mo_lose_83 rfl (fun m29 => ?_)
    show G X s31 0 0 86 [(0, vR (some k)), (1, vI a1)] []
    refine g_aload_n (i := 0) 0 ok d_Mo_lose_86 rfl rfl ?_
    refine g_getr (s0 := 20) (j := 14) (ci := 5) (C := RX5) (T := TX5) (N := 29) ok (rf_mono m29 (rf_mono m26 (rf_mono m16 (rf_mono m7 ht)))) lay_20 rfl inX5 (by decide) rfl tw_752 rfl d_Mo_lose_87 ?_
    refine g_iload_n (i := 1) 1 ok d_Mo_lose_90 rfl rfl ?_
    obtain ⟨k32, hk33, h⟩ := bnd_go h
    refine g_iald ok hk33 d_Mo_lose_91 ?_
    cases h
    exact g_iret ok (hret _ hk) (by decide) (by decide) d_Mo_lose_92
  · replace h := (if_neg c11).symm.trans h
    refine g_iconst (v := (0 : Int32)) ok d_Mo_lose_47 (by decide) ?_
    cases h
    exact g_iret ok (hret _ hk) (by decide) (by decide) d_Mo_lose_48
set_option maxRecDepth 100000 in
set_option maxHeartbeats 4000000 in
theorem w_j_Mo_lose_36 {X : CX} {KX : Int32 × MS → Prop} {k : Nat} {a1 : Int32} {t0 : Option Nat} {s : MS} (ok : Ok X cX5_lose RX5 rm_Mo_lose 3 false) (hret : ∀ r : Int32 × MS, KX r → Fin X (some .int) 0 0 false (some (vI r.1)) r.2) (ht : rf s.2.2 20 (some k) = some k) {res : Int32 × MS} (h : j_Mo_lose_36 k a1 t0 s = some res) (hk : KX res) : G X s 0 0 36 [(0, vR (some k)), (1, vI a1)] [vR t0] := by
  unfold j_Mo_lose_36 at h
  refine g_iconst (v := (2 : Int32)) ok d_Mo_lose_36 (by decide) ?_
  refine g_goto (tgt := 41) ok d_Mo_lose_37 (by decide) ?_
  exact w_j_Mo_lose_41 ok hret ht h hk
set_option maxRecDepth 100000 in
set_option maxHeartbeats 4000000 in
theorem w_Mo_lose {X : CX} {KX : Int32 × MS → Prop} {k : Nat} {a1 : Int32} {s : MS} (ok : Ok X cX5_lose RX5 rm_Mo_lose 3 false) (hret : ∀ r : Int32 × MS, KX r → Fin X (some .int) 0 0 false (some (vI r.1)) r.2)   (ht : rf s.2.2 20 (some k) = some k) {res : Int32 × MS} (h : f_Mo_lose k a1 s = some res) (hk : KX res) : G X s 0 0 0 [(0, vR (some k)), (1, vI a1)] [] := by
  unfold f_Mo_lose at h
  refine g_aload_n (i := 0) 0 ok d_Mo_lose_0 rfl rfl ?_
  refine g_iload_n (i := 1) 1 ok d_Mo_lose_1 rfl rfl ?_
  obtain ⟨x2, hc3, h⟩ := bnd_go h
  refine g_invV (rm2 := rm_Mo_isMachine) (As := [vI a1]) (rest := []) ok ht lay_20 rfl (c_Mo_isMachine X.1.2.1 (rf_self ht) hc3) cm_Mo_isMachine cv_Mo_isMachine tw_890 ⟨rfl, rfl⟩ ⟨le_t rfl, le_t rfl⟩ ⟨rfl, le_t rfl⟩ ⟨le_t rfl, le_t rfl⟩ d_Mo_lose_2 rfl (fun m1 => ?_)
  show G X s 0 0 5 [(0, vR (some k)), (1, vI a1)] [vI x2]
  refine g_istore_n (i := 2) [(2, vI x2), (0, vR (some k)), (1, vI a1)] ok d_Mo_lose_5 rfl (by decide) rfl ?_
  refine g_aload_n (i := 0) 1 ok d_Mo_lose_6 rfl rfl ?_
  refine g_iload_n (i := 2) 0 ok d_Mo_lose_7 rfl rfl ?_
  refine g_if_ne (tgt := 15) ok d_Mo_lose_8 (by decide) (fun c4 => ?_) (fun c4 => ?_)
  · replace h := (if_pos c4).symm.trans h
    refine g_iconst (v := (1 : Int32)) ok d_Mo_lose_11 (by decide) ?_
    refine g_goto (tgt := 41) ok d_Mo_lose_12 (by decide) ?_
    refine g_sub [1, 2] rfl ?_
    exact w_j_Mo_lose_41 ok hret ht h hk
  · replace h := (if_neg c4).symm.trans h
    refine g_aload_n (i := 0) 1 ok d_Mo_lose_15 rfl rfl ?_
    refine g_getr (s0 := 20) (j := 12) (ci := 5) (C := RX5) (T := TX5) (N := 29) ok ht lay_20 rfl inX5 (by decide) rfl tw_750 rfl d_Mo_lose_16 ?_
    refine g_iload_n (i := 1) 2 ok d_Mo_lose_19 rfl rfl ?_
    obtain ⟨k34, hk35, h⟩ := bnd_go h
    refine g_iald ok hk35 d_Mo_lose_20 ?_
    refine g_iconst (v := (1 : Int32)) ok d_Mo_lose_21 (by decide) ?_
    refine g_icmp_ne (tgt := 36) ok d_Mo_lose_22 (by decide) (fun c36 => ?_) (fun c36 => ?_)
    · replace h := (if_pos c36).symm.trans h
      refine g_aload_n (i := 0) 1 ok d_Mo_lose_25 rfl rfl ?_
      refine g_getr (s0 := 20) (j := 11) (ci := 5) (C := RX5) (T := TX5) (N := 29) ok ht lay_20 rfl inX5 (by decide) rfl tw_749 rfl d_Mo_lose_26 ?_
      refine g_iload_n (i := 1) 2 ok d_Mo_lose_29 rfl rfl ?_
      obtain ⟨k37, hk38, h⟩ := bnd_go h
      refine g_iald ok hk38 d_Mo_lose_30 ?_
      refine g_bipush (v := (100 : Int32)) ok d_Mo_lose_31 (by decide) ?_
      refine g_icmp_ge (tgt := 40) ok d_Mo_lose_33 (by decide) (fun c39 => ?_) (fun c39 => ?_)
      · replace h := (if_pos c39).symm.trans h
        refine g_sub [1, 2] rfl ?_
        exact w_j_Mo_lose_36 ok hret ht h hk
      · replace h := (if_neg c39).symm.trans h
        refine g_iconst (v := (0 : Int32)) ok d_Mo_lose_40 (by decide) ?_
        refine g_sub [1, 2] rfl ?_
        exact w_j_Mo_lose_41 ok hret ht h hk
    · replace h := (if_neg c36).symm.trans h
      refine g_sub [1, 2] rfl ?_
      exact w_j_Mo_lose_36 ok hret ht h hk
theorem c_Mo_lose (l : Launch) {k : Nat} {a1 : Int32} {s : MS} (ht : rf s.2.2 20 (some k) = some k) {r : Int32} {z : MS} (h : f_Mo_lose k a1 s = some (r, z)) : Ct l yX5_lose (.code yX5_lose cX5_lose 3 (some .int)) rm_Mo_lose 0 0 false [vR (some k), vI a1] s (some (vI r)) z :=
  Ct.of rfl (by decide +kernel) ⟨rfl, le_t rfl⟩ (fun X ok fn _ hI hl => w_Mo_lose (KX := fun y => y = (r, z)) ok (fun y hy => by subst hy; exact fn) ht h rfl)
abbrev rm_Mo_canHold : Room := { frames := 5, cells := 0, slots := 0, locals := 112 }
theorem cm_Mo_canHold : cfM yX5_canHold cX5_canHold 8 (some .boolean) 4 := ⟨tw_993, tw_4, by decide, by decide, by decide +kernel⟩
theorem cv_Mo_canHold : cfV yX5_canHold := ⟨tw_992, ts_X5_canHold⟩
theorem d_Mo_canHold_0 : decode cX5_canHold 0 = .ok (.aload_n 0, 1) := by decide +kernel
theorem d_Mo_canHold_1 : decode cX5_canHold 1 = .ok (.sipush 3240, 3) := by decide +kernel
theorem d_Mo_canHold_4 : decode cX5_canHold 4 = .ok (.iload_n 3, 1) := by decide +kernel
theorem d_Mo_canHold_5 : decode cX5_canHold 5 = .ok (.iload 4, 2) := by decide +kernel
theorem d_Mo_canHold_7 : decode cX5_canHold 7 = .ok (.aload_n 0, 1) := by decide +kernel
theorem d_Mo_canHold_8 : decode cX5_canHold 8 = .ok (.getfield 29, 3) := by decide +kernel
theorem d_Mo_canHold_11 : decode cX5_canHold 11 = .ok (.iload_n 1, 1) := by decide +kernel
theorem d_Mo_canHold_12 : decode cX5_canHold 12 = .ok (.iaload, 1) := by decide +kernel
theorem d_Mo_canHold_13 : decode cX5_canHold 13 = .ok (.invokevirtual 142, 3) := by decide +kernel
theorem d_Mo_canHold_16 : decode cX5_canHold 16 = .ok (.iconst (-1), 1) := by decide +kernel
theorem d_Mo_canHold_17 : decode cX5_canHold 17 = .ok (.if_icmp .ne 7, 3) := by decide +kernel
theorem d_Mo_canHold_20 : decode cX5_canHold 20 = .ok (.iconst 1, 1) := by decide +kernel
theorem d_Mo_canHold_21 : decode cX5_canHold 21 = .ok (.goto 4, 3) := by decide +kernel
theorem d_Mo_canHold_24 : decode cX5_canHold 24 = .ok (.iconst 0, 1) := by decide +kernel
theorem d_Mo_canHold_25 : decode cX5_canHold 25 = .ok (.istore 5, 2) := by decide +kernel
theorem d_Mo_canHold_27 : decode cX5_canHold 27 = .ok (.iconst 0, 1) := by decide +kernel
theorem d_Mo_canHold_28 : decode cX5_canHold 28 = .ok (.istore 6, 2) := by decide +kernel
theorem d_Mo_canHold_30 : decode cX5_canHold 30 = .ok (.iload 6, 2) := by decide +kernel
theorem d_Mo_canHold_32 : decode cX5_canHold 32 = .ok (.aload_n 0, 1) := by decide +kernel
theorem d_Mo_canHold_33 : decode cX5_canHold 33 = .ok (.getfield 106, 3) := by decide +kernel
theorem d_Mo_canHold_36 : decode cX5_canHold 36 = .ok (.if_icmp .ge 68, 3) := by decide +kernel
theorem d_Mo_canHold_39 : decode cX5_canHold 39 = .ok (.iload_n 3, 1) := by decide +kernel
theorem d_Mo_canHold_40 : decode cX5_canHold 40 = .ok (.iconst 1, 1) := by decide +kernel
theorem d_Mo_canHold_41 : decode cX5_canHold 41 = .ok (.iadd, 1) := by decide +kernel
theorem d_Mo_canHold_42 : decode cX5_canHold 42 = .ok (.istore 7, 2) := by decide +kernel
theorem d_Mo_canHold_44 : decode cX5_canHold 44 = .ok (.iload 7, 2) := by decide +kernel
theorem d_Mo_canHold_46 : decode cX5_canHold 46 = .ok (.iload 4, 2) := by decide +kernel
theorem d_Mo_canHold_48 : decode cX5_canHold 48 = .ok (.if_icmp .gt 50, 3) := by decide +kernel
theorem d_Mo_canHold_51 : decode cX5_canHold 51 = .ok (.iload 5, 2) := by decide +kernel
theorem d_Mo_canHold_53 : decode cX5_canHold 53 = .ok (.ifCond .eq 36, 3) := by decide +kernel
theorem d_Mo_canHold_56 : decode cX5_canHold 56 = .ok (.aload_n 0, 1) := by decide +kernel
theorem d_Mo_canHold_57 : decode cX5_canHold 57 = .ok (.iload 6, 2) := by decide +kernel
theorem d_Mo_canHold_59 : decode cX5_canHold 59 = .ok (.aload_n 0, 1) := by decide +kernel
theorem d_Mo_canHold_60 : decode cX5_canHold 60 = .ok (.getfield 62, 3) := by decide +kernel
theorem d_Mo_canHold_63 : decode cX5_canHold 63 = .ok (.sipush 3240, 3) := by decide +kernel
theorem d_Mo_canHold_66 : decode cX5_canHold 66 = .ok (.iload 7, 2) := by decide +kernel
theorem d_Mo_canHold_68 : decode cX5_canHold 68 = .ok (.iadd, 1) := by decide +kernel
theorem d_Mo_canHold_69 : decode cX5_canHold 69 = .ok (.iaload, 1) := by decide +kernel
theorem d_Mo_canHold_70 : decode cX5_canHold 70 = .ok (.aload_n 0, 1) := by decide +kernel
theorem d_Mo_canHold_71 : decode cX5_canHold 71 = .ok (.getfield 50, 3) := by decide +kernel
theorem d_Mo_canHold_74 : decode cX5_canHold 74 = .ok (.iload_n 2, 1) := by decide +kernel
theorem d_Mo_canHold_75 : decode cX5_canHold 75 = .ok (.iaload, 1) := by decide +kernel
theorem d_Mo_canHold_76 : decode cX5_canHold 76 = .ok (.iload 7, 2) := by decide +kernel
theorem d_Mo_canHold_78 : decode cX5_canHold 78 = .ok (.iadd, 1) := by decide +kernel
theorem d_Mo_canHold_79 : decode cX5_canHold 79 = .ok (.invokevirtual 109, 3) := by decide +kernel
theorem d_Mo_canHold_82 : decode cX5_canHold 82 = .ok (.ifCond .ne 7, 3) := by decide +kernel
theorem d_Mo_canHold_85 : decode cX5_canHold 85 = .ok (.iconst 1, 1) := by decide +kernel
theorem d_Mo_canHold_86 : decode cX5_canHold 86 = .ok (.goto 4, 3) := by decide +kernel
theorem d_Mo_canHold_89 : decode cX5_canHold 89 = .ok (.iconst 0, 1) := by decide +kernel
theorem d_Mo_canHold_90 : decode cX5_canHold 90 = .ok (.istore 5, 2) := by decide +kernel
theorem d_Mo_canHold_92 : decode cX5_canHold 92 = .ok (.iinc 7 1, 3) := by decide +kernel
theorem d_Mo_canHold_95 : decode cX5_canHold 95 = .ok (.goto (-51), 3) := by decide +kernel
theorem d_Mo_canHold_98 : decode cX5_canHold 98 = .ok (.iinc 6 1, 3) := by decide +kernel
theorem d_Mo_canHold_101 : decode cX5_canHold 101 = .ok (.goto (-71), 3) := by decide +kernel
theorem d_Mo_canHold_104 : decode cX5_canHold 104 = .ok (.iconst 0, 1) := by decide +kernel
theorem d_Mo_canHold_105 : decode cX5_canHold 105 = .ok (.istore 6, 2) := by decide +kernel
theorem d_Mo_canHold_107 : decode cX5_canHold 107 = .ok (.iload 6, 2) := by decide +kernel
theorem d_Mo_canHold_109 : decode cX5_canHold 109 = .ok (.aload_n 0, 1) := by decide +kernel
theorem d_Mo_canHold_110 : decode cX5_canHold 110 = .ok (.getfield 82, 3) := by decide +kernel
theorem d_Mo_canHold_113 : decode cX5_canHold 113 = .ok (.if_icmp .ge 84, 3) := by decide +kernel
theorem d_Mo_canHold_116 : decode cX5_canHold 116 = .ok (.iload 6, 2) := by decide +kernel
theorem d_Mo_canHold_118 : decode cX5_canHold 118 = .ok (.iload_n 2, 1) := by decide +kernel
theorem d_Mo_canHold_119 : decode cX5_canHold 119 = .ok (.if_icmp .eq 28, 3) := by decide +kernel
theorem d_Mo_canHold_122 : decode cX5_canHold 122 = .ok (.aload_n 0, 1) := by decide +kernel
theorem d_Mo_canHold_123 : decode cX5_canHold 123 = .ok (.getfield 59, 3) := by decide +kernel
theorem d_Mo_canHold_126 : decode cX5_canHold 126 = .ok (.iload 6, 2) := by decide +kernel
theorem d_Mo_canHold_128 : decode cX5_canHold 128 = .ok (.iaload, 1) := by decide +kernel
theorem d_Mo_canHold_129 : decode cX5_canHold 129 = .ok (.iconst 1, 1) := by decide +kernel
theorem d_Mo_canHold_130 : decode cX5_canHold 130 = .ok (.if_icmp .eq 13, 3) := by decide +kernel
theorem d_Mo_canHold_133 : decode cX5_canHold 133 = .ok (.aload_n 0, 1) := by decide +kernel
theorem d_Mo_canHold_134 : decode cX5_canHold 134 = .ok (.getfield 59, 3) := by decide +kernel
theorem d_Mo_canHold_137 : decode cX5_canHold 137 = .ok (.iload 6, 2) := by decide +kernel
theorem d_Mo_canHold_139 : decode cX5_canHold 139 = .ok (.iaload, 1) := by decide +kernel
theorem d_Mo_canHold_140 : decode cX5_canHold 140 = .ok (.ifCond .ne 7, 3) := by decide +kernel
theorem d_Mo_canHold_143 : decode cX5_canHold 143 = .ok (.iconst 1, 1) := by decide +kernel
theorem d_Mo_canHold_144 : decode cX5_canHold 144 = .ok (.goto 4, 3) := by decide +kernel
theorem d_Mo_canHold_147 : decode cX5_canHold 147 = .ok (.iconst 0, 1) := by decide +kernel
theorem d_Mo_canHold_148 : decode cX5_canHold 148 = .ok (.istore 7, 2) := by decide +kernel
theorem d_Mo_canHold_150 : decode cX5_canHold 150 = .ok (.iload 5, 2) := by decide +kernel
theorem d_Mo_canHold_152 : decode cX5_canHold 152 = .ok (.ifCond .eq 36, 3) := by decide +kernel
theorem d_Mo_canHold_155 : decode cX5_canHold 155 = .ok (.iload 7, 2) := by decide +kernel
theorem d_Mo_canHold_157 : decode cX5_canHold 157 = .ok (.ifCond .eq 27, 3) := by decide +kernel
theorem d_Mo_canHold_160 : decode cX5_canHold 160 = .ok (.aload_n 0, 1) := by decide +kernel
theorem d_Mo_canHold_161 : decode cX5_canHold 161 = .ok (.sipush 3240, 3) := by decide +kernel
theorem d_Mo_canHold_164 : decode cX5_canHold 164 = .ok (.aload_n 0, 1) := by decide +kernel
theorem d_Mo_canHold_165 : decode cX5_canHold 165 = .ok (.getfield 50, 3) := by decide +kernel
theorem d_Mo_canHold_168 : decode cX5_canHold 168 = .ok (.iload_n 2, 1) := by decide +kernel
theorem d_Mo_canHold_169 : decode cX5_canHold 169 = .ok (.iaload, 1) := by decide +kernel
theorem d_Mo_canHold_170 : decode cX5_canHold 170 = .ok (.iload 4, 2) := by decide +kernel
theorem d_Mo_canHold_172 : decode cX5_canHold 172 = .ok (.iload 6, 2) := by decide +kernel
theorem d_Mo_canHold_174 : decode cX5_canHold 174 = .ok (.aload_n 0, 1) := by decide +kernel
theorem d_Mo_canHold_175 : decode cX5_canHold 175 = .ok (.getfield 139, 3) := by decide +kernel
theorem d_Mo_canHold_178 : decode cX5_canHold 178 = .ok (.invokevirtual 149, 3) := by decide +kernel
theorem d_Mo_canHold_181 : decode cX5_canHold 181 = .ok (.ifCond .ne 7, 3) := by decide +kernel
theorem d_Mo_canHold_184 : decode cX5_canHold 184 = .ok (.iconst 1, 1) := by decide +kernel
theorem d_Mo_canHold_185 : decode cX5_canHold 185 = .ok (.goto 4, 3) := by decide +kernel
theorem d_Mo_canHold_188 : decode cX5_canHold 188 = .ok (.iconst 0, 1) := by decide +kernel
theorem d_Mo_canHold_189 : decode cX5_canHold 189 = .ok (.istore 5, 2) := by decide +kernel
theorem d_Mo_canHold_191 : decode cX5_canHold 191 = .ok (.iinc 6 1, 3) := by decide +kernel
theorem d_Mo_canHold_194 : decode cX5_canHold 194 = .ok (.goto (-87), 3) := by decide +kernel
theorem d_Mo_canHold_197 : decode cX5_canHold 197 = .ok (.iload 5, 2) := by decide +kernel
theorem d_Mo_canHold_199 : decode cX5_canHold 199 = .ok (.ireturn, 1) := by decide +kernel
set_option maxRecDepth 100000 in
set_option maxHeartbeats 4000000 in
theorem w_b_Mo_canHold_44 {X : CX} {KX : Int32 → Prop} {k : Nat} {a2 : Int32} {a3 : Int32} {a4 : Int32} {a5 : Int32} {a6 : Int32} {a7 : Int32} {s : MS} {rec : Int32 → Int32 → Option (Int32)} (ok : Ok X cX5_canHold RX5 rm_Mo_canHold 8 false) (hexit : ∀ (e5 : Int32), KX e5 → G X s 0 0 98 [(0, vR (some k)), (2, vI a2), (3, vI a3), (4, vI a4), (5, vI e5), (6, vI a6)] []) (hrec : ∀ (v5 : Int32) (v7 : Int32), ∀ y, rec v5 v7 = some y → KX y → G X s 0 0 44 [(0, vR (some k)), (2, vI a2), (3, vI a3), (4, vI a4), (5, vI v5), (6, vI a6), (7, vI v7)] []) (ht : rf s.2.2 20 (some k) = some k) {res : Int32} (h : b_Mo_canHold_44 k a2 a3 a4 a5 a6 a7 s rec = some res) (hk : KX res) : G X s 0 0 44 [(0, vR (some k)), (2, vI a2), (3, vI a3), (4, vI a4), (5, vI a5), (6, vI a6), (7, vI a7)] [] := by
  unfold b_Mo_canHold_44 at h
  refine g_iload (i := 7) 6 ok d_Mo_canHold_44 rfl ?_
  refine g_iload (i := 4) 3 ok d_Mo_canHold_46 rfl ?_
  refine g_icmp_gt (tgt := 98) ok d_Mo_canHold_48 (by decide) (fun c10 => ?_) (fun c10 => ?_)
  · replace h := (if_pos c10).symm.trans h
    refine g_sub [0, 1, 2, 3, 4, 5] rfl ?_
    cases h
    exact hexit a5 hk
  · replace h := (if_neg c10).symm.trans h
    refine g_iload (i := 5) 4 ok d_Mo_canHold_51 rfl ?_
    refine g_if_eq (tgt := 89) ok d_Mo_canHold_53 (by decide) (fun c11 => ?_) (fun c11 => ?_)
    · replace h := (if_pos c11).symm.trans h
      refine g_iconst (v := (0 : Int32)) ok d_Mo_canHold_89 (by decide) ?_
      refine g_istore (i := 5) [(5, vI (0 : Int32)), (0, vR (some k)), (2, vI a2), (3, vI a3), (4, vI a4), (6, vI a6), (7, vI a7)] ok d_Mo_canHold_90 (by decide) rfl ?_
      obtain ⟨x12, e13⟩ : ∃ z, a7 + (1 : Int32) = z := ⟨_, rfl⟩
      replace h := lt_go h e13
      refine g_iinc (i := 7) (v := x12) 6 [(7, vI x12), (5, vI (0 : Int32)), (0, vR (some k)), (2, vI a2), (3, vI a3), (4, vI a4), (6, vI a6)] ok d_Mo_canHold_92 rfl (by rw [← e13]; rfl) (by decide) rfl ?_
      refine g_goto (tgt := 44) ok d_Mo_canHold_95 (by decide) ?_
      refine g_sub [2, 3, 4, 5, 1, 6, 0] rfl ?_
      exact hrec (0 : Int32) x12 _ h hk
    · replace h := (if_neg c11).symm.trans h
      refine g_aload_n (i := 0) 0 ok d_Mo_canHold_56 rfl rfl ?_
      refine g_iload (i := 6) 5 ok d_Mo_canHold_57 rfl ?_
      refine g_aload_n (i := 0) 0 ok d_Mo_canHold_59 rfl rfl ?_
      refine g_getr (s0 := 20) (j := 23) (ci := 5) (C := RX5) (T := TX5) (N := 29) ok ht lay_20 rfl inX5 (by decide) rfl tw_761 rfl d_Mo_canHold_60 ?_
      refine g_sipush (v := (3240 : Int32)) ok d_Mo_canHold_63 (by decide) ?_
      refine g_iload (i := 7) 6 ok d_Mo_canHold_66 rfl ?_
      refine g_iadd ok d_Mo_canHold_68 ?_
      obtain ⟨k14, hk15, h⟩ := bnd_go h
      refine g_iald ok hk15 d_Mo_canHold_69 ?_
      refine g_aload_n (i := 0) 0 ok d_Mo_canHold_70 rfl rfl ?_
      refine g_getr (s0 := 20) (j := 19) (ci := 5) (C := RX5) (T := TX5) (N := 29) ok ht lay_20 rfl inX5 (by decide) rfl tw_757 rfl d_Mo_canHold_71 ?_
      refine g_iload_n (i := 2) 1 ok d_Mo_canHold_74 rfl rfl ?_
      obtain ⟨k16, hk17, h⟩ := bnd_go h
      refine g_iald ok hk17 d_Mo_canHold_75 ?_
      refine g_iload (i := 7) 6 ok d_Mo_canHold_76 rfl ?_
      refine g_iadd ok d_Mo_canHold_78 ?_
      obtain ⟨x19, hc20, h⟩ := bnd_go h
      refine g_invV (rm2 := rm_Mo_isIn) (As := [vI a6, vI (s.1 k14 ((3240 : Int32) + a7).toNatClampNeg), vI ((s.1 k16 a2.toNatClampNeg) + a7)]) (rest := []) ok ht lay_20 rfl (c_Mo_isIn X.1.2.1 (rf_self ht) hc20) cm_Mo_isIn cv_Mo_isIn tw_862 ⟨rfl, rfl⟩ ⟨le_t rfl, le_t rfl⟩ ⟨rfl, le_t rfl⟩ ⟨le_t rfl, le_t rfl⟩ d_Mo_canHold_79 rfl (fun m18 => ?_)
      show G X s 0 0 82 [(0, vR (some k)), (2, vI a2), (3, vI a3), (4, vI a4), (5, vI a5), (6, vI a6), (7, vI a7)] [vI x19]
      refine g_if_ne (tgt := 89) ok d_Mo_canHold_82 (by decide) (fun c21 => ?_) (fun c21 => ?_)
      · replace h := (if_pos c21).symm.trans h
        refine g_iconst (v := (1 : Int32)) ok d_Mo_canHold_85 (by decide) ?_
        refine g_goto (tgt := 90) ok d_Mo_canHold_86 (by decide) ?_
        refine g_istore (i := 5) [(5, vI (1 : Int32)), (0, vR (some k)), (2, vI a2), (3, vI a3), (4, vI a4), (6, vI a6), (7, vI a7)] ok d_Mo_canHold_90 (by decide) rfl ?_
        obtain ⟨x22, e23⟩ : ∃ z, a7 + (1 : Int32) = z := ⟨_, rfl⟩
        replace h := lt_go h e23
        refine g_iinc (i := 7) (v := x22) 6 [(7, vI x22), (5, vI (1 : Int32)), (0, vR (some k)), (2, vI a2), (3, vI a3), (4, vI a4), (6, vI a6)] ok d_Mo_canHold_92 rfl (by rw [← e23]; rfl) (by decide) rfl ?_
        refine g_goto (tgt := 44) ok d_Mo_canHold_95 (by decide) ?_
        refine g_sub [2, 3, 4, 5, 1, 6, 0] rfl ?_
        exact hrec (1 : Int32) x22 _ h hk
      · replace h := (if_neg c21).symm.trans h
        refine g_iconst (v := (0 : Int32)) ok d_Mo_canHold_89 (by decide) ?_
        refine g_istore (i := 5) [(5, vI (0 : Int32)), (0, vR (some k)), (2, vI a2), (3, vI a3), (4, vI a4), (6, vI a6), (7, vI a7)] ok d_Mo_canHold_90 (by decide) rfl ?_
        obtain ⟨x24, e25⟩ : ∃ z, a7 + (1 : Int32) = z := ⟨_, rfl⟩
        replace h := lt_go h e25
        refine g_iinc (i := 7) (v := x24) 6 [(7, vI x24), (5, vI (0 : Int32)), (0, vR (some k)), (2, vI a2), (3, vI a3), (4, vI a4), (6, vI a6)] ok d_Mo_canHold_92 rfl (by rw [← e25]; rfl) (by decide) rfl ?_
        refine g_goto (tgt := 44) ok d_Mo_canHold_95 (by decide) ?_
        refine g_sub [2, 3, 4, 5, 1, 6, 0] rfl ?_
        exact hrec (0 : Int32) x24 _ h hk
theorem w_l_Mo_canHold_44 {X : CX} {KX : Int32 → Prop} {k : Nat} {a2 : Int32} {a3 : Int32} {a4 : Int32} {a6 : Int32} {s : MS} (ok : Ok X cX5_canHold RX5 rm_Mo_canHold 8 false) (hexit : ∀ (e5 : Int32), KX e5 → G X s 0 0 98 [(0, vR (some k)), (2, vI a2), (3, vI a3), (4, vI a4), (5, vI e5), (6, vI a6)] []) (ht : rf s.2.2 20 (some k) = some k) : ∀ (n : Nat) (a5 : Int32) (a7 : Int32) {res : Int32}, l_Mo_canHold_44 k a2 a3 a4 a6 s n a5 a7 = some res → KX res → G X s 0 0 44 [(0, vR (some k)), (2, vI a2), (3, vI a3), (4, vI a4), (5, vI a5), (6, vI a6), (7, vI a7)] [] := by
  intro n
  induction n with
  | zero => intro _ _ res h; cases h
  | succ n ih =>
    intro a5 a7 res h hk
    exact w_b_Mo_canHold_44 ok hexit (fun v5 v7 y h2 hk2 => ih v5 v7 h2 hk2) ht h hk
set_option maxRecDepth 100000 in
set_option maxHeartbeats 4000000 in
theorem w_b_Mo_canHold_30 {X : CX} {KX : Int32 → Prop} {k : Nat} {a2 : Int32} {a3 : Int32} {a4 : Int32} {a5 : Int32} {a6 : Int32} {s : MS} {rec : Int32 → Int32 → Option (Int32)} (ok : Ok X cX5_canHold RX5 rm_Mo_canHold 8 false) (hexit : ∀ (e5 : Int32), KX e5 → G X s 0 0 104 [(0, vR (some k)), (2, vI a2), (4, vI a4), (5, vI e5)] []) (hrec : ∀ (v5 : Int32) (v6 : Int32), ∀ y, rec v5 v6 = some y → KX y → G X s 0 0 30 [(0, vR (some k)), (2, vI a2), (3, vI a3), (4, vI a4), (5, vI v5), (6, vI v6)] []) (ht : rf s.2.2 20 (some k) = some k) {res : Int32} (h : b_Mo_canHold_30 k a2 a3 a4 a5 a6 s rec = some res) (hk : KX res) : G X s 0 0 30 [(0, vR (some k)), (2, vI a2), (3, vI a3), (4, vI a4), (5, vI a5), (6, vI a6)] [] := by
  unfold b_Mo_canHold_30 at h
  refine g_iload (i := 6) 5 ok d_Mo_canHold_30 rfl ?_
  refine g_aload_n (i := 0) 0 ok d_Mo_canHold_32 rfl rfl ?_
  refine g_geti (s0 := 20) (j := 24) (ci := 5) (C := RX5) (T := TX5) (N := 29) ok ht lay_20 rfl inX5 (by decide) rfl tw_762 rfl d_Mo_canHold_33 ?_
  refine g_icmp_ge (tgt := 104) ok d_Mo_canHold_36 (by decide) (fun c7 => ?_) (fun c7 => ?_)
  · replace h := (if_pos c7).symm.trans h
    refine g_iload_n (i := 3) 2 ok d_Mo_canHold_39 rfl rfl ?_
    refine g_iconst (v := (1 : Int32)) ok d_Mo_canHold_40 (by decide) ?_
    refine g_iadd ok d_Mo_canHold_41 ?_
    obtain ⟨x8, e9⟩ : ∃ z, (a3 + (1 : Int32)) = z := ⟨_, rfl⟩
    replace h := lt_go h e9
    rw [e9]
    refine g_istore (i := 7) [(7, vI x8), (0, vR (some k)), (2, vI a2), (3, vI a3), (4, vI a4), (5, vI a5), (6, vI a6)] ok d_Mo_canHold_42 (by decide) rfl ?_
    refine g_sub [1, 2, 3, 4, 5, 6, 0] rfl ?_
    obtain ⟨e26, hx, h⟩ := bnd_go h
    refine w_l_Mo_canHold_44 (KX := fun y => y = e26) ok (fun y0 he => ?_) ht _ _ _ hx rfl
    cases he
    obtain ⟨x27, e28⟩ : ∃ z, a6 + (1 : Int32) = z := ⟨_, rfl⟩
    replace h := lt_go h e28
    refine g_iinc (i := 6) (v := x27) 5 [(6, vI x27), (0, vR (some k)), (2, vI a2), (3, vI a3), (4, vI a4), (5, vI e26)] ok d_Mo_canHold_98 rfl (by rw [← e28]; rfl) (by decide) rfl ?_
    refine g_goto (tgt := 30) ok d_Mo_canHold_101 (by decide) ?_
    refine g_sub [1, 2, 3, 4, 5, 0] rfl ?_
    exact hrec e26 x27 _ h hk
  · replace h := (if_neg c7).symm.trans h
    refine g_sub [0, 1, 3, 4] rfl ?_
    cases h
    exact hexit a5 hk
theorem w_l_Mo_canHold_30 {X : CX} {KX : Int32 → Prop} {k : Nat} {a2 : Int32} {a3 : Int32} {a4 : Int32} {s : MS} (ok : Ok X cX5_canHold RX5 rm_Mo_canHold 8 false) (hexit : ∀ (e5 : Int32), KX e5 → G X s 0 0 104 [(0, vR (some k)), (2, vI a2), (4, vI a4), (5, vI e5)] []) (ht : rf s.2.2 20 (some k) = some k) : ∀ (n : Nat) (a5 : Int32) (a6 : Int32) {res : Int32}, l_Mo_canHold_30 k a2 a3 a4 s n a5 a6 = some res → KX res → G X s 0 0 30 [(0, vR (some k)), (2, vI a2), (3, vI a3), (4, vI a4), (5, vI a5), (6, vI a6)] [] := by
  intro n
  induction n with
  | zero => intro _ _ res h; cases h
  | succ n ih =>
    intro a5 a6 res h hk
    exact w_b_Mo_canHold_30 ok hexit (fun v5 v6 y h2 hk2 => ih v5 v6 h2 hk2) ht h hk
set_option maxRecDepth 100000 in
set_option maxHeartbeats 4000000 in
theorem w_j_Mo_canHold_148 {X : CX} {KX : Int32 → Prop} {k : Nat} {a2 : Int32} {a4 : Int32} {a5 : Int32} {a6 : Int32} {t0 : Int32} {s : MS} {rec : Int32 → Int32 → Option (Int32)} (ok : Ok X cX5_canHold RX5 rm_Mo_canHold 8 false) (hexit : ∀ (e5 : Int32), KX e5 → G X s 0 0 197 [(0, vR (some k)), (5, vI e5)] []) (hrec : ∀ (v5 : Int32) (v6 : Int32), ∀ y, rec v5 v6 = some y → KX y → G X s 0 0 107 [(0, vR (some k)), (2, vI a2), (4, vI a4), (5, vI v5), (6, vI v6)] []) (ht : rf s.2.2 20 (some k) = some k) {res : Int32} (h : j_Mo_canHold_148 k a2 a4 a5 a6 t0 s rec = some res) (hk : KX res) : G X s 0 0 148 [(0, vR (some k)), (2, vI a2), (4, vI a4), (5, vI a5), (6, vI a6)] [vI t0] := by
  unfold j_Mo_canHold_148 at h
  refine g_istore (i := 7) [(7, vI t0), (0, vR (some k)), (2, vI a2), (4, vI a4), (5, vI a5), (6, vI a6)] ok d_Mo_canHold_148 (by decide) rfl ?_
  refine g_iload (i := 5) 4 ok d_Mo_canHold_150 rfl ?_
  refine g_if_eq (tgt := 188) ok d_Mo_canHold_152 (by decide) (fun c32 => ?_) (fun c32 => ?_)
  · replace h := (if_pos c32).symm.trans h
    refine g_iconst (v := (0 : Int32)) ok d_Mo_canHold_188 (by decide) ?_
    refine g_istore (i := 5) [(5, vI (0 : Int32)), (7, vI t0), (0, vR (some k)), (2, vI a2), (4, vI a4), (6, vI a6)] ok d_Mo_canHold_189 (by decide) rfl ?_
    obtain ⟨x33, e34⟩ : ∃ z, a6 + (1 : Int32) = z := ⟨_, rfl⟩
    replace h := lt_go h e34
    refine g_iinc (i := 6) (v := x33) 5 [(6, vI x33), (5, vI (0 : Int32)), (7, vI t0), (0, vR (some k)), (2, vI a2), (4, vI a4)] ok d_Mo_canHold_191 rfl (by rw [← e34]; rfl) (by decide) rfl ?_
    refine g_goto (tgt := 107) ok d_Mo_canHold_194 (by decide) ?_
    refine g_sub [3, 4, 5, 1, 0] rfl ?_
    exact hrec (0 : Int32) x33 _ h hk
  · replace h := (if_neg c32).symm.trans h
    refine g_iload (i := 7) 0 ok d_Mo_canHold_155 rfl ?_
    refine g_if_eq (tgt := 184) ok d_Mo_canHold_157 (by decide) (fun c35 => ?_) (fun c35 => ?_)
    · replace h := (if_pos c35).symm.trans h
      refine g_iconst (v := (1 : Int32)) ok d_Mo_canHold_184 (by decide) ?_
      refine g_goto (tgt := 189) ok d_Mo_canHold_185 (by decide) ?_
      refine g_istore (i := 5) [(5, vI (1 : Int32)), (7, vI t0), (0, vR (some k)), (2, vI a2), (4, vI a4), (6, vI a6)] ok d_Mo_canHold_189 (by decide) rfl ?_
      obtain ⟨x36, e37⟩ : ∃ z, a6 + (1 : Int32) = z := ⟨_, rfl⟩
      replace h := lt_go h e37
      refine g_iinc (i := 6) (v := x36) 5 [(6, vI x36), (5, vI (1 : Int32)), (7, vI t0), (0, vR (some k)), (2, vI a2), (4, vI a4)] ok d_Mo_canHold_191 rfl (by rw [← e37]; rfl) (by decide) rfl ?_
      refine g_goto (tgt := 107) ok d_Mo_canHold_194 (by decide) ?_
      refine g_sub [3, 4, 5, 1, 0] rfl ?_
      exact hrec (1 : Int32) x36 _ h hk
    · replace h := (if_neg c35).symm.trans h
      refine g_aload_n (i := 0) 1 ok d_Mo_canHold_160 rfl rfl ?_
      refine g_sipush (v := (3240 : Int32)) ok d_Mo_canHold_161 (by decide) ?_
      refine g_aload_n (i := 0) 1 ok d_Mo_canHold_164 rfl rfl ?_
      refine g_getr (s0 := 20) (j := 19) (ci := 5) (C := RX5) (T := TX5) (N := 29) ok ht lay_20 rfl inX5 (by decide) rfl tw_757 rfl d_Mo_canHold_165 ?_
      refine g_iload_n (i := 2) 2 ok d_Mo_canHold_168 rfl rfl ?_
      obtain ⟨k38, hk39, h⟩ := bnd_go h
      refine g_iald ok hk39 d_Mo_canHold_169 ?_
      refine g_iload (i := 4) 3 ok d_Mo_canHold_170 rfl ?_
      refine g_iload (i := 6) 5 ok d_Mo_canHold_172 rfl ?_
      refine g_aload_n (i := 0) 1 ok d_Mo_canHold_174 rfl rfl ?_
      refine g_geti (s0 := 20) (j := 1) (ci := 5) (C := RX5) (T := TX5) (N := 29) ok ht lay_20 rfl inX5 (by decide) rfl tw_739 rfl d_Mo_canHold_175 ?_
      obtain ⟨x41, hc42, h⟩ := bnd_go h
      refine g_invV (rm2 := rm_Mo_meet) (As := [vI (3240 : Int32), vI (s.1 k38 a2.toNatClampNeg), vI a4, vI a6, vI (s.1 k 1)]) (rest := []) ok ht lay_20 rfl (c_Mo_meet X.1.2.1 (rf_self ht) hc42) cm_Mo_meet cv_Mo_meet tw_939 ⟨rfl, rfl⟩ ⟨le_t rfl, le_t rfl⟩ ⟨rfl, le_t rfl⟩ ⟨le_t rfl, le_t rfl⟩ d_Mo_canHold_178 rfl (fun m40 => ?_)
      show G X s 0 0 181 [(7, vI t0), (0, vR (some k)), (2, vI a2), (4, vI a4), (5, vI a5), (6, vI a6)] [vI x41]
      refine g_if_ne (tgt := 188) ok d_Mo_canHold_181 (by decide) (fun c43 => ?_) (fun c43 => ?_)
      · replace h := (if_pos c43).symm.trans h
        refine g_iconst (v := (1 : Int32)) ok d_Mo_canHold_184 (by decide) ?_
        refine g_goto (tgt := 189) ok d_Mo_canHold_185 (by decide) ?_
        refine g_istore (i := 5) [(5, vI (1 : Int32)), (7, vI t0), (0, vR (some k)), (2, vI a2), (4, vI a4), (6, vI a6)] ok d_Mo_canHold_189 (by decide) rfl ?_
        obtain ⟨x44, e45⟩ : ∃ z, a6 + (1 : Int32) = z := ⟨_, rfl⟩
        replace h := lt_go h e45
        refine g_iinc (i := 6) (v := x44) 5 [(6, vI x44), (5, vI (1 : Int32)), (7, vI t0), (0, vR (some k)), (2, vI a2), (4, vI a4)] ok d_Mo_canHold_191 rfl (by rw [← e45]; rfl) (by decide) rfl ?_
        refine g_goto (tgt := 107) ok d_Mo_canHold_194 (by decide) ?_
        refine g_sub [3, 4, 5, 1, 0] rfl ?_
        exact hrec (1 : Int32) x44 _ h hk
      · replace h := (if_neg c43).symm.trans h
        refine g_iconst (v := (0 : Int32)) ok d_Mo_canHold_188 (by decide) ?_
        refine g_istore (i := 5) [(5, vI (0 : Int32)), (7, vI t0), (0, vR (some k)), (2, vI a2), (4, vI a4), (6, vI a6)] ok d_Mo_canHold_189 (by decide) rfl ?_
        obtain ⟨x46, e47⟩ : ∃ z, a6 + (1 : Int32) = z := ⟨_, rfl⟩
        replace h := lt_go h e47
        refine g_iinc (i := 6) (v := x46) 5 [(6, vI x46), (5, vI (0 : Int32)), (7, vI t0), (0, vR (some k)), (2, vI a2), (4, vI a4)] ok d_Mo_canHold_191 rfl (by rw [← e47]; rfl) (by decide) rfl ?_
        refine g_goto (tgt := 107) ok d_Mo_canHold_194 (by decide) ?_
        refine g_sub [3, 4, 5, 1, 0] rfl ?_
        exact hrec (0 : Int32) x46 _ h hk
set_option maxRecDepth 100000 in
set_option maxHeartbeats 4000000 in
theorem w_j_Mo_canHold_147 {X : CX} {KX : Int32 → Prop} {k : Nat} {a2 : Int32} {a4 : Int32} {a5 : Int32} {a6 : Int32} {s : MS} {rec : Int32 → Int32 → Option (Int32)} (ok : Ok X cX5_canHold RX5 rm_Mo_canHold 8 false) (hexit : ∀ (e5 : Int32), KX e5 → G X s 0 0 197 [(0, vR (some k)), (5, vI e5)] []) (hrec : ∀ (v5 : Int32) (v6 : Int32), ∀ y, rec v5 v6 = some y → KX y → G X s 0 0 107 [(0, vR (some k)), (2, vI a2), (4, vI a4), (5, vI v5), (6, vI v6)] []) (ht : rf s.2.2 20 (some k) = some k) {res : Int32} (h : j_Mo_canHold_147 k a2 a4 a5 a6 s rec = some res) (hk : KX res) : G X s 0 0 147 [(0, vR (some k)), (2, vI a2), (4, vI a4), (5, vI a5), (6, vI a6)] [] := by
  unfold j_Mo_canHold_147 at h
  refine g_iconst (v := (0 : Int32)) ok d_Mo_canHold_147 (by decide) ?_
  exact w_j_Mo_canHold_148 ok hexit hrec ht h hk
set_option maxRecDepth 100000 in
set_option maxHeartbeats 4000000 in
theorem w_j_Mo_canHold_143 {X : CX} {KX : Int32 → Prop} {k : Nat} {a2 : Int32} {a4 : Int32} {a5 : Int32} {a6 : Int32} {s : MS} {rec : Int32 → Int32 → Option (Int32)} (ok : Ok X cX5_canHold RX5 rm_Mo_canHold 8 false) (hexit : ∀ (e5 : Int32), KX e5 → G X s 0 0 197 [(0, vR (some k)), (5, vI e5)] []) (hrec : ∀ (v5 : Int32) (v6 : Int32), ∀ y, rec v5 v6 = some y → KX y → G X s 0 0 107 [(0, vR (some k)), (2, vI a2), (4, vI a4), (5, vI v5), (6, vI v6)] []) (ht : rf s.2.2 20 (some k) = some k) {res : Int32} (h : j_Mo_canHold_143 k a2 a4 a5 a6 s rec = some res) (hk : KX res) : G X s 0 0 143 [(0, vR (some k)), (2, vI a2), (4, vI a4), (5, vI a5), (6, vI a6)] [] := by
  unfold j_Mo_canHold_143 at h
  refine g_iconst (v := (1 : Int32)) ok d_Mo_canHold_143 (by decide) ?_
  refine g_goto (tgt := 148) ok d_Mo_canHold_144 (by decide) ?_
  exact w_j_Mo_canHold_148 ok hexit hrec ht h hk
set_option maxRecDepth 100000 in
set_option maxHeartbeats 4000000 in
theorem w_b_Mo_canHold_107 {X : CX} {KX : Int32 → Prop} {k : Nat} {a2 : Int32} {a4 : Int32} {a5 : Int32} {a6 : Int32} {s : MS} {rec : Int32 → Int32 → Option (Int32)} (ok : Ok X cX5_canHold RX5 rm_Mo_canHold 8 false) (hexit : ∀ (e5 : Int32), KX e5 → G X s 0 0 197 [(0, vR (some k)), (5, vI e5)] []) (hrec : ∀ (v5 : Int32) (v6 : Int32), ∀ y, rec v5 v6 = some y → KX y → G X s 0 0 107 [(0, vR (some k)), (2, vI a2), (4, vI a4), (5, vI v5), (6, vI v6)] []) (ht : rf s.2.2 20 (some k) = some k) {res : Int32} (h : b_Mo_canHold_107 k a2 a4 a5 a6 s rec = some res) (hk : KX res) : G X s 0 0 107 [(0, vR (some k)), (2, vI a2), (4, vI a4), (5, vI a5), (6, vI a6)] [] := by
  unfold b_Mo_canHold_107 at h
  refine g_iload (i := 6) 4 ok d_Mo_canHold_107 rfl ?_
  refine g_aload_n (i := 0) 0 ok d_Mo_canHold_109 rfl rfl ?_
  refine g_geti (s0 := 20) (j := 17) (ci := 5) (C := RX5) (T := TX5) (N := 29) ok ht lay_20 rfl inX5 (by decide) rfl tw_755 rfl d_Mo_canHold_110 ?_
  refine g_icmp_ge (tgt := 197) ok d_Mo_canHold_113 (by decide) (fun c30 => ?_) (fun c30 => ?_)
  · replace h := (if_pos c30).symm.trans h
    refine g_iload (i := 6) 4 ok d_Mo_canHold_116 rfl ?_
    refine g_iload_n (i := 2) 1 ok d_Mo_canHold_118 rfl rfl ?_
    refine g_icmp_eq (tgt := 147) ok d_Mo_canHold_119 (by decide) (fun c31 => ?_) (fun c31 => ?_)
    · replace h := (if_pos c31).symm.trans h
      exact w_j_Mo_canHold_147 ok hexit hrec ht h hk
    · replace h := (if_neg c31).symm.trans h
      refine g_aload_n (i := 0) 0 ok d_Mo_canHold_122 rfl rfl ?_
      refine g_getr (s0 := 20) (j := 22) (ci := 5) (C := RX5) (T := TX5) (N := 29) ok ht lay_20 rfl inX5 (by decide) rfl tw_760 rfl d_Mo_canHold_123 ?_
      refine g_iload (i := 6) 4 ok d_Mo_canHold_126 rfl ?_
      obtain ⟨k48, hk49, h⟩ := bnd_go h
      refine g_iald ok hk49 d_Mo_canHold_128 ?_
      refine g_iconst (v := (1 : Int32)) ok d_Mo_canHold_129 (by decide) ?_
      refine g_icmp_eq (tgt := 143) ok d_Mo_canHold_130 (by decide) (fun c50 => ?_) (fun c50 => ?_)
      · replace h := (if_pos c50).symm.trans h
        exact w_j_Mo_canHold_143 ok hexit hrec ht h hk
      · replace h := (if_neg c50).symm.trans h
        refine g_aload_n (i := 0) 0 ok d_Mo_canHold_133 rfl rfl ?_
        refine g_getr (s0 := 20) (j := 22) (ci := 5) (C := RX5) (T := TX5) (N := 29) ok ht lay_20 rfl inX5 (by decide) rfl tw_760 rfl d_Mo_canHold_134 ?_
        refine g_iload (i := 6) 4 ok d_Mo_canHold_137 rfl ?_
        obtain ⟨k51, hk52, h⟩ := bnd_go h
        refine g_iald ok hk52 d_Mo_canHold_139 ?_
        refine g_if_ne (tgt := 147) ok d_Mo_canHold_140 (by decide) (fun c53 => ?_) (fun c53 => ?_)
        · replace h := (if_pos c53).symm.trans h
          exact w_j_Mo_canHold_143 ok hexit hrec ht h hk
        · replace h := (if_neg c53).symm.trans h
          exact w_j_Mo_canHold_147 ok hexit hrec ht h hk
  · replace h := (if_neg c30).symm.trans h
    refine g_sub [0, 3] rfl ?_
    cases h
    exact hexit a5 hk
theorem w_l_Mo_canHold_107 {X : CX} {KX : Int32 → Prop} {k : Nat} {a2 : Int32} {a4 : Int32} {s : MS} (ok : Ok X cX5_canHold RX5 rm_Mo_canHold 8 false) (hexit : ∀ (e5 : Int32), KX e5 → G X s 0 0 197 [(0, vR (some k)), (5, vI e5)] []) (ht : rf s.2.2 20 (some k) = some k) : ∀ (n : Nat) (a5 : Int32) (a6 : Int32) {res : Int32}, l_Mo_canHold_107 k a2 a4 s n a5 a6 = some res → KX res → G X s 0 0 107 [(0, vR (some k)), (2, vI a2), (4, vI a4), (5, vI a5), (6, vI a6)] [] := by
  intro n
  induction n with
  | zero => intro _ _ res h; cases h
  | succ n ih =>
    intro a5 a6 res h hk
    exact w_b_Mo_canHold_107 ok hexit (fun v5 v6 y h2 hk2 => ih v5 v6 h2 hk2) ht h hk
set_option maxRecDepth 100000 in
set_option maxHeartbeats 4000000 in
theorem w_j_Mo_canHold_25 {X : CX} {KX : Int32 → Prop} {k : Nat} {a2 : Int32} {a3 : Int32} {a4 : Int32} {t0 : Int32} {s : MS} (ok : Ok X cX5_canHold RX5 rm_Mo_canHold 8 false) (hret : ∀ r : Int32, KX r → Fin X (some .boolean) 0 0 false (some (vI r)) s) (ht : rf s.2.2 20 (some k) = some k) {res : Int32} (h : j_Mo_canHold_25 k a2 a3 a4 t0 s = some res) (hk : KX res) : G X s 0 0 25 [(0, vR (some k)), (2, vI a2), (3, vI a3), (4, vI a4)] [vI t0] := by
  unfold j_Mo_canHold_25 at h
  refine g_istore (i := 5) [(5, vI t0), (0, vR (some k)), (2, vI a2), (3, vI a3), (4, vI a4)] ok d_Mo_canHold_25 (by decide) rfl ?_
  refine g_iconst (v := (0 : Int32)) ok d_Mo_canHold_27 (by decide) ?_
  refine g_istore (i := 6) [(6, vI (0 : Int32)), (5, vI t0), (0, vR (some k)), (2, vI a2), (3, vI a3), (4, vI a4)] ok d_Mo_canHold_28 (by decide) rfl ?_
  refine g_sub [2, 3, 4, 5, 1, 0] rfl ?_
  obtain ⟨e29, hx, h⟩ := bnd_go h
  refine w_l_Mo_canHold_30 (KX := fun y => y = e29) ok (fun y0 he => ?_) ht _ _ _ hx rfl
  cases he
  refine g_iconst (v := (0 : Int32)) ok d_Mo_canHold_104 (by decide) ?_
  refine g_istore (i := 6) [(6, vI (0 : Int32)), (0, vR (some k)), (2, vI a2), (4, vI a4), (5, vI e29)] ok d_Mo_canHold_105 (by decide) rfl ?_
  refine g_sub [1, 2, 3, 4, 0] rfl ?_
  obtain ⟨e54, hx, h⟩ := bnd_go h
  refine w_l_Mo_canHold_107 (KX := fun y => y = e54) ok (fun y0 he => ?_) ht _ _ _ hx rfl
  cases he
  refine g_iload (i := 5) 1 ok d_Mo_canHold_197 rfl ?_
  obtain ⟨g55, h⟩ := gd_go h
  cases h
  exact g_zret ok (hret _ hk) g55 (by decide) (by decide) d_Mo_canHold_199
set_option maxRecDepth 100000 in
set_option maxHeartbeats 4000000 in
theorem w_Mo_canHold {X : CX} {KX : Int32 → Prop} {k : Nat} {a1 : Int32} {a2 : Int32} {a3 : Int32} {a4 : Int32} {s : MS} (ok : Ok X cX5_canHold RX5 rm_Mo_canHold 8 false) (hret : ∀ r : Int32, KX r → Fin X (some .boolean) 0 0 false (some (vI r)) s)   (ht : rf s.2.2 20 (some k) = some k) {res : Int32} (h : f_Mo_canHold k a1 a2 a3 a4 s = some res) (hk : KX res) : G X s 0 0 0 [(0, vR (some k)), (1, vI a1), (2, vI a2), (3, vI a3), (4, vI a4)] [] := by
  unfold f_Mo_canHold at h
  refine g_aload_n (i := 0) 0 ok d_Mo_canHold_0 rfl rfl ?_
  refine g_sipush (v := (3240 : Int32)) ok d_Mo_canHold_1 (by decide) ?_
  refine g_iload_n (i := 3) 3 ok d_Mo_canHold_4 rfl rfl ?_
  refine g_iload (i := 4) 4 ok d_Mo_canHold_5 rfl ?_
  refine g_aload_n (i := 0) 0 ok d_Mo_canHold_7 rfl rfl ?_
  refine g_getr (s0 := 20) (j := 10) (ci := 5) (C := RX5) (T := TX5) (N := 29) ok ht lay_20 rfl inX5 (by decide) rfl tw_748 rfl d_Mo_canHold_8 ?_
  refine g_iload_n (i := 1) 1 ok d_Mo_canHold_11 rfl rfl ?_
  obtain ⟨k1, hk2, h⟩ := bnd_go h
  refine g_iald ok hk2 d_Mo_canHold_12 ?_
  obtain ⟨x4, hc5, h⟩ := bnd_go h
  refine g_invV (rm2 := rm_Mo_poor) (As := [vI (3240 : Int32), vI a3, vI a4, vI (s.1 k1 a1.toNatClampNeg)]) (rest := []) ok ht lay_20 rfl (c_Mo_poor X.1.2.1 (rf_self ht) hc5) cm_Mo_poor cv_Mo_poor tw_917 ⟨rfl, rfl⟩ ⟨le_t rfl, le_t rfl⟩ ⟨rfl, le_t rfl⟩ ⟨le_t rfl, le_t rfl⟩ d_Mo_canHold_13 rfl (fun m3 => ?_)
  show G X s 0 0 16 [(0, vR (some k)), (1, vI a1), (2, vI a2), (3, vI a3), (4, vI a4)] [vI x4]
  refine g_iconst (v := (-1 : Int32)) ok d_Mo_canHold_16 (by decide) ?_
  refine g_icmp_ne (tgt := 24) ok d_Mo_canHold_17 (by decide) (fun c6 => ?_) (fun c6 => ?_)
  · replace h := (if_pos c6).symm.trans h
    refine g_iconst (v := (1 : Int32)) ok d_Mo_canHold_20 (by decide) ?_
    refine g_goto (tgt := 25) ok d_Mo_canHold_21 (by decide) ?_
    refine g_sub [0, 2, 3, 4] rfl ?_
    exact w_j_Mo_canHold_25 ok hret ht h hk
  · replace h := (if_neg c6).symm.trans h
    refine g_iconst (v := (0 : Int32)) ok d_Mo_canHold_24 (by decide) ?_
    refine g_sub [0, 2, 3, 4] rfl ?_
    exact w_j_Mo_canHold_25 ok hret ht h hk
theorem c_Mo_canHold (l : Launch) {k : Nat} {a1 : Int32} {a2 : Int32} {a3 : Int32} {a4 : Int32} {s : MS} (ht : rf s.2.2 20 (some k) = some k) {r : Int32} (h : f_Mo_canHold k a1 a2 a3 a4 s = some r) : Ct l yX5_canHold (.code yX5_canHold cX5_canHold 8 (some .boolean)) rm_Mo_canHold 0 0 false [vR (some k), vI a1, vI a2, vI a3, vI a4] s (some (vI r)) s :=
  Ct.of rfl (by decide +kernel) ⟨rfl, le_t rfl⟩ (fun X ok fn _ hI hl => w_Mo_canHold (KX := fun y => y = r) ok (fun y hy => by subst hy; exact fn) ht h rfl)
abbrev rm_Mo_hold : Room := { frames := 6, cells := 0, slots := 0, locals := 139 }
theorem cm_Mo_hold : cfM yX5_hold cX5_hold 8 (some .int) 2 := ⟨tw_989, tw_4, by decide, by decide, by decide +kernel⟩
theorem cv_Mo_hold : cfV yX5_hold := ⟨tw_987, tw_988⟩
theorem d_Mo_hold_0 : decode cX5_hold 0 = .ok (.aload_n 0, 1) := by decide +kernel
theorem d_Mo_hold_1 : decode cX5_hold 1 = .ok (.iload_n 1, 1) := by decide +kernel
theorem d_Mo_hold_2 : decode cX5_hold 2 = .ok (.invokevirtual 123, 3) := by decide +kernel
theorem d_Mo_hold_5 : decode cX5_hold 5 = .ok (.istore_n 3, 1) := by decide +kernel
theorem d_Mo_hold_6 : decode cX5_hold 6 = .ok (.aload_n 0, 1) := by decide +kernel
theorem d_Mo_hold_7 : decode cX5_hold 7 = .ok (.iload_n 3, 1) := by decide +kernel
theorem d_Mo_hold_8 : decode cX5_hold 8 = .ok (.ifCond .ne 7, 3) := by decide +kernel
theorem d_Mo_hold_11 : decode cX5_hold 11 = .ok (.iconst 1, 1) := by decide +kernel
theorem d_Mo_hold_12 : decode cX5_hold 12 = .ok (.goto 43, 3) := by decide +kernel
theorem d_Mo_hold_15 : decode cX5_hold 15 = .ok (.iload_n 2, 1) := by decide +kernel
theorem d_Mo_hold_16 : decode cX5_hold 16 = .ok (.iconst 1, 1) := by decide +kernel
theorem d_Mo_hold_17 : decode cX5_hold 17 = .ok (.bipush 10, 2) := by decide +kernel
theorem d_Mo_hold_19 : decode cX5_hold 19 = .ok (.invokestatic 75, 3) := by decide +kernel
theorem d_Mo_hold_22 : decode cX5_hold 22 = .ok (.ifCond .ne 7, 3) := by decide +kernel
theorem d_Mo_hold_25 : decode cX5_hold 25 = .ok (.iconst 2, 1) := by decide +kernel
theorem d_Mo_hold_26 : decode cX5_hold 26 = .ok (.goto 29, 3) := by decide +kernel
theorem d_Mo_hold_29 : decode cX5_hold 29 = .ok (.aload_n 0, 1) := by decide +kernel
theorem d_Mo_hold_30 : decode cX5_hold 30 = .ok (.getfield 35, 3) := by decide +kernel
theorem d_Mo_hold_33 : decode cX5_hold 33 = .ok (.iload_n 1, 1) := by decide +kernel
theorem d_Mo_hold_34 : decode cX5_hold 34 = .ok (.iaload, 1) := by decide +kernel
theorem d_Mo_hold_35 : decode cX5_hold 35 = .ok (.iconst 1, 1) := by decide +kernel
theorem d_Mo_hold_36 : decode cX5_hold 36 = .ok (.if_icmp .ne 14, 3) := by decide +kernel
theorem d_Mo_hold_39 : decode cX5_hold 39 = .ok (.aload_n 0, 1) := by decide +kernel
theorem d_Mo_hold_40 : decode cX5_hold 40 = .ok (.getfield 32, 3) := by decide +kernel
theorem d_Mo_hold_43 : decode cX5_hold 43 = .ok (.iload_n 1, 1) := by decide +kernel
theorem d_Mo_hold_44 : decode cX5_hold 44 = .ok (.iaload, 1) := by decide +kernel
theorem d_Mo_hold_45 : decode cX5_hold 45 = .ok (.bipush 100, 2) := by decide +kernel
theorem d_Mo_hold_47 : decode cX5_hold 47 = .ok (.if_icmp .ge 7, 3) := by decide +kernel
theorem d_Mo_hold_50 : decode cX5_hold 50 = .ok (.iconst 3, 1) := by decide +kernel
theorem d_Mo_hold_51 : decode cX5_hold 51 = .ok (.goto 4, 3) := by decide +kernel
theorem d_Mo_hold_54 : decode cX5_hold 54 = .ok (.iconst 0, 1) := by decide +kernel
theorem d_Mo_hold_55 : decode cX5_hold 55 = .ok (.invokevirtual 89, 3) := by decide +kernel
theorem d_Mo_hold_58 : decode cX5_hold 58 = .ok (.ifCond .eq 5, 3) := by decide +kernel
theorem d_Mo_hold_61 : decode cX5_hold 61 = .ok (.iconst 0, 1) := by decide +kernel
theorem d_Mo_hold_62 : decode cX5_hold 62 = .ok (.ireturn, 1) := by decide +kernel
theorem d_Mo_hold_63 : decode cX5_hold 63 = .ok (.aload_n 0, 1) := by decide +kernel
theorem d_Mo_hold_64 : decode cX5_hold 64 = .ok (.getfield 38, 3) := by decide +kernel
theorem d_Mo_hold_67 : decode cX5_hold 67 = .ok (.iload_n 1, 1) := by decide +kernel
theorem d_Mo_hold_68 : decode cX5_hold 68 = .ok (.iaload, 1) := by decide +kernel
theorem d_Mo_hold_69 : decode cX5_hold 69 = .ok (.istore 4, 2) := by decide +kernel
theorem d_Mo_hold_71 : decode cX5_hold 71 = .ok (.aload_n 0, 1) := by decide +kernel
theorem d_Mo_hold_72 : decode cX5_hold 72 = .ok (.getfield 139, 3) := by decide +kernel
theorem d_Mo_hold_75 : decode cX5_hold 75 = .ok (.aload_n 0, 1) := by decide +kernel
theorem d_Mo_hold_76 : decode cX5_hold 76 = .ok (.getfield 50, 3) := by decide +kernel
theorem d_Mo_hold_79 : decode cX5_hold 79 = .ok (.iload 4, 2) := by decide +kernel
theorem d_Mo_hold_81 : decode cX5_hold 81 = .ok (.iaload, 1) := by decide +kernel
theorem d_Mo_hold_82 : decode cX5_hold 82 = .ok (.isub, 1) := by decide +kernel
theorem d_Mo_hold_83 : decode cX5_hold 83 = .ok (.istore 5, 2) := by decide +kernel
theorem d_Mo_hold_85 : decode cX5_hold 85 = .ok (.aload_n 0, 1) := by decide +kernel
theorem d_Mo_hold_86 : decode cX5_hold 86 = .ok (.getfield 53, 3) := by decide +kernel
theorem d_Mo_hold_89 : decode cX5_hold 89 = .ok (.iload 4, 2) := by decide +kernel
theorem d_Mo_hold_91 : decode cX5_hold 91 = .ok (.iaload, 1) := by decide +kernel
theorem d_Mo_hold_92 : decode cX5_hold 92 = .ok (.iload_n 2, 1) := by decide +kernel
theorem d_Mo_hold_93 : decode cX5_hold 93 = .ok (.iadd, 1) := by decide +kernel
theorem d_Mo_hold_94 : decode cX5_hold 94 = .ok (.istore 6, 2) := by decide +kernel
theorem d_Mo_hold_96 : decode cX5_hold 96 = .ok (.aload_n 0, 1) := by decide +kernel
theorem d_Mo_hold_97 : decode cX5_hold 97 = .ok (.iload 6, 2) := by decide +kernel
theorem d_Mo_hold_99 : decode cX5_hold 99 = .ok (.bipush 80, 2) := by decide +kernel
theorem d_Mo_hold_101 : decode cX5_hold 101 = .ok (.if_icmp .le 7, 3) := by decide +kernel
theorem d_Mo_hold_104 : decode cX5_hold 104 = .ok (.iconst 3, 1) := by decide +kernel
theorem d_Mo_hold_105 : decode cX5_hold 105 = .ok (.goto 4, 3) := by decide +kernel
theorem d_Mo_hold_108 : decode cX5_hold 108 = .ok (.iconst 0, 1) := by decide +kernel
theorem d_Mo_hold_109 : decode cX5_hold 109 = .ok (.invokevirtual 89, 3) := by decide +kernel
theorem d_Mo_hold_112 : decode cX5_hold 112 = .ok (.ifCond .eq 5, 3) := by decide +kernel
theorem d_Mo_hold_115 : decode cX5_hold 115 = .ok (.iconst 0, 1) := by decide +kernel
theorem d_Mo_hold_116 : decode cX5_hold 116 = .ok (.ireturn, 1) := by decide +kernel
theorem d_Mo_hold_117 : decode cX5_hold 117 = .ok (.iconst 0, 1) := by decide +kernel
theorem d_Mo_hold_118 : decode cX5_hold 118 = .ok (.istore 7, 2) := by decide +kernel
theorem d_Mo_hold_120 : decode cX5_hold 120 = .ok (.iload 7, 2) := by decide +kernel
theorem d_Mo_hold_122 : decode cX5_hold 122 = .ok (.iload 6, 2) := by decide +kernel
theorem d_Mo_hold_124 : decode cX5_hold 124 = .ok (.if_icmp .gt 61, 3) := by decide +kernel
theorem d_Mo_hold_127 : decode cX5_hold 127 = .ok (.aload_n 0, 1) := by decide +kernel
theorem d_Mo_hold_128 : decode cX5_hold 128 = .ok (.getfield 62, 3) := by decide +kernel
theorem d_Mo_hold_131 : decode cX5_hold 131 = .ok (.sipush 3240, 3) := by decide +kernel
theorem d_Mo_hold_134 : decode cX5_hold 134 = .ok (.iload 7, 2) := by decide +kernel
theorem d_Mo_hold_136 : decode cX5_hold 136 = .ok (.iadd, 1) := by decide +kernel
theorem d_Mo_hold_137 : decode cX5_hold 137 = .ok (.aload_n 0, 1) := by decide +kernel
theorem d_Mo_hold_138 : decode cX5_hold 138 = .ok (.getfield 62, 3) := by decide +kernel
theorem d_Mo_hold_141 : decode cX5_hold 141 = .ok (.bipush 81, 2) := by decide +kernel
theorem d_Mo_hold_143 : decode cX5_hold 143 = .ok (.iload 4, 2) := by decide +kernel
theorem d_Mo_hold_145 : decode cX5_hold 145 = .ok (.imul, 1) := by decide +kernel
theorem d_Mo_hold_146 : decode cX5_hold 146 = .ok (.iload 7, 2) := by decide +kernel
theorem d_Mo_hold_148 : decode cX5_hold 148 = .ok (.iload 5, 2) := by decide +kernel
theorem d_Mo_hold_150 : decode cX5_hold 150 = .ok (.if_icmp .gt 8, 3) := by decide +kernel
theorem d_Mo_hold_153 : decode cX5_hold 153 = .ok (.iload 7, 2) := by decide +kernel
theorem d_Mo_hold_155 : decode cX5_hold 155 = .ok (.goto 21, 3) := by decide +kernel
theorem d_Mo_hold_158 : decode cX5_hold 158 = .ok (.iload 7, 2) := by decide +kernel
theorem d_Mo_hold_160 : decode cX5_hold 160 = .ok (.iload 5, 2) := by decide +kernel
theorem d_Mo_hold_162 : decode cX5_hold 162 = .ok (.iload_n 2, 1) := by decide +kernel
theorem d_Mo_hold_163 : decode cX5_hold 163 = .ok (.iadd, 1) := by decide +kernel
theorem d_Mo_hold_164 : decode cX5_hold 164 = .ok (.if_icmp .gt 8, 3) := by decide +kernel
theorem d_Mo_hold_167 : decode cX5_hold 167 = .ok (.iload 5, 2) := by decide +kernel
theorem d_Mo_hold_169 : decode cX5_hold 169 = .ok (.goto 7, 3) := by decide +kernel
theorem d_Mo_hold_172 : decode cX5_hold 172 = .ok (.iload 7, 2) := by decide +kernel
theorem d_Mo_hold_174 : decode cX5_hold 174 = .ok (.iload_n 2, 1) := by decide +kernel
theorem d_Mo_hold_175 : decode cX5_hold 175 = .ok (.isub, 1) := by decide +kernel
theorem d_Mo_hold_176 : decode cX5_hold 176 = .ok (.iadd, 1) := by decide +kernel
theorem d_Mo_hold_177 : decode cX5_hold 177 = .ok (.iaload, 1) := by decide +kernel
theorem d_Mo_hold_178 : decode cX5_hold 178 = .ok (.iastore, 1) := by decide +kernel
theorem d_Mo_hold_179 : decode cX5_hold 179 = .ok (.iinc 7 1, 3) := by decide +kernel
theorem d_Mo_hold_182 : decode cX5_hold 182 = .ok (.goto (-62), 3) := by decide +kernel
theorem d_Mo_hold_185 : decode cX5_hold 185 = .ok (.aload_n 0, 1) := by decide +kernel
theorem d_Mo_hold_186 : decode cX5_hold 186 = .ok (.aload_n 0, 1) := by decide +kernel
theorem d_Mo_hold_187 : decode cX5_hold 187 = .ok (.iload_n 1, 1) := by decide +kernel
theorem d_Mo_hold_188 : decode cX5_hold 188 = .ok (.iload 4, 2) := by decide +kernel
theorem d_Mo_hold_190 : decode cX5_hold 190 = .ok (.iload 5, 2) := by decide +kernel
theorem d_Mo_hold_192 : decode cX5_hold 192 = .ok (.iload 6, 2) := by decide +kernel
theorem d_Mo_hold_194 : decode cX5_hold 194 = .ok (.invokevirtual 185, 3) := by decide +kernel
theorem d_Mo_hold_197 : decode cX5_hold 197 = .ok (.ifCond .eq 7, 3) := by decide +kernel
theorem d_Mo_hold_200 : decode cX5_hold 200 = .ok (.iconst 0, 1) := by decide +kernel
theorem d_Mo_hold_201 : decode cX5_hold 201 = .ok (.goto 4, 3) := by decide +kernel
theorem d_Mo_hold_204 : decode cX5_hold 204 = .ok (.iconst 3, 1) := by decide +kernel
theorem d_Mo_hold_205 : decode cX5_hold 205 = .ok (.invokevirtual 89, 3) := by decide +kernel
theorem d_Mo_hold_208 : decode cX5_hold 208 = .ok (.ifCond .eq 5, 3) := by decide +kernel
theorem d_Mo_hold_211 : decode cX5_hold 211 = .ok (.iconst 0, 1) := by decide +kernel
theorem d_Mo_hold_212 : decode cX5_hold 212 = .ok (.ireturn, 1) := by decide +kernel
theorem d_Mo_hold_213 : decode cX5_hold 213 = .ok (.iconst 0, 1) := by decide +kernel
theorem d_Mo_hold_214 : decode cX5_hold 214 = .ok (.istore 7, 2) := by decide +kernel
theorem d_Mo_hold_216 : decode cX5_hold 216 = .ok (.iload 7, 2) := by decide +kernel
theorem d_Mo_hold_218 : decode cX5_hold 218 = .ok (.iload 6, 2) := by decide +kernel
theorem d_Mo_hold_220 : decode cX5_hold 220 = .ok (.if_icmp .gt 33, 3) := by decide +kernel
theorem d_Mo_hold_223 : decode cX5_hold 223 = .ok (.aload_n 0, 1) := by decide +kernel
theorem d_Mo_hold_224 : decode cX5_hold 224 = .ok (.getfield 62, 3) := by decide +kernel
theorem d_Mo_hold_227 : decode cX5_hold 227 = .ok (.bipush 81, 2) := by decide +kernel
theorem d_Mo_hold_229 : decode cX5_hold 229 = .ok (.iload 4, 2) := by decide +kernel
theorem d_Mo_hold_231 : decode cX5_hold 231 = .ok (.imul, 1) := by decide +kernel
theorem d_Mo_hold_232 : decode cX5_hold 232 = .ok (.iload 7, 2) := by decide +kernel
theorem d_Mo_hold_234 : decode cX5_hold 234 = .ok (.iadd, 1) := by decide +kernel
theorem d_Mo_hold_235 : decode cX5_hold 235 = .ok (.aload_n 0, 1) := by decide +kernel
theorem d_Mo_hold_236 : decode cX5_hold 236 = .ok (.getfield 62, 3) := by decide +kernel
theorem d_Mo_hold_239 : decode cX5_hold 239 = .ok (.sipush 3240, 3) := by decide +kernel
theorem d_Mo_hold_242 : decode cX5_hold 242 = .ok (.iload 7, 2) := by decide +kernel
theorem d_Mo_hold_244 : decode cX5_hold 244 = .ok (.iadd, 1) := by decide +kernel
theorem d_Mo_hold_245 : decode cX5_hold 245 = .ok (.iaload, 1) := by decide +kernel
theorem d_Mo_hold_246 : decode cX5_hold 246 = .ok (.iastore, 1) := by decide +kernel
theorem d_Mo_hold_247 : decode cX5_hold 247 = .ok (.iinc 7 1, 3) := by decide +kernel
theorem d_Mo_hold_250 : decode cX5_hold 250 = .ok (.goto (-34), 3) := by decide +kernel
theorem d_Mo_hold_253 : decode cX5_hold 253 = .ok (.aload_n 0, 1) := by decide +kernel
theorem d_Mo_hold_254 : decode cX5_hold 254 = .ok (.getfield 53, 3) := by decide +kernel
theorem d_Mo_hold_257 : decode cX5_hold 257 = .ok (.iload 4, 2) := by decide +kernel
theorem d_Mo_hold_259 : decode cX5_hold 259 = .ok (.iload 6, 2) := by decide +kernel
theorem d_Mo_hold_261 : decode cX5_hold 261 = .ok (.iastore, 1) := by decide +kernel
theorem d_Mo_hold_262 : decode cX5_hold 262 = .ok (.aload_n 0, 1) := by decide +kernel
theorem d_Mo_hold_263 : decode cX5_hold 263 = .ok (.getfield 50, 3) := by decide +kernel
theorem d_Mo_hold_266 : decode cX5_hold 266 = .ok (.iload 4, 2) := by decide +kernel
theorem d_Mo_hold_268 : decode cX5_hold 268 = .ok (.iaload, 1) := by decide +kernel
theorem d_Mo_hold_269 : decode cX5_hold 269 = .ok (.iload 6, 2) := by decide +kernel
theorem d_Mo_hold_271 : decode cX5_hold 271 = .ok (.iadd, 1) := by decide +kernel
theorem d_Mo_hold_272 : decode cX5_hold 272 = .ok (.ireturn, 1) := by decide +kernel
set_option maxRecDepth 100000 in
set_option maxHeartbeats 4000000 in
theorem w_b_Mo_hold_120 {X : CX} {KX : MS → Prop} {k : Nat} {a1 : Int32} {a2 : Int32} {a4 : Int32} {a5 : Int32} {a6 : Int32} {a7 : Int32} {s : MS} {rec : Int32 → MS → Option (MS)} {sb : MS} (ok : Ok X cX5_hold RX5 rm_Mo_hold 8 false) (hexit : ∀ (z : MS), KX z → (∀ q, dm sb q → dm z q) → G X z 0 0 185 [(0, vR (some k)), (1, vI a1), (4, vI a4), (5, vI a5), (6, vI a6)] []) (hrec : ∀ (v7 : Int32) (z : MS), (∀ q, dm sb q → dm z q) → ∀ y, rec v7 z = some y → KX y → G X z 0 0 120 [(0, vR (some k)), (1, vI a1), (2, vI a2), (4, vI a4), (5, vI a5), (6, vI a6), (7, vI v7)] []) (mb : ∀ q, dm sb q → dm s q) (ht : rf s.2.2 20 (some k) = some k) {res : MS} (h : b_Mo_hold_120 k a1 a2 a4 a5 a6 a7 s rec = some res) (hk : KX res) : G X s 0 0 120 [(0, vR (some k)), (1, vI a1), (2, vI a2), (4, vI a4), (5, vI a5), (6, vI a6), (7, vI a7)] [] := by
  unfold b_Mo_hold_120 at h
  refine g_iload (i := 7) 6 ok d_Mo_hold_120 rfl ?_
  refine g_iload (i := 6) 5 ok d_Mo_hold_122 rfl ?_
  refine g_icmp_gt (tgt := 185) ok d_Mo_hold_124 (by decide) (fun c32 => ?_) (fun c32 => ?_)
  · replace h := (if_pos c32).symm.trans h
    refine g_sub [0, 1, 3, 4, 5] rfl ?_
    cases h
    exact hexit s hk mb
  · replace h := (if_neg c32).symm.trans h
    refine g_aload_n (i := 0) 0 ok d_Mo_hold_127 rfl rfl ?_
    refine g_getr (s0 := 20) (j := 23) (ci := 5) (C := RX5) (T := TX5) (N := 29) ok ht lay_20 rfl inX5 (by decide) rfl tw_761 rfl d_Mo_hold_128 ?_
    refine g_sipush (v := (3240 : Int32)) ok d_Mo_hold_131 (by decide) ?_
    refine g_iload (i := 7) 6 ok d_Mo_hold_134 rfl ?_
    refine g_iadd ok d_Mo_hold_136 ?_
    refine g_aload_n (i := 0) 0 ok d_Mo_hold_137 rfl rfl ?_
    refine g_getr (s0 := 20) (j := 23) (ci := 5) (C := RX5) (T := TX5) (N := 29) ok ht lay_20 rfl inX5 (by decide) rfl tw_761 rfl d_Mo_hold_138 ?_
    refine g_bipush (v := (81 : Int32)) ok d_Mo_hold_141 (by decide) ?_
    refine g_iload (i := 4) 3 ok d_Mo_hold_143 rfl ?_
    refine g_imul ok d_Mo_hold_145 ?_
    refine g_iload (i := 7) 6 ok d_Mo_hold_146 rfl ?_
    refine g_iload (i := 5) 4 ok d_Mo_hold_148 rfl ?_
    refine g_icmp_gt (tgt := 158) ok d_Mo_hold_150 (by decide) (fun c33 => ?_) (fun c33 => ?_)
    · replace h := (if_pos c33).symm.trans h
      refine g_iload (i := 7) 6 ok d_Mo_hold_158 rfl ?_
      refine g_iload (i := 5) 4 ok d_Mo_hold_160 rfl ?_
      refine g_iload_n (i := 2) 2 ok d_Mo_hold_162 rfl rfl ?_
      refine g_iadd ok d_Mo_hold_163 ?_
      refine g_icmp_gt (tgt := 172) ok d_Mo_hold_164 (by decide) (fun c34 => ?_) (fun c34 => ?_)
      · replace h := (if_pos c34).symm.trans h
        refine g_iload (i := 7) 6 ok d_Mo_hold_172 rfl ?_
        refine g_iload_n (i := 2) 2 ok d_Mo_hold_174 rfl rfl ?_
        refine g_isub ok d_Mo_hold_175 ?_
        refine g_iadd ok d_Mo_hold_176 ?_
        obtain ⟨k35, hk36, h⟩ := bnd_go h
        refine g_iald ok hk36 d_Mo_hold_177 ?_
        obtain ⟨k37, hk38, h⟩ := bnd_go h
        refine g_iast ok hk38 d_Mo_hold_178 ?_
        obtain ⟨s39, e40⟩ : ∃ z, wi s k37 ((3240 : Int32) + a7).toNatClampNeg (s.1 k35 (((81 : Int32) * a4) + (a7 - a2)).toNatClampNeg) = z := ⟨_, rfl⟩
        replace h := lt_go h e40
        have m41 := mo_wi e40
        rw [e40]
        obtain ⟨x42, e43⟩ : ∃ z, a7 + (1 : Int32) = z := ⟨_, rfl⟩
        replace h := lt_go h e43
        refine g_iinc (i := 7) (v := x42) 6 [(7, vI x42), (0, vR (some k)), (1, vI a1), (2, vI a2), (4, vI a4), (5, vI a5), (6, vI a6)] ok d_Mo_hold_179 rfl (by rw [← e43]; rfl) (by decide) rfl ?_
        refine g_goto (tgt := 120) ok d_Mo_hold_182 (by decide) ?_
        refine g_sub [1, 2, 3, 4, 5, 6, 0] rfl ?_
        exact hrec x42 s39 (fun z hz => m41 z (mb z hz)) _ h hk
      · replace h := (if_neg c34).symm.trans h
        refine g_iload (i := 5) 4 ok d_Mo_hold_167 rfl ?_
        refine g_goto (tgt := 176) ok d_Mo_hold_169 (by decide) ?_
        refine g_iadd ok d_Mo_hold_176 ?_
        obtain ⟨k44, hk45, h⟩ := bnd_go h
        refine g_iald ok hk45 d_Mo_hold_177 ?_
        obtain ⟨k46, hk47, h⟩ := bnd_go h
        refine g_iast ok hk47 d_Mo_hold_178 ?_
        obtain ⟨s48, e49⟩ : ∃ z, wi s k46 ((3240 : Int32) + a7).toNatClampNeg (s.1 k44 (((81 : Int32) * a4) + a5).toNatClampNeg) = z := ⟨_, rfl⟩
        replace h := lt_go h e49
        have m50 := mo_wi e49
        rw [e49]
        obtain ⟨x51, e52⟩ : ∃ z, a7 + (1 : Int32) = z := ⟨_, rfl⟩
        replace h := lt_go h e52
        refine g_iinc (i := 7) (v := x51) 6 [(7, vI x51), (0, vR (some k)), (1, vI a1), (2, vI a2), (4, vI a4), (5, vI a5), (6, vI a6)] ok d_Mo_hold_179 rfl (by rw [← e52]; rfl) (by decide) rfl ?_
        refine g_goto (tgt := 120) ok d_Mo_hold_182 (by decide) ?_
        refine g_sub [1, 2, 3, 4, 5, 6, 0] rfl ?_
        exact hrec x51 s48 (fun z hz => m50 z (mb z hz)) _ h hk
    · replace h := (if_neg c33).symm.trans h
      refine g_iload (i := 7) 6 ok d_Mo_hold_153 rfl ?_
      refine g_goto (tgt := 176) ok d_Mo_hold_155 (by decide) ?_
      refine g_iadd ok d_Mo_hold_176 ?_
      obtain ⟨k53, hk54, h⟩ := bnd_go h
      refine g_iald ok hk54 d_Mo_hold_177 ?_
      obtain ⟨k55, hk56, h⟩ := bnd_go h
      refine g_iast ok hk56 d_Mo_hold_178 ?_
      obtain ⟨s57, e58⟩ : ∃ z, wi s k55 ((3240 : Int32) + a7).toNatClampNeg (s.1 k53 (((81 : Int32) * a4) + a7).toNatClampNeg) = z := ⟨_, rfl⟩
      replace h := lt_go h e58
      have m59 := mo_wi e58
      rw [e58]
      obtain ⟨x60, e61⟩ : ∃ z, a7 + (1 : Int32) = z := ⟨_, rfl⟩
      replace h := lt_go h e61
      refine g_iinc (i := 7) (v := x60) 6 [(7, vI x60), (0, vR (some k)), (1, vI a1), (2, vI a2), (4, vI a4), (5, vI a5), (6, vI a6)] ok d_Mo_hold_179 rfl (by rw [← e61]; rfl) (by decide) rfl ?_
      refine g_goto (tgt := 120) ok d_Mo_hold_182 (by decide) ?_
      refine g_sub [1, 2, 3, 4, 5, 6, 0] rfl ?_
      exact hrec x60 s57 (fun z hz => m59 z (mb z hz)) _ h hk
theorem wx_l_Mo_hold_120 {X : CX} {KX : MS → Prop} {k : Nat} {a1 : Int32} {a2 : Int32} {a4 : Int32} {a5 : Int32} {a6 : Int32} {sb : MS} (ok : Ok X cX5_hold RX5 rm_Mo_hold 8 false) (hexit : ∀ (z : MS), KX z → (∀ q, dm sb q → dm z q) → G X z 0 0 185 [(0, vR (some k)), (1, vI a1), (4, vI a4), (5, vI a5), (6, vI a6)] []) (htb : rf sb.2.2 20 (some k) = some k) : ∀ (n : Nat) (a7 : Int32) (s : MS), (∀ q, dm sb q → dm s q) → ∀ (res : MS), l_Mo_hold_120 k a1 a2 a4 a5 a6 n a7 s = some res → KX res → G X s 0 0 120 [(0, vR (some k)), (1, vI a1), (2, vI a2), (4, vI a4), (5, vI a5), (6, vI a6), (7, vI a7)] [] := by
  intro n
  induction n with
  | zero => intro _ s _ res h; cases h
  | succ n ih =>
    intro a7 s mb res h hk
    exact w_b_Mo_hold_120 ok hexit (fun v7 z hz y h2 hk2 => ih v7 z hz y h2 hk2) mb (rf_mono mb htb) h hk
theorem w_l_Mo_hold_120 {X : CX} {KX : MS → Prop} {k : Nat} {a1 : Int32} {a2 : Int32} {a4 : Int32} {a5 : Int32} {a6 : Int32} {sb : MS} (ok : Ok X cX5_hold RX5 rm_Mo_hold 8 false) (hexit : ∀ (z : MS), KX z → (∀ q, dm sb q → dm z q) → G X z 0 0 185 [(0, vR (some k)), (1, vI a1), (4, vI a4), (5, vI a5), (6, vI a6)] []) (mb : ∀ q, dm sb q → dm sb q) (htb : rf sb.2.2 20 (some k) = some k) (n : Nat) (a7 : Int32) {res : MS} (h : l_Mo_hold_120 k a1 a2 a4 a5 a6 n a7 sb = some res) (hk : KX res) : G X sb 0 0 120 [(0, vR (some k)), (1, vI a1), (2, vI a2), (4, vI a4), (5, vI a5), (6, vI a6), (7, vI a7)] [] := wx_l_Mo_hold_120 ok hexit htb n a7 sb mb res h hk
set_option maxRecDepth 100000 in
set_option maxHeartbeats 4000000 in
theorem w_b_Mo_hold_216 {X : CX} {KX : MS → Prop} {k : Nat} {a4 : Int32} {a6 : Int32} {a7 : Int32} {s : MS} {rec : Int32 → MS → Option (MS)} {sb : MS} (ok : Ok X cX5_hold RX5 rm_Mo_hold 8 false) (hexit : ∀ (z : MS), KX z → (∀ q, dm sb q → dm z q) → G X z 0 0 253 [(0, vR (some k)), (4, vI a4), (6, vI a6)] []) (hrec : ∀ (v7 : Int32) (z : MS), (∀ q, dm sb q → dm z q) → ∀ y, rec v7 z = some y → KX y → G X z 0 0 216 [(0, vR (some k)), (4, vI a4), (6, vI a6), (7, vI v7)] []) (mb : ∀ q, dm sb q → dm s q) (ht : rf s.2.2 20 (some k) = some k) {res : MS} (h : b_Mo_hold_216 k a4 a6 a7 s rec = some res) (hk : KX res) : G X s 0 0 216 [(0, vR (some k)), (4, vI a4), (6, vI a6), (7, vI a7)] [] := by
  unfold b_Mo_hold_216 at h
  refine g_iload (i := 7) 3 ok d_Mo_hold_216 rfl ?_
  refine g_iload (i := 6) 2 ok d_Mo_hold_218 rfl ?_
  refine g_icmp_gt (tgt := 253) ok d_Mo_hold_220 (by decide) (fun c75 => ?_) (fun c75 => ?_)
  · replace h := (if_pos c75).symm.trans h
    refine g_sub [0, 1, 2] rfl ?_
    cases h
    exact hexit s hk mb
  · replace h := (if_neg c75).symm.trans h
    refine g_aload_n (i := 0) 0 ok d_Mo_hold_223 rfl rfl ?_
    refine g_getr (s0 := 20) (j := 23) (ci := 5) (C := RX5) (T := TX5) (N := 29) ok ht lay_20 rfl inX5 (by decide) rfl tw_761 rfl d_Mo_hold_224 ?_
    refine g_bipush (v := (81 : Int32)) ok d_Mo_hold_227 (by decide) ?_
    refine g_iload (i := 4) 1 ok d_Mo_hold_229 rfl ?_
    refine g_imul ok d_Mo_hold_231 ?_
    refine g_iload (i := 7) 3 ok d_Mo_hold_232 rfl ?_
    refine g_iadd ok d_Mo_hold_234 ?_
    refine g_aload_n (i := 0) 0 ok d_Mo_hold_235 rfl rfl ?_
    refine g_getr (s0 := 20) (j := 23) (ci := 5) (C := RX5) (T := TX5) (N := 29) ok ht lay_20 rfl inX5 (by decide) rfl tw_761 rfl d_Mo_hold_236 ?_
    refine g_sipush (v := (3240 : Int32)) ok d_Mo_hold_239 (by decide) ?_
    refine g_iload (i := 7) 3 ok d_Mo_hold_242 rfl ?_
    refine g_iadd ok d_Mo_hold_244 ?_
    obtain ⟨k76, hk77, h⟩ := bnd_go h
    refine g_iald ok hk77 d_Mo_hold_245 ?_
    obtain ⟨k78, hk79, h⟩ := bnd_go h
    refine g_iast ok hk79 d_Mo_hold_246 ?_
    obtain ⟨s80, e81⟩ : ∃ z, wi s k78 (((81 : Int32) * a4) + a7).toNatClampNeg (s.1 k76 ((3240 : Int32) + a7).toNatClampNeg) = z := ⟨_, rfl⟩
    replace h := lt_go h e81
    have m82 := mo_wi e81
    rw [e81]
    obtain ⟨x83, e84⟩ : ∃ z, a7 + (1 : Int32) = z := ⟨_, rfl⟩
    replace h := lt_go h e84
    refine g_iinc (i := 7) (v := x83) 3 [(7, vI x83), (0, vR (some k)), (4, vI a4), (6, vI a6)] ok d_Mo_hold_247 rfl (by rw [← e84]; rfl) (by decide) rfl ?_
    refine g_goto (tgt := 216) ok d_Mo_hold_250 (by decide) ?_
    refine g_sub [1, 2, 3, 0] rfl ?_
    exact hrec x83 s80 (fun z hz => m82 z (mb z hz)) _ h hk
theorem wx_l_Mo_hold_216 {X : CX} {KX : MS → Prop} {k : Nat} {a4 : Int32} {a6 : Int32} {sb : MS} (ok : Ok X cX5_hold RX5 rm_Mo_hold 8 false) (hexit : ∀ (z : MS), KX z → (∀ q, dm sb q → dm z q) → G X z 0 0 253 [(0, vR (some k)), (4, vI a4), (6, vI a6)] []) (htb : rf sb.2.2 20 (some k) = some k) : ∀ (n : Nat) (a7 : Int32) (s : MS), (∀ q, dm sb q → dm s q) → ∀ (res : MS), l_Mo_hold_216 k a4 a6 n a7 s = some res → KX res → G X s 0 0 216 [(0, vR (some k)), (4, vI a4), (6, vI a6), (7, vI a7)] [] := by
  intro n
  induction n with
  | zero => intro _ s _ res h; cases h
  | succ n ih =>
    intro a7 s mb res h hk
    exact w_b_Mo_hold_216 ok hexit (fun v7 z hz y h2 hk2 => ih v7 z hz y h2 hk2) mb (rf_mono mb htb) h hk
theorem w_l_Mo_hold_216 {X : CX} {KX : MS → Prop} {k : Nat} {a4 : Int32} {a6 : Int32} {sb : MS} (ok : Ok X cX5_hold RX5 rm_Mo_hold 8 false) (hexit : ∀ (z : MS), KX z → (∀ q, dm sb q → dm z q) → G X z 0 0 253 [(0, vR (some k)), (4, vI a4), (6, vI a6)] []) (mb : ∀ q, dm sb q → dm sb q) (htb : rf sb.2.2 20 (some k) = some k) (n : Nat) (a7 : Int32) {res : MS} (h : l_Mo_hold_216 k a4 a6 n a7 sb = some res) (hk : KX res) : G X sb 0 0 216 [(0, vR (some k)), (4, vI a4), (6, vI a6), (7, vI a7)] [] := wx_l_Mo_hold_216 ok hexit htb n a7 sb mb res h hk
set_option maxRecDepth 100000 in
set_option maxHeartbeats 4000000 in
theorem w_j_Mo_hold_205 {X : CX} {KX : Int32 × MS → Prop} {k : Nat} {a4 : Int32} {a6 : Int32} {t0 : Int32} {t1 : Option Nat} {s : MS} (ok : Ok X cX5_hold RX5 rm_Mo_hold 8 false) (hret : ∀ r : Int32 × MS, KX r → Fin X (some .int) 0 0 false (some (vI r.1)) r.2) (ht : rf s.2.2 20 (some k) = some k) {res : Int32 × MS} (h : j_Mo_hold_205 k a4 a6 t0 t1 s = some res) (hk : KX res) : G X s 0 0 205 [(0, vR (some k)), (4, vI a4), (6, vI a6)] [vI t0, vR t1] := by
  unfold j_Mo_hold_205 at h
  obtain ⟨k68, hk69, h⟩ := bnd_go h
  obtain ⟨x73, s72, hc71, h⟩ := bnd2_go h
  refine g_invV (rm2 := rm_Mo_refused) (As := [vI t0]) (rest := []) ok hk69 lay_20 rfl (c_Mo_refused X.1.2.1 (rf_self hk69) hc71) cm_Mo_refused cv_Mo_refused tw_841 ⟨rfl, rfl⟩ ⟨le_t rfl, le_t rfl⟩ ⟨rfl, le_t rfl⟩ ⟨le_t rfl, le_t rfl⟩ d_Mo_hold_205 rfl (fun m70 => ?_)
  show G X s72 0 0 208 [(0, vR (some k)), (4, vI a4), (6, vI a6)] [vI x73]
  refine g_if_eq (tgt := 213) ok d_Mo_hold_208 (by decide) (fun c74 => ?_) (fun c74 => ?_)
  · replace h := (if_pos c74).symm.trans h
    refine g_iconst (v := (0 : Int32)) ok d_Mo_hold_213 (by decide) ?_
    refine g_istore (i := 7) [(7, vI (0 : Int32)), (0, vR (some k)), (4, vI a4), (6, vI a6)] ok d_Mo_hold_214 (by decide) rfl ?_
    refine g_sub [1, 2, 3, 0] rfl ?_
    obtain ⟨s86, hx, h⟩ := bnd_go h
    refine w_l_Mo_hold_216 (KX := fun y => y = s86) ok (fun y0 he m85 => ?_) (fun _ hz => hz) (rf_mono m70 ht) _ _ hx rfl
    cases he
    refine g_aload_n (i := 0) 0 ok d_Mo_hold_253 rfl rfl ?_
    refine g_getr (s0 := 20) (j := 20) (ci := 5) (C := RX5) (T := TX5) (N := 29) ok (rf_mono m85 (rf_mono m70 ht)) lay_20 rfl inX5 (by decide) rfl tw_758 rfl d_Mo_hold_254 ?_
    refine g_iload (i := 4) 1 ok d_Mo_hold_257 rfl ?_
    refine g_iload (i := 6) 2 ok d_Mo_hold_259 rfl ?_
    obtain ⟨k87, hk88, h⟩ := bnd_go h
    refine g_iast ok hk88 d_Mo_hold_261 ?_
    obtain ⟨s89, e90⟩ : ∃ z, wi s86 k87 a4.toNatClampNeg a6 = z := ⟨_, rfl⟩
    replace h := lt_go h e90
    have m91 := mo_wi e90
    rw [e90]
    refine g_aload_n (i := 0) 0 ok d_Mo_hold_262 rfl rfl ?_
    refine g_getr (s0 := 20) (j := 19) (ci := 5) (C := RX5) (T := TX5) (N := 29) ok (rf_mono m91 (rf_mono m85 (rf_mono m70 ht))) lay_20 rfl inX5 (by decide) rfl tw_757 rfl d_Mo_hold_263 ?_
    refine g_iload (i := 4) 1 ok d_Mo_hold_266 rfl ?_
    obtain ⟨k92, hk93, h⟩ := bnd_go h
    refine g_iald ok hk93 d_Mo_hold_268 ?_
    refine g_iload (i := 6) 2 ok d_Mo_hold_269 rfl ?_
    refine g_iadd ok d_Mo_hold_271 ?_
    cases h
    exact g_iret ok (hret _ hk) (by decide) (by decide) d_Mo_hold_272
  · replace h := (if_neg c74).symm.trans h
    refine g_iconst (v := (0 : Int32)) ok d_Mo_hold_211 (by decide) ?_
    cases h
    exact g_iret ok (hret _ hk) (by decide) (by decide) d_Mo_hold_212
set_option maxRecDepth 100000 in
set_option maxHeartbeats 4000000 in
theorem w_j_Mo_hold_109 {X : CX} {KX : Int32 × MS → Prop} {k : Nat} {a1 : Int32} {a2 : Int32} {a4 : Int32} {a5 : Int32} {a6 : Int32} {t0 : Int32} {t1 : Option Nat} {s : MS} (ok : Ok X cX5_hold RX5 rm_Mo_hold 8 false) (hret : ∀ r : Int32 × MS, KX r → Fin X (some .int) 0 0 false (some (vI r.1)) r.2) (ht : rf s.2.2 20 (some k) = some k) {res : Int32 × MS} (h : j_Mo_hold_109 k a1 a2 a4 a5 a6 t0 t1 s = some res) (hk : KX res) : G X s 0 0 109 [(0, vR (some k)), (1, vI a1), (2, vI a2), (4, vI a4), (5, vI a5), (6, vI a6)] [vI t0, vR t1] := by
  unfold j_Mo_hold_109 at h
  obtain ⟨k25, hk26, h⟩ := bnd_go h
  obtain ⟨x30, s29, hc28, h⟩ := bnd2_go h
  refine g_invV (rm2 := rm_Mo_refused) (As := [vI t0]) (rest := []) ok hk26 lay_20 rfl (c_Mo_refused X.1.2.1 (rf_self hk26) hc28) cm_Mo_refused cv_Mo_refused tw_841 ⟨rfl, rfl⟩ ⟨le_t rfl, le_t rfl⟩ ⟨rfl, le_t rfl⟩ ⟨le_t rfl, le_t rfl⟩ d_Mo_hold_109 rfl (fun m27 => ?_)
  show G X s29 0 0 112 [(0, vR (some k)), (1, vI a1), (2, vI a2), (4, vI a4), (5, vI a5), (6, vI a6)] [vI x30]
  refine g_if_eq (tgt := 117) ok d_Mo_hold_112 (by decide) (fun c31 => ?_) (fun c31 => ?_)
  · replace h := (if_pos c31).symm.trans h
    refine g_iconst (v := (0 : Int32)) ok d_Mo_hold_117 (by decide) ?_
    refine g_istore (i := 7) [(7, vI (0 : Int32)), (0, vR (some k)), (1, vI a1), (2, vI a2), (4, vI a4), (5, vI a5), (6, vI a6)] ok d_Mo_hold_118 (by decide) rfl ?_
    refine g_sub [1, 2, 3, 4, 5, 6, 0] rfl ?_
    obtain ⟨s63, hx, h⟩ := bnd_go h
    refine w_l_Mo_hold_120 (KX := fun y => y = s63) ok (fun y0 he m62 => ?_) (fun _ hz => hz) (rf_mono m27 ht) _ _ hx rfl
    cases he
    refine g_aload_n (i := 0) 0 ok d_Mo_hold_185 rfl rfl ?_
    refine g_aload_n (i := 0) 0 ok d_Mo_hold_186 rfl rfl ?_
    refine g_iload_n (i := 1) 1 ok d_Mo_hold_187 rfl rfl ?_
    refine g_iload (i := 4) 2 ok d_Mo_hold_188 rfl ?_
    refine g_iload (i := 5) 3 ok d_Mo_hold_190 rfl ?_
    refine g_iload (i := 6) 4 ok d_Mo_hold_192 rfl ?_
    obtain ⟨x65, hc66, h⟩ := bnd_go h
    refine g_invV (rm2 := rm_Mo_canHold) (As := [vI a1, vI a4, vI a5, vI a6]) (rest := [vR (some k)]) ok (rf_mono m62 (rf_mono m27 ht)) lay_20 rfl (c_Mo_canHold X.1.2.1 (rf_self (rf_mono m62 (rf_mono m27 ht))) hc66) cm_Mo_canHold cv_Mo_canHold tw_990 ⟨rfl, rfl⟩ ⟨le_t rfl, le_t rfl⟩ ⟨rfl, le_t rfl⟩ ⟨le_t rfl, le_t rfl⟩ d_Mo_hold_194 rfl (fun m64 => ?_)
    show G X s63 0 0 197 [(0, vR (some k)), (1, vI a1), (4, vI a4), (5, vI a5), (6, vI a6)] [vI x65, vR (some k)]
    refine g_if_eq (tgt := 204) ok d_Mo_hold_197 (by decide) (fun c67 => ?_) (fun c67 => ?_)
    · replace h := (if_pos c67).symm.trans h
      refine g_iconst (v := (3 : Int32)) ok d_Mo_hold_204 (by decide) ?_
      refine g_sub [0, 2, 4] rfl ?_
      exact w_j_Mo_hold_205 ok hret (rf_mono m62 (rf_mono m27 ht)) h hk
    · replace h := (if_neg c67).symm.trans h
      refine g_iconst (v := (0 : Int32)) ok d_Mo_hold_200 (by decide) ?_
      refine g_goto (tgt := 205) ok d_Mo_hold_201 (by decide) ?_
      refine g_sub [0, 2, 4] rfl ?_
      exact w_j_Mo_hold_205 ok hret (rf_mono m62 (rf_mono m27 ht)) h hk
  · replace h := (if_neg c31).symm.trans h
    refine g_iconst (v := (0 : Int32)) ok d_Mo_hold_115 (by decide) ?_
    cases h
    exact g_iret ok (hret _ hk) (by decide) (by decide) d_Mo_hold_116
set_option maxRecDepth 100000 in
set_option maxHeartbeats 4000000 in
theorem w_j_Mo_hold_55 {X : CX} {KX : Int32 × MS → Prop} {k : Nat} {a1 : Int32} {a2 : Int32} {t0 : Int32} {t1 : Option Nat} {s : MS} (ok : Ok X cX5_hold RX5 rm_Mo_hold 8 false) (hret : ∀ r : Int32 × MS, KX r → Fin X (some .int) 0 0 false (some (vI r.1)) r.2) (ht : rf s.2.2 20 (some k) = some k) {res : Int32 × MS} (h : j_Mo_hold_55 k a1 a2 t0 t1 s = some res) (hk : KX res) : G X s 0 0 55 [(0, vR (some k)), (1, vI a1), (2, vI a2)] [vI t0, vR t1] := by
  unfold j_Mo_hold_55 at h
  obtain ⟨k5, hk6, h⟩ := bnd_go h
  obtain ⟨x10, s9, hc8, h⟩ := bnd2_go h
  refine g_invV (rm2 := rm_Mo_refused) (As := [vI t0]) (rest := []) ok hk6 lay_20 rfl (c_Mo_refused X.1.2.1 (rf_self hk6) hc8) cm_Mo_refused cv_Mo_refused tw_841 ⟨rfl, rfl⟩ ⟨le_t rfl, le_t rfl⟩ ⟨rfl, le_t rfl⟩ ⟨le_t rfl, le_t rfl⟩ d_Mo_hold_55 rfl (fun m7 => ?_)
  show G X s9 0 0 58 [(0, vR (some k)), (1, vI a1), (2, vI a2)] [vI x10]
  refine g_if_eq (tgt := 63) ok d_Mo_hold_58 (by decide) (fun c11 => ?_) (fun c11 => ?_)
  · replace h := (if_pos c11).symm.trans h
    refine g_aload_n (i := 0) 0 ok d_Mo_hold_63 rfl rfl ?_
    refine g_getr (s0 := 20) (j := 13) (ci := 5) (C := RX5) (T := TX5) (N := 29) ok (rf_mono m7 ht) lay_20 rfl inX5 (by decide) rfl tw_751 rfl d_Mo_hold_64 ?_
    refine g_iload_n (i := 1) 1 ok d_Mo_hold_67 rfl rfl ?_
    obtain ⟨k12, hk13, h⟩ := bnd_go h
    refine g_iald ok hk13 d_Mo_hold_68 ?_
    obtain ⟨x14, e15⟩ : ∃ z, (s9.1 k12 a1.toNatClampNeg) = z := ⟨_, rfl⟩
    replace h := lt_go h e15
    rw [e15]
    refine g_istore (i := 4) [(4, vI x14), (0, vR (some k)), (1, vI a1), (2, vI a2)] ok d_Mo_hold_69 (by decide) rfl ?_
    refine g_aload_n (i := 0) 1 ok d_Mo_hold_71 rfl rfl ?_
    refine g_geti (s0 := 20) (j := 1) (ci := 5) (C := RX5) (T := TX5) (N := 29) ok (rf_mono m7 ht) lay_20 rfl inX5 (by decide) rfl tw_739 rfl d_Mo_hold_72 ?_
    refine g_aload_n (i := 0) 1 ok d_Mo_hold_75 rfl rfl ?_
    refine g_getr (s0 := 20) (j := 19) (ci := 5) (C := RX5) (T := TX5) (N := 29) ok (rf_mono m7 ht) lay_20 rfl inX5 (by decide) rfl tw_757 rfl d_Mo_hold_76 ?_
    refine g_iload (i := 4) 0 ok d_Mo_hold_79 rfl ?_
    obtain ⟨k16, hk17, h⟩ := bnd_go h
    refine g_iald ok hk17 d_Mo_hold_81 ?_
    refine g_isub ok d_Mo_hold_82 ?_
    obtain ⟨x18, e19⟩ : ∃ z, ((s9.1 k 1) - (s9.1 k16 x14.toNatClampNeg)) = z := ⟨_, rfl⟩
    replace h := lt_go h e19
    rw [e19]
    refine g_istore (i := 5) [(5, vI x18), (4, vI x14), (0, vR (some k)), (1, vI a1), (2, vI a2)] ok d_Mo_hold_83 (by decide) rfl ?_
    refine g_aload_n (i := 0) 2 ok d_Mo_hold_85 rfl rfl ?_
    refine g_getr (s0 := 20) (j := 20) (ci := 5) (C := RX5) (T := TX5) (N := 29) ok (rf_mono m7 ht) lay_20 rfl inX5 (by decide) rfl tw_758 rfl d_Mo_hold_86 ?_
    refine g_iload (i := 4) 1 ok d_Mo_hold_89 rfl ?_
    obtain ⟨k20, hk21, h⟩ := bnd_go h
    refine g_iald ok hk21 d_Mo_hold_91 ?_
    refine g_iload_n (i := 2) 4 ok d_Mo_hold_92 rfl rfl ?_
    refine g_iadd ok d_Mo_hold_93 ?_
    obtain ⟨x22, e23⟩ : ∃ z, ((s9.1 k20 x14.toNatClampNeg) + a2) = z := ⟨_, rfl⟩
    replace h := lt_go h e23
    rw [e23]
    refine g_istore (i := 6) [(6, vI x22), (5, vI x18), (4, vI x14), (0, vR (some k)), (1, vI a1), (2, vI a2)] ok d_Mo_hold_94 (by decide) rfl ?_
    refine g_aload_n (i := 0) 3 ok d_Mo_hold_96 rfl rfl ?_
    refine g_iload (i := 6) 0 ok d_Mo_hold_97 rfl ?_
    refine g_bipush (v := (80 : Int32)) ok d_Mo_hold_99 (by decide) ?_
    refine g_icmp_le (tgt := 108) ok d_Mo_hold_101 (by decide) (fun c24 => ?_) (fun c24 => ?_)
    · replace h := (if_pos c24).symm.trans h
      refine g_iconst (v := (3 : Int32)) ok d_Mo_hold_104 (by decide) ?_
      refine g_goto (tgt := 109) ok d_Mo_hold_105 (by decide) ?_
      refine g_sub [3, 4, 5, 2, 1, 0] rfl ?_
      exact w_j_Mo_hold_109 ok hret (rf_mono m7 ht) h hk
    · replace h := (if_neg c24).symm.trans h
      refine g_iconst (v := (0 : Int32)) ok d_Mo_hold_108 (by decide) ?_
      refine g_sub [3, 4, 5, 2, 1, 0] rfl ?_
      exact w_j_Mo_hold_109 ok hret (rf_mono m7 ht) h hk
  · replace h := (if_neg c11).symm.trans h
    refine g_iconst (v := (0 : Int32)) ok d_Mo_hold_61 (by decide) ?_
    cases h
    exact g_iret ok (hret _ hk) (by decide) (by decide) d_Mo_hold_62
set_option maxRecDepth 100000 in
set_option maxHeartbeats 4000000 in
theorem w_j_Mo_hold_50 {X : CX} {KX : Int32 × MS → Prop} {k : Nat} {a1 : Int32} {a2 : Int32} {t0 : Option Nat} {s : MS} (ok : Ok X cX5_hold RX5 rm_Mo_hold 8 false) (hret : ∀ r : Int32 × MS, KX r → Fin X (some .int) 0 0 false (some (vI r.1)) r.2) (ht : rf s.2.2 20 (some k) = some k) {res : Int32 × MS} (h : j_Mo_hold_50 k a1 a2 t0 s = some res) (hk : KX res) : G X s 0 0 50 [(0, vR (some k)), (1, vI a1), (2, vI a2)] [vR t0] := by
  unfold j_Mo_hold_50 at h
  refine g_iconst (v := (3 : Int32)) ok d_Mo_hold_50 (by decide) ?_
  refine g_goto (tgt := 55) ok d_Mo_hold_51 (by decide) ?_
  exact w_j_Mo_hold_55 ok hret ht h hk
set_option maxRecDepth 100000 in
set_option maxHeartbeats 4000000 in
theorem w_Mo_hold {X : CX} {KX : Int32 × MS → Prop} {k : Nat} {a1 : Int32} {a2 : Int32} {s : MS} (ok : Ok X cX5_hold RX5 rm_Mo_hold 8 false) (hret : ∀ r : Int32 × MS, KX r → Fin X (some .int) 0 0 false (some (vI r.1)) r.2)   (ht : rf s.2.2 20 (some k) = some k) {res : Int32 × MS} (h : f_Mo_hold k a1 a2 s = some res) (hk : KX res) : G X s 0 0 0 [(0, vR (some k)), (1, vI a1), (2, vI a2)] [] := by
  unfold f_Mo_hold at h
  refine g_aload_n (i := 0) 0 ok d_Mo_hold_0 rfl rfl ?_
  refine g_iload_n (i := 1) 1 ok d_Mo_hold_1 rfl rfl ?_
  obtain ⟨x2, hc3, h⟩ := bnd_go h
  refine g_invV (rm2 := rm_Mo_isMachine) (As := [vI a1]) (rest := []) ok ht lay_20 rfl (c_Mo_isMachine X.1.2.1 (rf_self ht) hc3) cm_Mo_isMachine cv_Mo_isMachine tw_890 ⟨rfl, rfl⟩ ⟨le_t rfl, le_t rfl⟩ ⟨rfl, le_t rfl⟩ ⟨le_t rfl, le_t rfl⟩ d_Mo_hold_2 rfl (fun m1 => ?_)
  show G X s 0 0 5 [(0, vR (some k)), (1, vI a1), (2, vI a2)] [vI x2]
  refine g_istore_n (i := 3) [(3, vI x2), (0, vR (some k)), (1, vI a1), (2, vI a2)] ok d_Mo_hold_5 rfl (by decide) rfl ?_
  refine g_aload_n (i := 0) 1 ok d_Mo_hold_6 rfl rfl ?_
  refine g_iload_n (i := 3) 0 ok d_Mo_hold_7 rfl rfl ?_
  refine g_if_ne (tgt := 15) ok d_Mo_hold_8 (by decide) (fun c4 => ?_) (fun c4 => ?_)
  · replace h := (if_pos c4).symm.trans h
    refine g_iconst (v := (1 : Int32)) ok d_Mo_hold_11 (by decide) ?_
    refine g_goto (tgt := 55) ok d_Mo_hold_12 (by decide) ?_
    refine g_sub [1, 2, 3] rfl ?_
    exact w_j_Mo_hold_55 ok hret ht h hk
  · replace h := (if_neg c4).symm.trans h
    refine g_iload_n (i := 2) 3 ok d_Mo_hold_15 rfl rfl ?_
    refine g_iconst (v := (1 : Int32)) ok d_Mo_hold_16 (by decide) ?_
    refine g_bipush (v := (10 : Int32)) ok d_Mo_hold_17 (by decide) ?_
    refine g_invS (rm2 := rm_Mo_within) (As := [vI a2, vI (1 : Int32), vI (10 : Int32)]) (rest := [vR (some k)]) ok (c_Mo_within X.1.2.1) cm_Mo_within cs_Mo_within tw_838 ⟨rfl, rfl⟩ ⟨le_t rfl, le_t rfl⟩ ⟨rfl, le_t rfl⟩ ⟨le_t rfl, le_t rfl⟩ d_Mo_hold_19 rfl (fun m94 => ?_)
    show G X s 0 0 22 [(3, vI x2), (0, vR (some k)), (1, vI a1), (2, vI a2)] [vI (f_Mo_within a2 (1 : Int32) (10 : Int32)), vR (some k)]
    refine g_if_ne (tgt := 29) ok d_Mo_hold_22 (by decide) (fun c95 => ?_) (fun c95 => ?_)
    · replace h := (if_pos c95).symm.trans h
      refine g_iconst (v := (2 : Int32)) ok d_Mo_hold_25 (by decide) ?_
      refine g_goto (tgt := 55) ok d_Mo_hold_26 (by decide) ?_
      refine g_sub [1, 2, 3] rfl ?_
      exact w_j_Mo_hold_55 ok hret ht h hk
    · replace h := (if_neg c95).symm.trans h
      refine g_aload_n (i := 0) 1 ok d_Mo_hold_29 rfl rfl ?_
      refine g_getr (s0 := 20) (j := 12) (ci := 5) (C := RX5) (T := TX5) (N := 29) ok ht lay_20 rfl inX5 (by decide) rfl tw_750 rfl d_Mo_hold_30 ?_
      refine g_iload_n (i := 1) 2 ok d_Mo_hold_33 rfl rfl ?_
      obtain ⟨k96, hk97, h⟩ := bnd_go h
      refine g_iald ok hk97 d_Mo_hold_34 ?_
      refine g_iconst (v := (1 : Int32)) ok d_Mo_hold_35 (by decide) ?_
      refine g_icmp_ne (tgt := 50) ok d_Mo_hold_36 (by decide) (fun c98 => ?_) (fun c98 => ?_)
      · replace h := (if_pos c98).symm.trans h
        refine g_aload_n (i := 0) 1 ok d_Mo_hold_39 rfl rfl ?_
        refine g_getr (s0 := 20) (j := 11) (ci := 5) (C := RX5) (T := TX5) (N := 29) ok ht lay_20 rfl inX5 (by decide) rfl tw_749 rfl d_Mo_hold_40 ?_
        refine g_iload_n (i := 1) 2 ok d_Mo_hold_43 rfl rfl ?_
        obtain ⟨k99, hk100, h⟩ := bnd_go h
        refine g_iald ok hk100 d_Mo_hold_44 ?_
        refine g_bipush (v := (100 : Int32)) ok d_Mo_hold_45 (by decide) ?_
        refine g_icmp_ge (tgt := 54) ok d_Mo_hold_47 (by decide) (fun c101 => ?_) (fun c101 => ?_)
        · replace h := (if_pos c101).symm.trans h
          refine g_sub [1, 2, 3] rfl ?_
          exact w_j_Mo_hold_50 ok hret ht h hk
        · replace h := (if_neg c101).symm.trans h
          refine g_iconst (v := (0 : Int32)) ok d_Mo_hold_54 (by decide) ?_
          refine g_sub [1, 2, 3] rfl ?_
          exact w_j_Mo_hold_55 ok hret ht h hk
      · replace h := (if_neg c98).symm.trans h
        refine g_sub [1, 2, 3] rfl ?_
        exact w_j_Mo_hold_50 ok hret ht h hk
theorem c_Mo_hold (l : Launch) {k : Nat} {a1 : Int32} {a2 : Int32} {s : MS} (ht : rf s.2.2 20 (some k) = some k) {r : Int32} {z : MS} (h : f_Mo_hold k a1 a2 s = some (r, z)) : Ct l yX5_hold (.code yX5_hold cX5_hold 8 (some .int)) rm_Mo_hold 0 0 false [vR (some k), vI a1, vI a2] s (some (vI r)) z :=
  Ct.of rfl (by decide +kernel) ⟨rfl, le_t rfl⟩ (fun X ok fn _ hI hl => w_Mo_hold (KX := fun y => y = (r, z)) ok (fun y hy => by subst hy; exact fn) ht h rfl)
abbrev rm_Mo_time : Room := { frames := 0, cells := 0, slots := 0, locals := 0 }
theorem cm_Mo_time : cfM yX5_time cX5_time 1 (some .int) 0 := ⟨tw_997, tw_4, by decide, by decide, by decide +kernel⟩
theorem cv_Mo_time : cfV yX5_time := ⟨tw_995, tw_996⟩
theorem d_Mo_time_0 : decode cX5_time 0 = .ok (.aload_n 0, 1) := by decide +kernel
theorem d_Mo_time_1 : decode cX5_time 1 = .ok (.iconst 0, 1) := by decide +kernel
theorem d_Mo_time_2 : decode cX5_time 2 = .ok (.putfield 72, 3) := by decide +kernel
theorem d_Mo_time_5 : decode cX5_time 5 = .ok (.aload_n 0, 1) := by decide +kernel
theorem d_Mo_time_6 : decode cX5_time 6 = .ok (.getfield 139, 3) := by decide +kernel
theorem d_Mo_time_9 : decode cX5_time 9 = .ok (.ireturn, 1) := by decide +kernel
set_option maxRecDepth 100000 in
set_option maxHeartbeats 4000000 in
theorem w_Mo_time {X : CX} {KX : Int32 × MS → Prop} {k : Nat} {s : MS} (ok : Ok X cX5_time RX5 rm_Mo_time 1 false) (hret : ∀ r : Int32 × MS, KX r → Fin X (some .int) 0 0 false (some (vI r.1)) r.2)   (ht : rf s.2.2 20 (some k) = some k) {res : Int32 × MS} (h : f_Mo_time k s = some res) (hk : KX res) : G X s 0 0 0 [(0, vR (some k))] [] := by
  unfold f_Mo_time at h
  refine g_aload_n (i := 0) 0 ok d_Mo_time_0 rfl rfl ?_
  refine g_iconst (v := (0 : Int32)) ok d_Mo_time_1 (by decide) ?_
  refine g_puti (s0 := 20) (j := 0) (ci := 5) (C := RX5) (T := TX5) (N := 29) ok ht lay_20 rfl inX5 (by decide) rfl tw_738 rfl tyX5_ok nmX5 rfl (Or.inl rfl) d_Mo_time_2 ?_
  obtain ⟨s1, e2⟩ : ∃ z, wi s k 0 (0 : Int32) = z := ⟨_, rfl⟩
  replace h := lt_go h e2
  have m3 := mo_wi e2
  rw [e2]
  refine g_aload_n (i := 0) 0 ok d_Mo_time_5 rfl rfl ?_
  refine g_geti (s0 := 20) (j := 1) (ci := 5) (C := RX5) (T := TX5) (N := 29) ok (rf_mono m3 ht) lay_20 rfl inX5 (by decide) rfl tw_739 rfl d_Mo_time_6 ?_
  cases h
  exact g_iret ok (hret _ hk) (by decide) (by decide) d_Mo_time_9
theorem c_Mo_time (l : Launch) {k : Nat} {s : MS} (ht : rf s.2.2 20 (some k) = some k) {r : Int32} {z : MS} (h : f_Mo_time k s = some (r, z)) : Ct l yX5_time (.code yX5_time cX5_time 1 (some .int)) rm_Mo_time 0 0 false [vR (some k)] s (some (vI r)) z :=
  Ct.of rfl (by decide +kernel) ⟨rfl, le_t rfl⟩ (fun X ok fn _ hI hl => w_Mo_time (KX := fun y => y = (r, z)) ok (fun y hy => by subst hy; exact fn) ht h rfl)
abbrev rm_Mo_whereAt : Room := { frames := 1, cells := 0, slots := 0, locals := 22 }
theorem cm_Mo_whereAt : cfM yX5_whereAt cX5_whereAt 3 (some .int) 2 := ⟨tw_1009, tw_4, by decide, by decide, by decide +kernel⟩
theorem cv_Mo_whereAt : cfV yX5_whereAt := ⟨tw_1008, ts_X5_whereAt⟩
theorem d_Mo_whereAt_0 : decode cX5_whereAt 0 = .ok (.iload_n 2, 1) := by decide +kernel
theorem d_Mo_whereAt_1 : decode cX5_whereAt 1 = .ok (.aload_n 0, 1) := by decide +kernel
theorem d_Mo_whereAt_2 : decode cX5_whereAt 2 = .ok (.getfield 50, 3) := by decide +kernel
theorem d_Mo_whereAt_5 : decode cX5_whereAt 5 = .ok (.iload_n 1, 1) := by decide +kernel
theorem d_Mo_whereAt_6 : decode cX5_whereAt 6 = .ok (.iaload, 1) := by decide +kernel
theorem d_Mo_whereAt_7 : decode cX5_whereAt 7 = .ok (.aload_n 0, 1) := by decide +kernel
theorem d_Mo_whereAt_8 : decode cX5_whereAt 8 = .ok (.getfield 50, 3) := by decide +kernel
theorem d_Mo_whereAt_11 : decode cX5_whereAt 11 = .ok (.iload_n 1, 1) := by decide +kernel
theorem d_Mo_whereAt_12 : decode cX5_whereAt 12 = .ok (.iaload, 1) := by decide +kernel
theorem d_Mo_whereAt_13 : decode cX5_whereAt 13 = .ok (.aload_n 0, 1) := by decide +kernel
theorem d_Mo_whereAt_14 : decode cX5_whereAt 14 = .ok (.getfield 53, 3) := by decide +kernel
theorem d_Mo_whereAt_17 : decode cX5_whereAt 17 = .ok (.iload_n 1, 1) := by decide +kernel
theorem d_Mo_whereAt_18 : decode cX5_whereAt 18 = .ok (.iaload, 1) := by decide +kernel
theorem d_Mo_whereAt_19 : decode cX5_whereAt 19 = .ok (.iadd, 1) := by decide +kernel
theorem d_Mo_whereAt_20 : decode cX5_whereAt 20 = .ok (.invokestatic 75, 3) := by decide +kernel
theorem d_Mo_whereAt_23 : decode cX5_whereAt 23 = .ok (.ifCond .eq 24, 3) := by decide +kernel
theorem d_Mo_whereAt_26 : decode cX5_whereAt 26 = .ok (.aload_n 0, 1) := by decide +kernel
theorem d_Mo_whereAt_27 : decode cX5_whereAt 27 = .ok (.getfield 62, 3) := by decide +kernel
theorem d_Mo_whereAt_30 : decode cX5_whereAt 30 = .ok (.bipush 81, 2) := by decide +kernel
theorem d_Mo_whereAt_32 : decode cX5_whereAt 32 = .ok (.iload_n 1, 1) := by decide +kernel
theorem d_Mo_whereAt_33 : decode cX5_whereAt 33 = .ok (.imul, 1) := by decide +kernel
theorem d_Mo_whereAt_34 : decode cX5_whereAt 34 = .ok (.iload_n 2, 1) := by decide +kernel
theorem d_Mo_whereAt_35 : decode cX5_whereAt 35 = .ok (.iadd, 1) := by decide +kernel
theorem d_Mo_whereAt_36 : decode cX5_whereAt 36 = .ok (.aload_n 0, 1) := by decide +kernel
theorem d_Mo_whereAt_37 : decode cX5_whereAt 37 = .ok (.getfield 50, 3) := by decide +kernel
theorem d_Mo_whereAt_40 : decode cX5_whereAt 40 = .ok (.iload_n 1, 1) := by decide +kernel
theorem d_Mo_whereAt_41 : decode cX5_whereAt 41 = .ok (.iaload, 1) := by decide +kernel
theorem d_Mo_whereAt_42 : decode cX5_whereAt 42 = .ok (.isub, 1) := by decide +kernel
theorem d_Mo_whereAt_43 : decode cX5_whereAt 43 = .ok (.iaload, 1) := by decide +kernel
theorem d_Mo_whereAt_44 : decode cX5_whereAt 44 = .ok (.goto 4, 3) := by decide +kernel
theorem d_Mo_whereAt_47 : decode cX5_whereAt 47 = .ok (.iconst (-1), 1) := by decide +kernel
theorem d_Mo_whereAt_48 : decode cX5_whereAt 48 = .ok (.ireturn, 1) := by decide +kernel
set_option maxRecDepth 100000 in
set_option maxHeartbeats 4000000 in
theorem w_Mo_whereAt {X : CX} {KX : Int32 → Prop} {k : Nat} {a1 : Int32} {a2 : Int32} {s : MS} (ok : Ok X cX5_whereAt RX5 rm_Mo_whereAt 3 false) (hret : ∀ r : Int32, KX r → Fin X (some .int) 0 0 false (some (vI r)) s)   (ht : rf s.2.2 20 (some k) = some k) {res : Int32} (h : f_Mo_whereAt k a1 a2 s = some res) (hk : KX res) : G X s 0 0 0 [(0, vR (some k)), (1, vI a1), (2, vI a2)] [] := by
  unfold f_Mo_whereAt at h
  refine g_iload_n (i := 2) 2 ok d_Mo_whereAt_0 rfl rfl ?_
  refine g_aload_n (i := 0) 0 ok d_Mo_whereAt_1 rfl rfl ?_
  refine g_getr (s0 := 20) (j := 19) (ci := 5) (C := RX5) (T := TX5) (N := 29) ok ht lay_20 rfl inX5 (by decide) rfl tw_757 rfl d_Mo_whereAt_2 ?_
  refine g_iload_n (i := 1) 1 ok d_Mo_whereAt_5 rfl rfl ?_
  obtain ⟨k1, hk2, h⟩ := bnd_go h
  refine g_iald ok hk2 d_Mo_whereAt_6 ?_
  refine g_aload_n (i := 0) 0 ok d_Mo_whereAt_7 rfl rfl ?_
  refine g_getr (s0 := 20) (j := 19) (ci := 5) (C := RX5) (T := TX5) (N := 29) ok ht lay_20 rfl inX5 (by decide) rfl tw_757 rfl d_Mo_whereAt_8 ?_
  refine g_iload_n (i := 1) 1 ok d_Mo_whereAt_11 rfl rfl ?_
  obtain ⟨k3, hk4, h⟩ := bnd_go h
  refine g_iald ok hk4 d_Mo_whereAt_12 ?_
  refine g_aload_n (i := 0) 0 ok d_Mo_whereAt_13 rfl rfl ?_
  refine g_getr (s0 := 20) (j := 20) (ci := 5) (C := RX5) (T := TX5) (N := 29) ok ht lay_20 rfl inX5 (by decide) rfl tw_758 rfl d_Mo_whereAt_14 ?_
  refine g_iload_n (i := 1) 1 ok d_Mo_whereAt_17 rfl rfl ?_
  obtain ⟨k5, hk6, h⟩ := bnd_go h
  refine g_iald ok hk6 d_Mo_whereAt_18 ?_
  refine g_iadd ok d_Mo_whereAt_19 ?_
  refine g_invS (rm2 := rm_Mo_within) (As := [vI a2, vI (s.1 k1 a1.toNatClampNeg), vI ((s.1 k3 a1.toNatClampNeg) + (s.1 k5 a1.toNatClampNeg))]) (rest := []) ok (c_Mo_within X.1.2.1) cm_Mo_within cs_Mo_within tw_838 ⟨rfl, rfl⟩ ⟨le_t rfl, le_t rfl⟩ ⟨rfl, le_t rfl⟩ ⟨le_t rfl, le_t rfl⟩ d_Mo_whereAt_20 rfl (fun m7 => ?_)
  show G X s 0 0 23 [(0, vR (some k)), (1, vI a1), (2, vI a2)] [vI (f_Mo_within a2 (s.1 k1 a1.toNatClampNeg) ((s.1 k3 a1.toNatClampNeg) + (s.1 k5 a1.toNatClampNeg)))]
  refine g_if_eq (tgt := 47) ok d_Mo_whereAt_23 (by decide) (fun c8 => ?_) (fun c8 => ?_)
  · replace h := (if_pos c8).symm.trans h
    refine g_iconst (v := (-1 : Int32)) ok d_Mo_whereAt_47 (by decide) ?_
    cases h
    exact g_iret ok (hret _ hk) (by decide) (by decide) d_Mo_whereAt_48
  · replace h := (if_neg c8).symm.trans h
    refine g_aload_n (i := 0) 0 ok d_Mo_whereAt_26 rfl rfl ?_
    refine g_getr (s0 := 20) (j := 23) (ci := 5) (C := RX5) (T := TX5) (N := 29) ok ht lay_20 rfl inX5 (by decide) rfl tw_761 rfl d_Mo_whereAt_27 ?_
    refine g_bipush (v := (81 : Int32)) ok d_Mo_whereAt_30 (by decide) ?_
    refine g_iload_n (i := 1) 1 ok d_Mo_whereAt_32 rfl rfl ?_
    refine g_imul ok d_Mo_whereAt_33 ?_
    refine g_iload_n (i := 2) 2 ok d_Mo_whereAt_34 rfl rfl ?_
    refine g_iadd ok d_Mo_whereAt_35 ?_
    refine g_aload_n (i := 0) 0 ok d_Mo_whereAt_36 rfl rfl ?_
    refine g_getr (s0 := 20) (j := 19) (ci := 5) (C := RX5) (T := TX5) (N := 29) ok ht lay_20 rfl inX5 (by decide) rfl tw_757 rfl d_Mo_whereAt_37 ?_
    refine g_iload_n (i := 1) 1 ok d_Mo_whereAt_40 rfl rfl ?_
    obtain ⟨k9, hk10, h⟩ := bnd_go h
    refine g_iald ok hk10 d_Mo_whereAt_41 ?_
    refine g_isub ok d_Mo_whereAt_42 ?_
    obtain ⟨k11, hk12, h⟩ := bnd_go h
    refine g_iald ok hk12 d_Mo_whereAt_43 ?_
    refine g_goto (tgt := 48) ok d_Mo_whereAt_44 (by decide) ?_
    cases h
    exact g_iret ok (hret _ hk) (by decide) (by decide) d_Mo_whereAt_48
theorem c_Mo_whereAt (l : Launch) {k : Nat} {a1 : Int32} {a2 : Int32} {s : MS} (ht : rf s.2.2 20 (some k) = some k) {r : Int32} (h : f_Mo_whereAt k a1 a2 s = some r) : Ct l yX5_whereAt (.code yX5_whereAt cX5_whereAt 3 (some .int)) rm_Mo_whereAt 0 0 false [vR (some k), vI a1, vI a2] s (some (vI r)) s :=
  Ct.of rfl (by decide +kernel) ⟨rfl, le_t rfl⟩ (fun X ok fn _ hI hl => w_Mo_whereAt (KX := fun y => y = r) ok (fun y hy => by subst hy; exact fn) ht h rfl)
abbrev rm_Mo_isNear : Room := { frames := 2, cells := 1, slots := 12, locals := 44 }
theorem cm_Mo_isNear : cfM yX5_isNear cX5_isNear 8 (some .boolean) 2 := ⟨tw_1005, tw_4, by decide, by decide, by decide +kernel⟩
theorem cv_Mo_isNear : cfV yX5_isNear := ⟨tw_1004, ts_X5_isNear⟩
theorem d_Mo_isNear_0 : decode cX5_isNear 0 = .ok (.bipush 12, 2) := by decide +kernel
theorem d_Mo_isNear_2 : decode cX5_isNear 2 = .ok (.newarray .int, 2) := by decide +kernel
theorem d_Mo_isNear_4 : decode cX5_isNear 4 = .ok (.astore_n 3, 1) := by decide +kernel
theorem d_Mo_isNear_5 : decode cX5_isNear 5 = .ok (.aload_n 3, 1) := by decide +kernel
theorem d_Mo_isNear_6 : decode cX5_isNear 6 = .ok (.iconst 0, 1) := by decide +kernel
theorem d_Mo_isNear_7 : decode cX5_isNear 7 = .ok (.aload_n 0, 1) := by decide +kernel
theorem d_Mo_isNear_8 : decode cX5_isNear 8 = .ok (.getfield 32, 3) := by decide +kernel
theorem d_Mo_isNear_11 : decode cX5_isNear 11 = .ok (.iload_n 2, 1) := by decide +kernel
theorem d_Mo_isNear_12 : decode cX5_isNear 12 = .ok (.iaload, 1) := by decide +kernel
theorem d_Mo_isNear_13 : decode cX5_isNear 13 = .ok (.iastore, 1) := by decide +kernel
theorem d_Mo_isNear_14 : decode cX5_isNear 14 = .ok (.iconst 1, 1) := by decide +kernel
theorem d_Mo_isNear_15 : decode cX5_isNear 15 = .ok (.istore 4, 2) := by decide +kernel
theorem d_Mo_isNear_17 : decode cX5_isNear 17 = .ok (.iload 4, 2) := by decide +kernel
theorem d_Mo_isNear_19 : decode cX5_isNear 19 = .ok (.bipush 12, 2) := by decide +kernel
theorem d_Mo_isNear_21 : decode cX5_isNear 21 = .ok (.if_icmp .ge 48, 3) := by decide +kernel
theorem d_Mo_isNear_24 : decode cX5_isNear 24 = .ok (.aload_n 3, 1) := by decide +kernel
theorem d_Mo_isNear_25 : decode cX5_isNear 25 = .ok (.iload 4, 2) := by decide +kernel
theorem d_Mo_isNear_27 : decode cX5_isNear 27 = .ok (.aload_n 3, 1) := by decide +kernel
theorem d_Mo_isNear_28 : decode cX5_isNear 28 = .ok (.iload 4, 2) := by decide +kernel
theorem d_Mo_isNear_30 : decode cX5_isNear 30 = .ok (.iconst 1, 1) := by decide +kernel
theorem d_Mo_isNear_31 : decode cX5_isNear 31 = .ok (.isub, 1) := by decide +kernel
theorem d_Mo_isNear_32 : decode cX5_isNear 32 = .ok (.iaload, 1) := by decide +kernel
theorem d_Mo_isNear_33 : decode cX5_isNear 33 = .ok (.bipush 100, 2) := by decide +kernel
theorem d_Mo_isNear_35 : decode cX5_isNear 35 = .ok (.if_icmp .ge 12, 3) := by decide +kernel
theorem d_Mo_isNear_38 : decode cX5_isNear 38 = .ok (.aload_n 3, 1) := by decide +kernel
theorem d_Mo_isNear_39 : decode cX5_isNear 39 = .ok (.iload 4, 2) := by decide +kernel
theorem d_Mo_isNear_41 : decode cX5_isNear 41 = .ok (.iconst 1, 1) := by decide +kernel
theorem d_Mo_isNear_42 : decode cX5_isNear 42 = .ok (.isub, 1) := by decide +kernel
theorem d_Mo_isNear_43 : decode cX5_isNear 43 = .ok (.iaload, 1) := by decide +kernel
theorem d_Mo_isNear_44 : decode cX5_isNear 44 = .ok (.goto 18, 3) := by decide +kernel
theorem d_Mo_isNear_47 : decode cX5_isNear 47 = .ok (.aload_n 3, 1) := by decide +kernel
theorem d_Mo_isNear_48 : decode cX5_isNear 48 = .ok (.iload 4, 2) := by decide +kernel
theorem d_Mo_isNear_50 : decode cX5_isNear 50 = .ok (.iconst 1, 1) := by decide +kernel
theorem d_Mo_isNear_51 : decode cX5_isNear 51 = .ok (.isub, 1) := by decide +kernel
theorem d_Mo_isNear_52 : decode cX5_isNear 52 = .ok (.iaload, 1) := by decide +kernel
theorem d_Mo_isNear_53 : decode cX5_isNear 53 = .ok (.aload_n 0, 1) := by decide +kernel
theorem d_Mo_isNear_54 : decode cX5_isNear 54 = .ok (.getfield 41, 3) := by decide +kernel
theorem d_Mo_isNear_57 : decode cX5_isNear 57 = .ok (.iload_n 2, 1) := by decide +kernel
theorem d_Mo_isNear_58 : decode cX5_isNear 58 = .ok (.iaload, 1) := by decide +kernel
theorem d_Mo_isNear_59 : decode cX5_isNear 59 = .ok (.invokestatic 169, 3) := by decide +kernel
theorem d_Mo_isNear_62 : decode cX5_isNear 62 = .ok (.iastore, 1) := by decide +kernel
theorem d_Mo_isNear_63 : decode cX5_isNear 63 = .ok (.iinc 4 1, 3) := by decide +kernel
theorem d_Mo_isNear_66 : decode cX5_isNear 66 = .ok (.goto (-49), 3) := by decide +kernel
theorem d_Mo_isNear_69 : decode cX5_isNear 69 = .ok (.iconst 0, 1) := by decide +kernel
theorem d_Mo_isNear_70 : decode cX5_isNear 70 = .ok (.istore 4, 2) := by decide +kernel
theorem d_Mo_isNear_72 : decode cX5_isNear 72 = .ok (.iconst 1, 1) := by decide +kernel
theorem d_Mo_isNear_73 : decode cX5_isNear 73 = .ok (.istore 5, 2) := by decide +kernel
theorem d_Mo_isNear_75 : decode cX5_isNear 75 = .ok (.iload 5, 2) := by decide +kernel
theorem d_Mo_isNear_77 : decode cX5_isNear 77 = .ok (.bipush 11, 2) := by decide +kernel
theorem d_Mo_isNear_79 : decode cX5_isNear 79 = .ok (.if_icmp .ge 72, 3) := by decide +kernel
theorem d_Mo_isNear_82 : decode cX5_isNear 82 = .ok (.aload_n 0, 1) := by decide +kernel
theorem d_Mo_isNear_83 : decode cX5_isNear 83 = .ok (.iload_n 1, 1) := by decide +kernel
theorem d_Mo_isNear_84 : decode cX5_isNear 84 = .ok (.aload_n 0, 1) := by decide +kernel
theorem d_Mo_isNear_85 : decode cX5_isNear 85 = .ok (.getfield 139, 3) := by decide +kernel
theorem d_Mo_isNear_88 : decode cX5_isNear 88 = .ok (.iload 5, 2) := by decide +kernel
theorem d_Mo_isNear_90 : decode cX5_isNear 90 = .ok (.iadd, 1) := by decide +kernel
theorem d_Mo_isNear_91 : decode cX5_isNear 91 = .ok (.invokevirtual 189, 3) := by decide +kernel
theorem d_Mo_isNear_94 : decode cX5_isNear 94 = .ok (.istore 6, 2) := by decide +kernel
theorem d_Mo_isNear_96 : decode cX5_isNear 96 = .ok (.iload 5, 2) := by decide +kernel
theorem d_Mo_isNear_98 : decode cX5_isNear 98 = .ok (.iconst 1, 1) := by decide +kernel
theorem d_Mo_isNear_99 : decode cX5_isNear 99 = .ok (.isub, 1) := by decide +kernel
theorem d_Mo_isNear_100 : decode cX5_isNear 100 = .ok (.istore 7, 2) := by decide +kernel
theorem d_Mo_isNear_102 : decode cX5_isNear 102 = .ok (.iload 7, 2) := by decide +kernel
theorem d_Mo_isNear_104 : decode cX5_isNear 104 = .ok (.iload 5, 2) := by decide +kernel
theorem d_Mo_isNear_106 : decode cX5_isNear 106 = .ok (.iconst 2, 1) := by decide +kernel
theorem d_Mo_isNear_107 : decode cX5_isNear 107 = .ok (.iadd, 1) := by decide +kernel
theorem d_Mo_isNear_108 : decode cX5_isNear 108 = .ok (.if_icmp .ge 37, 3) := by decide +kernel
theorem d_Mo_isNear_111 : decode cX5_isNear 111 = .ok (.iload 4, 2) := by decide +kernel
theorem d_Mo_isNear_113 : decode cX5_isNear 113 = .ok (.ifCond .ne 19, 3) := by decide +kernel
theorem d_Mo_isNear_116 : decode cX5_isNear 116 = .ok (.iload 6, 2) := by decide +kernel
theorem d_Mo_isNear_118 : decode cX5_isNear 118 = .ok (.bipush 99, 2) := by decide +kernel
theorem d_Mo_isNear_120 : decode cX5_isNear 120 = .ok (.if_icmp .le 16, 3) := by decide +kernel
theorem d_Mo_isNear_123 : decode cX5_isNear 123 = .ok (.iload 6, 2) := by decide +kernel
theorem d_Mo_isNear_125 : decode cX5_isNear 125 = .ok (.aload_n 3, 1) := by decide +kernel
theorem d_Mo_isNear_126 : decode cX5_isNear 126 = .ok (.iload 7, 2) := by decide +kernel
theorem d_Mo_isNear_128 : decode cX5_isNear 128 = .ok (.iaload, 1) := by decide +kernel
theorem d_Mo_isNear_129 : decode cX5_isNear 129 = .ok (.if_icmp .ne 7, 3) := by decide +kernel
theorem d_Mo_isNear_132 : decode cX5_isNear 132 = .ok (.iconst 1, 1) := by decide +kernel
theorem d_Mo_isNear_133 : decode cX5_isNear 133 = .ok (.goto 4, 3) := by decide +kernel
theorem d_Mo_isNear_136 : decode cX5_isNear 136 = .ok (.iconst 0, 1) := by decide +kernel
theorem d_Mo_isNear_137 : decode cX5_isNear 137 = .ok (.istore 4, 2) := by decide +kernel
theorem d_Mo_isNear_139 : decode cX5_isNear 139 = .ok (.iinc 7 1, 3) := by decide +kernel
theorem d_Mo_isNear_142 : decode cX5_isNear 142 = .ok (.goto (-40), 3) := by decide +kernel
theorem d_Mo_isNear_145 : decode cX5_isNear 145 = .ok (.iinc 5 1, 3) := by decide +kernel
theorem d_Mo_isNear_148 : decode cX5_isNear 148 = .ok (.goto (-73), 3) := by decide +kernel
theorem d_Mo_isNear_151 : decode cX5_isNear 151 = .ok (.iload 4, 2) := by decide +kernel
theorem d_Mo_isNear_153 : decode cX5_isNear 153 = .ok (.ireturn, 1) := by decide +kernel
set_option maxRecDepth 100000 in
set_option maxHeartbeats 4000000 in
theorem w_b_Mo_isNear_17 {X : CX} {KX : MS → Prop} {k : Nat} {a1 : Int32} {a2 : Int32} {a3 : Option Nat} {a4 : Int32} {s : MS} {rec : Int32 → MS → Option (MS)} {sb : MS} (ok : Ok X cX5_isNear RX5 rm_Mo_isNear 8 true) (hexit : ∀ (z : MS), KX z → (∀ q, dm sb q → dm z q) → G X z 1 12 69 [(0, vR (some k)), (1, vI a1), (3, vR a3)] []) (hrec : ∀ (v4 : Int32) (z : MS), (∀ q, dm sb q → dm z q) → ∀ y, rec v4 z = some y → KX y → G X z 1 12 17 [(0, vR (some k)), (1, vI a1), (2, vI a2), (3, vR a3), (4, vI v4)] []) (mb : ∀ q, dm sb q → dm s q) (ht : rf s.2.2 20 (some k) = some k) {res : MS} (h : b_Mo_isNear_17 k a1 a2 a3 a4 s rec = some res) (hk : KX res) : G X s 1 12 17 [(0, vR (some k)), (1, vI a1), (2, vI a2), (3, vR a3), (4, vI a4)] [] := by
  unfold b_Mo_isNear_17 at h
  refine g_iload (i := 4) 4 ok d_Mo_isNear_17 rfl ?_
  refine g_bipush (v := (12 : Int32)) ok d_Mo_isNear_19 (by decide) ?_
  refine g_icmp_ge (tgt := 69) ok d_Mo_isNear_21 (by decide) (fun c16 => ?_) (fun c16 => ?_)
  · replace h := (if_pos c16).symm.trans h
    refine g_aload_n (i := 3) 3 ok d_Mo_isNear_24 rfl rfl ?_
    refine g_iload (i := 4) 4 ok d_Mo_isNear_25 rfl ?_
    refine g_aload_n (i := 3) 3 ok d_Mo_isNear_27 rfl rfl ?_
    refine g_iload (i := 4) 4 ok d_Mo_isNear_28 rfl ?_
    refine g_iconst (v := (1 : Int32)) ok d_Mo_isNear_30 (by decide) ?_
    refine g_isub ok d_Mo_isNear_31 ?_
    obtain ⟨k17, hk18, h⟩ := bnd_go h
    refine g_iald ok hk18 d_Mo_isNear_32 ?_
    refine g_bipush (v := (100 : Int32)) ok d_Mo_isNear_33 (by decide) ?_
    refine g_icmp_ge (tgt := 47) ok d_Mo_isNear_35 (by decide) (fun c19 => ?_) (fun c19 => ?_)
    · replace h := (if_pos c19).symm.trans h
      refine g_aload_n (i := 3) 3 ok d_Mo_isNear_38 rfl rfl ?_
      refine g_iload (i := 4) 4 ok d_Mo_isNear_39 rfl ?_
      refine g_iconst (v := (1 : Int32)) ok d_Mo_isNear_41 (by decide) ?_
      refine g_isub ok d_Mo_isNear_42 ?_
      obtain ⟨k20, hk21, h⟩ := bnd_go h
      refine g_iald ok hk21 d_Mo_isNear_43 ?_
      refine g_goto (tgt := 62) ok d_Mo_isNear_44 (by decide) ?_
      obtain ⟨k22, hk23, h⟩ := bnd_go h
      refine g_iast ok hk23 d_Mo_isNear_62 ?_
      obtain ⟨s24, e25⟩ : ∃ z, wi s k22 a4.toNatClampNeg (s.1 k20 (a4 - (1 : Int32)).toNatClampNeg) = z := ⟨_, rfl⟩
      replace h := lt_go h e25
      have m26 := mo_wi e25
      rw [e25]
      obtain ⟨x27, e28⟩ : ∃ z, a4 + (1 : Int32) = z := ⟨_, rfl⟩
      replace h := lt_go h e28
      refine g_iinc (i := 4) (v := x27) 4 [(4, vI x27), (0, vR (some k)), (1, vI a1), (2, vI a2), (3, vR a3)] ok d_Mo_isNear_63 rfl (by rw [← e28]; rfl) (by decide) rfl ?_
      refine g_goto (tgt := 17) ok d_Mo_isNear_66 (by decide) ?_
      refine g_sub [1, 2, 3, 4, 0] rfl ?_
      exact hrec x27 s24 (fun z hz => m26 z (mb z hz)) _ h hk
    · replace h := (if_neg c19).symm.trans h
      refine g_aload_n (i := 3) 3 ok d_Mo_isNear_47 rfl rfl ?_
      refine g_iload (i := 4) 4 ok d_Mo_isNear_48 rfl ?_
      refine g_iconst (v := (1 : Int32)) ok d_Mo_isNear_50 (by decide) ?_
      refine g_isub ok d_Mo_isNear_51 ?_
      obtain ⟨k29, hk30, h⟩ := bnd_go h
      refine g_iald ok hk30 d_Mo_isNear_52 ?_
      refine g_aload_n (i := 0) 0 ok d_Mo_isNear_53 rfl rfl ?_
      refine g_getr (s0 := 20) (j := 14) (ci := 5) (C := RX5) (T := TX5) (N := 29) ok ht lay_20 rfl inX5 (by decide) rfl tw_752 rfl d_Mo_isNear_54 ?_
      refine g_iload_n (i := 2) 2 ok d_Mo_isNear_57 rfl rfl ?_
      obtain ⟨k31, hk32, h⟩ := bnd_go h
      refine g_iald ok hk32 d_Mo_isNear_58 ?_
      refine g_invS (rm2 := rm_Mo_homeward) (As := [vI (s.1 k29 (a4 - (1 : Int32)).toNatClampNeg), vI (s.1 k31 a2.toNatClampNeg)]) (rest := [vI a4, vR a3]) ok (c_Mo_homeward X.1.2.1) cm_Mo_homeward cs_Mo_homeward tw_967 ⟨rfl, rfl⟩ ⟨le_t rfl, le_t rfl⟩ ⟨rfl, le_t rfl⟩ ⟨le_t rfl, le_t rfl⟩ d_Mo_isNear_59 rfl (fun m33 => ?_)
      show G X s 1 12 62 [(0, vR (some k)), (1, vI a1), (2, vI a2), (3, vR a3), (4, vI a4)] [vI (f_Mo_homeward (s.1 k29 (a4 - (1 : Int32)).toNatClampNeg) (s.1 k31 a2.toNatClampNeg)), vI a4, vR a3]
      obtain ⟨k34, hk35, h⟩ := bnd_go h
      refine g_iast ok hk35 d_Mo_isNear_62 ?_
      obtain ⟨s36, e37⟩ : ∃ z, wi s k34 a4.toNatClampNeg (f_Mo_homeward (s.1 k29 (a4 - (1 : Int32)).toNatClampNeg) (s.1 k31 a2.toNatClampNeg)) = z := ⟨_, rfl⟩
      replace h := lt_go h e37
      have m38 := mo_wi e37
      rw [e37]
      obtain ⟨x39, e40⟩ : ∃ z, a4 + (1 : Int32) = z := ⟨_, rfl⟩
      replace h := lt_go h e40
      refine g_iinc (i := 4) (v := x39) 4 [(4, vI x39), (0, vR (some k)), (1, vI a1), (2, vI a2), (3, vR a3)] ok d_Mo_isNear_63 rfl (by rw [← e40]; rfl) (by decide) rfl ?_
      refine g_goto (tgt := 17) ok d_Mo_isNear_66 (by decide) ?_
      refine g_sub [1, 2, 3, 4, 0] rfl ?_
      exact hrec x39 s36 (fun z hz => m38 z (mb z hz)) _ h hk
  · replace h := (if_neg c16).symm.trans h
    refine g_sub [0, 1, 3] rfl ?_
    cases h
    exact hexit s hk mb
theorem wx_l_Mo_isNear_17 {X : CX} {KX : MS → Prop} {k : Nat} {a1 : Int32} {a2 : Int32} {a3 : Option Nat} {sb : MS} (ok : Ok X cX5_isNear RX5 rm_Mo_isNear 8 true) (hexit : ∀ (z : MS), KX z → (∀ q, dm sb q → dm z q) → G X z 1 12 69 [(0, vR (some k)), (1, vI a1), (3, vR a3)] []) (htb : rf sb.2.2 20 (some k) = some k) : ∀ (n : Nat) (a4 : Int32) (s : MS), (∀ q, dm sb q → dm s q) → ∀ (res : MS), l_Mo_isNear_17 k a1 a2 a3 n a4 s = some res → KX res → G X s 1 12 17 [(0, vR (some k)), (1, vI a1), (2, vI a2), (3, vR a3), (4, vI a4)] [] := by
  intro n
  induction n with
  | zero => intro _ s _ res h; cases h
  | succ n ih =>
    intro a4 s mb res h hk
    exact w_b_Mo_isNear_17 ok hexit (fun v4 z hz y h2 hk2 => ih v4 z hz y h2 hk2) mb (rf_mono mb htb) h hk
theorem w_l_Mo_isNear_17 {X : CX} {KX : MS → Prop} {k : Nat} {a1 : Int32} {a2 : Int32} {a3 : Option Nat} {sb : MS} (ok : Ok X cX5_isNear RX5 rm_Mo_isNear 8 true) (hexit : ∀ (z : MS), KX z → (∀ q, dm sb q → dm z q) → G X z 1 12 69 [(0, vR (some k)), (1, vI a1), (3, vR a3)] []) (mb : ∀ q, dm sb q → dm sb q) (htb : rf sb.2.2 20 (some k) = some k) (n : Nat) (a4 : Int32) {res : MS} (h : l_Mo_isNear_17 k a1 a2 a3 n a4 sb = some res) (hk : KX res) : G X sb 1 12 17 [(0, vR (some k)), (1, vI a1), (2, vI a2), (3, vR a3), (4, vI a4)] [] := wx_l_Mo_isNear_17 ok hexit htb n a4 sb mb res h hk
set_option maxRecDepth 100000 in
set_option maxHeartbeats 4000000 in
theorem w_b_Mo_isNear_102 {X : CX} {KX : Int32 → Prop} {k : Nat} {a1 : Int32} {a3 : Option Nat} {a4 : Int32} {a5 : Int32} {a6 : Int32} {a7 : Int32} {s : MS} {rec : Int32 → Int32 → Option (Int32)} (ok : Ok X cX5_isNear RX5 rm_Mo_isNear 8 true) (hexit : ∀ (e4 : Int32), KX e4 → G X s 1 12 145 [(0, vR (some k)), (1, vI a1), (3, vR a3), (4, vI e4), (5, vI a5)] []) (hrec : ∀ (v4 : Int32) (v7 : Int32), ∀ y, rec v4 v7 = some y → KX y → G X s 1 12 102 [(0, vR (some k)), (1, vI a1), (3, vR a3), (4, vI v4), (5, vI a5), (6, vI a6), (7, vI v7)] []) (ht : rf s.2.2 20 (some k) = some k) {res : Int32} (h : b_Mo_isNear_102 k a1 a3 a4 a5 a6 a7 s rec = some res) (hk : KX res) : G X s 1 12 102 [(0, vR (some k)), (1, vI a1), (3, vR a3), (4, vI a4), (5, vI a5), (6, vI a6), (7, vI a7)] [] := by
  unfold b_Mo_isNear_102 at h
  refine g_iload (i := 7) 6 ok d_Mo_isNear_102 rfl ?_
  refine g_iload (i := 5) 4 ok d_Mo_isNear_104 rfl ?_
  refine g_iconst (v := (2 : Int32)) ok d_Mo_isNear_106 (by decide) ?_
  refine g_iadd ok d_Mo_isNear_107 ?_
  refine g_icmp_ge (tgt := 145) ok d_Mo_isNear_108 (by decide) (fun c49 => ?_) (fun c49 => ?_)
  · replace h := (if_pos c49).symm.trans h
    refine g_iload (i := 4) 3 ok d_Mo_isNear_111 rfl ?_
    refine g_if_ne (tgt := 132) ok d_Mo_isNear_113 (by decide) (fun c50 => ?_) (fun c50 => ?_)
    · replace h := (if_pos c50).symm.trans h
      refine g_iload (i := 6) 5 ok d_Mo_isNear_116 rfl ?_
      refine g_bipush (v := (99 : Int32)) ok d_Mo_isNear_118 (by decide) ?_
      refine g_icmp_le (tgt := 136) ok d_Mo_isNear_120 (by decide) (fun c51 => ?_) (fun c51 => ?_)
      · replace h := (if_pos c51).symm.trans h
        refine g_iload (i := 6) 5 ok d_Mo_isNear_123 rfl ?_
        refine g_aload_n (i := 3) 2 ok d_Mo_isNear_125 rfl rfl ?_
        refine g_iload (i := 7) 6 ok d_Mo_isNear_126 rfl ?_
        obtain ⟨k52, hk53, h⟩ := bnd_go h
        refine g_iald ok hk53 d_Mo_isNear_128 ?_
        refine g_icmp_ne (tgt := 136) ok d_Mo_isNear_129 (by decide) (fun c54 => ?_) (fun c54 => ?_)
        · replace h := (if_pos c54).symm.trans h
          refine g_iconst (v := (1 : Int32)) ok d_Mo_isNear_132 (by decide) ?_
          refine g_goto (tgt := 137) ok d_Mo_isNear_133 (by decide) ?_
          refine g_istore (i := 4) [(4, vI (1 : Int32)), (0, vR (some k)), (1, vI a1), (3, vR a3), (5, vI a5), (6, vI a6), (7, vI a7)] ok d_Mo_isNear_137 (by decide) rfl ?_
          obtain ⟨x55, e56⟩ : ∃ z, a7 + (1 : Int32) = z := ⟨_, rfl⟩
          replace h := lt_go h e56
          refine g_iinc (i := 7) (v := x55) 6 [(7, vI x55), (4, vI (1 : Int32)), (0, vR (some k)), (1, vI a1), (3, vR a3), (5, vI a5), (6, vI a6)] ok d_Mo_isNear_139 rfl (by rw [← e56]; rfl) (by decide) rfl ?_
          refine g_goto (tgt := 102) ok d_Mo_isNear_142 (by decide) ?_
          refine g_sub [2, 3, 4, 1, 5, 6, 0] rfl ?_
          exact hrec (1 : Int32) x55 _ h hk
        · replace h := (if_neg c54).symm.trans h
          refine g_iconst (v := (0 : Int32)) ok d_Mo_isNear_136 (by decide) ?_
          refine g_istore (i := 4) [(4, vI (0 : Int32)), (0, vR (some k)), (1, vI a1), (3, vR a3), (5, vI a5), (6, vI a6), (7, vI a7)] ok d_Mo_isNear_137 (by decide) rfl ?_
          obtain ⟨x57, e58⟩ : ∃ z, a7 + (1 : Int32) = z := ⟨_, rfl⟩
          replace h := lt_go h e58
          refine g_iinc (i := 7) (v := x57) 6 [(7, vI x57), (4, vI (0 : Int32)), (0, vR (some k)), (1, vI a1), (3, vR a3), (5, vI a5), (6, vI a6)] ok d_Mo_isNear_139 rfl (by rw [← e58]; rfl) (by decide) rfl ?_
          refine g_goto (tgt := 102) ok d_Mo_isNear_142 (by decide) ?_
          refine g_sub [2, 3, 4, 1, 5, 6, 0] rfl ?_
          exact hrec (0 : Int32) x57 _ h hk
      · replace h := (if_neg c51).symm.trans h
        refine g_iconst (v := (0 : Int32)) ok d_Mo_isNear_136 (by decide) ?_
        refine g_istore (i := 4) [(4, vI (0 : Int32)), (0, vR (some k)), (1, vI a1), (3, vR a3), (5, vI a5), (6, vI a6), (7, vI a7)] ok d_Mo_isNear_137 (by decide) rfl ?_
        obtain ⟨x59, e60⟩ : ∃ z, a7 + (1 : Int32) = z := ⟨_, rfl⟩
        replace h := lt_go h e60
        refine g_iinc (i := 7) (v := x59) 6 [(7, vI x59), (4, vI (0 : Int32)), (0, vR (some k)), (1, vI a1), (3, vR a3), (5, vI a5), (6, vI a6)] ok d_Mo_isNear_139 rfl (by rw [← e60]; rfl) (by decide) rfl ?_
        refine g_goto (tgt := 102) ok d_Mo_isNear_142 (by decide) ?_
        refine g_sub [2, 3, 4, 1, 5, 6, 0] rfl ?_
        exact hrec (0 : Int32) x59 _ h hk
    · replace h := (if_neg c50).symm.trans h
      refine g_iconst (v := (1 : Int32)) ok d_Mo_isNear_132 (by decide) ?_
      refine g_goto (tgt := 137) ok d_Mo_isNear_133 (by decide) ?_
      refine g_istore (i := 4) [(4, vI (1 : Int32)), (0, vR (some k)), (1, vI a1), (3, vR a3), (5, vI a5), (6, vI a6), (7, vI a7)] ok d_Mo_isNear_137 (by decide) rfl ?_
      obtain ⟨x61, e62⟩ : ∃ z, a7 + (1 : Int32) = z := ⟨_, rfl⟩
      replace h := lt_go h e62
      refine g_iinc (i := 7) (v := x61) 6 [(7, vI x61), (4, vI (1 : Int32)), (0, vR (some k)), (1, vI a1), (3, vR a3), (5, vI a5), (6, vI a6)] ok d_Mo_isNear_139 rfl (by rw [← e62]; rfl) (by decide) rfl ?_
      refine g_goto (tgt := 102) ok d_Mo_isNear_142 (by decide) ?_
      refine g_sub [2, 3, 4, 1, 5, 6, 0] rfl ?_
      exact hrec (1 : Int32) x61 _ h hk
  · replace h := (if_neg c49).symm.trans h
    refine g_sub [0, 1, 2, 3, 4] rfl ?_
    cases h
    exact hexit a4 hk
theorem w_l_Mo_isNear_102 {X : CX} {KX : Int32 → Prop} {k : Nat} {a1 : Int32} {a3 : Option Nat} {a5 : Int32} {a6 : Int32} {s : MS} (ok : Ok X cX5_isNear RX5 rm_Mo_isNear 8 true) (hexit : ∀ (e4 : Int32), KX e4 → G X s 1 12 145 [(0, vR (some k)), (1, vI a1), (3, vR a3), (4, vI e4), (5, vI a5)] []) (ht : rf s.2.2 20 (some k) = some k) : ∀ (n : Nat) (a4 : Int32) (a7 : Int32) {res : Int32}, l_Mo_isNear_102 k a1 a3 a5 a6 s n a4 a7 = some res → KX res → G X s 1 12 102 [(0, vR (some k)), (1, vI a1), (3, vR a3), (4, vI a4), (5, vI a5), (6, vI a6), (7, vI a7)] [] := by
  intro n
  induction n with
  | zero => intro _ _ res h; cases h
  | succ n ih =>
    intro a4 a7 res h hk
    exact w_b_Mo_isNear_102 ok hexit (fun v4 v7 y h2 hk2 => ih v4 v7 h2 hk2) ht h hk
set_option maxRecDepth 100000 in
set_option maxHeartbeats 4000000 in
theorem w_b_Mo_isNear_75 {X : CX} {KX : Int32 → Prop} {k : Nat} {a1 : Int32} {a3 : Option Nat} {a4 : Int32} {a5 : Int32} {s : MS} {rec : Int32 → Int32 → Option (Int32)} (ok : Ok X cX5_isNear RX5 rm_Mo_isNear 8 true) (hexit : ∀ (e4 : Int32), KX e4 → G X s 1 12 151 [(0, vR (some k)), (4, vI e4)] []) (hrec : ∀ (v4 : Int32) (v5 : Int32), ∀ y, rec v4 v5 = some y → KX y → G X s 1 12 75 [(0, vR (some k)), (1, vI a1), (3, vR a3), (4, vI v4), (5, vI v5)] []) (ht : rf s.2.2 20 (some k) = some k) {res : Int32} (h : b_Mo_isNear_75 k a1 a3 a4 a5 s rec = some res) (hk : KX res) : G X s 1 12 75 [(0, vR (some k)), (1, vI a1), (3, vR a3), (4, vI a4), (5, vI a5)] [] := by
  unfold b_Mo_isNear_75 at h
  refine g_iload (i := 5) 4 ok d_Mo_isNear_75 rfl ?_
  refine g_bipush (v := (11 : Int32)) ok d_Mo_isNear_77 (by decide) ?_
  refine g_icmp_ge (tgt := 151) ok d_Mo_isNear_79 (by decide) (fun c43 => ?_) (fun c43 => ?_)
  · replace h := (if_pos c43).symm.trans h
    refine g_aload_n (i := 0) 0 ok d_Mo_isNear_82 rfl rfl ?_
    refine g_iload_n (i := 1) 1 ok d_Mo_isNear_83 rfl rfl ?_
    refine g_aload_n (i := 0) 0 ok d_Mo_isNear_84 rfl rfl ?_
    refine g_geti (s0 := 20) (j := 1) (ci := 5) (C := RX5) (T := TX5) (N := 29) ok ht lay_20 rfl inX5 (by decide) rfl tw_739 rfl d_Mo_isNear_85 ?_
    refine g_iload (i := 5) 4 ok d_Mo_isNear_88 rfl ?_
    refine g_iadd ok d_Mo_isNear_90 ?_
    obtain ⟨x45, hc46, h⟩ := bnd_go h
    refine g_invV (rm2 := rm_Mo_whereAt) (As := [vI a1, vI ((s.1 k 1) + a5)]) (rest := []) ok ht lay_20 rfl (c_Mo_whereAt X.1.2.1 (rf_self ht) hc46) cm_Mo_whereAt cv_Mo_whereAt tw_1006 ⟨rfl, rfl⟩ ⟨le_t rfl, le_t rfl⟩ ⟨rfl, le_t rfl⟩ ⟨le_t rfl, le_t rfl⟩ d_Mo_isNear_91 rfl (fun m44 => ?_)
    show G X s 1 12 94 [(0, vR (some k)), (1, vI a1), (3, vR a3), (4, vI a4), (5, vI a5)] [vI x45]
    refine g_istore (i := 6) [(6, vI x45), (0, vR (some k)), (1, vI a1), (3, vR a3), (4, vI a4), (5, vI a5)] ok d_Mo_isNear_94 (by decide) rfl ?_
    refine g_iload (i := 5) 5 ok d_Mo_isNear_96 rfl ?_
    refine g_iconst (v := (1 : Int32)) ok d_Mo_isNear_98 (by decide) ?_
    refine g_isub ok d_Mo_isNear_99 ?_
    obtain ⟨x47, e48⟩ : ∃ z, (a5 - (1 : Int32)) = z := ⟨_, rfl⟩
    replace h := lt_go h e48
    rw [e48]
    refine g_istore (i := 7) [(7, vI x47), (6, vI x45), (0, vR (some k)), (1, vI a1), (3, vR a3), (4, vI a4), (5, vI a5)] ok d_Mo_isNear_100 (by decide) rfl ?_
    refine g_sub [2, 3, 4, 5, 6, 1, 0] rfl ?_
    obtain ⟨e63, hx, h⟩ := bnd_go h
    refine w_l_Mo_isNear_102 (KX := fun y => y = e63) ok (fun y0 he => ?_) ht _ _ _ hx rfl
    cases he
    obtain ⟨x64, e65⟩ : ∃ z, a5 + (1 : Int32) = z := ⟨_, rfl⟩
    replace h := lt_go h e65
    refine g_iinc (i := 5) (v := x64) 4 [(5, vI x64), (0, vR (some k)), (1, vI a1), (3, vR a3), (4, vI e63)] ok d_Mo_isNear_145 rfl (by rw [← e65]; rfl) (by decide) rfl ?_
    refine g_goto (tgt := 75) ok d_Mo_isNear_148 (by decide) ?_
    refine g_sub [1, 2, 3, 4, 0] rfl ?_
    exact hrec e63 x64 _ h hk
  · replace h := (if_neg c43).symm.trans h
    refine g_sub [0, 3] rfl ?_
    cases h
    exact hexit a4 hk
theorem w_l_Mo_isNear_75 {X : CX} {KX : Int32 → Prop} {k : Nat} {a1 : Int32} {a3 : Option Nat} {s : MS} (ok : Ok X cX5_isNear RX5 rm_Mo_isNear 8 true) (hexit : ∀ (e4 : Int32), KX e4 → G X s 1 12 151 [(0, vR (some k)), (4, vI e4)] []) (ht : rf s.2.2 20 (some k) = some k) : ∀ (n : Nat) (a4 : Int32) (a5 : Int32) {res : Int32}, l_Mo_isNear_75 k a1 a3 s n a4 a5 = some res → KX res → G X s 1 12 75 [(0, vR (some k)), (1, vI a1), (3, vR a3), (4, vI a4), (5, vI a5)] [] := by
  intro n
  induction n with
  | zero => intro _ _ res h; cases h
  | succ n ih =>
    intro a4 a5 res h hk
    exact w_b_Mo_isNear_75 ok hexit (fun v4 v5 y h2 hk2 => ih v4 v5 h2 hk2) ht h hk
set_option maxRecDepth 100000 in
set_option maxHeartbeats 4000000 in
theorem w_Mo_isNear {X : CX} {KX : Int32 × MS → Prop} {k : Nat} {a1 : Int32} {a2 : Int32} {s : MS} (ok : Ok X cX5_isNear RX5 rm_Mo_isNear 8 true) (hret : ∀ r : Int32 × MS, KX r → Fin X (some .boolean) 1 12 true (some (vI r.1)) r.2)   (ht : rf s.2.2 20 (some k) = some k) {res : Int32 × MS} (h : f_Mo_isNear k a1 a2 s = some res) (hk : KX res) : G X s 0 0 0 [(0, vR (some k)), (1, vI a1), (2, vI a2)] [] := by
  unfold f_Mo_isNear at h
  refine g_bipush (v := (12 : Int32)) ok d_Mo_isNear_0 (by decide) ?_
  obtain ⟨o1, e2⟩ : ∃ z, nid s 48 = z := ⟨_, rfl⟩
  replace h := lt_go h e2
  refine g_newa0 (s0 := 48) (n := 12) ok (by decide) lay_48 (by decide) (by decide) (by decide) tw_47 ⟨(rk_of ht), ⟨trivial, ⟨trivial, trivial⟩⟩⟩ trivial (by decide) (by decide) d_Mo_isNear_2 ?_
  rw [e2]
  obtain ⟨s3, e4⟩ : ∃ z, nw s 48 = z := ⟨_, rfl⟩
  replace h := lt_go h e4
  have m5 := mo_nw (by decide) e4
  rw [e4]
  have hk6 : rf s3.2.2 48 (some o1) = some o1 := by rw [← e2]; exact rf_new (by decide) e4
  obtain ⟨x7, e8⟩ : ∃ z, (some o1) = z := ⟨_, rfl⟩
  replace h := lt_go h e8
  rw [e8]
  refine g_astore_n (i := 3) [(3, vR x7), (0, vR (some k)), (1, vI a1), (2, vI a2)] ok d_Mo_isNear_4 rfl (by decide) rfl ?_
  refine g_aload_n (i := 3) 0 ok d_Mo_isNear_5 rfl rfl ?_
  refine g_iconst (v := (0 : Int32)) ok d_Mo_isNear_6 (by decide) ?_
  refine g_aload_n (i := 0) 1 ok d_Mo_isNear_7 rfl rfl ?_
  refine g_getr (s0 := 20) (j := 11) (ci := 5) (C := RX5) (T := TX5) (N := 29) ok (rf_mono m5 ht) lay_20 rfl inX5 (by decide) rfl tw_749 rfl d_Mo_isNear_8 ?_
  refine g_iload_n (i := 2) 3 ok d_Mo_isNear_11 rfl rfl ?_
  obtain ⟨k9, hk10, h⟩ := bnd_go h
  refine g_iald ok hk10 d_Mo_isNear_12 ?_
  obtain ⟨k11, hk12, h⟩ := bnd_go h
  refine g_iast ok hk12 d_Mo_isNear_13 ?_
  obtain ⟨s13, e14⟩ : ∃ z, wi s3 k11 (0 : Int32).toNatClampNeg (s3.1 k9 a2.toNatClampNeg) = z := ⟨_, rfl⟩
  replace h := lt_go h e14
  have m15 := mo_wi e14
  rw [e14]
  refine g_iconst (v := (1 : Int32)) ok d_Mo_isNear_14 (by decide) ?_
  refine g_istore (i := 4) [(4, vI (1 : Int32)), (3, vR x7), (0, vR (some k)), (1, vI a1), (2, vI a2)] ok d_Mo_isNear_15 (by decide) rfl ?_
  refine g_sub [2, 3, 4, 1, 0] rfl ?_
  obtain ⟨s42, hx, h⟩ := bnd_go h
  refine w_l_Mo_isNear_17 (KX := fun y => y = s42) ok (fun y0 he m41 => ?_) (fun _ hz => hz) (rf_mono m15 (rf_mono m5 ht)) _ _ hx rfl
  cases he
  refine g_iconst (v := (0 : Int32)) ok d_Mo_isNear_69 (by decide) ?_
  refine g_istore (i := 4) [(4, vI (0 : Int32)), (0, vR (some k)), (1, vI a1), (3, vR x7)] ok d_Mo_isNear_70 (by decide) rfl ?_
  refine g_iconst (v := (1 : Int32)) ok d_Mo_isNear_72 (by decide) ?_
  refine g_istore (i := 5) [(5, vI (1 : Int32)), (4, vI (0 : Int32)), (0, vR (some k)), (1, vI a1), (3, vR x7)] ok d_Mo_isNear_73 (by decide) rfl ?_
  refine g_sub [2, 3, 4, 1, 0] rfl ?_
  obtain ⟨e66, hx, h⟩ := bnd_go h
  refine w_l_Mo_isNear_75 (KX := fun y => y = e66) ok (fun y0 he => ?_) (rf_mono m41 (rf_mono m15 (rf_mono m5 ht))) _ _ _ hx rfl
  cases he
  refine g_iload (i := 4) 1 ok d_Mo_isNear_151 rfl ?_
  obtain ⟨g67, h⟩ := gd_go h
  cases h
  exact g_zret ok (hret _ hk) g67 (by decide) (by decide) d_Mo_isNear_153
theorem c_Mo_isNear (l : Launch) {k : Nat} {a1 : Int32} {a2 : Int32} {s : MS} (ht : rf s.2.2 20 (some k) = some k) {r : Int32} {z : MS} (h : f_Mo_isNear k a1 a2 s = some (r, z)) : Ct l yX5_isNear (.code yX5_isNear cX5_isNear 8 (some .boolean)) rm_Mo_isNear 1 12 true [vR (some k), vI a1, vI a2] s (some (vI r)) z :=
  Ct.of rfl (by decide +kernel) ⟨rfl, le_t rfl⟩ (fun X ok fn _ hI hl => w_Mo_isNear (KX := fun y => y = (r, z)) ok (fun y hy => by subst hy; exact fn) ht h rfl)
abbrev rm_Mo_alerts : Room := { frames := 3, cells := 100, slots := 1200, locals := 71 }
theorem cm_Mo_alerts : cfM yX5_alerts cX5_alerts 6 (some .int) 0 := ⟨tw_1001, tw_4, by decide, by decide, by decide +kernel⟩
theorem cv_Mo_alerts : cfV yX5_alerts := ⟨tw_999, tw_1000⟩
theorem d_Mo_alerts_0 : decode cX5_alerts 0 = .ok (.aload_n 0, 1) := by decide +kernel
theorem d_Mo_alerts_1 : decode cX5_alerts 1 = .ok (.iconst 0, 1) := by decide +kernel
theorem d_Mo_alerts_2 : decode cX5_alerts 2 = .ok (.putfield 72, 3) := by decide +kernel
theorem d_Mo_alerts_5 : decode cX5_alerts 5 = .ok (.iconst 0, 1) := by decide +kernel
theorem d_Mo_alerts_6 : decode cX5_alerts 6 = .ok (.istore_n 1, 1) := by decide +kernel
theorem d_Mo_alerts_7 : decode cX5_alerts 7 = .ok (.iconst 0, 1) := by decide +kernel
theorem d_Mo_alerts_8 : decode cX5_alerts 8 = .ok (.istore_n 2, 1) := by decide +kernel
theorem d_Mo_alerts_9 : decode cX5_alerts 9 = .ok (.iload_n 2, 1) := by decide +kernel
theorem d_Mo_alerts_10 : decode cX5_alerts 10 = .ok (.aload_n 0, 1) := by decide +kernel
theorem d_Mo_alerts_11 : decode cX5_alerts 11 = .ok (.getfield 79, 3) := by decide +kernel
theorem d_Mo_alerts_14 : decode cX5_alerts 14 = .ok (.if_icmp .ge 190, 3) := by decide +kernel
theorem d_Mo_alerts_17 : decode cX5_alerts 17 = .ok (.iconst 0, 1) := by decide +kernel
theorem d_Mo_alerts_18 : decode cX5_alerts 18 = .ok (.istore_n 3, 1) := by decide +kernel
theorem d_Mo_alerts_19 : decode cX5_alerts 19 = .ok (.iconst 0, 1) := by decide +kernel
theorem d_Mo_alerts_20 : decode cX5_alerts 20 = .ok (.istore 4, 2) := by decide +kernel
theorem d_Mo_alerts_22 : decode cX5_alerts 22 = .ok (.iload 4, 2) := by decide +kernel
theorem d_Mo_alerts_24 : decode cX5_alerts 24 = .ok (.aload_n 0, 1) := by decide +kernel
theorem d_Mo_alerts_25 : decode cX5_alerts 25 = .ok (.getfield 79, 3) := by decide +kernel
theorem d_Mo_alerts_28 : decode cX5_alerts 28 = .ok (.if_icmp .ge 55, 3) := by decide +kernel
theorem d_Mo_alerts_31 : decode cX5_alerts 31 = .ok (.iload_n 3, 1) := by decide +kernel
theorem d_Mo_alerts_32 : decode cX5_alerts 32 = .ok (.ifCond .ne 39, 3) := by decide +kernel
theorem d_Mo_alerts_35 : decode cX5_alerts 35 = .ok (.aload_n 0, 1) := by decide +kernel
theorem d_Mo_alerts_36 : decode cX5_alerts 36 = .ok (.getfield 35, 3) := by decide +kernel
theorem d_Mo_alerts_39 : decode cX5_alerts 39 = .ok (.iload_n 2, 1) := by decide +kernel
theorem d_Mo_alerts_40 : decode cX5_alerts 40 = .ok (.iaload, 1) := by decide +kernel
theorem d_Mo_alerts_41 : decode cX5_alerts 41 = .ok (.iconst 1, 1) := by decide +kernel
theorem d_Mo_alerts_42 : decode cX5_alerts 42 = .ok (.if_icmp .ne 33, 3) := by decide +kernel
theorem d_Mo_alerts_45 : decode cX5_alerts 45 = .ok (.aload_n 0, 1) := by decide +kernel
theorem d_Mo_alerts_46 : decode cX5_alerts 46 = .ok (.getfield 35, 3) := by decide +kernel
theorem d_Mo_alerts_49 : decode cX5_alerts 49 = .ok (.iload 4, 2) := by decide +kernel
theorem d_Mo_alerts_51 : decode cX5_alerts 51 = .ok (.iaload, 1) := by decide +kernel
theorem d_Mo_alerts_52 : decode cX5_alerts 52 = .ok (.iconst 2, 1) := by decide +kernel
theorem d_Mo_alerts_53 : decode cX5_alerts 53 = .ok (.if_icmp .ne 22, 3) := by decide +kernel
theorem d_Mo_alerts_56 : decode cX5_alerts 56 = .ok (.aload_n 0, 1) := by decide +kernel
theorem d_Mo_alerts_57 : decode cX5_alerts 57 = .ok (.aload_n 0, 1) := by decide +kernel
theorem d_Mo_alerts_58 : decode cX5_alerts 58 = .ok (.getfield 38, 3) := by decide +kernel
theorem d_Mo_alerts_61 : decode cX5_alerts 61 = .ok (.iload_n 2, 1) := by decide +kernel
theorem d_Mo_alerts_62 : decode cX5_alerts 62 = .ok (.iaload, 1) := by decide +kernel
theorem d_Mo_alerts_63 : decode cX5_alerts 63 = .ok (.iload 4, 2) := by decide +kernel
theorem d_Mo_alerts_65 : decode cX5_alerts 65 = .ok (.invokevirtual 192, 3) := by decide +kernel
theorem d_Mo_alerts_68 : decode cX5_alerts 68 = .ok (.ifCond .eq 7, 3) := by decide +kernel
theorem d_Mo_alerts_71 : decode cX5_alerts 71 = .ok (.iconst 1, 1) := by decide +kernel
theorem d_Mo_alerts_72 : decode cX5_alerts 72 = .ok (.goto 4, 3) := by decide +kernel
theorem d_Mo_alerts_75 : decode cX5_alerts 75 = .ok (.iconst 0, 1) := by decide +kernel
theorem d_Mo_alerts_76 : decode cX5_alerts 76 = .ok (.istore_n 3, 1) := by decide +kernel
theorem d_Mo_alerts_77 : decode cX5_alerts 77 = .ok (.iinc 4 1, 3) := by decide +kernel
theorem d_Mo_alerts_80 : decode cX5_alerts 80 = .ok (.goto (-58), 3) := by decide +kernel
theorem d_Mo_alerts_83 : decode cX5_alerts 83 = .ok (.iconst 0, 1) := by decide +kernel
theorem d_Mo_alerts_84 : decode cX5_alerts 84 = .ok (.istore 4, 2) := by decide +kernel
theorem d_Mo_alerts_86 : decode cX5_alerts 86 = .ok (.iload 4, 2) := by decide +kernel
theorem d_Mo_alerts_88 : decode cX5_alerts 88 = .ok (.bipush 10, 2) := by decide +kernel
theorem d_Mo_alerts_90 : decode cX5_alerts 90 = .ok (.aload_n 0, 1) := by decide +kernel
theorem d_Mo_alerts_91 : decode cX5_alerts 91 = .ok (.getfield 106, 3) := by decide +kernel
theorem d_Mo_alerts_94 : decode cX5_alerts 94 = .ok (.imul, 1) := by decide +kernel
theorem d_Mo_alerts_95 : decode cX5_alerts 95 = .ok (.if_icmp .ge 89, 3) := by decide +kernel
theorem d_Mo_alerts_98 : decode cX5_alerts 98 = .ok (.aload_n 0, 1) := by decide +kernel
theorem d_Mo_alerts_99 : decode cX5_alerts 99 = .ok (.getfield 35, 3) := by decide +kernel
theorem d_Mo_alerts_102 : decode cX5_alerts 102 = .ok (.iload_n 2, 1) := by decide +kernel
theorem d_Mo_alerts_103 : decode cX5_alerts 103 = .ok (.iaload, 1) := by decide +kernel
theorem d_Mo_alerts_104 : decode cX5_alerts 104 = .ok (.iconst 1, 1) := by decide +kernel
theorem d_Mo_alerts_105 : decode cX5_alerts 105 = .ok (.if_icmp .ne 28, 3) := by decide +kernel
theorem d_Mo_alerts_108 : decode cX5_alerts 108 = .ok (.aload_n 0, 1) := by decide +kernel
theorem d_Mo_alerts_109 : decode cX5_alerts 109 = .ok (.aload_n 0, 1) := by decide +kernel
theorem d_Mo_alerts_110 : decode cX5_alerts 110 = .ok (.getfield 38, 3) := by decide +kernel
theorem d_Mo_alerts_113 : decode cX5_alerts 113 = .ok (.iload_n 2, 1) := by decide +kernel
theorem d_Mo_alerts_114 : decode cX5_alerts 114 = .ok (.iaload, 1) := by decide +kernel
theorem d_Mo_alerts_115 : decode cX5_alerts 115 = .ok (.aload_n 0, 1) := by decide +kernel
theorem d_Mo_alerts_116 : decode cX5_alerts 116 = .ok (.getfield 139, 3) := by decide +kernel
theorem d_Mo_alerts_119 : decode cX5_alerts 119 = .ok (.iconst 1, 1) := by decide +kernel
theorem d_Mo_alerts_120 : decode cX5_alerts 120 = .ok (.iadd, 1) := by decide +kernel
theorem d_Mo_alerts_121 : decode cX5_alerts 121 = .ok (.iload 4, 2) := by decide +kernel
theorem d_Mo_alerts_123 : decode cX5_alerts 123 = .ok (.bipush 10, 2) := by decide +kernel
theorem d_Mo_alerts_125 : decode cX5_alerts 125 = .ok (.irem, 1) := by decide +kernel
theorem d_Mo_alerts_126 : decode cX5_alerts 126 = .ok (.iadd, 1) := by decide +kernel
theorem d_Mo_alerts_127 : decode cX5_alerts 127 = .ok (.invokevirtual 189, 3) := by decide +kernel
theorem d_Mo_alerts_130 : decode cX5_alerts 130 = .ok (.goto 4, 3) := by decide +kernel
theorem d_Mo_alerts_133 : decode cX5_alerts 133 = .ok (.iconst (-1), 1) := by decide +kernel
theorem d_Mo_alerts_134 : decode cX5_alerts 134 = .ok (.istore 5, 2) := by decide +kernel
theorem d_Mo_alerts_136 : decode cX5_alerts 136 = .ok (.iload_n 3, 1) := by decide +kernel
theorem d_Mo_alerts_137 : decode cX5_alerts 137 = .ok (.ifCond .ne 35, 3) := by decide +kernel
theorem d_Mo_alerts_140 : decode cX5_alerts 140 = .ok (.iload 5, 2) := by decide +kernel
theorem d_Mo_alerts_142 : decode cX5_alerts 142 = .ok (.iconst (-1), 1) := by decide +kernel
theorem d_Mo_alerts_143 : decode cX5_alerts 143 = .ok (.if_icmp .eq 33, 3) := by decide +kernel
theorem d_Mo_alerts_146 : decode cX5_alerts 146 = .ok (.aload_n 0, 1) := by decide +kernel
theorem d_Mo_alerts_147 : decode cX5_alerts 147 = .ok (.iload 4, 2) := by decide +kernel
theorem d_Mo_alerts_149 : decode cX5_alerts 149 = .ok (.bipush 10, 2) := by decide +kernel
theorem d_Mo_alerts_151 : decode cX5_alerts 151 = .ok (.idiv, 1) := by decide +kernel
theorem d_Mo_alerts_152 : decode cX5_alerts 152 = .ok (.iload 5, 2) := by decide +kernel
theorem d_Mo_alerts_154 : decode cX5_alerts 154 = .ok (.aload_n 0, 1) := by decide +kernel
theorem d_Mo_alerts_155 : decode cX5_alerts 155 = .ok (.getfield 139, 3) := by decide +kernel
theorem d_Mo_alerts_158 : decode cX5_alerts 158 = .ok (.iconst 1, 1) := by decide +kernel
theorem d_Mo_alerts_159 : decode cX5_alerts 159 = .ok (.iadd, 1) := by decide +kernel
theorem d_Mo_alerts_160 : decode cX5_alerts 160 = .ok (.iload 4, 2) := by decide +kernel
theorem d_Mo_alerts_162 : decode cX5_alerts 162 = .ok (.bipush 10, 2) := by decide +kernel
theorem d_Mo_alerts_164 : decode cX5_alerts 164 = .ok (.irem, 1) := by decide +kernel
theorem d_Mo_alerts_165 : decode cX5_alerts 165 = .ok (.iadd, 1) := by decide +kernel
theorem d_Mo_alerts_166 : decode cX5_alerts 166 = .ok (.invokevirtual 109, 3) := by decide +kernel
theorem d_Mo_alerts_169 : decode cX5_alerts 169 = .ok (.ifCond .eq 7, 3) := by decide +kernel
theorem d_Mo_alerts_172 : decode cX5_alerts 172 = .ok (.iconst 1, 1) := by decide +kernel
theorem d_Mo_alerts_173 : decode cX5_alerts 173 = .ok (.goto 4, 3) := by decide +kernel
theorem d_Mo_alerts_176 : decode cX5_alerts 176 = .ok (.iconst 0, 1) := by decide +kernel
theorem d_Mo_alerts_177 : decode cX5_alerts 177 = .ok (.istore_n 3, 1) := by decide +kernel
theorem d_Mo_alerts_178 : decode cX5_alerts 178 = .ok (.iinc 4 1, 3) := by decide +kernel
theorem d_Mo_alerts_181 : decode cX5_alerts 181 = .ok (.goto (-95), 3) := by decide +kernel
theorem d_Mo_alerts_184 : decode cX5_alerts 184 = .ok (.iload_n 1, 1) := by decide +kernel
theorem d_Mo_alerts_185 : decode cX5_alerts 185 = .ok (.iload_n 3, 1) := by decide +kernel
theorem d_Mo_alerts_186 : decode cX5_alerts 186 = .ok (.ifCond .eq 9, 3) := by decide +kernel
theorem d_Mo_alerts_189 : decode cX5_alerts 189 = .ok (.iconst 1, 1) := by decide +kernel
theorem d_Mo_alerts_190 : decode cX5_alerts 190 = .ok (.iload_n 2, 1) := by decide +kernel
theorem d_Mo_alerts_191 : decode cX5_alerts 191 = .ok (.ishl, 1) := by decide +kernel
theorem d_Mo_alerts_192 : decode cX5_alerts 192 = .ok (.goto 4, 3) := by decide +kernel
theorem d_Mo_alerts_195 : decode cX5_alerts 195 = .ok (.iconst 0, 1) := by decide +kernel
theorem d_Mo_alerts_196 : decode cX5_alerts 196 = .ok (.ior, 1) := by decide +kernel
theorem d_Mo_alerts_197 : decode cX5_alerts 197 = .ok (.istore_n 1, 1) := by decide +kernel
theorem d_Mo_alerts_198 : decode cX5_alerts 198 = .ok (.iinc 2 1, 3) := by decide +kernel
theorem d_Mo_alerts_201 : decode cX5_alerts 201 = .ok (.goto (-192), 3) := by decide +kernel
theorem d_Mo_alerts_204 : decode cX5_alerts 204 = .ok (.iload_n 1, 1) := by decide +kernel
theorem d_Mo_alerts_205 : decode cX5_alerts 205 = .ok (.ireturn, 1) := by decide +kernel
set_option maxRecDepth 100000 in
set_option maxHeartbeats 4000000 in
theorem w_b_Mo_alerts_22 {X : CX} {KX : Int32 × MS → Prop} {k : Nat} {n0 : Nat} {a1 : Int32} {a2 : Int32} {a3 : Int32} {a4 : Int32} {s : MS} {rec : Int32 → Int32 → MS → Option (Int32 × MS)} {sb : MS} (ok : Ok X cX5_alerts RX5 rm_Mo_alerts 6 true) (hexit : ∀ (e3 : Int32) (z : MS), KX (e3, z) → (∀ q, dm sb q → dm z q) → G X z (z.2.2 48 - n0) (12 * (z.2.2 48 - n0)) 83 [(0, vR (some k)), (1, vI a1), (2, vI a2), (3, vI e3)] []) (hrec : ∀ (v3 : Int32) (v4 : Int32) (z : MS), (∀ q, dm sb q → dm z q) → ∀ y, rec v3 v4 z = some y → KX y → G X z (z.2.2 48 - n0) (12 * (z.2.2 48 - n0)) 22 [(0, vR (some k)), (1, vI a1), (2, vI a2), (3, vI v3), (4, vI v4)] []) (mb : ∀ q, dm sb q → dm s q) (ht : rf s.2.2 20 (some k) = some k) {res : Int32 × MS} (h : b_Mo_alerts_22 k n0 a1 a2 a3 a4 s rec = some res) (hk : KX res) : G X s (s.2.2 48 - n0) (12 * (s.2.2 48 - n0)) 22 [(0, vR (some k)), (1, vI a1), (2, vI a2), (3, vI a3), (4, vI a4)] [] := by
  unfold b_Mo_alerts_22 at h
  refine g_iload (i := 4) 4 ok d_Mo_alerts_22 rfl ?_
  refine g_aload_n (i := 0) 0 ok d_Mo_alerts_24 rfl rfl ?_
  refine g_geti (s0 := 20) (j := 7) (ci := 5) (C := RX5) (T := TX5) (N := 29) ok ht lay_20 rfl inX5 (by decide) rfl tw_745 rfl d_Mo_alerts_25 ?_
  refine g_icmp_ge (tgt := 83) ok d_Mo_alerts_28 (by decide) (fun c5 => ?_) (fun c5 => ?_)
  · replace h := (if_pos c5).symm.trans h
    refine g_iload_n (i := 3) 3 ok d_Mo_alerts_31 rfl rfl ?_
    refine g_if_ne (tgt := 71) ok d_Mo_alerts_32 (by decide) (fun c6 => ?_) (fun c6 => ?_)
    · replace h := (if_pos c6).symm.trans h
      refine g_aload_n (i := 0) 0 ok d_Mo_alerts_35 rfl rfl ?_
      refine g_getr (s0 := 20) (j := 12) (ci := 5) (C := RX5) (T := TX5) (N := 29) ok ht lay_20 rfl inX5 (by decide) rfl tw_750 rfl d_Mo_alerts_36 ?_
      refine g_iload_n (i := 2) 2 ok d_Mo_alerts_39 rfl rfl ?_
      obtain ⟨k7, hk8, h⟩ := bnd_go h
      refine g_iald ok hk8 d_Mo_alerts_40 ?_
      refine g_iconst (v := (1 : Int32)) ok d_Mo_alerts_41 (by decide) ?_
      refine g_icmp_ne (tgt := 75) ok d_Mo_alerts_42 (by decide) (fun c9 => ?_) (fun c9 => ?_)
      · replace h := (if_pos c9).symm.trans h
        refine g_aload_n (i := 0) 0 ok d_Mo_alerts_45 rfl rfl ?_
        refine g_getr (s0 := 20) (j := 12) (ci := 5) (C := RX5) (T := TX5) (N := 29) ok ht lay_20 rfl inX5 (by decide) rfl tw_750 rfl d_Mo_alerts_46 ?_
        refine g_iload (i := 4) 4 ok d_Mo_alerts_49 rfl ?_
        obtain ⟨k10, hk11, h⟩ := bnd_go h
        refine g_iald ok hk11 d_Mo_alerts_51 ?_
        refine g_iconst (v := (2 : Int32)) ok d_Mo_alerts_52 (by decide) ?_
        refine g_icmp_ne (tgt := 75) ok d_Mo_alerts_53 (by decide) (fun c12 => ?_) (fun c12 => ?_)
        · replace h := (if_pos c12).symm.trans h
          refine g_aload_n (i := 0) 0 ok d_Mo_alerts_56 rfl rfl ?_
          refine g_aload_n (i := 0) 0 ok d_Mo_alerts_57 rfl rfl ?_
          refine g_getr (s0 := 20) (j := 13) (ci := 5) (C := RX5) (T := TX5) (N := 29) ok ht lay_20 rfl inX5 (by decide) rfl tw_751 rfl d_Mo_alerts_58 ?_
          refine g_iload_n (i := 2) 2 ok d_Mo_alerts_61 rfl rfl ?_
          obtain ⟨k13, hk14, h⟩ := bnd_go h
          refine g_iald ok hk14 d_Mo_alerts_62 ?_
          refine g_iload (i := 4) 4 ok d_Mo_alerts_63 rfl ?_
          refine g_sub [0, 1, 2, 4] rfl ?_
          obtain ⟨g15, h⟩ := gd_go h
          obtain ⟨x19, s18, hc17, h⟩ := bnd2_go h
          obtain ⟨g20, h⟩ := gd_go h
          refine g_invVA (rm2 := rm_Mo_isNear) (As := [vI (s.1 k13 a2.toNatClampNeg), vI a4]) (rest := []) ok ht lay_20 rfl (c_Mo_isNear X.1.2.1 (rf_self ht) hc17) cm_Mo_isNear cv_Mo_isNear tw_1002 ⟨rfl, rfl⟩ ⟨le_t rfl, le_t rfl⟩ ⟨rfl, le_t rfl⟩ ⟨(by have q := g15; show _ ≤ 100; omega), (by have q := g15; show _ ≤ 1200; omega)⟩ ⟨(rk_of ht), ⟨trivial, ⟨trivial, ⟨trivial, trivial⟩⟩⟩⟩ trivial d_Mo_alerts_65 rfl (fun m16 => ?_)
          show G X s18 ((s.2.2 48 - n0) + 1) ((12 * (s.2.2 48 - n0)) + 12) 68 [(0, vR (some k)), (1, vI a1), (2, vI a2), (4, vI a4)] [vI x19]
          refine g_if_eq (tgt := 75) ok d_Mo_alerts_68 (by decide) (fun c21 => ?_) (fun c21 => ?_)
          · replace h := (if_pos c21).symm.trans h
            refine g_iconst (v := (0 : Int32)) ok d_Mo_alerts_75 (by decide) ?_
            refine g_istore_n (i := 3) [(3, vI (0 : Int32)), (0, vR (some k)), (1, vI a1), (2, vI a2), (4, vI a4)] ok d_Mo_alerts_76 rfl (by decide) rfl ?_
            obtain ⟨x22, e23⟩ : ∃ z, a4 + (1 : Int32) = z := ⟨_, rfl⟩
            replace h := lt_go h e23
            refine g_iinc (i := 4) (v := x22) 4 [(4, vI x22), (3, vI (0 : Int32)), (0, vR (some k)), (1, vI a1), (2, vI a2)] ok d_Mo_alerts_77 rfl (by rw [← e23]; rfl) (by decide) rfl ?_
            refine g_goto (tgt := 22) ok d_Mo_alerts_80 (by decide) ?_
            refine g_sub [2, 3, 4, 1, 0] rfl ?_
            refine g_widen (ce' := (s18.2.2 48 - n0)) (sl' := (12 * (s18.2.2 48 - n0))) (by omega) (by omega) ?_
            exact hrec (0 : Int32) x22 s18 (fun z hz => m16 z (mb z hz)) _ h hk
          · replace h := (if_neg c21).symm.trans h
            refine g_iconst (v := (1 : Int32)) ok d_Mo_alerts_71 (by decide) ?_
            refine g_goto (tgt := 76) ok d_Mo_alerts_72 (by decide) ?_
            refine g_istore_n (i := 3) [(3, vI (1 : Int32)), (0, vR (some k)), (1, vI a1), (2, vI a2), (4, vI a4)] ok d_Mo_alerts_76 rfl (by decide) rfl ?_
            obtain ⟨x24, e25⟩ : ∃ z, a4 + (1 : Int32) = z := ⟨_, rfl⟩
            replace h := lt_go h e25
            refine g_iinc (i := 4) (v := x24) 4 [(4, vI x24), (3, vI (1 : Int32)), (0, vR (some k)), (1, vI a1), (2, vI a2)] ok d_Mo_alerts_77 rfl (by rw [← e25]; rfl) (by decide) rfl ?_
            refine g_goto (tgt := 22) ok d_Mo_alerts_80 (by decide) ?_
            refine g_sub [2, 3, 4, 1, 0] rfl ?_
            refine g_widen (ce' := (s18.2.2 48 - n0)) (sl' := (12 * (s18.2.2 48 - n0))) (by omega) (by omega) ?_
            exact hrec (1 : Int32) x24 s18 (fun z hz => m16 z (mb z hz)) _ h hk
        · replace h := (if_neg c12).symm.trans h
          refine g_iconst (v := (0 : Int32)) ok d_Mo_alerts_75 (by decide) ?_
          refine g_istore_n (i := 3) [(3, vI (0 : Int32)), (0, vR (some k)), (1, vI a1), (2, vI a2), (4, vI a4)] ok d_Mo_alerts_76 rfl (by decide) rfl ?_
          obtain ⟨x26, e27⟩ : ∃ z, a4 + (1 : Int32) = z := ⟨_, rfl⟩
          replace h := lt_go h e27
          refine g_iinc (i := 4) (v := x26) 4 [(4, vI x26), (3, vI (0 : Int32)), (0, vR (some k)), (1, vI a1), (2, vI a2)] ok d_Mo_alerts_77 rfl (by rw [← e27]; rfl) (by decide) rfl ?_
          refine g_goto (tgt := 22) ok d_Mo_alerts_80 (by decide) ?_
          refine g_sub [2, 3, 4, 1, 0] rfl ?_
          exact hrec (0 : Int32) x26 s mb _ h hk
      · replace h := (if_neg c9).symm.trans h
        refine g_iconst (v := (0 : Int32)) ok d_Mo_alerts_75 (by decide) ?_
        refine g_istore_n (i := 3) [(3, vI (0 : Int32)), (0, vR (some k)), (1, vI a1), (2, vI a2), (4, vI a4)] ok d_Mo_alerts_76 rfl (by decide) rfl ?_
        obtain ⟨x28, e29⟩ : ∃ z, a4 + (1 : Int32) = z := ⟨_, rfl⟩
        replace h := lt_go h e29
        refine g_iinc (i := 4) (v := x28) 4 [(4, vI x28), (3, vI (0 : Int32)), (0, vR (some k)), (1, vI a1), (2, vI a2)] ok d_Mo_alerts_77 rfl (by rw [← e29]; rfl) (by decide) rfl ?_
        refine g_goto (tgt := 22) ok d_Mo_alerts_80 (by decide) ?_
        refine g_sub [2, 3, 4, 1, 0] rfl ?_
        exact hrec (0 : Int32) x28 s mb _ h hk
    · replace h := (if_neg c6).symm.trans h
      refine g_iconst (v := (1 : Int32)) ok d_Mo_alerts_71 (by decide) ?_
      refine g_goto (tgt := 76) ok d_Mo_alerts_72 (by decide) ?_
      refine g_istore_n (i := 3) [(3, vI (1 : Int32)), (0, vR (some k)), (1, vI a1), (2, vI a2), (4, vI a4)] ok d_Mo_alerts_76 rfl (by decide) rfl ?_
      obtain ⟨x30, e31⟩ : ∃ z, a4 + (1 : Int32) = z := ⟨_, rfl⟩
      replace h := lt_go h e31
      refine g_iinc (i := 4) (v := x30) 4 [(4, vI x30), (3, vI (1 : Int32)), (0, vR (some k)), (1, vI a1), (2, vI a2)] ok d_Mo_alerts_77 rfl (by rw [← e31]; rfl) (by decide) rfl ?_
      refine g_goto (tgt := 22) ok d_Mo_alerts_80 (by decide) ?_
      refine g_sub [2, 3, 4, 1, 0] rfl ?_
      exact hrec (1 : Int32) x30 s mb _ h hk
  · replace h := (if_neg c5).symm.trans h
    refine g_sub [0, 1, 2, 3] rfl ?_
    cases h
    exact hexit a3 s hk mb
theorem wx_l_Mo_alerts_22 {X : CX} {KX : Int32 × MS → Prop} {k : Nat} {n0 : Nat} {a1 : Int32} {a2 : Int32} {sb : MS} (ok : Ok X cX5_alerts RX5 rm_Mo_alerts 6 true) (hexit : ∀ (e3 : Int32) (z : MS), KX (e3, z) → (∀ q, dm sb q → dm z q) → G X z (z.2.2 48 - n0) (12 * (z.2.2 48 - n0)) 83 [(0, vR (some k)), (1, vI a1), (2, vI a2), (3, vI e3)] []) (htb : rf sb.2.2 20 (some k) = some k) : ∀ (n : Nat) (a3 : Int32) (a4 : Int32) (s : MS), (∀ q, dm sb q → dm s q) → ∀ (res : Int32 × MS), l_Mo_alerts_22 k n0 a1 a2 n a3 a4 s = some res → KX res → G X s (s.2.2 48 - n0) (12 * (s.2.2 48 - n0)) 22 [(0, vR (some k)), (1, vI a1), (2, vI a2), (3, vI a3), (4, vI a4)] [] := by
  intro n
  induction n with
  | zero => intro _ _ s _ res h; cases h
  | succ n ih =>
    intro a3 a4 s mb res h hk
    exact w_b_Mo_alerts_22 ok hexit (fun v3 v4 z hz y h2 hk2 => ih v3 v4 z hz y h2 hk2) mb (rf_mono mb htb) h hk
theorem w_l_Mo_alerts_22 {X : CX} {KX : Int32 × MS → Prop} {k : Nat} {n0 : Nat} {a1 : Int32} {a2 : Int32} {sb : MS} (ok : Ok X cX5_alerts RX5 rm_Mo_alerts 6 true) (hexit : ∀ (e3 : Int32) (z : MS), KX (e3, z) → (∀ q, dm sb q → dm z q) → G X z (z.2.2 48 - n0) (12 * (z.2.2 48 - n0)) 83 [(0, vR (some k)), (1, vI a1), (2, vI a2), (3, vI e3)] []) (mb : ∀ q, dm sb q → dm sb q) (htb : rf sb.2.2 20 (some k) = some k) (n : Nat) (a3 : Int32) (a4 : Int32) {res : Int32 × MS} (h : l_Mo_alerts_22 k n0 a1 a2 n a3 a4 sb = some res) (hk : KX res) : G X sb (sb.2.2 48 - n0) (12 * (sb.2.2 48 - n0)) 22 [(0, vR (some k)), (1, vI a1), (2, vI a2), (3, vI a3), (4, vI a4)] [] := wx_l_Mo_alerts_22 ok hexit htb n a3 a4 sb mb res h hk
set_option maxRecDepth 100000 in
set_option maxHeartbeats 4000000 in
theorem w_j_Mo_alerts_134 {X : CX} {KX : Int32 → Prop} {k : Nat} {n0 : Nat} {a1 : Int32} {a2 : Int32} {a3 : Int32} {a4 : Int32} {t0 : Int32} {s : MS} {rec : Int32 → Int32 → Option (Int32)} (ok : Ok X cX5_alerts RX5 rm_Mo_alerts 6 true) (hexit : ∀ (e3 : Int32), KX e3 → G X s (s.2.2 48 - n0) (12 * (s.2.2 48 - n0)) 184 [(0, vR (some k)), (1, vI a1), (2, vI a2), (3, vI e3)] []) (hrec : ∀ (v3 : Int32) (v4 : Int32), ∀ y, rec v3 v4 = some y → KX y → G X s (s.2.2 48 - n0) (12 * (s.2.2 48 - n0)) 86 [(0, vR (some k)), (1, vI a1), (2, vI a2), (3, vI v3), (4, vI v4)] []) (ht : rf s.2.2 20 (some k) = some k) {res : Int32} (h : j_Mo_alerts_134 k n0 a1 a2 a3 a4 t0 s rec = some res) (hk : KX res) : G X s (s.2.2 48 - n0) (12 * (s.2.2 48 - n0)) 134 [(0, vR (some k)), (1, vI a1), (2, vI a2), (3, vI a3), (4, vI a4)] [vI t0] := by
  unfold j_Mo_alerts_134 at h
  refine g_istore (i := 5) [(5, vI t0), (0, vR (some k)), (1, vI a1), (2, vI a2), (3, vI a3), (4, vI a4)] ok d_Mo_alerts_134 (by decide) rfl ?_
  refine g_iload_n (i := 3) 4 ok d_Mo_alerts_136 rfl rfl ?_
  refine g_if_ne (tgt := 172) ok d_Mo_alerts_137 (by decide) (fun c45 => ?_) (fun c45 => ?_)
  · replace h := (if_pos c45).symm.trans h
    refine g_iload (i := 5) 0 ok d_Mo_alerts_140 rfl ?_
    refine g_iconst (v := (-1 : Int32)) ok d_Mo_alerts_142 (by decide) ?_
    refine g_icmp_eq (tgt := 176) ok d_Mo_alerts_143 (by decide) (fun c46 => ?_) (fun c46 => ?_)
    · replace h := (if_pos c46).symm.trans h
      refine g_iconst (v := (0 : Int32)) ok d_Mo_alerts_176 (by decide) ?_
      refine g_istore_n (i := 3) [(3, vI (0 : Int32)), (5, vI t0), (0, vR (some k)), (1, vI a1), (2, vI a2), (4, vI a4)] ok d_Mo_alerts_177 rfl (by decide) rfl ?_
      obtain ⟨x47, e48⟩ : ∃ z, a4 + (1 : Int32) = z := ⟨_, rfl⟩
      replace h := lt_go h e48
      refine g_iinc (i := 4) (v := x47) 5 [(4, vI x47), (3, vI (0 : Int32)), (5, vI t0), (0, vR (some k)), (1, vI a1), (2, vI a2)] ok d_Mo_alerts_178 rfl (by rw [← e48]; rfl) (by decide) rfl ?_
      refine g_goto (tgt := 86) ok d_Mo_alerts_181 (by decide) ?_
      refine g_sub [3, 4, 5, 1, 0] rfl ?_
      exact hrec (0 : Int32) x47 _ h hk
    · replace h := (if_neg c46).symm.trans h
      refine g_aload_n (i := 0) 1 ok d_Mo_alerts_146 rfl rfl ?_
      refine g_iload (i := 4) 5 ok d_Mo_alerts_147 rfl ?_
      refine g_bipush (v := (10 : Int32)) ok d_Mo_alerts_149 (by decide) ?_
      refine g_idiv ok d_Mo_alerts_151 (by decide) ?_
      refine g_iload (i := 5) 0 ok d_Mo_alerts_152 rfl ?_
      refine g_aload_n (i := 0) 1 ok d_Mo_alerts_154 rfl rfl ?_
      refine g_geti (s0 := 20) (j := 1) (ci := 5) (C := RX5) (T := TX5) (N := 29) ok ht lay_20 rfl inX5 (by decide) rfl tw_739 rfl d_Mo_alerts_155 ?_
      refine g_iconst (v := (1 : Int32)) ok d_Mo_alerts_158 (by decide) ?_
      refine g_iadd ok d_Mo_alerts_159 ?_
      refine g_iload (i := 4) 5 ok d_Mo_alerts_160 rfl ?_
      refine g_bipush (v := (10 : Int32)) ok d_Mo_alerts_162 (by decide) ?_
      refine g_irem ok d_Mo_alerts_164 (by decide) ?_
      refine g_iadd ok d_Mo_alerts_165 ?_
      obtain ⟨g49, h⟩ := gd_go h
      obtain ⟨x51, hc52, h⟩ := bnd_go h
      refine g_invV (rm2 := rm_Mo_isIn) (As := [vI (a4 / (10 : Int32)), vI t0, vI (((s.1 k 1) + (1 : Int32)) + (a4 - a4 / (10 : Int32) * (10 : Int32)))]) (rest := []) ok ht lay_20 rfl (c_Mo_isIn X.1.2.1 (rf_self ht) hc52) cm_Mo_isIn cv_Mo_isIn tw_862 ⟨rfl, rfl⟩ ⟨le_t rfl, le_t rfl⟩ ⟨rfl, le_t rfl⟩ ⟨(by have q := g49; show _ ≤ 100; omega), (by have q := g49; show _ ≤ 1200; omega)⟩ d_Mo_alerts_166 rfl (fun m50 => ?_)
      show G X s (s.2.2 48 - n0) (12 * (s.2.2 48 - n0)) 169 [(5, vI t0), (0, vR (some k)), (1, vI a1), (2, vI a2), (3, vI a3), (4, vI a4)] [vI x51]
      refine g_if_eq (tgt := 176) ok d_Mo_alerts_169 (by decide) (fun c53 => ?_) (fun c53 => ?_)
      · replace h := (if_pos c53).symm.trans h
        refine g_iconst (v := (0 : Int32)) ok d_Mo_alerts_176 (by decide) ?_
        refine g_istore_n (i := 3) [(3, vI (0 : Int32)), (5, vI t0), (0, vR (some k)), (1, vI a1), (2, vI a2), (4, vI a4)] ok d_Mo_alerts_177 rfl (by decide) rfl ?_
        obtain ⟨x54, e55⟩ : ∃ z, a4 + (1 : Int32) = z := ⟨_, rfl⟩
        replace h := lt_go h e55
        refine g_iinc (i := 4) (v := x54) 5 [(4, vI x54), (3, vI (0 : Int32)), (5, vI t0), (0, vR (some k)), (1, vI a1), (2, vI a2)] ok d_Mo_alerts_178 rfl (by rw [← e55]; rfl) (by decide) rfl ?_
        refine g_goto (tgt := 86) ok d_Mo_alerts_181 (by decide) ?_
        refine g_sub [3, 4, 5, 1, 0] rfl ?_
        exact hrec (0 : Int32) x54 _ h hk
      · replace h := (if_neg c53).symm.trans h
        refine g_iconst (v := (1 : Int32)) ok d_Mo_alerts_172 (by decide) ?_
        refine g_goto (tgt := 177) ok d_Mo_alerts_173 (by decide) ?_
        refine g_istore_n (i := 3) [(3, vI (1 : Int32)), (5, vI t0), (0, vR (some k)), (1, vI a1), (2, vI a2), (4, vI a4)] ok d_Mo_alerts_177 rfl (by decide) rfl ?_
        obtain ⟨x56, e57⟩ : ∃ z, a4 + (1 : Int32) = z := ⟨_, rfl⟩
        replace h := lt_go h e57
        refine g_iinc (i := 4) (v := x56) 5 [(4, vI x56), (3, vI (1 : Int32)), (5, vI t0), (0, vR (some k)), (1, vI a1), (2, vI a2)] ok d_Mo_alerts_178 rfl (by rw [← e57]; rfl) (by decide) rfl ?_
        refine g_goto (tgt := 86) ok d_Mo_alerts_181 (by decide) ?_
        refine g_sub [3, 4, 5, 1, 0] rfl ?_
        exact hrec (1 : Int32) x56 _ h hk
  · replace h := (if_neg c45).symm.trans h
    refine g_iconst (v := (1 : Int32)) ok d_Mo_alerts_172 (by decide) ?_
    refine g_goto (tgt := 177) ok d_Mo_alerts_173 (by decide) ?_
    refine g_istore_n (i := 3) [(3, vI (1 : Int32)), (5, vI t0), (0, vR (some k)), (1, vI a1), (2, vI a2), (4, vI a4)] ok d_Mo_alerts_177 rfl (by decide) rfl ?_
    obtain ⟨x58, e59⟩ : ∃ z, a4 + (1 : Int32) = z := ⟨_, rfl⟩
    replace h := lt_go h e59
    refine g_iinc (i := 4) (v := x58) 5 [(4, vI x58), (3, vI (1 : Int32)), (5, vI t0), (0, vR (some k)), (1, vI a1), (2, vI a2)] ok d_Mo_alerts_178 rfl (by rw [← e59]; rfl) (by decide) rfl ?_
    refine g_goto (tgt := 86) ok d_Mo_alerts_181 (by decide) ?_
    refine g_sub [3, 4, 5, 1, 0] rfl ?_
    exact hrec (1 : Int32) x58 _ h hk
set_option maxRecDepth 100000 in
set_option maxHeartbeats 4000000 in
theorem w_b_Mo_alerts_86 {X : CX} {KX : Int32 → Prop} {k : Nat} {n0 : Nat} {a1 : Int32} {a2 : Int32} {a3 : Int32} {a4 : Int32} {s : MS} {rec : Int32 → Int32 → Option (Int32)} (ok : Ok X cX5_alerts RX5 rm_Mo_alerts 6 true) (hexit : ∀ (e3 : Int32), KX e3 → G X s (s.2.2 48 - n0) (12 * (s.2.2 48 - n0)) 184 [(0, vR (some k)), (1, vI a1), (2, vI a2), (3, vI e3)] []) (hrec : ∀ (v3 : Int32) (v4 : Int32), ∀ y, rec v3 v4 = some y → KX y → G X s (s.2.2 48 - n0) (12 * (s.2.2 48 - n0)) 86 [(0, vR (some k)), (1, vI a1), (2, vI a2), (3, vI v3), (4, vI v4)] []) (ht : rf s.2.2 20 (some k) = some k) {res : Int32} (h : b_Mo_alerts_86 k n0 a1 a2 a3 a4 s rec = some res) (hk : KX res) : G X s (s.2.2 48 - n0) (12 * (s.2.2 48 - n0)) 86 [(0, vR (some k)), (1, vI a1), (2, vI a2), (3, vI a3), (4, vI a4)] [] := by
  unfold b_Mo_alerts_86 at h
  refine g_iload (i := 4) 4 ok d_Mo_alerts_86 rfl ?_
  refine g_bipush (v := (10 : Int32)) ok d_Mo_alerts_88 (by decide) ?_
  refine g_aload_n (i := 0) 0 ok d_Mo_alerts_90 rfl rfl ?_
  refine g_geti (s0 := 20) (j := 24) (ci := 5) (C := RX5) (T := TX5) (N := 29) ok ht lay_20 rfl inX5 (by decide) rfl tw_762 rfl d_Mo_alerts_91 ?_
  refine g_imul ok d_Mo_alerts_94 ?_
  refine g_icmp_ge (tgt := 184) ok d_Mo_alerts_95 (by decide) (fun c35 => ?_) (fun c35 => ?_)
  · replace h := (if_pos c35).symm.trans h
    refine g_aload_n (i := 0) 0 ok d_Mo_alerts_98 rfl rfl ?_
    refine g_getr (s0 := 20) (j := 12) (ci := 5) (C := RX5) (T := TX5) (N := 29) ok ht lay_20 rfl inX5 (by decide) rfl tw_750 rfl d_Mo_alerts_99 ?_
    refine g_iload_n (i := 2) 2 ok d_Mo_alerts_102 rfl rfl ?_
    obtain ⟨k36, hk37, h⟩ := bnd_go h
    refine g_iald ok hk37 d_Mo_alerts_103 ?_
    refine g_iconst (v := (1 : Int32)) ok d_Mo_alerts_104 (by decide) ?_
    refine g_icmp_ne (tgt := 133) ok d_Mo_alerts_105 (by decide) (fun c38 => ?_) (fun c38 => ?_)
    · replace h := (if_pos c38).symm.trans h
      refine g_aload_n (i := 0) 0 ok d_Mo_alerts_108 rfl rfl ?_
      refine g_aload_n (i := 0) 0 ok d_Mo_alerts_109 rfl rfl ?_
      refine g_getr (s0 := 20) (j := 13) (ci := 5) (C := RX5) (T := TX5) (N := 29) ok ht lay_20 rfl inX5 (by decide) rfl tw_751 rfl d_Mo_alerts_110 ?_
      refine g_iload_n (i := 2) 2 ok d_Mo_alerts_113 rfl rfl ?_
      obtain ⟨k39, hk40, h⟩ := bnd_go h
      refine g_iald ok hk40 d_Mo_alerts_114 ?_
      refine g_aload_n (i := 0) 0 ok d_Mo_alerts_115 rfl rfl ?_
      refine g_geti (s0 := 20) (j := 1) (ci := 5) (C := RX5) (T := TX5) (N := 29) ok ht lay_20 rfl inX5 (by decide) rfl tw_739 rfl d_Mo_alerts_116 ?_
      refine g_iconst (v := (1 : Int32)) ok d_Mo_alerts_119 (by decide) ?_
      refine g_iadd ok d_Mo_alerts_120 ?_
      refine g_iload (i := 4) 4 ok d_Mo_alerts_121 rfl ?_
      refine g_bipush (v := (10 : Int32)) ok d_Mo_alerts_123 (by decide) ?_
      refine g_irem ok d_Mo_alerts_125 (by decide) ?_
      refine g_iadd ok d_Mo_alerts_126 ?_
      obtain ⟨g41, h⟩ := gd_go h
      obtain ⟨x43, hc44, h⟩ := bnd_go h
      refine g_invV (rm2 := rm_Mo_whereAt) (As := [vI (s.1 k39 a2.toNatClampNeg), vI (((s.1 k 1) + (1 : Int32)) + (a4 - a4 / (10 : Int32) * (10 : Int32)))]) (rest := []) ok ht lay_20 rfl (c_Mo_whereAt X.1.2.1 (rf_self ht) hc44) cm_Mo_whereAt cv_Mo_whereAt tw_1006 ⟨rfl, rfl⟩ ⟨le_t rfl, le_t rfl⟩ ⟨rfl, le_t rfl⟩ ⟨(by have q := g41; show _ ≤ 100; omega), (by have q := g41; show _ ≤ 1200; omega)⟩ d_Mo_alerts_127 rfl (fun m42 => ?_)
      show G X s (s.2.2 48 - n0) (12 * (s.2.2 48 - n0)) 130 [(0, vR (some k)), (1, vI a1), (2, vI a2), (3, vI a3), (4, vI a4)] [vI x43]
      refine g_goto (tgt := 134) ok d_Mo_alerts_130 (by decide) ?_
      exact w_j_Mo_alerts_134 ok hexit hrec ht h hk
    · replace h := (if_neg c38).symm.trans h
      refine g_iconst (v := (-1 : Int32)) ok d_Mo_alerts_133 (by decide) ?_
      exact w_j_Mo_alerts_134 ok hexit hrec ht h hk
  · replace h := (if_neg c35).symm.trans h
    refine g_sub [0, 1, 2, 3] rfl ?_
    cases h
    exact hexit a3 hk
theorem w_l_Mo_alerts_86 {X : CX} {KX : Int32 → Prop} {k : Nat} {n0 : Nat} {a1 : Int32} {a2 : Int32} {s : MS} (ok : Ok X cX5_alerts RX5 rm_Mo_alerts 6 true) (hexit : ∀ (e3 : Int32), KX e3 → G X s (s.2.2 48 - n0) (12 * (s.2.2 48 - n0)) 184 [(0, vR (some k)), (1, vI a1), (2, vI a2), (3, vI e3)] []) (ht : rf s.2.2 20 (some k) = some k) : ∀ (n : Nat) (a3 : Int32) (a4 : Int32) {res : Int32}, l_Mo_alerts_86 k n0 a1 a2 s n a3 a4 = some res → KX res → G X s (s.2.2 48 - n0) (12 * (s.2.2 48 - n0)) 86 [(0, vR (some k)), (1, vI a1), (2, vI a2), (3, vI a3), (4, vI a4)] [] := by
  intro n
  induction n with
  | zero => intro _ _ res h; cases h
  | succ n ih =>
    intro a3 a4 res h hk
    exact w_b_Mo_alerts_86 ok hexit (fun v3 v4 y h2 hk2 => ih v3 v4 h2 hk2) ht h hk
set_option maxRecDepth 100000 in
set_option maxHeartbeats 4000000 in
theorem w_b_Mo_alerts_9 {X : CX} {KX : Int32 × MS → Prop} {k : Nat} {n0 : Nat} {a1 : Int32} {a2 : Int32} {s : MS} {rec : Int32 → Int32 → MS → Option (Int32 × MS)} {sb : MS} (ok : Ok X cX5_alerts RX5 rm_Mo_alerts 6 true) (hexit : ∀ (e1 : Int32) (z : MS), KX (e1, z) → (∀ q, dm sb q → dm z q) → G X z (z.2.2 48 - n0) (12 * (z.2.2 48 - n0)) 204 [(0, vR (some k)), (1, vI e1)] []) (hrec : ∀ (v1 : Int32) (v2 : Int32) (z : MS), (∀ q, dm sb q → dm z q) → ∀ y, rec v1 v2 z = some y → KX y → G X z (z.2.2 48 - n0) (12 * (z.2.2 48 - n0)) 9 [(0, vR (some k)), (1, vI v1), (2, vI v2)] []) (mb : ∀ q, dm sb q → dm s q) (ht : rf s.2.2 20 (some k) = some k) {res : Int32 × MS} (h : b_Mo_alerts_9 k n0 a1 a2 s rec = some res) (hk : KX res) : G X s (s.2.2 48 - n0) (12 * (s.2.2 48 - n0)) 9 [(0, vR (some k)), (1, vI a1), (2, vI a2)] [] := by
  unfold b_Mo_alerts_9 at h
  refine g_iload_n (i := 2) 2 ok d_Mo_alerts_9 rfl rfl ?_
  refine g_aload_n (i := 0) 0 ok d_Mo_alerts_10 rfl rfl ?_
  refine g_geti (s0 := 20) (j := 7) (ci := 5) (C := RX5) (T := TX5) (N := 29) ok ht lay_20 rfl inX5 (by decide) rfl tw_745 rfl d_Mo_alerts_11 ?_
  refine g_icmp_ge (tgt := 204) ok d_Mo_alerts_14 (by decide) (fun c4 => ?_) (fun c4 => ?_)
  · replace h := (if_pos c4).symm.trans h
    refine g_iconst (v := (0 : Int32)) ok d_Mo_alerts_17 (by decide) ?_
    refine g_istore_n (i := 3) [(3, vI (0 : Int32)), (0, vR (some k)), (1, vI a1), (2, vI a2)] ok d_Mo_alerts_18 rfl (by decide) rfl ?_
    refine g_iconst (v := (0 : Int32)) ok d_Mo_alerts_19 (by decide) ?_
    refine g_istore (i := 4) [(4, vI (0 : Int32)), (3, vI (0 : Int32)), (0, vR (some k)), (1, vI a1), (2, vI a2)] ok d_Mo_alerts_20 (by decide) rfl ?_
    refine g_sub [2, 3, 4, 1, 0] rfl ?_
    obtain ⟨e32, s34, hx, h⟩ := bnd2_go h
    refine w_l_Mo_alerts_22 (KX := fun y => y = (e32, s34)) ok (fun y0 y1 he m33 => ?_) (fun _ hz => hz) ht _ _ _ hx rfl
    cases he
    refine g_iconst (v := (0 : Int32)) ok d_Mo_alerts_83 (by decide) ?_
    refine g_istore (i := 4) [(4, vI (0 : Int32)), (0, vR (some k)), (1, vI a1), (2, vI a2), (3, vI e32)] ok d_Mo_alerts_84 (by decide) rfl ?_
    refine g_sub [1, 2, 3, 4, 0] rfl ?_
    obtain ⟨e60, hx, h⟩ := bnd_go h
    refine w_l_Mo_alerts_86 (KX := fun y => y = e60) ok (fun y0 he => ?_) (rf_mono m33 ht) _ _ _ hx rfl
    cases he
    refine g_iload_n (i := 1) 1 ok d_Mo_alerts_184 rfl rfl ?_
    refine g_iload_n (i := 3) 3 ok d_Mo_alerts_185 rfl rfl ?_
    refine g_if_eq (tgt := 195) ok d_Mo_alerts_186 (by decide) (fun c61 => ?_) (fun c61 => ?_)
    · replace h := (if_pos c61).symm.trans h
      refine g_iconst (v := (0 : Int32)) ok d_Mo_alerts_195 (by decide) ?_
      refine g_ior ok d_Mo_alerts_196 ?_
      obtain ⟨x62, e63⟩ : ∃ z, (a1 ||| (0 : Int32)) = z := ⟨_, rfl⟩
      replace h := lt_go h e63
      rw [e63]
      refine g_istore_n (i := 1) [(1, vI x62), (0, vR (some k)), (2, vI a2), (3, vI e60)] ok d_Mo_alerts_197 rfl (by decide) rfl ?_
      obtain ⟨x64, e65⟩ : ∃ z, a2 + (1 : Int32) = z := ⟨_, rfl⟩
      replace h := lt_go h e65
      refine g_iinc (i := 2) (v := x64) 2 [(2, vI x64), (1, vI x62), (0, vR (some k)), (3, vI e60)] ok d_Mo_alerts_198 rfl (by rw [← e65]; rfl) (by decide) rfl ?_
      refine g_goto (tgt := 9) ok d_Mo_alerts_201 (by decide) ?_
      refine g_sub [2, 1, 0] rfl ?_
      exact hrec x62 x64 s34 (fun z hz => m33 z (mb z hz)) _ h hk
    · replace h := (if_neg c61).symm.trans h
      refine g_iconst (v := (1 : Int32)) ok d_Mo_alerts_189 (by decide) ?_
      refine g_iload_n (i := 2) 2 ok d_Mo_alerts_190 rfl rfl ?_
      refine g_ishl ok d_Mo_alerts_191 ?_
      refine g_goto (tgt := 196) ok d_Mo_alerts_192 (by decide) ?_
      refine g_ior ok d_Mo_alerts_196 ?_
      obtain ⟨x66, e67⟩ : ∃ z, (a1 ||| ((1 : Int32) <<< (a2 &&& (31 : Int32)))) = z := ⟨_, rfl⟩
      replace h := lt_go h e67
      rw [e67]
      refine g_istore_n (i := 1) [(1, vI x66), (0, vR (some k)), (2, vI a2), (3, vI e60)] ok d_Mo_alerts_197 rfl (by decide) rfl ?_
      obtain ⟨x68, e69⟩ : ∃ z, a2 + (1 : Int32) = z := ⟨_, rfl⟩
      replace h := lt_go h e69
      refine g_iinc (i := 2) (v := x68) 2 [(2, vI x68), (1, vI x66), (0, vR (some k)), (3, vI e60)] ok d_Mo_alerts_198 rfl (by rw [← e69]; rfl) (by decide) rfl ?_
      refine g_goto (tgt := 9) ok d_Mo_alerts_201 (by decide) ?_
      refine g_sub [2, 1, 0] rfl ?_
      exact hrec x66 x68 s34 (fun z hz => m33 z (mb z hz)) _ h hk
  · replace h := (if_neg c4).symm.trans h
    refine g_sub [0, 1] rfl ?_
    cases h
    exact hexit a1 s hk mb
theorem wx_l_Mo_alerts_9 {X : CX} {KX : Int32 × MS → Prop} {k : Nat} {n0 : Nat} {sb : MS} (ok : Ok X cX5_alerts RX5 rm_Mo_alerts 6 true) (hexit : ∀ (e1 : Int32) (z : MS), KX (e1, z) → (∀ q, dm sb q → dm z q) → G X z (z.2.2 48 - n0) (12 * (z.2.2 48 - n0)) 204 [(0, vR (some k)), (1, vI e1)] []) (htb : rf sb.2.2 20 (some k) = some k) : ∀ (n : Nat) (a1 : Int32) (a2 : Int32) (s : MS), (∀ q, dm sb q → dm s q) → ∀ (res : Int32 × MS), l_Mo_alerts_9 k n0 n a1 a2 s = some res → KX res → G X s (s.2.2 48 - n0) (12 * (s.2.2 48 - n0)) 9 [(0, vR (some k)), (1, vI a1), (2, vI a2)] [] := by
  intro n
  induction n with
  | zero => intro _ _ s _ res h; cases h
  | succ n ih =>
    intro a1 a2 s mb res h hk
    exact w_b_Mo_alerts_9 ok hexit (fun v1 v2 z hz y h2 hk2 => ih v1 v2 z hz y h2 hk2) mb (rf_mono mb htb) h hk
theorem w_l_Mo_alerts_9 {X : CX} {KX : Int32 × MS → Prop} {k : Nat} {n0 : Nat} {sb : MS} (ok : Ok X cX5_alerts RX5 rm_Mo_alerts 6 true) (hexit : ∀ (e1 : Int32) (z : MS), KX (e1, z) → (∀ q, dm sb q → dm z q) → G X z (z.2.2 48 - n0) (12 * (z.2.2 48 - n0)) 204 [(0, vR (some k)), (1, vI e1)] []) (mb : ∀ q, dm sb q → dm sb q) (htb : rf sb.2.2 20 (some k) = some k) (n : Nat) (a1 : Int32) (a2 : Int32) {res : Int32 × MS} (h : l_Mo_alerts_9 k n0 n a1 a2 sb = some res) (hk : KX res) : G X sb (sb.2.2 48 - n0) (12 * (sb.2.2 48 - n0)) 9 [(0, vR (some k)), (1, vI a1), (2, vI a2)] [] := wx_l_Mo_alerts_9 ok hexit htb n a1 a2 sb mb res h hk
set_option maxRecDepth 100000 in
set_option maxHeartbeats 4000000 in
theorem w_Mo_alerts {X : CX} {KX : Int32 × MS → Prop} {k : Nat} {s : MS} (ok : Ok X cX5_alerts RX5 rm_Mo_alerts 6 true) (hret : ∀ r : Int32 × MS, KX r → Fin X (some .int) 100 1200 true (some (vI r.1)) r.2)   (ht : rf s.2.2 20 (some k) = some k) {res : Int32 × MS} (h : f_Mo_alerts k s = some res) (hk : KX res) : G X s 0 0 0 [(0, vR (some k))] [] := by
  unfold f_Mo_alerts at h
  obtain ⟨n0, en0⟩ : ∃ z, s.2.2 48 = z := ⟨_, rfl⟩
  replace h := lt_go h en0
  refine g_aload_n (i := 0) 0 ok d_Mo_alerts_0 rfl rfl ?_
  refine g_iconst (v := (0 : Int32)) ok d_Mo_alerts_1 (by decide) ?_
  refine g_puti (s0 := 20) (j := 0) (ci := 5) (C := RX5) (T := TX5) (N := 29) ok ht lay_20 rfl inX5 (by decide) rfl tw_738 rfl tyX5_ok nmX5 rfl (Or.inl rfl) d_Mo_alerts_2 ?_
  obtain ⟨s1, e2⟩ : ∃ z, wi s k 0 (0 : Int32) = z := ⟨_, rfl⟩
  replace h := lt_go h e2
  have m3 := mo_wi e2
  rw [e2]
  refine g_iconst (v := (0 : Int32)) ok d_Mo_alerts_5 (by decide) ?_
  refine g_istore_n (i := 1) [(1, vI (0 : Int32)), (0, vR (some k))] ok d_Mo_alerts_6 rfl (by decide) rfl ?_
  refine g_iconst (v := (0 : Int32)) ok d_Mo_alerts_7 (by decide) ?_
  refine g_istore_n (i := 2) [(2, vI (0 : Int32)), (1, vI (0 : Int32)), (0, vR (some k))] ok d_Mo_alerts_8 rfl (by decide) rfl ?_
  refine g_sub [2, 1, 0] rfl ?_
  refine g_widen (ce' := (s1.2.2 48 - n0)) (sl' := (12 * (s1.2.2 48 - n0))) (by omega) (by omega) ?_
  obtain ⟨e70, s72, hx, h⟩ := bnd2_go h
  refine w_l_Mo_alerts_9 (KX := fun y => y = (e70, s72)) ok (fun y0 y1 he m71 => ?_) (fun _ hz => hz) (rf_mono m3 ht) _ _ _ hx rfl
  cases he
  refine g_iload_n (i := 1) 1 ok d_Mo_alerts_204 rfl rfl ?_
  obtain ⟨g73, h⟩ := gd_go h
  cases h
  exact g_iret ok (hret _ hk) (by omega) (by omega) d_Mo_alerts_205
theorem c_Mo_alerts (l : Launch) {k : Nat} {s : MS} (ht : rf s.2.2 20 (some k) = some k) {r : Int32} {z : MS} (h : f_Mo_alerts k s = some (r, z)) : Ct l yX5_alerts (.code yX5_alerts cX5_alerts 6 (some .int)) rm_Mo_alerts 100 1200 true [vR (some k)] s (some (vI r)) z :=
  Ct.of rfl (by decide +kernel) ⟨rfl, le_t rfl⟩ (fun X ok fn _ hI hl => w_Mo_alerts (KX := fun y => y = (r, z)) ok (fun y hy => by subst hy; exact fn) ht h rfl)
abbrev rm_Mo_home : Room := { frames := 4, cells := 0, slots := 0, locals := 85 }
theorem cm_Mo_home : cfM yX5_home cX5_home 2 (some .int) 1 := ⟨tw_1013, tw_4, by decide, by decide, by decide +kernel⟩
theorem cv_Mo_home : cfV yX5_home := ⟨tw_1011, tw_1012⟩
theorem d_Mo_home_0 : decode cX5_home 0 = .ok (.aload_n 0, 1) := by decide +kernel
theorem d_Mo_home_1 : decode cX5_home 1 = .ok (.iload_n 1, 1) := by decide +kernel
theorem d_Mo_home_2 : decode cX5_home 2 = .ok (.invokestatic 85, 3) := by decide +kernel
theorem d_Mo_home_5 : decode cX5_home 5 = .ok (.ifCond .eq 7, 3) := by decide +kernel
theorem d_Mo_home_8 : decode cX5_home 8 = .ok (.iconst 0, 1) := by decide +kernel
theorem d_Mo_home_9 : decode cX5_home 9 = .ok (.goto 4, 3) := by decide +kernel
theorem d_Mo_home_12 : decode cX5_home 12 = .ok (.iconst 1, 1) := by decide +kernel
theorem d_Mo_home_13 : decode cX5_home 13 = .ok (.invokevirtual 89, 3) := by decide +kernel
theorem d_Mo_home_16 : decode cX5_home 16 = .ok (.ifCond .eq 7, 3) := by decide +kernel
theorem d_Mo_home_19 : decode cX5_home 19 = .ok (.iconst 0, 1) := by decide +kernel
theorem d_Mo_home_20 : decode cX5_home 20 = .ok (.goto 19, 3) := by decide +kernel
theorem d_Mo_home_23 : decode cX5_home 23 = .ok (.aload_n 0, 1) := by decide +kernel
theorem d_Mo_home_24 : decode cX5_home 24 = .ok (.getfield 92, 3) := by decide +kernel
theorem d_Mo_home_27 : decode cX5_home 27 = .ok (.ifCond .ne 7, 3) := by decide +kernel
theorem d_Mo_home_30 : decode cX5_home 30 = .ok (.iconst (-1), 1) := by decide +kernel
theorem d_Mo_home_31 : decode cX5_home 31 = .ok (.goto 8, 3) := by decide +kernel
theorem d_Mo_home_34 : decode cX5_home 34 = .ok (.aload_n 0, 1) := by decide +kernel
theorem d_Mo_home_35 : decode cX5_home 35 = .ok (.iload_n 1, 1) := by decide +kernel
theorem d_Mo_home_36 : decode cX5_home 36 = .ok (.invokevirtual 133, 3) := by decide +kernel
theorem d_Mo_home_39 : decode cX5_home 39 = .ok (.ireturn, 1) := by decide +kernel
set_option maxRecDepth 100000 in
set_option maxHeartbeats 4000000 in
theorem w_j_Mo_home_13 {X : CX} {KX : Int32 × MS → Prop} {k : Nat} {a1 : Int32} {t0 : Int32} {t1 : Option Nat} {s : MS} (ok : Ok X cX5_home RX5 rm_Mo_home 2 false) (hret : ∀ r : Int32 × MS, KX r → Fin X (some .int) 0 0 false (some (vI r.1)) r.2) (ht : rf s.2.2 20 (some k) = some k) {res : Int32 × MS} (h : j_Mo_home_13 k a1 t0 t1 s = some res) (hk : KX res) : G X s 0 0 13 [(0, vR (some k)), (1, vI a1)] [vI t0, vR t1] := by
  unfold j_Mo_home_13 at h
  obtain ⟨k3, hk4, h⟩ := bnd_go h
  obtain ⟨x8, s7, hc6, h⟩ := bnd2_go h
  refine g_invV (rm2 := rm_Mo_refused) (As := [vI t0]) (rest := []) ok hk4 lay_20 rfl (c_Mo_refused X.1.2.1 (rf_self hk4) hc6) cm_Mo_refused cv_Mo_refused tw_841 ⟨rfl, rfl⟩ ⟨le_t rfl, le_t rfl⟩ ⟨rfl, le_t rfl⟩ ⟨le_t rfl, le_t rfl⟩ d_Mo_home_13 rfl (fun m5 => ?_)
  show G X s7 0 0 16 [(0, vR (some k)), (1, vI a1)] [vI x8]
  refine g_if_eq (tgt := 23) ok d_Mo_home_16 (by decide) (fun c9 => ?_) (fun c9 => ?_)
  · replace h := (if_pos c9).symm.trans h
    refine g_aload_n (i := 0) 0 ok d_Mo_home_23 rfl rfl ?_
    refine g_geti (s0 := 20) (j := 4) (ci := 5) (C := RX5) (T := TX5) (N := 29) ok (rf_mono m5 ht) lay_20 rfl inX5 (by decide) rfl tw_742 rfl d_Mo_home_24 ?_
    refine g_if_ne (tgt := 34) ok d_Mo_home_27 (by decide) (fun c10 => ?_) (fun c10 => ?_)
    · replace h := (if_pos c10).symm.trans h
      refine g_iconst (v := (-1 : Int32)) ok d_Mo_home_30 (by decide) ?_
      refine g_goto (tgt := 39) ok d_Mo_home_31 (by decide) ?_
      cases h
      exact g_iret ok (hret _ hk) (by decide) (by decide) d_Mo_home_39
    · replace h := (if_neg c10).symm.trans h
      refine g_aload_n (i := 0) 0 ok d_Mo_home_34 rfl rfl ?_
      refine g_iload_n (i := 1) 1 ok d_Mo_home_35 rfl rfl ?_
      obtain ⟨x12, hc13, h⟩ := bnd_go h
      refine g_invV (rm2 := rm_Mo_homeOf) (As := [vI a1]) (rest := []) ok (rf_mono m5 ht) lay_20 rfl (c_Mo_homeOf X.1.2.1 (rf_self (rf_mono m5 ht)) hc13) cm_Mo_homeOf cv_Mo_homeOf tw_921 ⟨rfl, rfl⟩ ⟨le_t rfl, le_t rfl⟩ ⟨rfl, le_t rfl⟩ ⟨le_t rfl, le_t rfl⟩ d_Mo_home_36 rfl (fun m11 => ?_)
      show G X s7 0 0 39 [(0, vR (some k)), (1, vI a1)] [vI x12]
      cases h
      exact g_iret ok (hret _ hk) (by decide) (by decide) d_Mo_home_39
  · replace h := (if_neg c9).symm.trans h
    refine g_iconst (v := (0 : Int32)) ok d_Mo_home_19 (by decide) ?_
    refine g_goto (tgt := 39) ok d_Mo_home_20 (by decide) ?_
    cases h
    exact g_iret ok (hret _ hk) (by decide) (by decide) d_Mo_home_39
set_option maxRecDepth 100000 in
set_option maxHeartbeats 4000000 in
theorem w_Mo_home {X : CX} {KX : Int32 × MS → Prop} {k : Nat} {a1 : Int32} {s : MS} (ok : Ok X cX5_home RX5 rm_Mo_home 2 false) (hret : ∀ r : Int32 × MS, KX r → Fin X (some .int) 0 0 false (some (vI r.1)) r.2)   (ht : rf s.2.2 20 (some k) = some k) {res : Int32 × MS} (h : f_Mo_home k a1 s = some res) (hk : KX res) : G X s 0 0 0 [(0, vR (some k)), (1, vI a1)] [] := by
  unfold f_Mo_home at h
  refine g_aload_n (i := 0) 0 ok d_Mo_home_0 rfl rfl ?_
  refine g_iload_n (i := 1) 1 ok d_Mo_home_1 rfl rfl ?_
  refine g_invS (rm2 := rm_Mo_isCell) (As := [vI a1]) (rest := [vR (some k)]) ok (c_Mo_isCell X.1.2.1) cm_Mo_isCell cs_Mo_isCell tw_835 ⟨rfl, rfl⟩ ⟨le_t rfl, le_t rfl⟩ ⟨rfl, le_t rfl⟩ ⟨le_t rfl, le_t rfl⟩ d_Mo_home_2 rfl (fun m1 => ?_)
  show G X s 0 0 5 [(0, vR (some k)), (1, vI a1)] [vI (f_Mo_isCell a1), vR (some k)]
  refine g_if_eq (tgt := 12) ok d_Mo_home_5 (by decide) (fun c2 => ?_) (fun c2 => ?_)
  · replace h := (if_pos c2).symm.trans h
    refine g_iconst (v := (1 : Int32)) ok d_Mo_home_12 (by decide) ?_
    exact w_j_Mo_home_13 ok hret ht h hk
  · replace h := (if_neg c2).symm.trans h
    refine g_iconst (v := (0 : Int32)) ok d_Mo_home_8 (by decide) ?_
    refine g_goto (tgt := 13) ok d_Mo_home_9 (by decide) ?_
    exact w_j_Mo_home_13 ok hret ht h hk
theorem c_Mo_home (l : Launch) {k : Nat} {a1 : Int32} {s : MS} (ht : rf s.2.2 20 (some k) = some k) {r : Int32} {z : MS} (h : f_Mo_home k a1 s = some (r, z)) : Ct l yX5_home (.code yX5_home cX5_home 2 (some .int)) rm_Mo_home 0 0 false [vR (some k), vI a1] s (some (vI r)) z :=
  Ct.of rfl (by decide +kernel) ⟨rfl, le_t rfl⟩ (fun X ok fn _ hI hl => w_Mo_home (KX := fun y => y = (r, z)) ok (fun y hy => by subst hy; exact fn) ht h rfl)
abbrev rm_Mo_placeAt : Room := { frames := 2, cells := 0, slots := 0, locals := 44 }
theorem cm_Mo_placeAt : cfM yX5_placeAt cX5_placeAt 3 (some .int) 2 := ⟨tw_1017, tw_4, by decide, by decide, by decide +kernel⟩
theorem cv_Mo_placeAt : cfV yX5_placeAt := ⟨tw_1015, tw_1016⟩
theorem d_Mo_placeAt_0 : decode cX5_placeAt 0 = .ok (.aload_n 0, 1) := by decide +kernel
theorem d_Mo_placeAt_1 : decode cX5_placeAt 1 = .ok (.aload_n 0, 1) := by decide +kernel
theorem d_Mo_placeAt_2 : decode cX5_placeAt 2 = .ok (.iload_n 1, 1) := by decide +kernel
theorem d_Mo_placeAt_3 : decode cX5_placeAt 3 = .ok (.invokevirtual 160, 3) := by decide +kernel
theorem d_Mo_placeAt_6 : decode cX5_placeAt 6 = .ok (.ifCond .eq 7, 3) := by decide +kernel
theorem d_Mo_placeAt_9 : decode cX5_placeAt 9 = .ok (.iconst 0, 1) := by decide +kernel
theorem d_Mo_placeAt_10 : decode cX5_placeAt 10 = .ok (.goto 4, 3) := by decide +kernel
theorem d_Mo_placeAt_13 : decode cX5_placeAt 13 = .ok (.iconst 1, 1) := by decide +kernel
theorem d_Mo_placeAt_14 : decode cX5_placeAt 14 = .ok (.invokevirtual 89, 3) := by decide +kernel
theorem d_Mo_placeAt_17 : decode cX5_placeAt 17 = .ok (.ifCond .eq 7, 3) := by decide +kernel
theorem d_Mo_placeAt_20 : decode cX5_placeAt 20 = .ok (.iconst 0, 1) := by decide +kernel
theorem d_Mo_placeAt_21 : decode cX5_placeAt 21 = .ok (.goto 9, 3) := by decide +kernel
theorem d_Mo_placeAt_24 : decode cX5_placeAt 24 = .ok (.aload_n 0, 1) := by decide +kernel
theorem d_Mo_placeAt_25 : decode cX5_placeAt 25 = .ok (.iload_n 1, 1) := by decide +kernel
theorem d_Mo_placeAt_26 : decode cX5_placeAt 26 = .ok (.iload_n 2, 1) := by decide +kernel
theorem d_Mo_placeAt_27 : decode cX5_placeAt 27 = .ok (.invokevirtual 189, 3) := by decide +kernel
theorem d_Mo_placeAt_30 : decode cX5_placeAt 30 = .ok (.ireturn, 1) := by decide +kernel
set_option maxRecDepth 100000 in
set_option maxHeartbeats 4000000 in
theorem w_j_Mo_placeAt_14 {X : CX} {KX : Int32 × MS → Prop} {k : Nat} {a1 : Int32} {a2 : Int32} {t0 : Int32} {t1 : Option Nat} {s : MS} (ok : Ok X cX5_placeAt RX5 rm_Mo_placeAt 3 false) (hret : ∀ r : Int32 × MS, KX r → Fin X (some .int) 0 0 false (some (vI r.1)) r.2) (ht : rf s.2.2 20 (some k) = some k) {res : Int32 × MS} (h : j_Mo_placeAt_14 k a1 a2 t0 t1 s = some res) (hk : KX res) : G X s 0 0 14 [(0, vR (some k)), (1, vI a1), (2, vI a2)] [vI t0, vR t1] := by
  unfold j_Mo_placeAt_14 at h
  obtain ⟨k5, hk6, h⟩ := bnd_go h
  obtain ⟨x10, s9, hc8, h⟩ := bnd2_go h
  refine g_invV (rm2 := rm_Mo_refused) (As := [vI t0]) (rest := []) ok hk6 lay_20 rfl (c_Mo_refused X.1.2.1 (rf_self hk6) hc8) cm_Mo_refused cv_Mo_refused tw_841 ⟨rfl, rfl⟩ ⟨le_t rfl, le_t rfl⟩ ⟨rfl, le_t rfl⟩ ⟨le_t rfl, le_t rfl⟩ d_Mo_placeAt_14 rfl (fun m7 => ?_)
  show G X s9 0 0 17 [(0, vR (some k)), (1, vI a1), (2, vI a2)] [vI x10]
  refine g_if_eq (tgt := 24) ok d_Mo_placeAt_17 (by decide) (fun c11 => ?_) (fun c11 => ?_)
  · replace h := (if_pos c11).symm.trans h
    refine g_aload_n (i := 0) 0 ok d_Mo_placeAt_24 rfl rfl ?_
    refine g_iload_n (i := 1) 1 ok d_Mo_placeAt_25 rfl rfl ?_
    refine g_iload_n (i := 2) 2 ok d_Mo_placeAt_26 rfl rfl ?_
    obtain ⟨x13, hc14, h⟩ := bnd_go h
    refine g_invV (rm2 := rm_Mo_whereAt) (As := [vI a1, vI a2]) (rest := []) ok (rf_mono m7 ht) lay_20 rfl (c_Mo_whereAt X.1.2.1 (rf_self (rf_mono m7 ht)) hc14) cm_Mo_whereAt cv_Mo_whereAt tw_1006 ⟨rfl, rfl⟩ ⟨le_t rfl, le_t rfl⟩ ⟨rfl, le_t rfl⟩ ⟨le_t rfl, le_t rfl⟩ d_Mo_placeAt_27 rfl (fun m12 => ?_)
    show G X s9 0 0 30 [(0, vR (some k)), (1, vI a1), (2, vI a2)] [vI x13]
    cases h
    exact g_iret ok (hret _ hk) (by decide) (by decide) d_Mo_placeAt_30
  · replace h := (if_neg c11).symm.trans h
    refine g_iconst (v := (0 : Int32)) ok d_Mo_placeAt_20 (by decide) ?_
    refine g_goto (tgt := 30) ok d_Mo_placeAt_21 (by decide) ?_
    cases h
    exact g_iret ok (hret _ hk) (by decide) (by decide) d_Mo_placeAt_30
set_option maxRecDepth 100000 in
set_option maxHeartbeats 4000000 in
theorem w_Mo_placeAt {X : CX} {KX : Int32 × MS → Prop} {k : Nat} {a1 : Int32} {a2 : Int32} {s : MS} (ok : Ok X cX5_placeAt RX5 rm_Mo_placeAt 3 false) (hret : ∀ r : Int32 × MS, KX r → Fin X (some .int) 0 0 false (some (vI r.1)) r.2)   (ht : rf s.2.2 20 (some k) = some k) {res : Int32 × MS} (h : f_Mo_placeAt k a1 a2 s = some res) (hk : KX res) : G X s 0 0 0 [(0, vR (some k)), (1, vI a1), (2, vI a2)] [] := by
  unfold f_Mo_placeAt at h
  refine g_aload_n (i := 0) 0 ok d_Mo_placeAt_0 rfl rfl ?_
  refine g_aload_n (i := 0) 0 ok d_Mo_placeAt_1 rfl rfl ?_
  refine g_iload_n (i := 1) 1 ok d_Mo_placeAt_2 rfl rfl ?_
  obtain ⟨x2, hc3, h⟩ := bnd_go h
  refine g_invV (rm2 := rm_Mo_isPath) (As := [vI a1]) (rest := [vR (some k)]) ok ht lay_20 rfl (c_Mo_isPath X.1.2.1 (rf_self ht) hc3) cm_Mo_isPath cv_Mo_isPath tw_951 ⟨rfl, rfl⟩ ⟨le_t rfl, le_t rfl⟩ ⟨rfl, le_t rfl⟩ ⟨le_t rfl, le_t rfl⟩ d_Mo_placeAt_3 rfl (fun m1 => ?_)
  show G X s 0 0 6 [(0, vR (some k)), (1, vI a1), (2, vI a2)] [vI x2, vR (some k)]
  refine g_if_eq (tgt := 13) ok d_Mo_placeAt_6 (by decide) (fun c4 => ?_) (fun c4 => ?_)
  · replace h := (if_pos c4).symm.trans h
    refine g_iconst (v := (1 : Int32)) ok d_Mo_placeAt_13 (by decide) ?_
    exact w_j_Mo_placeAt_14 ok hret ht h hk
  · replace h := (if_neg c4).symm.trans h
    refine g_iconst (v := (0 : Int32)) ok d_Mo_placeAt_9 (by decide) ?_
    refine g_goto (tgt := 14) ok d_Mo_placeAt_10 (by decide) ?_
    exact w_j_Mo_placeAt_14 ok hret ht h hk
theorem c_Mo_placeAt (l : Launch) {k : Nat} {a1 : Int32} {a2 : Int32} {s : MS} (ht : rf s.2.2 20 (some k) = some k) {r : Int32} {z : MS} (h : f_Mo_placeAt k a1 a2 s = some (r, z)) : Ct l yX5_placeAt (.code yX5_placeAt cX5_placeAt 3 (some .int)) rm_Mo_placeAt 0 0 false [vR (some k), vI a1, vI a2] s (some (vI r)) z :=
  Ct.of rfl (by decide +kernel) ⟨rfl, le_t rfl⟩ (fun X ok fn _ hI hl => w_Mo_placeAt (KX := fun y => y = (r, z)) ok (fun y hy => by subst hy; exact fn) ht h rfl)
abbrev rm_Mo_meets : Room := { frames := 2, cells := 0, slots := 0, locals := 52 }
theorem cm_Mo_meets : cfM yX5_meets cX5_meets 3 (some .boolean) 2 := ⟨tw_1021, tw_4, by decide, by decide, by decide +kernel⟩
theorem cv_Mo_meets : cfV yX5_meets := ⟨tw_1019, tw_1020⟩
theorem d_Mo_meets_0 : decode cX5_meets 0 = .ok (.aload_n 0, 1) := by decide +kernel
theorem d_Mo_meets_1 : decode cX5_meets 1 = .ok (.aload_n 0, 1) := by decide +kernel
theorem d_Mo_meets_2 : decode cX5_meets 2 = .ok (.iload_n 1, 1) := by decide +kernel
theorem d_Mo_meets_3 : decode cX5_meets 3 = .ok (.invokevirtual 160, 3) := by decide +kernel
theorem d_Mo_meets_6 : decode cX5_meets 6 = .ok (.ifCond .eq 15, 3) := by decide +kernel
theorem d_Mo_meets_9 : decode cX5_meets 9 = .ok (.aload_n 0, 1) := by decide +kernel
theorem d_Mo_meets_10 : decode cX5_meets 10 = .ok (.iload_n 2, 1) := by decide +kernel
theorem d_Mo_meets_11 : decode cX5_meets 11 = .ok (.invokevirtual 160, 3) := by decide +kernel
theorem d_Mo_meets_14 : decode cX5_meets 14 = .ok (.ifCond .eq 7, 3) := by decide +kernel
theorem d_Mo_meets_17 : decode cX5_meets 17 = .ok (.iconst 0, 1) := by decide +kernel
theorem d_Mo_meets_18 : decode cX5_meets 18 = .ok (.goto 4, 3) := by decide +kernel
theorem d_Mo_meets_21 : decode cX5_meets 21 = .ok (.iconst 1, 1) := by decide +kernel
theorem d_Mo_meets_22 : decode cX5_meets 22 = .ok (.invokevirtual 89, 3) := by decide +kernel
theorem d_Mo_meets_25 : decode cX5_meets 25 = .ok (.ifCond .ne 8, 3) := by decide +kernel
theorem d_Mo_meets_28 : decode cX5_meets 28 = .ok (.iload_n 1, 1) := by decide +kernel
theorem d_Mo_meets_29 : decode cX5_meets 29 = .ok (.iload_n 2, 1) := by decide +kernel
theorem d_Mo_meets_30 : decode cX5_meets 30 = .ok (.if_icmp .ne 5, 3) := by decide +kernel
theorem d_Mo_meets_33 : decode cX5_meets 33 = .ok (.iconst 0, 1) := by decide +kernel
theorem d_Mo_meets_34 : decode cX5_meets 34 = .ok (.ireturn, 1) := by decide +kernel
theorem d_Mo_meets_35 : decode cX5_meets 35 = .ok (.aload_n 0, 1) := by decide +kernel
theorem d_Mo_meets_36 : decode cX5_meets 36 = .ok (.bipush 81, 2) := by decide +kernel
theorem d_Mo_meets_38 : decode cX5_meets 38 = .ok (.iload_n 1, 1) := by decide +kernel
theorem d_Mo_meets_39 : decode cX5_meets 39 = .ok (.imul, 1) := by decide +kernel
theorem d_Mo_meets_40 : decode cX5_meets 40 = .ok (.aload_n 0, 1) := by decide +kernel
theorem d_Mo_meets_41 : decode cX5_meets 41 = .ok (.getfield 50, 3) := by decide +kernel
theorem d_Mo_meets_44 : decode cX5_meets 44 = .ok (.iload_n 1, 1) := by decide +kernel
theorem d_Mo_meets_45 : decode cX5_meets 45 = .ok (.iaload, 1) := by decide +kernel
theorem d_Mo_meets_46 : decode cX5_meets 46 = .ok (.aload_n 0, 1) := by decide +kernel
theorem d_Mo_meets_47 : decode cX5_meets 47 = .ok (.getfield 53, 3) := by decide +kernel
theorem d_Mo_meets_50 : decode cX5_meets 50 = .ok (.iload_n 1, 1) := by decide +kernel
theorem d_Mo_meets_51 : decode cX5_meets 51 = .ok (.iaload, 1) := by decide +kernel
theorem d_Mo_meets_52 : decode cX5_meets 52 = .ok (.iload_n 2, 1) := by decide +kernel
theorem d_Mo_meets_53 : decode cX5_meets 53 = .ok (.iconst 0, 1) := by decide +kernel
theorem d_Mo_meets_54 : decode cX5_meets 54 = .ok (.invokevirtual 149, 3) := by decide +kernel
theorem d_Mo_meets_57 : decode cX5_meets 57 = .ok (.ireturn, 1) := by decide +kernel
set_option maxRecDepth 100000 in
set_option maxHeartbeats 4000000 in
theorem w_j_Mo_meets_22 {X : CX} {KX : Int32 × MS → Prop} {k : Nat} {a1 : Int32} {a2 : Int32} {t0 : Int32} {t1 : Option Nat} {s : MS} (ok : Ok X cX5_meets RX5 rm_Mo_meets 3 false) (hret : ∀ r : Int32 × MS, KX r → Fin X (some .boolean) 0 0 false (some (vI r.1)) r.2) (ht : rf s.2.2 20 (some k) = some k) {res : Int32 × MS} (h : j_Mo_meets_22 k a1 a2 t0 t1 s = some res) (hk : KX res) : G X s 0 0 22 [(0, vR (some k)), (1, vI a1), (2, vI a2)] [vI t0, vR t1] := by
  unfold j_Mo_meets_22 at h
  obtain ⟨k5, hk6, h⟩ := bnd_go h
  obtain ⟨x10, s9, hc8, h⟩ := bnd2_go h
  refine g_invV (rm2 := rm_Mo_refused) (As := [vI t0]) (rest := []) ok hk6 lay_20 rfl (c_Mo_refused X.1.2.1 (rf_self hk6) hc8) cm_Mo_refused cv_Mo_refused tw_841 ⟨rfl, rfl⟩ ⟨le_t rfl, le_t rfl⟩ ⟨rfl, le_t rfl⟩ ⟨le_t rfl, le_t rfl⟩ d_Mo_meets_22 rfl (fun m7 => ?_)
  show G X s9 0 0 25 [(0, vR (some k)), (1, vI a1), (2, vI a2)] [vI x10]
  refine g_if_ne (tgt := 33) ok d_Mo_meets_25 (by decide) (fun c11 => ?_) (fun c11 => ?_)
  · replace h := (if_pos c11).symm.trans h
    refine g_iload_n (i := 1) 1 ok d_Mo_meets_28 rfl rfl ?_
    refine g_iload_n (i := 2) 2 ok d_Mo_meets_29 rfl rfl ?_
    refine g_icmp_ne (tgt := 35) ok d_Mo_meets_30 (by decide) (fun c12 => ?_) (fun c12 => ?_)
    · replace h := (if_pos c12).symm.trans h
      refine g_iconst (v := (0 : Int32)) ok d_Mo_meets_33 (by decide) ?_
      cases h
      exact g_zret ok (hret _ hk) (Or.inl rfl) (by decide) (by decide) d_Mo_meets_34
    · replace h := (if_neg c12).symm.trans h
      refine g_aload_n (i := 0) 0 ok d_Mo_meets_35 rfl rfl ?_
      refine g_bipush (v := (81 : Int32)) ok d_Mo_meets_36 (by decide) ?_
      refine g_iload_n (i := 1) 1 ok d_Mo_meets_38 rfl rfl ?_
      refine g_imul ok d_Mo_meets_39 ?_
      refine g_aload_n (i := 0) 0 ok d_Mo_meets_40 rfl rfl ?_
      refine g_getr (s0 := 20) (j := 19) (ci := 5) (C := RX5) (T := TX5) (N := 29) ok (rf_mono m7 ht) lay_20 rfl inX5 (by decide) rfl tw_757 rfl d_Mo_meets_41 ?_
      refine g_iload_n (i := 1) 1 ok d_Mo_meets_44 rfl rfl ?_
      obtain ⟨k13, hk14, h⟩ := bnd_go h
      refine g_iald ok hk14 d_Mo_meets_45 ?_
      refine g_aload_n (i := 0) 0 ok d_Mo_meets_46 rfl rfl ?_
      refine g_getr (s0 := 20) (j := 20) (ci := 5) (C := RX5) (T := TX5) (N := 29) ok (rf_mono m7 ht) lay_20 rfl inX5 (by decide) rfl tw_758 rfl d_Mo_meets_47 ?_
      refine g_iload_n (i := 1) 1 ok d_Mo_meets_50 rfl rfl ?_
      obtain ⟨k15, hk16, h⟩ := bnd_go h
      refine g_iald ok hk16 d_Mo_meets_51 ?_
      refine g_iload_n (i := 2) 2 ok d_Mo_meets_52 rfl rfl ?_
      refine g_iconst (v := (0 : Int32)) ok d_Mo_meets_53 (by decide) ?_
      obtain ⟨x18, hc19, h⟩ := bnd_go h
      refine g_invV (rm2 := rm_Mo_meet) (As := [vI ((81 : Int32) * a1), vI (s9.1 k13 a1.toNatClampNeg), vI (s9.1 k15 a1.toNatClampNeg), vI a2, vI (0 : Int32)]) (rest := []) ok (rf_mono m7 ht) lay_20 rfl (c_Mo_meet X.1.2.1 (rf_self (rf_mono m7 ht)) hc19) cm_Mo_meet cv_Mo_meet tw_939 ⟨rfl, rfl⟩ ⟨le_t rfl, le_t rfl⟩ ⟨rfl, le_t rfl⟩ ⟨le_t rfl, le_t rfl⟩ d_Mo_meets_54 rfl (fun m17 => ?_)
      show G X s9 0 0 57 [(0, vR (some k)), (1, vI a1), (2, vI a2)] [vI x18]
      obtain ⟨g20, h⟩ := gd_go h
      cases h
      exact g_zret ok (hret _ hk) g20 (by decide) (by decide) d_Mo_meets_57
  · replace h := (if_neg c11).symm.trans h
    refine g_iconst (v := (0 : Int32)) ok d_Mo_meets_33 (by decide) ?_
    cases h
    exact g_zret ok (hret _ hk) (Or.inl rfl) (by decide) (by decide) d_Mo_meets_34
set_option maxRecDepth 100000 in
set_option maxHeartbeats 4000000 in
theorem w_j_Mo_meets_21 {X : CX} {KX : Int32 × MS → Prop} {k : Nat} {a1 : Int32} {a2 : Int32} {t0 : Option Nat} {s : MS} (ok : Ok X cX5_meets RX5 rm_Mo_meets 3 false) (hret : ∀ r : Int32 × MS, KX r → Fin X (some .boolean) 0 0 false (some (vI r.1)) r.2) (ht : rf s.2.2 20 (some k) = some k) {res : Int32 × MS} (h : j_Mo_meets_21 k a1 a2 t0 s = some res) (hk : KX res) : G X s 0 0 21 [(0, vR (some k)), (1, vI a1), (2, vI a2)] [vR t0] := by
  unfold j_Mo_meets_21 at h
  refine g_iconst (v := (1 : Int32)) ok d_Mo_meets_21 (by decide) ?_
  exact w_j_Mo_meets_22 ok hret ht h hk
set_option maxRecDepth 100000 in
set_option maxHeartbeats 4000000 in
theorem w_Mo_meets {X : CX} {KX : Int32 × MS → Prop} {k : Nat} {a1 : Int32} {a2 : Int32} {s : MS} (ok : Ok X cX5_meets RX5 rm_Mo_meets 3 false) (hret : ∀ r : Int32 × MS, KX r → Fin X (some .boolean) 0 0 false (some (vI r.1)) r.2)   (ht : rf s.2.2 20 (some k) = some k) {res : Int32 × MS} (h : f_Mo_meets k a1 a2 s = some res) (hk : KX res) : G X s 0 0 0 [(0, vR (some k)), (1, vI a1), (2, vI a2)] [] := by
  unfold f_Mo_meets at h
  refine g_aload_n (i := 0) 0 ok d_Mo_meets_0 rfl rfl ?_
  refine g_aload_n (i := 0) 0 ok d_Mo_meets_1 rfl rfl ?_
  refine g_iload_n (i := 1) 1 ok d_Mo_meets_2 rfl rfl ?_
  obtain ⟨x2, hc3, h⟩ := bnd_go h
  refine g_invV (rm2 := rm_Mo_isPath) (As := [vI a1]) (rest := [vR (some k)]) ok ht lay_20 rfl (c_Mo_isPath X.1.2.1 (rf_self ht) hc3) cm_Mo_isPath cv_Mo_isPath tw_951 ⟨rfl, rfl⟩ ⟨le_t rfl, le_t rfl⟩ ⟨rfl, le_t rfl⟩ ⟨le_t rfl, le_t rfl⟩ d_Mo_meets_3 rfl (fun m1 => ?_)
  show G X s 0 0 6 [(0, vR (some k)), (1, vI a1), (2, vI a2)] [vI x2, vR (some k)]
  refine g_if_eq (tgt := 21) ok d_Mo_meets_6 (by decide) (fun c4 => ?_) (fun c4 => ?_)
  · replace h := (if_pos c4).symm.trans h
    exact w_j_Mo_meets_21 ok hret ht h hk
  · replace h := (if_neg c4).symm.trans h
    refine g_aload_n (i := 0) 0 ok d_Mo_meets_9 rfl rfl ?_
    refine g_iload_n (i := 2) 2 ok d_Mo_meets_10 rfl rfl ?_
    obtain ⟨x22, hc23, h⟩ := bnd_go h
    refine g_invV (rm2 := rm_Mo_isPath) (As := [vI a2]) (rest := [vR (some k)]) ok ht lay_20 rfl (c_Mo_isPath X.1.2.1 (rf_self ht) hc23) cm_Mo_isPath cv_Mo_isPath tw_951 ⟨rfl, rfl⟩ ⟨le_t rfl, le_t rfl⟩ ⟨rfl, le_t rfl⟩ ⟨le_t rfl, le_t rfl⟩ d_Mo_meets_11 rfl (fun m21 => ?_)
    show G X s 0 0 14 [(0, vR (some k)), (1, vI a1), (2, vI a2)] [vI x22, vR (some k)]
    refine g_if_eq (tgt := 21) ok d_Mo_meets_14 (by decide) (fun c24 => ?_) (fun c24 => ?_)
    · replace h := (if_pos c24).symm.trans h
      exact w_j_Mo_meets_21 ok hret ht h hk
    · replace h := (if_neg c24).symm.trans h
      refine g_iconst (v := (0 : Int32)) ok d_Mo_meets_17 (by decide) ?_
      refine g_goto (tgt := 22) ok d_Mo_meets_18 (by decide) ?_
      exact w_j_Mo_meets_22 ok hret ht h hk
theorem c_Mo_meets (l : Launch) {k : Nat} {a1 : Int32} {a2 : Int32} {s : MS} (ht : rf s.2.2 20 (some k) = some k) {r : Int32} {z : MS} (h : f_Mo_meets k a1 a2 s = some (r, z)) : Ct l yX5_meets (.code yX5_meets cX5_meets 3 (some .boolean)) rm_Mo_meets 0 0 false [vR (some k), vI a1, vI a2] s (some (vI r)) z :=
  Ct.of rfl (by decide +kernel) ⟨rfl, le_t rfl⟩ (fun X ok fn _ hI hl => w_Mo_meets (KX := fun y => y = (r, z)) ok (fun y hy => by subst hy; exact fn) ht h rfl)
abbrev rm_Mo_meetsAnew : Room := { frames := 3, cells := 0, slots := 0, locals := 74 }
theorem cm_Mo_meetsAnew : cfM yX5_meetsAnew cX5_meetsAnew 3 (some .boolean) 2 := ⟨tw_1025, tw_4, by decide, by decide, by decide +kernel⟩
theorem cv_Mo_meetsAnew : cfV yX5_meetsAnew := ⟨tw_1023, tw_1024⟩
theorem d_Mo_meetsAnew_0 : decode cX5_meetsAnew 0 = .ok (.aload_n 0, 1) := by decide +kernel
theorem d_Mo_meetsAnew_1 : decode cX5_meetsAnew 1 = .ok (.iload_n 1, 1) := by decide +kernel
theorem d_Mo_meetsAnew_2 : decode cX5_meetsAnew 2 = .ok (.iload_n 2, 1) := by decide +kernel
theorem d_Mo_meetsAnew_3 : decode cX5_meetsAnew 3 = .ok (.invokevirtual 196, 3) := by decide +kernel
theorem d_Mo_meetsAnew_6 : decode cX5_meetsAnew 6 = .ok (.ireturn, 1) := by decide +kernel
set_option maxRecDepth 100000 in
set_option maxHeartbeats 4000000 in
theorem w_Mo_meetsAnew {X : CX} {KX : Int32 × MS → Prop} {k : Nat} {a1 : Int32} {a2 : Int32} {s : MS} (ok : Ok X cX5_meetsAnew RX5 rm_Mo_meetsAnew 3 false) (hret : ∀ r : Int32 × MS, KX r → Fin X (some .boolean) 0 0 false (some (vI r.1)) r.2)   (ht : rf s.2.2 20 (some k) = some k) {res : Int32 × MS} (h : f_Mo_meetsAnew k a1 a2 s = some res) (hk : KX res) : G X s 0 0 0 [(0, vR (some k)), (1, vI a1), (2, vI a2)] [] := by
  unfold f_Mo_meetsAnew at h
  refine g_aload_n (i := 0) 0 ok d_Mo_meetsAnew_0 rfl rfl ?_
  refine g_iload_n (i := 1) 1 ok d_Mo_meetsAnew_1 rfl rfl ?_
  refine g_iload_n (i := 2) 2 ok d_Mo_meetsAnew_2 rfl rfl ?_
  obtain ⟨x4, s3, hc2, h⟩ := bnd2_go h
  refine g_invV (rm2 := rm_Mo_meets) (As := [vI a1, vI a2]) (rest := []) ok ht lay_20 rfl (c_Mo_meets X.1.2.1 (rf_self ht) hc2) cm_Mo_meets cv_Mo_meets tw_1026 ⟨rfl, rfl⟩ ⟨le_t rfl, le_t rfl⟩ ⟨rfl, le_t rfl⟩ ⟨le_t rfl, le_t rfl⟩ d_Mo_meetsAnew_3 rfl (fun m1 => ?_)
  show G X s3 0 0 6 [(0, vR (some k)), (1, vI a1), (2, vI a2)] [vI x4]
  obtain ⟨g5, h⟩ := gd_go h
  cases h
  exact g_zret ok (hret _ hk) g5 (by decide) (by decide) d_Mo_meetsAnew_6
theorem c_Mo_meetsAnew (l : Launch) {k : Nat} {a1 : Int32} {a2 : Int32} {s : MS} (ht : rf s.2.2 20 (some k) = some k) {r : Int32} {z : MS} (h : f_Mo_meetsAnew k a1 a2 s = some (r, z)) : Ct l yX5_meetsAnew (.code yX5_meetsAnew cX5_meetsAnew 3 (some .boolean)) rm_Mo_meetsAnew 0 0 false [vR (some k), vI a1, vI a2] s (some (vI r)) z :=
  Ct.of rfl (by decide +kernel) ⟨rfl, le_t rfl⟩ (fun X ok fn _ hI hl => w_Mo_meetsAnew (KX := fun y => y = (r, z)) ok (fun y hy => by subst hy; exact fn) ht h rfl)
abbrev rm_Mo_ofMachine : Room := { frames := 2, cells := 0, slots := 0, locals := 43 }
theorem cm_Mo_ofMachine : cfM yX5_ofMachine cX5_ofMachine 3 (some .int) 2 := ⟨tw_1030, tw_4, by decide, by decide, by decide +kernel⟩
theorem cv_Mo_ofMachine : cfV yX5_ofMachine := ⟨tw_1028, tw_1029⟩
theorem d_Mo_ofMachine_0 : decode cX5_ofMachine 0 = .ok (.aload_n 0, 1) := by decide +kernel
theorem d_Mo_ofMachine_1 : decode cX5_ofMachine 1 = .ok (.aload_n 0, 1) := by decide +kernel
theorem d_Mo_ofMachine_2 : decode cX5_ofMachine 2 = .ok (.iload_n 1, 1) := by decide +kernel
theorem d_Mo_ofMachine_3 : decode cX5_ofMachine 3 = .ok (.invokevirtual 123, 3) := by decide +kernel
theorem d_Mo_ofMachine_6 : decode cX5_ofMachine 6 = .ok (.ifCond .ne 7, 3) := by decide +kernel
theorem d_Mo_ofMachine_9 : decode cX5_ofMachine 9 = .ok (.iconst 1, 1) := by decide +kernel
theorem d_Mo_ofMachine_10 : decode cX5_ofMachine 10 = .ok (.goto 17, 3) := by decide +kernel
theorem d_Mo_ofMachine_13 : decode cX5_ofMachine 13 = .ok (.iload_n 2, 1) := by decide +kernel
theorem d_Mo_ofMachine_14 : decode cX5_ofMachine 14 = .ok (.iconst 0, 1) := by decide +kernel
theorem d_Mo_ofMachine_15 : decode cX5_ofMachine 15 = .ok (.iconst 5, 1) := by decide +kernel
theorem d_Mo_ofMachine_16 : decode cX5_ofMachine 16 = .ok (.invokestatic 75, 3) := by decide +kernel
theorem d_Mo_ofMachine_19 : decode cX5_ofMachine 19 = .ok (.ifCond .ne 7, 3) := by decide +kernel
theorem d_Mo_ofMachine_22 : decode cX5_ofMachine 22 = .ok (.iconst 2, 1) := by decide +kernel
theorem d_Mo_ofMachine_23 : decode cX5_ofMachine 23 = .ok (.goto 4, 3) := by decide +kernel
theorem d_Mo_ofMachine_26 : decode cX5_ofMachine 26 = .ok (.iconst 0, 1) := by decide +kernel
theorem d_Mo_ofMachine_27 : decode cX5_ofMachine 27 = .ok (.invokevirtual 89, 3) := by decide +kernel
theorem d_Mo_ofMachine_30 : decode cX5_ofMachine 30 = .ok (.ifCond .eq 5, 3) := by decide +kernel
theorem d_Mo_ofMachine_33 : decode cX5_ofMachine 33 = .ok (.iconst 0, 1) := by decide +kernel
theorem d_Mo_ofMachine_34 : decode cX5_ofMachine 34 = .ok (.ireturn, 1) := by decide +kernel
theorem d_Mo_ofMachine_35 : decode cX5_ofMachine 35 = .ok (.iload_n 2, 1) := by decide +kernel
theorem d_Mo_ofMachine_36 : decode cX5_ofMachine 36 = .ok (.iconst 3, 1) := by decide +kernel
theorem d_Mo_ofMachine_37 : decode cX5_ofMachine 37 = .ok (.if_icmp .ge 43, 3) := by decide +kernel
theorem d_Mo_ofMachine_40 : decode cX5_ofMachine 40 = .ok (.iload_n 2, 1) := by decide +kernel
theorem d_Mo_ofMachine_41 : decode cX5_ofMachine 41 = .ok (.ifCond .ne 12, 3) := by decide +kernel
theorem d_Mo_ofMachine_44 : decode cX5_ofMachine 44 = .ok (.aload_n 0, 1) := by decide +kernel
theorem d_Mo_ofMachine_45 : decode cX5_ofMachine 45 = .ok (.getfield 35, 3) := by decide +kernel
theorem d_Mo_ofMachine_48 : decode cX5_ofMachine 48 = .ok (.iload_n 1, 1) := by decide +kernel
theorem d_Mo_ofMachine_49 : decode cX5_ofMachine 49 = .ok (.iaload, 1) := by decide +kernel
theorem d_Mo_ofMachine_50 : decode cX5_ofMachine 50 = .ok (.goto 29, 3) := by decide +kernel
theorem d_Mo_ofMachine_53 : decode cX5_ofMachine 53 = .ok (.iload_n 2, 1) := by decide +kernel
theorem d_Mo_ofMachine_54 : decode cX5_ofMachine 54 = .ok (.iconst 1, 1) := by decide +kernel
theorem d_Mo_ofMachine_55 : decode cX5_ofMachine 55 = .ok (.if_icmp .ne 15, 3) := by decide +kernel
theorem d_Mo_ofMachine_58 : decode cX5_ofMachine 58 = .ok (.aload_n 0, 1) := by decide +kernel
theorem d_Mo_ofMachine_59 : decode cX5_ofMachine 59 = .ok (.getfield 32, 3) := by decide +kernel
theorem d_Mo_ofMachine_62 : decode cX5_ofMachine 62 = .ok (.iload_n 1, 1) := by decide +kernel
theorem d_Mo_ofMachine_63 : decode cX5_ofMachine 63 = .ok (.iaload, 1) := by decide +kernel
theorem d_Mo_ofMachine_64 : decode cX5_ofMachine 64 = .ok (.bipush 100, 2) := by decide +kernel
theorem d_Mo_ofMachine_66 : decode cX5_ofMachine 66 = .ok (.irem, 1) := by decide +kernel
theorem d_Mo_ofMachine_67 : decode cX5_ofMachine 67 = .ok (.goto 12, 3) := by decide +kernel
theorem d_Mo_ofMachine_70 : decode cX5_ofMachine 70 = .ok (.aload_n 0, 1) := by decide +kernel
theorem d_Mo_ofMachine_71 : decode cX5_ofMachine 71 = .ok (.getfield 32, 3) := by decide +kernel
theorem d_Mo_ofMachine_74 : decode cX5_ofMachine 74 = .ok (.iload_n 1, 1) := by decide +kernel
theorem d_Mo_ofMachine_75 : decode cX5_ofMachine 75 = .ok (.iaload, 1) := by decide +kernel
theorem d_Mo_ofMachine_76 : decode cX5_ofMachine 76 = .ok (.bipush 100, 2) := by decide +kernel
theorem d_Mo_ofMachine_78 : decode cX5_ofMachine 78 = .ok (.idiv, 1) := by decide +kernel
theorem d_Mo_ofMachine_79 : decode cX5_ofMachine 79 = .ok (.ireturn, 1) := by decide +kernel
theorem d_Mo_ofMachine_80 : decode cX5_ofMachine 80 = .ok (.iload_n 2, 1) := by decide +kernel
theorem d_Mo_ofMachine_81 : decode cX5_ofMachine 81 = .ok (.iconst 3, 1) := by decide +kernel
theorem d_Mo_ofMachine_82 : decode cX5_ofMachine 82 = .ok (.if_icmp .ne 12, 3) := by decide +kernel
theorem d_Mo_ofMachine_85 : decode cX5_ofMachine 85 = .ok (.aload_n 0, 1) := by decide +kernel
theorem d_Mo_ofMachine_86 : decode cX5_ofMachine 86 = .ok (.getfield 29, 3) := by decide +kernel
theorem d_Mo_ofMachine_89 : decode cX5_ofMachine 89 = .ok (.iload_n 1, 1) := by decide +kernel
theorem d_Mo_ofMachine_90 : decode cX5_ofMachine 90 = .ok (.iaload, 1) := by decide +kernel
theorem d_Mo_ofMachine_91 : decode cX5_ofMachine 91 = .ok (.goto 23, 3) := by decide +kernel
theorem d_Mo_ofMachine_94 : decode cX5_ofMachine 94 = .ok (.iload_n 2, 1) := by decide +kernel
theorem d_Mo_ofMachine_95 : decode cX5_ofMachine 95 = .ok (.iconst 4, 1) := by decide +kernel
theorem d_Mo_ofMachine_96 : decode cX5_ofMachine 96 = .ok (.if_icmp .ne 12, 3) := by decide +kernel
theorem d_Mo_ofMachine_99 : decode cX5_ofMachine 99 = .ok (.aload_n 0, 1) := by decide +kernel
theorem d_Mo_ofMachine_100 : decode cX5_ofMachine 100 = .ok (.getfield 23, 3) := by decide +kernel
theorem d_Mo_ofMachine_103 : decode cX5_ofMachine 103 = .ok (.iload_n 1, 1) := by decide +kernel
theorem d_Mo_ofMachine_104 : decode cX5_ofMachine 104 = .ok (.iaload, 1) := by decide +kernel
theorem d_Mo_ofMachine_105 : decode cX5_ofMachine 105 = .ok (.goto 9, 3) := by decide +kernel
theorem d_Mo_ofMachine_108 : decode cX5_ofMachine 108 = .ok (.aload_n 0, 1) := by decide +kernel
theorem d_Mo_ofMachine_109 : decode cX5_ofMachine 109 = .ok (.getfield 38, 3) := by decide +kernel
theorem d_Mo_ofMachine_112 : decode cX5_ofMachine 112 = .ok (.iload_n 1, 1) := by decide +kernel
theorem d_Mo_ofMachine_113 : decode cX5_ofMachine 113 = .ok (.iaload, 1) := by decide +kernel
theorem d_Mo_ofMachine_114 : decode cX5_ofMachine 114 = .ok (.ireturn, 1) := by decide +kernel
set_option maxRecDepth 100000 in
set_option maxHeartbeats 4000000 in
theorem w_j_Mo_ofMachine_27 {X : CX} {KX : Int32 × MS → Prop} {k : Nat} {a1 : Int32} {a2 : Int32} {t0 : Int32} {t1 : Option Nat} {s : MS} (ok : Ok X cX5_ofMachine RX5 rm_Mo_ofMachine 3 false) (hret : ∀ r : Int32 × MS, KX r → Fin X (some .int) 0 0 false (some (vI r.1)) r.2) (ht : rf s.2.2 20 (some k) = some k) {res : Int32 × MS} (h : j_Mo_ofMachine_27 k a1 a2 t0 t1 s = some res) (hk : KX res) : G X s 0 0 27 [(0, vR (some k)), (1, vI a1), (2, vI a2)] [vI t0, vR t1] := by
  unfold j_Mo_ofMachine_27 at h
  obtain ⟨k5, hk6, h⟩ := bnd_go h
  obtain ⟨x10, s9, hc8, h⟩ := bnd2_go h
  refine g_invV (rm2 := rm_Mo_refused) (As := [vI t0]) (rest := []) ok hk6 lay_20 rfl (c_Mo_refused X.1.2.1 (rf_self hk6) hc8) cm_Mo_refused cv_Mo_refused tw_841 ⟨rfl, rfl⟩ ⟨le_t rfl, le_t rfl⟩ ⟨rfl, le_t rfl⟩ ⟨le_t rfl, le_t rfl⟩ d_Mo_ofMachine_27 rfl (fun m7 => ?_)
  show G X s9 0 0 30 [(0, vR (some k)), (1, vI a1), (2, vI a2)] [vI x10]
  refine g_if_eq (tgt := 35) ok d_Mo_ofMachine_30 (by decide) (fun c11 => ?_) (fun c11 => ?_)
  · replace h := (if_pos c11).symm.trans h
    refine g_iload_n (i := 2) 2 ok d_Mo_ofMachine_35 rfl rfl ?_
    refine g_iconst (v := (3 : Int32)) ok d_Mo_ofMachine_36 (by decide) ?_
    refine g_icmp_ge (tgt := 80) ok d_Mo_ofMachine_37 (by decide) (fun c12 => ?_) (fun c12 => ?_)
    · replace h := (if_pos c12).symm.trans h
      refine g_iload_n (i := 2) 2 ok d_Mo_ofMachine_40 rfl rfl ?_
      refine g_if_ne (tgt := 53) ok d_Mo_ofMachine_41 (by decide) (fun c13 => ?_) (fun c13 => ?_)
      · replace h := (if_pos c13).symm.trans h
        refine g_aload_n (i := 0) 0 ok d_Mo_ofMachine_44 rfl rfl ?_
        refine g_getr (s0 := 20) (j := 12) (ci := 5) (C := RX5) (T := TX5) (N := 29) ok (rf_mono m7 ht) lay_20 rfl inX5 (by decide) rfl tw_750 rfl d_Mo_ofMachine_45 ?_
        refine g_iload_n (i := 1) 1 ok d_Mo_ofMachine_48 rfl rfl ?_
        obtain ⟨k14, hk15, h⟩ := bnd_go h
        refine g_iald ok hk15 d_Mo_ofMachine_49 ?_
        refine g_goto (tgt := 79) ok d_Mo_ofMachine_50 (by decide) ?_
        cases h
        exact g_iret ok (hret _ hk) (by decide) (by decide) d_Mo_ofMachine_79
      · replace h := (if_neg c13).symm.trans h
        refine g_iload_n (i := 2) 2 ok d_Mo_ofMachine_53 rfl rfl ?_
        refine g_iconst (v := (1 : Int32)) ok d_Mo_ofMachine_54 (by decide) ?_
        refine g_icmp_ne (tgt := 70) ok d_Mo_ofMachine_55 (by decide) (fun c16 => ?_) (fun c16 => ?_)
        · replace h := (if_pos c16).symm.trans h
          refine g_aload_n (i := 0) 0 ok d_Mo_ofMachine_58 rfl rfl ?_
          refine g_getr (s0 := 20) (j := 11) (ci := 5) (C := RX5) (T := TX5) (N := 29) ok (rf_mono m7 ht) lay_20 rfl inX5 (by decide) rfl tw_749 rfl d_Mo_ofMachine_59 ?_
          refine g_iload_n (i := 1) 1 ok d_Mo_ofMachine_62 rfl rfl ?_
          obtain ⟨k17, hk18, h⟩ := bnd_go h
          refine g_iald ok hk18 d_Mo_ofMachine_63 ?_
          refine g_bipush (v := (100 : Int32)) ok d_Mo_ofMachine_64 (by decide) ?_
          refine g_irem ok d_Mo_ofMachine_66 (by decide) ?_
          refine g_goto (tgt := 79) ok d_Mo_ofMachine_67 (by decide) ?_
          cases h
          exact g_iret ok (hret _ hk) (by decide) (by decide) d_Mo_ofMachine_79
        · replace h := (if_neg c16).symm.trans h
          refine g_aload_n (i := 0) 0 ok d_Mo_ofMachine_70 rfl rfl ?_
          refine g_getr (s0 := 20) (j := 11) (ci := 5) (C := RX5) (T := TX5) (N := 29) ok (rf_mono m7 ht) lay_20 rfl inX5 (by decide) rfl tw_749 rfl d_Mo_ofMachine_71 ?_
          refine g_iload_n (i := 1) 1 ok d_Mo_ofMachine_74 rfl rfl ?_
          obtain ⟨k19, hk20, h⟩ := bnd_go h
          refine g_iald ok hk20 d_Mo_ofMachine_75 ?_
          refine g_bipush (v := (100 : Int32)) ok d_Mo_ofMachine_76 (by decide) ?_
          refine g_idiv ok d_Mo_ofMachine_78 (by decide) ?_
          cases h
          exact g_iret ok (hret _ hk) (by decide) (by decide) d_Mo_ofMachine_79
    · replace h := (if_neg c12).symm.trans h
      refine g_iload_n (i := 2) 2 ok d_Mo_ofMachine_80 rfl rfl ?_
      refine g_iconst (v := (3 : Int32)) ok d_Mo_ofMachine_81 (by decide) ?_
      refine g_icmp_ne (tgt := 94) ok d_Mo_ofMachine_82 (by decide) (fun c21 => ?_) (fun c21 => ?_)
      · replace h := (if_pos c21).symm.trans h
        refine g_aload_n (i := 0) 0 ok d_Mo_ofMachine_85 rfl rfl ?_
        refine g_getr (s0 := 20) (j := 10) (ci := 5) (C := RX5) (T := TX5) (N := 29) ok (rf_mono m7 ht) lay_20 rfl inX5 (by decide) rfl tw_748 rfl d_Mo_ofMachine_86 ?_
        refine g_iload_n (i := 1) 1 ok d_Mo_ofMachine_89 rfl rfl ?_
        obtain ⟨k22, hk23, h⟩ := bnd_go h
        refine g_iald ok hk23 d_Mo_ofMachine_90 ?_
        refine g_goto (tgt := 114) ok d_Mo_ofMachine_91 (by decide) ?_
        cases h
        exact g_iret ok (hret _ hk) (by decide) (by decide) d_Mo_ofMachine_114
      · replace h := (if_neg c21).symm.trans h
        refine g_iload_n (i := 2) 2 ok d_Mo_ofMachine_94 rfl rfl ?_
        refine g_iconst (v := (4 : Int32)) ok d_Mo_ofMachine_95 (by decide) ?_
        refine g_icmp_ne (tgt := 108) ok d_Mo_ofMachine_96 (by decide) (fun c24 => ?_) (fun c24 => ?_)
        · replace h := (if_pos c24).symm.trans h
          refine g_aload_n (i := 0) 0 ok d_Mo_ofMachine_99 rfl rfl ?_
          refine g_getr (s0 := 20) (j := 8) (ci := 5) (C := RX5) (T := TX5) (N := 29) ok (rf_mono m7 ht) lay_20 rfl inX5 (by decide) rfl tw_746 rfl d_Mo_ofMachine_100 ?_
          refine g_iload_n (i := 1) 1 ok d_Mo_ofMachine_103 rfl rfl ?_
          obtain ⟨k25, hk26, h⟩ := bnd_go h
          refine g_iald ok hk26 d_Mo_ofMachine_104 ?_
          refine g_goto (tgt := 114) ok d_Mo_ofMachine_105 (by decide) ?_
          cases h
          exact g_iret ok (hret _ hk) (by decide) (by decide) d_Mo_ofMachine_114
        · replace h := (if_neg c24).symm.trans h
          refine g_aload_n (i := 0) 0 ok d_Mo_ofMachine_108 rfl rfl ?_
          refine g_getr (s0 := 20) (j := 13) (ci := 5) (C := RX5) (T := TX5) (N := 29) ok (rf_mono m7 ht) lay_20 rfl inX5 (by decide) rfl tw_751 rfl d_Mo_ofMachine_109 ?_
          refine g_iload_n (i := 1) 1 ok d_Mo_ofMachine_112 rfl rfl ?_
          obtain ⟨k27, hk28, h⟩ := bnd_go h
          refine g_iald ok hk28 d_Mo_ofMachine_113 ?_
          cases h
          exact g_iret ok (hret _ hk) (by decide) (by decide) d_Mo_ofMachine_114
  · replace h := (if_neg c11).symm.trans h
    refine g_iconst (v := (0 : Int32)) ok d_Mo_ofMachine_33 (by decide) ?_
    cases h
    exact g_iret ok (hret _ hk) (by decide) (by decide) d_Mo_ofMachine_34
set_option maxRecDepth 100000 in
set_option maxHeartbeats 4000000 in
theorem w_Mo_ofMachine {X : CX} {KX : Int32 × MS → Prop} {k : Nat} {a1 : Int32} {a2 : Int32} {s : MS} (ok : Ok X cX5_ofMachine RX5 rm_Mo_ofMachine 3 false) (hret : ∀ r : Int32 × MS, KX r → Fin X (some .int) 0 0 false (some (vI r.1)) r.2)   (ht : rf s.2.2 20 (some k) = some k) {res : Int32 × MS} (h : f_Mo_ofMachine k a1 a2 s = some res) (hk : KX res) : G X s 0 0 0 [(0, vR (some k)), (1, vI a1), (2, vI a2)] [] := by
  unfold f_Mo_ofMachine at h
  refine g_aload_n (i := 0) 0 ok d_Mo_ofMachine_0 rfl rfl ?_
  refine g_aload_n (i := 0) 0 ok d_Mo_ofMachine_1 rfl rfl ?_
  refine g_iload_n (i := 1) 1 ok d_Mo_ofMachine_2 rfl rfl ?_
  obtain ⟨x2, hc3, h⟩ := bnd_go h
  refine g_invV (rm2 := rm_Mo_isMachine) (As := [vI a1]) (rest := [vR (some k)]) ok ht lay_20 rfl (c_Mo_isMachine X.1.2.1 (rf_self ht) hc3) cm_Mo_isMachine cv_Mo_isMachine tw_890 ⟨rfl, rfl⟩ ⟨le_t rfl, le_t rfl⟩ ⟨rfl, le_t rfl⟩ ⟨le_t rfl, le_t rfl⟩ d_Mo_ofMachine_3 rfl (fun m1 => ?_)
  show G X s 0 0 6 [(0, vR (some k)), (1, vI a1), (2, vI a2)] [vI x2, vR (some k)]
  refine g_if_ne (tgt := 13) ok d_Mo_ofMachine_6 (by decide) (fun c4 => ?_) (fun c4 => ?_)
  · replace h := (if_pos c4).symm.trans h
    refine g_iconst (v := (1 : Int32)) ok d_Mo_ofMachine_9 (by decide) ?_
    refine g_goto (tgt := 27) ok d_Mo_ofMachine_10 (by decide) ?_
    exact w_j_Mo_ofMachine_27 ok hret ht h hk
  · replace h := (if_neg c4).symm.trans h
    refine g_iload_n (i := 2) 2 ok d_Mo_ofMachine_13 rfl rfl ?_
    refine g_iconst (v := (0 : Int32)) ok d_Mo_ofMachine_14 (by decide) ?_
    refine g_iconst (v := (5 : Int32)) ok d_Mo_ofMachine_15 (by decide) ?_
    refine g_invS (rm2 := rm_Mo_within) (As := [vI a2, vI (0 : Int32), vI (5 : Int32)]) (rest := [vR (some k)]) ok (c_Mo_within X.1.2.1) cm_Mo_within cs_Mo_within tw_838 ⟨rfl, rfl⟩ ⟨le_t rfl, le_t rfl⟩ ⟨rfl, le_t rfl⟩ ⟨le_t rfl, le_t rfl⟩ d_Mo_ofMachine_16 rfl (fun m29 => ?_)
    show G X s 0 0 19 [(0, vR (some k)), (1, vI a1), (2, vI a2)] [vI (f_Mo_within a2 (0 : Int32) (5 : Int32)), vR (some k)]
    refine g_if_ne (tgt := 26) ok d_Mo_ofMachine_19 (by decide) (fun c30 => ?_) (fun c30 => ?_)
    · replace h := (if_pos c30).symm.trans h
      refine g_iconst (v := (2 : Int32)) ok d_Mo_ofMachine_22 (by decide) ?_
      refine g_goto (tgt := 27) ok d_Mo_ofMachine_23 (by decide) ?_
      exact w_j_Mo_ofMachine_27 ok hret ht h hk
    · replace h := (if_neg c30).symm.trans h
      refine g_iconst (v := (0 : Int32)) ok d_Mo_ofMachine_26 (by decide) ?_
      exact w_j_Mo_ofMachine_27 ok hret ht h hk
theorem c_Mo_ofMachine (l : Launch) {k : Nat} {a1 : Int32} {a2 : Int32} {s : MS} (ht : rf s.2.2 20 (some k) = some k) {r : Int32} {z : MS} (h : f_Mo_ofMachine k a1 a2 s = some (r, z)) : Ct l yX5_ofMachine (.code yX5_ofMachine cX5_ofMachine 3 (some .int)) rm_Mo_ofMachine 0 0 false [vR (some k), vI a1, vI a2] s (some (vI r)) z :=
  Ct.of rfl (by decide +kernel) ⟨rfl, le_t rfl⟩ (fun X ok fn _ hI hl => w_Mo_ofMachine (KX := fun y => y = (r, z)) ok (fun y hy => by subst hy; exact fn) ht h rfl)
abbrev rm_Mo_ofPath : Room := { frames := 2, cells := 0, slots := 0, locals := 43 }
theorem cm_Mo_ofPath : cfM yX5_ofPath cX5_ofPath 3 (some .int) 2 := ⟨tw_1034, tw_4, by decide, by decide, by decide +kernel⟩
theorem cv_Mo_ofPath : cfV yX5_ofPath := ⟨tw_1032, tw_1033⟩
theorem d_Mo_ofPath_0 : decode cX5_ofPath 0 = .ok (.aload_n 0, 1) := by decide +kernel
theorem d_Mo_ofPath_1 : decode cX5_ofPath 1 = .ok (.aload_n 0, 1) := by decide +kernel
theorem d_Mo_ofPath_2 : decode cX5_ofPath 2 = .ok (.iload_n 1, 1) := by decide +kernel
theorem d_Mo_ofPath_3 : decode cX5_ofPath 3 = .ok (.invokevirtual 160, 3) := by decide +kernel
theorem d_Mo_ofPath_6 : decode cX5_ofPath 6 = .ok (.ifCond .ne 7, 3) := by decide +kernel
theorem d_Mo_ofPath_9 : decode cX5_ofPath 9 = .ok (.iconst 1, 1) := by decide +kernel
theorem d_Mo_ofPath_10 : decode cX5_ofPath 10 = .ok (.goto 17, 3) := by decide +kernel
theorem d_Mo_ofPath_13 : decode cX5_ofPath 13 = .ok (.iload_n 2, 1) := by decide +kernel
theorem d_Mo_ofPath_14 : decode cX5_ofPath 14 = .ok (.iconst 0, 1) := by decide +kernel
theorem d_Mo_ofPath_15 : decode cX5_ofPath 15 = .ok (.iconst 4, 1) := by decide +kernel
theorem d_Mo_ofPath_16 : decode cX5_ofPath 16 = .ok (.invokestatic 75, 3) := by decide +kernel
theorem d_Mo_ofPath_19 : decode cX5_ofPath 19 = .ok (.ifCond .ne 7, 3) := by decide +kernel
theorem d_Mo_ofPath_22 : decode cX5_ofPath 22 = .ok (.iconst 2, 1) := by decide +kernel
theorem d_Mo_ofPath_23 : decode cX5_ofPath 23 = .ok (.goto 4, 3) := by decide +kernel
theorem d_Mo_ofPath_26 : decode cX5_ofPath 26 = .ok (.iconst 0, 1) := by decide +kernel
theorem d_Mo_ofPath_27 : decode cX5_ofPath 27 = .ok (.invokevirtual 89, 3) := by decide +kernel
theorem d_Mo_ofPath_30 : decode cX5_ofPath 30 = .ok (.ifCond .eq 5, 3) := by decide +kernel
theorem d_Mo_ofPath_33 : decode cX5_ofPath 33 = .ok (.iconst 0, 1) := by decide +kernel
theorem d_Mo_ofPath_34 : decode cX5_ofPath 34 = .ok (.ireturn, 1) := by decide +kernel
theorem d_Mo_ofPath_35 : decode cX5_ofPath 35 = .ok (.iload_n 2, 1) := by decide +kernel
theorem d_Mo_ofPath_36 : decode cX5_ofPath 36 = .ok (.iconst 2, 1) := by decide +kernel
theorem d_Mo_ofPath_37 : decode cX5_ofPath 37 = .ok (.if_icmp .ge 23, 3) := by decide +kernel
theorem d_Mo_ofPath_40 : decode cX5_ofPath 40 = .ok (.iload_n 2, 1) := by decide +kernel
theorem d_Mo_ofPath_41 : decode cX5_ofPath 41 = .ok (.ifCond .ne 12, 3) := by decide +kernel
theorem d_Mo_ofPath_44 : decode cX5_ofPath 44 = .ok (.aload_n 0, 1) := by decide +kernel
theorem d_Mo_ofPath_45 : decode cX5_ofPath 45 = .ok (.getfield 59, 3) := by decide +kernel
theorem d_Mo_ofPath_48 : decode cX5_ofPath 48 = .ok (.iload_n 1, 1) := by decide +kernel
theorem d_Mo_ofPath_49 : decode cX5_ofPath 49 = .ok (.iaload, 1) := by decide +kernel
theorem d_Mo_ofPath_50 : decode cX5_ofPath 50 = .ok (.goto 9, 3) := by decide +kernel
theorem d_Mo_ofPath_53 : decode cX5_ofPath 53 = .ok (.aload_n 0, 1) := by decide +kernel
theorem d_Mo_ofPath_54 : decode cX5_ofPath 54 = .ok (.getfield 47, 3) := by decide +kernel
theorem d_Mo_ofPath_57 : decode cX5_ofPath 57 = .ok (.iload_n 1, 1) := by decide +kernel
theorem d_Mo_ofPath_58 : decode cX5_ofPath 58 = .ok (.iaload, 1) := by decide +kernel
theorem d_Mo_ofPath_59 : decode cX5_ofPath 59 = .ok (.ireturn, 1) := by decide +kernel
theorem d_Mo_ofPath_60 : decode cX5_ofPath 60 = .ok (.iload_n 2, 1) := by decide +kernel
theorem d_Mo_ofPath_61 : decode cX5_ofPath 61 = .ok (.iconst 2, 1) := by decide +kernel
theorem d_Mo_ofPath_62 : decode cX5_ofPath 62 = .ok (.if_icmp .ne 12, 3) := by decide +kernel
theorem d_Mo_ofPath_65 : decode cX5_ofPath 65 = .ok (.aload_n 0, 1) := by decide +kernel
theorem d_Mo_ofPath_66 : decode cX5_ofPath 66 = .ok (.getfield 50, 3) := by decide +kernel
theorem d_Mo_ofPath_69 : decode cX5_ofPath 69 = .ok (.iload_n 1, 1) := by decide +kernel
theorem d_Mo_ofPath_70 : decode cX5_ofPath 70 = .ok (.iaload, 1) := by decide +kernel
theorem d_Mo_ofPath_71 : decode cX5_ofPath 71 = .ok (.goto 30, 3) := by decide +kernel
theorem d_Mo_ofPath_74 : decode cX5_ofPath 74 = .ok (.iload_n 2, 1) := by decide +kernel
theorem d_Mo_ofPath_75 : decode cX5_ofPath 75 = .ok (.iconst 3, 1) := by decide +kernel
theorem d_Mo_ofPath_76 : decode cX5_ofPath 76 = .ok (.if_icmp .ne 19, 3) := by decide +kernel
theorem d_Mo_ofPath_79 : decode cX5_ofPath 79 = .ok (.aload_n 0, 1) := by decide +kernel
theorem d_Mo_ofPath_80 : decode cX5_ofPath 80 = .ok (.getfield 50, 3) := by decide +kernel
theorem d_Mo_ofPath_83 : decode cX5_ofPath 83 = .ok (.iload_n 1, 1) := by decide +kernel
theorem d_Mo_ofPath_84 : decode cX5_ofPath 84 = .ok (.iaload, 1) := by decide +kernel
theorem d_Mo_ofPath_85 : decode cX5_ofPath 85 = .ok (.aload_n 0, 1) := by decide +kernel
theorem d_Mo_ofPath_86 : decode cX5_ofPath 86 = .ok (.getfield 53, 3) := by decide +kernel
theorem d_Mo_ofPath_89 : decode cX5_ofPath 89 = .ok (.iload_n 1, 1) := by decide +kernel
theorem d_Mo_ofPath_90 : decode cX5_ofPath 90 = .ok (.iaload, 1) := by decide +kernel
theorem d_Mo_ofPath_91 : decode cX5_ofPath 91 = .ok (.iadd, 1) := by decide +kernel
theorem d_Mo_ofPath_92 : decode cX5_ofPath 92 = .ok (.goto 9, 3) := by decide +kernel
theorem d_Mo_ofPath_95 : decode cX5_ofPath 95 = .ok (.aload_n 0, 1) := by decide +kernel
theorem d_Mo_ofPath_96 : decode cX5_ofPath 96 = .ok (.getfield 56, 3) := by decide +kernel
theorem d_Mo_ofPath_99 : decode cX5_ofPath 99 = .ok (.iload_n 1, 1) := by decide +kernel
theorem d_Mo_ofPath_100 : decode cX5_ofPath 100 = .ok (.iaload, 1) := by decide +kernel
theorem d_Mo_ofPath_101 : decode cX5_ofPath 101 = .ok (.ireturn, 1) := by decide +kernel
set_option maxRecDepth 100000 in
set_option maxHeartbeats 4000000 in
theorem w_j_Mo_ofPath_27 {X : CX} {KX : Int32 × MS → Prop} {k : Nat} {a1 : Int32} {a2 : Int32} {t0 : Int32} {t1 : Option Nat} {s : MS} (ok : Ok X cX5_ofPath RX5 rm_Mo_ofPath 3 false) (hret : ∀ r : Int32 × MS, KX r → Fin X (some .int) 0 0 false (some (vI r.1)) r.2) (ht : rf s.2.2 20 (some k) = some k) {res : Int32 × MS} (h : j_Mo_ofPath_27 k a1 a2 t0 t1 s = some res) (hk : KX res) : G X s 0 0 27 [(0, vR (some k)), (1, vI a1), (2, vI a2)] [vI t0, vR t1] := by
  unfold j_Mo_ofPath_27 at h
  obtain ⟨k5, hk6, h⟩ := bnd_go h
  obtain ⟨x10, s9, hc8, h⟩ := bnd2_go h
  refine g_invV (rm2 := rm_Mo_refused) (As := [vI t0]) (rest := []) ok hk6 lay_20 rfl (c_Mo_refused X.1.2.1 (rf_self hk6) hc8) cm_Mo_refused cv_Mo_refused tw_841 ⟨rfl, rfl⟩ ⟨le_t rfl, le_t rfl⟩ ⟨rfl, le_t rfl⟩ ⟨le_t rfl, le_t rfl⟩ d_Mo_ofPath_27 rfl (fun m7 => ?_)
  show G X s9 0 0 30 [(0, vR (some k)), (1, vI a1), (2, vI a2)] [vI x10]
  refine g_if_eq (tgt := 35) ok d_Mo_ofPath_30 (by decide) (fun c11 => ?_) (fun c11 => ?_)
  · replace h := (if_pos c11).symm.trans h
    refine g_iload_n (i := 2) 2 ok d_Mo_ofPath_35 rfl rfl ?_
    refine g_iconst (v := (2 : Int32)) ok d_Mo_ofPath_36 (by decide) ?_
    refine g_icmp_ge (tgt := 60) ok d_Mo_ofPath_37 (by decide) (fun c12 => ?_) (fun c12 => ?_)
    · replace h := (if_pos c12).symm.trans h
      refine g_iload_n (i := 2) 2 ok d_Mo_ofPath_40 rfl rfl ?_
      refine g_if_ne (tgt := 53) ok d_Mo_ofPath_41 (by decide) (fun c13 => ?_) (fun c13 => ?_)
      · replace h := (if_pos c13).symm.trans h
        refine g_aload_n (i := 0) 0 ok d_Mo_ofPath_44 rfl rfl ?_
        refine g_getr (s0 := 20) (j := 22) (ci := 5) (C := RX5) (T := TX5) (N := 29) ok (rf_mono m7 ht) lay_20 rfl inX5 (by decide) rfl tw_760 rfl d_Mo_ofPath_45 ?_
        refine g_iload_n (i := 1) 1 ok d_Mo_ofPath_48 rfl rfl ?_
        obtain ⟨k14, hk15, h⟩ := bnd_go h
        refine g_iald ok hk15 d_Mo_ofPath_49 ?_
        refine g_goto (tgt := 59) ok d_Mo_ofPath_50 (by decide) ?_
        cases h
        exact g_iret ok (hret _ hk) (by decide) (by decide) d_Mo_ofPath_59
      · replace h := (if_neg c13).symm.trans h
        refine g_aload_n (i := 0) 0 ok d_Mo_ofPath_53 rfl rfl ?_
        refine g_getr (s0 := 20) (j := 18) (ci := 5) (C := RX5) (T := TX5) (N := 29) ok (rf_mono m7 ht) lay_20 rfl inX5 (by decide) rfl tw_756 rfl d_Mo_ofPath_54 ?_
        refine g_iload_n (i := 1) 1 ok d_Mo_ofPath_57 rfl rfl ?_
        obtain ⟨k16, hk17, h⟩ := bnd_go h
        refine g_iald ok hk17 d_Mo_ofPath_58 ?_
        cases h
        exact g_iret ok (hret _ hk) (by decide) (by decide) d_Mo_ofPath_59
    · replace h := (if_neg c12).symm.trans h
      refine g_iload_n (i := 2) 2 ok d_Mo_ofPath_60 rfl rfl ?_
      refine g_iconst (v := (2 : Int32)) ok d_Mo_ofPath_61 (by decide) ?_
      refine g_icmp_ne (tgt := 74) ok d_Mo_ofPath_62 (by decide) (fun c18 => ?_) (fun c18 => ?_)
      · replace h := (if_pos c18).symm.trans h
        refine g_aload_n (i := 0) 0 ok d_Mo_ofPath_65 rfl rfl ?_
        refine g_getr (s0 := 20) (j := 19) (ci := 5) (C := RX5) (T := TX5) (N := 29) ok (rf_mono m7 ht) lay_20 rfl inX5 (by decide) rfl tw_757 rfl d_Mo_ofPath_66 ?_
        refine g_iload_n (i := 1) 1 ok d_Mo_ofPath_69 rfl rfl ?_
        obtain ⟨k19, hk20, h⟩ := bnd_go h
        refine g_iald ok hk20 d_Mo_ofPath_70 ?_
        refine g_goto (tgt := 101) ok d_Mo_ofPath_71 (by decide) ?_
        cases h
        exact g_iret ok (hret _ hk) (by decide) (by decide) d_Mo_ofPath_101
      · replace h := (if_neg c18).symm.trans h
        refine g_iload_n (i := 2) 2 ok d_Mo_ofPath_74 rfl rfl ?_
        refine g_iconst (v := (3 : Int32)) ok d_Mo_ofPath_75 (by decide) ?_
        refine g_icmp_ne (tgt := 95) ok d_Mo_ofPath_76 (by decide) (fun c21 => ?_) (fun c21 => ?_)
        · replace h := (if_pos c21).symm.trans h
          refine g_aload_n (i := 0) 0 ok d_Mo_ofPath_79 rfl rfl ?_
          refine g_getr (s0 := 20) (j := 19) (ci := 5) (C := RX5) (T := TX5) (N := 29) ok (rf_mono m7 ht) lay_20 rfl inX5 (by decide) rfl tw_757 rfl d_Mo_ofPath_80 ?_
          refine g_iload_n (i := 1) 1 ok d_Mo_ofPath_83 rfl rfl ?_
          obtain ⟨k22, hk23, h⟩ := bnd_go h
          refine g_iald ok hk23 d_Mo_ofPath_84 ?_
          refine g_aload_n (i := 0) 0 ok d_Mo_ofPath_85 rfl rfl ?_
          refine g_getr (s0 := 20) (j := 20) (ci := 5) (C := RX5) (T := TX5) (N := 29) ok (rf_mono m7 ht) lay_20 rfl inX5 (by decide) rfl tw_758 rfl d_Mo_ofPath_86 ?_
          refine g_iload_n (i := 1) 1 ok d_Mo_ofPath_89 rfl rfl ?_
          obtain ⟨k24, hk25, h⟩ := bnd_go h
          refine g_iald ok hk25 d_Mo_ofPath_90 ?_
          refine g_iadd ok d_Mo_ofPath_91 ?_
          refine g_goto (tgt := 101) ok d_Mo_ofPath_92 (by decide) ?_
          cases h
          exact g_iret ok (hret _ hk) (by decide) (by decide) d_Mo_ofPath_101
        · replace h := (if_neg c21).symm.trans h
          refine g_aload_n (i := 0) 0 ok d_Mo_ofPath_95 rfl rfl ?_
          refine g_getr (s0 := 20) (j := 21) (ci := 5) (C := RX5) (T := TX5) (N := 29) ok (rf_mono m7 ht) lay_20 rfl inX5 (by decide) rfl tw_759 rfl d_Mo_ofPath_96 ?_
          refine g_iload_n (i := 1) 1 ok d_Mo_ofPath_99 rfl rfl ?_
          obtain ⟨k26, hk27, h⟩ := bnd_go h
          refine g_iald ok hk27 d_Mo_ofPath_100 ?_
          cases h
          exact g_iret ok (hret _ hk) (by decide) (by decide) d_Mo_ofPath_101
  · replace h := (if_neg c11).symm.trans h
    refine g_iconst (v := (0 : Int32)) ok d_Mo_ofPath_33 (by decide) ?_
    cases h
    exact g_iret ok (hret _ hk) (by decide) (by decide) d_Mo_ofPath_34
set_option maxRecDepth 100000 in
set_option maxHeartbeats 4000000 in
theorem w_Mo_ofPath {X : CX} {KX : Int32 × MS → Prop} {k : Nat} {a1 : Int32} {a2 : Int32} {s : MS} (ok : Ok X cX5_ofPath RX5 rm_Mo_ofPath 3 false) (hret : ∀ r : Int32 × MS, KX r → Fin X (some .int) 0 0 false (some (vI r.1)) r.2)   (ht : rf s.2.2 20 (some k) = some k) {res : Int32 × MS} (h : f_Mo_ofPath k a1 a2 s = some res) (hk : KX res) : G X s 0 0 0 [(0, vR (some k)), (1, vI a1), (2, vI a2)] [] := by
  unfold f_Mo_ofPath at h
  refine g_aload_n (i := 0) 0 ok d_Mo_ofPath_0 rfl rfl ?_
  refine g_aload_n (i := 0) 0 ok d_Mo_ofPath_1 rfl rfl ?_
  refine g_iload_n (i := 1) 1 ok d_Mo_ofPath_2 rfl rfl ?_
  obtain ⟨x2, hc3, h⟩ := bnd_go h
  refine g_invV (rm2 := rm_Mo_isPath) (As := [vI a1]) (rest := [vR (some k)]) ok ht lay_20 rfl (c_Mo_isPath X.1.2.1 (rf_self ht) hc3) cm_Mo_isPath cv_Mo_isPath tw_951 ⟨rfl, rfl⟩ ⟨le_t rfl, le_t rfl⟩ ⟨rfl, le_t rfl⟩ ⟨le_t rfl, le_t rfl⟩ d_Mo_ofPath_3 rfl (fun m1 => ?_)
  show G X s 0 0 6 [(0, vR (some k)), (1, vI a1), (2, vI a2)] [vI x2, vR (some k)]
  refine g_if_ne (tgt := 13) ok d_Mo_ofPath_6 (by decide) (fun c4 => ?_) (fun c4 => ?_)
  · replace h := (if_pos c4).symm.trans h
    refine g_iconst (v := (1 : Int32)) ok d_Mo_ofPath_9 (by decide) ?_
    refine g_goto (tgt := 27) ok d_Mo_ofPath_10 (by decide) ?_
    exact w_j_Mo_ofPath_27 ok hret ht h hk
  · replace h := (if_neg c4).symm.trans h
    refine g_iload_n (i := 2) 2 ok d_Mo_ofPath_13 rfl rfl ?_
    refine g_iconst (v := (0 : Int32)) ok d_Mo_ofPath_14 (by decide) ?_
    refine g_iconst (v := (4 : Int32)) ok d_Mo_ofPath_15 (by decide) ?_
    refine g_invS (rm2 := rm_Mo_within) (As := [vI a2, vI (0 : Int32), vI (4 : Int32)]) (rest := [vR (some k)]) ok (c_Mo_within X.1.2.1) cm_Mo_within cs_Mo_within tw_838 ⟨rfl, rfl⟩ ⟨le_t rfl, le_t rfl⟩ ⟨rfl, le_t rfl⟩ ⟨le_t rfl, le_t rfl⟩ d_Mo_ofPath_16 rfl (fun m28 => ?_)
    show G X s 0 0 19 [(0, vR (some k)), (1, vI a1), (2, vI a2)] [vI (f_Mo_within a2 (0 : Int32) (4 : Int32)), vR (some k)]
    refine g_if_ne (tgt := 26) ok d_Mo_ofPath_19 (by decide) (fun c29 => ?_) (fun c29 => ?_)
    · replace h := (if_pos c29).symm.trans h
      refine g_iconst (v := (2 : Int32)) ok d_Mo_ofPath_22 (by decide) ?_
      refine g_goto (tgt := 27) ok d_Mo_ofPath_23 (by decide) ?_
      exact w_j_Mo_ofPath_27 ok hret ht h hk
    · replace h := (if_neg c29).symm.trans h
      refine g_iconst (v := (0 : Int32)) ok d_Mo_ofPath_26 (by decide) ?_
      exact w_j_Mo_ofPath_27 ok hret ht h hk
theorem c_Mo_ofPath (l : Launch) {k : Nat} {a1 : Int32} {a2 : Int32} {s : MS} (ht : rf s.2.2 20 (some k) = some k) {r : Int32} {z : MS} (h : f_Mo_ofPath k a1 a2 s = some (r, z)) : Ct l yX5_ofPath (.code yX5_ofPath cX5_ofPath 3 (some .int)) rm_Mo_ofPath 0 0 false [vR (some k), vI a1, vI a2] s (some (vI r)) z :=
  Ct.of rfl (by decide +kernel) ⟨rfl, le_t rfl⟩ (fun X ok fn _ hI hl => w_Mo_ofPath (KX := fun y => y = (r, z)) ok (fun y hy => by subst hy; exact fn) ht h rfl)
abbrev rm_Mo_count : Room := { frames := 1, cells := 0, slots := 0, locals := 22 }
theorem cm_Mo_count : cfM yX5_count cX5_count 5 (some .int) 1 := ⟨tw_1038, tw_4, by decide, by decide, by decide +kernel⟩
theorem cv_Mo_count : cfV yX5_count := ⟨tw_1036, tw_1037⟩
theorem d_Mo_count_0 : decode cX5_count 0 = .ok (.aload_n 0, 1) := by decide +kernel
theorem d_Mo_count_1 : decode cX5_count 1 = .ok (.iload_n 1, 1) := by decide +kernel
theorem d_Mo_count_2 : decode cX5_count 2 = .ok (.iconst 0, 1) := by decide +kernel
theorem d_Mo_count_3 : decode cX5_count 3 = .ok (.iconst 4, 1) := by decide +kernel
theorem d_Mo_count_4 : decode cX5_count 4 = .ok (.invokestatic 75, 3) := by decide +kernel
theorem d_Mo_count_7 : decode cX5_count 7 = .ok (.ifCond .eq 7, 3) := by decide +kernel
theorem d_Mo_count_10 : decode cX5_count 10 = .ok (.iconst 0, 1) := by decide +kernel
theorem d_Mo_count_11 : decode cX5_count 11 = .ok (.goto 4, 3) := by decide +kernel
theorem d_Mo_count_14 : decode cX5_count 14 = .ok (.iconst 1, 1) := by decide +kernel
theorem d_Mo_count_15 : decode cX5_count 15 = .ok (.invokevirtual 89, 3) := by decide +kernel
theorem d_Mo_count_18 : decode cX5_count 18 = .ok (.ifCond .eq 5, 3) := by decide +kernel
theorem d_Mo_count_21 : decode cX5_count 21 = .ok (.iconst 0, 1) := by decide +kernel
theorem d_Mo_count_22 : decode cX5_count 22 = .ok (.ireturn, 1) := by decide +kernel
theorem d_Mo_count_23 : decode cX5_count 23 = .ok (.iload_n 1, 1) := by decide +kernel
theorem d_Mo_count_24 : decode cX5_count 24 = .ok (.iconst 2, 1) := by decide +kernel
theorem d_Mo_count_25 : decode cX5_count 25 = .ok (.if_icmp .ge 19, 3) := by decide +kernel
theorem d_Mo_count_28 : decode cX5_count 28 = .ok (.iload_n 1, 1) := by decide +kernel
theorem d_Mo_count_29 : decode cX5_count 29 = .ok (.ifCond .ne 10, 3) := by decide +kernel
theorem d_Mo_count_32 : decode cX5_count 32 = .ok (.aload_n 0, 1) := by decide +kernel
theorem d_Mo_count_33 : decode cX5_count 33 = .ok (.getfield 82, 3) := by decide +kernel
theorem d_Mo_count_36 : decode cX5_count 36 = .ok (.goto 7, 3) := by decide +kernel
theorem d_Mo_count_39 : decode cX5_count 39 = .ok (.aload_n 0, 1) := by decide +kernel
theorem d_Mo_count_40 : decode cX5_count 40 = .ok (.getfield 157, 3) := by decide +kernel
theorem d_Mo_count_43 : decode cX5_count 43 = .ok (.ireturn, 1) := by decide +kernel
theorem d_Mo_count_44 : decode cX5_count 44 = .ok (.iconst 0, 1) := by decide +kernel
theorem d_Mo_count_45 : decode cX5_count 45 = .ok (.istore_n 2, 1) := by decide +kernel
theorem d_Mo_count_46 : decode cX5_count 46 = .ok (.iconst 0, 1) := by decide +kernel
theorem d_Mo_count_47 : decode cX5_count 47 = .ok (.istore_n 3, 1) := by decide +kernel
theorem d_Mo_count_48 : decode cX5_count 48 = .ok (.iconst 0, 1) := by decide +kernel
theorem d_Mo_count_49 : decode cX5_count 49 = .ok (.istore 4, 2) := by decide +kernel
theorem d_Mo_count_51 : decode cX5_count 51 = .ok (.iload 4, 2) := by decide +kernel
theorem d_Mo_count_53 : decode cX5_count 53 = .ok (.aload_n 0, 1) := by decide +kernel
theorem d_Mo_count_54 : decode cX5_count 54 = .ok (.getfield 82, 3) := by decide +kernel
theorem d_Mo_count_57 : decode cX5_count 57 = .ok (.if_icmp .ge 28, 3) := by decide +kernel
theorem d_Mo_count_60 : decode cX5_count 60 = .ok (.iload_n 2, 1) := by decide +kernel
theorem d_Mo_count_61 : decode cX5_count 61 = .ok (.aload_n 0, 1) := by decide +kernel
theorem d_Mo_count_62 : decode cX5_count 62 = .ok (.getfield 59, 3) := by decide +kernel
theorem d_Mo_count_65 : decode cX5_count 65 = .ok (.iload 4, 2) := by decide +kernel
theorem d_Mo_count_67 : decode cX5_count 67 = .ok (.iaload, 1) := by decide +kernel
theorem d_Mo_count_68 : decode cX5_count 68 = .ok (.iconst 3, 1) := by decide +kernel
theorem d_Mo_count_69 : decode cX5_count 69 = .ok (.if_icmp .ne 7, 3) := by decide +kernel
theorem d_Mo_count_72 : decode cX5_count 72 = .ok (.iconst 1, 1) := by decide +kernel
theorem d_Mo_count_73 : decode cX5_count 73 = .ok (.goto 4, 3) := by decide +kernel
theorem d_Mo_count_76 : decode cX5_count 76 = .ok (.iconst 0, 1) := by decide +kernel
theorem d_Mo_count_77 : decode cX5_count 77 = .ok (.iadd, 1) := by decide +kernel
theorem d_Mo_count_78 : decode cX5_count 78 = .ok (.istore_n 2, 1) := by decide +kernel
theorem d_Mo_count_79 : decode cX5_count 79 = .ok (.iinc 4 1, 3) := by decide +kernel
theorem d_Mo_count_82 : decode cX5_count 82 = .ok (.goto (-31), 3) := by decide +kernel
theorem d_Mo_count_85 : decode cX5_count 85 = .ok (.iconst 0, 1) := by decide +kernel
theorem d_Mo_count_86 : decode cX5_count 86 = .ok (.istore 4, 2) := by decide +kernel
theorem d_Mo_count_88 : decode cX5_count 88 = .ok (.iload 4, 2) := by decide +kernel
theorem d_Mo_count_90 : decode cX5_count 90 = .ok (.aload_n 0, 1) := by decide +kernel
theorem d_Mo_count_91 : decode cX5_count 91 = .ok (.getfield 79, 3) := by decide +kernel
theorem d_Mo_count_94 : decode cX5_count 94 = .ok (.if_icmp .ge 28, 3) := by decide +kernel
theorem d_Mo_count_97 : decode cX5_count 97 = .ok (.iload_n 3, 1) := by decide +kernel
theorem d_Mo_count_98 : decode cX5_count 98 = .ok (.aload_n 0, 1) := by decide +kernel
theorem d_Mo_count_99 : decode cX5_count 99 = .ok (.getfield 35, 3) := by decide +kernel
theorem d_Mo_count_102 : decode cX5_count 102 = .ok (.iload 4, 2) := by decide +kernel
theorem d_Mo_count_104 : decode cX5_count 104 = .ok (.iaload, 1) := by decide +kernel
theorem d_Mo_count_105 : decode cX5_count 105 = .ok (.iconst 3, 1) := by decide +kernel
theorem d_Mo_count_106 : decode cX5_count 106 = .ok (.if_icmp .ne 7, 3) := by decide +kernel
theorem d_Mo_count_109 : decode cX5_count 109 = .ok (.iconst 1, 1) := by decide +kernel
theorem d_Mo_count_110 : decode cX5_count 110 = .ok (.goto 4, 3) := by decide +kernel
theorem d_Mo_count_113 : decode cX5_count 113 = .ok (.iconst 0, 1) := by decide +kernel
theorem d_Mo_count_114 : decode cX5_count 114 = .ok (.iadd, 1) := by decide +kernel
theorem d_Mo_count_115 : decode cX5_count 115 = .ok (.istore_n 3, 1) := by decide +kernel
theorem d_Mo_count_116 : decode cX5_count 116 = .ok (.iinc 4 1, 3) := by decide +kernel
theorem d_Mo_count_119 : decode cX5_count 119 = .ok (.goto (-31), 3) := by decide +kernel
theorem d_Mo_count_122 : decode cX5_count 122 = .ok (.iload_n 1, 1) := by decide +kernel
theorem d_Mo_count_123 : decode cX5_count 123 = .ok (.iconst 2, 1) := by decide +kernel
theorem d_Mo_count_124 : decode cX5_count 124 = .ok (.if_icmp .ne 7, 3) := by decide +kernel
theorem d_Mo_count_127 : decode cX5_count 127 = .ok (.iload_n 2, 1) := by decide +kernel
theorem d_Mo_count_128 : decode cX5_count 128 = .ok (.goto 16, 3) := by decide +kernel
theorem d_Mo_count_131 : decode cX5_count 131 = .ok (.iload_n 1, 1) := by decide +kernel
theorem d_Mo_count_132 : decode cX5_count 132 = .ok (.iconst 3, 1) := by decide +kernel
theorem d_Mo_count_133 : decode cX5_count 133 = .ok (.if_icmp .ne 7, 3) := by decide +kernel
theorem d_Mo_count_136 : decode cX5_count 136 = .ok (.iload_n 3, 1) := by decide +kernel
theorem d_Mo_count_137 : decode cX5_count 137 = .ok (.goto 7, 3) := by decide +kernel
theorem d_Mo_count_140 : decode cX5_count 140 = .ok (.aload_n 0, 1) := by decide +kernel
theorem d_Mo_count_141 : decode cX5_count 141 = .ok (.getfield 182, 3) := by decide +kernel
theorem d_Mo_count_144 : decode cX5_count 144 = .ok (.ireturn, 1) := by decide +kernel
set_option maxRecDepth 100000 in
set_option maxHeartbeats 4000000 in
theorem w_b_Mo_count_51 {X : CX} {KX : Int32 → Prop} {k : Nat} {a1 : Int32} {a2 : Int32} {a3 : Int32} {a4 : Int32} {s : MS} {rec : Int32 → Int32 → Option (Int32)} (ok : Ok X cX5_count RX5 rm_Mo_count 5 false) (hexit : ∀ (e2 : Int32), KX e2 → G X s 0 0 85 [(0, vR (some k)), (1, vI a1), (2, vI e2), (3, vI a3)] []) (hrec : ∀ (v2 : Int32) (v4 : Int32), ∀ y, rec v2 v4 = some y → KX y → G X s 0 0 51 [(0, vR (some k)), (1, vI a1), (2, vI v2), (3, vI a3), (4, vI v4)] []) (ht : rf s.2.2 20 (some k) = some k) {res : Int32} (h : b_Mo_count_51 k a1 a2 a3 a4 s rec = some res) (hk : KX res) : G X s 0 0 51 [(0, vR (some k)), (1, vI a1), (2, vI a2), (3, vI a3), (4, vI a4)] [] := by
  unfold b_Mo_count_51 at h
  refine g_iload (i := 4) 4 ok d_Mo_count_51 rfl ?_
  refine g_aload_n (i := 0) 0 ok d_Mo_count_53 rfl rfl ?_
  refine g_geti (s0 := 20) (j := 17) (ci := 5) (C := RX5) (T := TX5) (N := 29) ok ht lay_20 rfl inX5 (by decide) rfl tw_755 rfl d_Mo_count_54 ?_
  refine g_icmp_ge (tgt := 85) ok d_Mo_count_57 (by decide) (fun c12 => ?_) (fun c12 => ?_)
  · replace h := (if_pos c12).symm.trans h
    refine g_iload_n (i := 2) 2 ok d_Mo_count_60 rfl rfl ?_
    refine g_aload_n (i := 0) 0 ok d_Mo_count_61 rfl rfl ?_
    refine g_getr (s0 := 20) (j := 22) (ci := 5) (C := RX5) (T := TX5) (N := 29) ok ht lay_20 rfl inX5 (by decide) rfl tw_760 rfl d_Mo_count_62 ?_
    refine g_iload (i := 4) 4 ok d_Mo_count_65 rfl ?_
    obtain ⟨k13, hk14, h⟩ := bnd_go h
    refine g_iald ok hk14 d_Mo_count_67 ?_
    refine g_iconst (v := (3 : Int32)) ok d_Mo_count_68 (by decide) ?_
    refine g_icmp_ne (tgt := 76) ok d_Mo_count_69 (by decide) (fun c15 => ?_) (fun c15 => ?_)
    · replace h := (if_pos c15).symm.trans h
      refine g_iconst (v := (1 : Int32)) ok d_Mo_count_72 (by decide) ?_
      refine g_goto (tgt := 77) ok d_Mo_count_73 (by decide) ?_
      refine g_iadd ok d_Mo_count_77 ?_
      obtain ⟨x16, e17⟩ : ∃ z, (a2 + (1 : Int32)) = z := ⟨_, rfl⟩
      replace h := lt_go h e17
      rw [e17]
      refine g_istore_n (i := 2) [(2, vI x16), (0, vR (some k)), (1, vI a1), (3, vI a3), (4, vI a4)] ok d_Mo_count_78 rfl (by decide) rfl ?_
      obtain ⟨x18, e19⟩ : ∃ z, a4 + (1 : Int32) = z := ⟨_, rfl⟩
      replace h := lt_go h e19
      refine g_iinc (i := 4) (v := x18) 4 [(4, vI x18), (2, vI x16), (0, vR (some k)), (1, vI a1), (3, vI a3)] ok d_Mo_count_79 rfl (by rw [← e19]; rfl) (by decide) rfl ?_
      refine g_goto (tgt := 51) ok d_Mo_count_82 (by decide) ?_
      refine g_sub [2, 3, 1, 4, 0] rfl ?_
      exact hrec x16 x18 _ h hk
    · replace h := (if_neg c15).symm.trans h
      refine g_iconst (v := (0 : Int32)) ok d_Mo_count_76 (by decide) ?_
      refine g_iadd ok d_Mo_count_77 ?_
      obtain ⟨x20, e21⟩ : ∃ z, (a2 + (0 : Int32)) = z := ⟨_, rfl⟩
      replace h := lt_go h e21
      rw [e21]
      refine g_istore_n (i := 2) [(2, vI x20), (0, vR (some k)), (1, vI a1), (3, vI a3), (4, vI a4)] ok d_Mo_count_78 rfl (by decide) rfl ?_
      obtain ⟨x22, e23⟩ : ∃ z, a4 + (1 : Int32) = z := ⟨_, rfl⟩
      replace h := lt_go h e23
      refine g_iinc (i := 4) (v := x22) 4 [(4, vI x22), (2, vI x20), (0, vR (some k)), (1, vI a1), (3, vI a3)] ok d_Mo_count_79 rfl (by rw [← e23]; rfl) (by decide) rfl ?_
      refine g_goto (tgt := 51) ok d_Mo_count_82 (by decide) ?_
      refine g_sub [2, 3, 1, 4, 0] rfl ?_
      exact hrec x20 x22 _ h hk
  · replace h := (if_neg c12).symm.trans h
    refine g_sub [0, 1, 2, 3] rfl ?_
    cases h
    exact hexit a2 hk
theorem w_l_Mo_count_51 {X : CX} {KX : Int32 → Prop} {k : Nat} {a1 : Int32} {a3 : Int32} {s : MS} (ok : Ok X cX5_count RX5 rm_Mo_count 5 false) (hexit : ∀ (e2 : Int32), KX e2 → G X s 0 0 85 [(0, vR (some k)), (1, vI a1), (2, vI e2), (3, vI a3)] []) (ht : rf s.2.2 20 (some k) = some k) : ∀ (n : Nat) (a2 : Int32) (a4 : Int32) {res : Int32}, l_Mo_count_51 k a1 a3 s n a2 a4 = some res → KX res → G X s 0 0 51 [(0, vR (some k)), (1, vI a1), (2, vI a2), (3, vI a3), (4, vI a4)] [] := by
  intro n
  induction n with
  | zero => intro _ _ res h; cases h
  | succ n ih =>
    intro a2 a4 res h hk
    exact w_b_Mo_count_51 ok hexit (fun v2 v4 y h2 hk2 => ih v2 v4 h2 hk2) ht h hk
set_option maxRecDepth 100000 in
set_option maxHeartbeats 4000000 in
theorem w_b_Mo_count_88 {X : CX} {KX : Int32 → Prop} {k : Nat} {a1 : Int32} {a2 : Int32} {a3 : Int32} {a4 : Int32} {s : MS} {rec : Int32 → Int32 → Option (Int32)} (ok : Ok X cX5_count RX5 rm_Mo_count 5 false) (hexit : ∀ (e3 : Int32), KX e3 → G X s 0 0 122 [(0, vR (some k)), (1, vI a1), (2, vI a2), (3, vI e3)] []) (hrec : ∀ (v3 : Int32) (v4 : Int32), ∀ y, rec v3 v4 = some y → KX y → G X s 0 0 88 [(0, vR (some k)), (1, vI a1), (2, vI a2), (3, vI v3), (4, vI v4)] []) (ht : rf s.2.2 20 (some k) = some k) {res : Int32} (h : b_Mo_count_88 k a1 a2 a3 a4 s rec = some res) (hk : KX res) : G X s 0 0 88 [(0, vR (some k)), (1, vI a1), (2, vI a2), (3, vI a3), (4, vI a4)] [] := by
  unfold b_Mo_count_88 at h
  refine g_iload (i := 4) 4 ok d_Mo_count_88 rfl ?_
  refine g_aload_n (i := 0) 0 ok d_Mo_count_90 rfl rfl ?_
  refine g_geti (s0 := 20) (j := 7) (ci := 5) (C := RX5) (T := TX5) (N := 29) ok ht lay_20 rfl inX5 (by decide) rfl tw_745 rfl d_Mo_count_91 ?_
  refine g_icmp_ge (tgt := 122) ok d_Mo_count_94 (by decide) (fun c25 => ?_) (fun c25 => ?_)
  · replace h := (if_pos c25).symm.trans h
    refine g_iload_n (i := 3) 3 ok d_Mo_count_97 rfl rfl ?_
    refine g_aload_n (i := 0) 0 ok d_Mo_count_98 rfl rfl ?_
    refine g_getr (s0 := 20) (j := 12) (ci := 5) (C := RX5) (T := TX5) (N := 29) ok ht lay_20 rfl inX5 (by decide) rfl tw_750 rfl d_Mo_count_99 ?_
    refine g_iload (i := 4) 4 ok d_Mo_count_102 rfl ?_
    obtain ⟨k26, hk27, h⟩ := bnd_go h
    refine g_iald ok hk27 d_Mo_count_104 ?_
    refine g_iconst (v := (3 : Int32)) ok d_Mo_count_105 (by decide) ?_
    refine g_icmp_ne (tgt := 113) ok d_Mo_count_106 (by decide) (fun c28 => ?_) (fun c28 => ?_)
    · replace h := (if_pos c28).symm.trans h
      refine g_iconst (v := (1 : Int32)) ok d_Mo_count_109 (by decide) ?_
      refine g_goto (tgt := 114) ok d_Mo_count_110 (by decide) ?_
      refine g_iadd ok d_Mo_count_114 ?_
      obtain ⟨x29, e30⟩ : ∃ z, (a3 + (1 : Int32)) = z := ⟨_, rfl⟩
      replace h := lt_go h e30
      rw [e30]
      refine g_istore_n (i := 3) [(3, vI x29), (0, vR (some k)), (1, vI a1), (2, vI a2), (4, vI a4)] ok d_Mo_count_115 rfl (by decide) rfl ?_
      obtain ⟨x31, e32⟩ : ∃ z, a4 + (1 : Int32) = z := ⟨_, rfl⟩
      replace h := lt_go h e32
      refine g_iinc (i := 4) (v := x31) 4 [(4, vI x31), (3, vI x29), (0, vR (some k)), (1, vI a1), (2, vI a2)] ok d_Mo_count_116 rfl (by rw [← e32]; rfl) (by decide) rfl ?_
      refine g_goto (tgt := 88) ok d_Mo_count_119 (by decide) ?_
      refine g_sub [2, 3, 4, 1, 0] rfl ?_
      exact hrec x29 x31 _ h hk
    · replace h := (if_neg c28).symm.trans h
      refine g_iconst (v := (0 : Int32)) ok d_Mo_count_113 (by decide) ?_
      refine g_iadd ok d_Mo_count_114 ?_
      obtain ⟨x33, e34⟩ : ∃ z, (a3 + (0 : Int32)) = z := ⟨_, rfl⟩
      replace h := lt_go h e34
      rw [e34]
      refine g_istore_n (i := 3) [(3, vI x33), (0, vR (some k)), (1, vI a1), (2, vI a2), (4, vI a4)] ok d_Mo_count_115 rfl (by decide) rfl ?_
      obtain ⟨x35, e36⟩ : ∃ z, a4 + (1 : Int32) = z := ⟨_, rfl⟩
      replace h := lt_go h e36
      refine g_iinc (i := 4) (v := x35) 4 [(4, vI x35), (3, vI x33), (0, vR (some k)), (1, vI a1), (2, vI a2)] ok d_Mo_count_116 rfl (by rw [← e36]; rfl) (by decide) rfl ?_
      refine g_goto (tgt := 88) ok d_Mo_count_119 (by decide) ?_
      refine g_sub [2, 3, 4, 1, 0] rfl ?_
      exact hrec x33 x35 _ h hk
  · replace h := (if_neg c25).symm.trans h
    refine g_sub [0, 1, 2, 3] rfl ?_
    cases h
    exact hexit a3 hk
theorem w_l_Mo_count_88 {X : CX} {KX : Int32 → Prop} {k : Nat} {a1 : Int32} {a2 : Int32} {s : MS} (ok : Ok X cX5_count RX5 rm_Mo_count 5 false) (hexit : ∀ (e3 : Int32), KX e3 → G X s 0 0 122 [(0, vR (some k)), (1, vI a1), (2, vI a2), (3, vI e3)] []) (ht : rf s.2.2 20 (some k) = some k) : ∀ (n : Nat) (a3 : Int32) (a4 : Int32) {res : Int32}, l_Mo_count_88 k a1 a2 s n a3 a4 = some res → KX res → G X s 0 0 88 [(0, vR (some k)), (1, vI a1), (2, vI a2), (3, vI a3), (4, vI a4)] [] := by
  intro n
  induction n with
  | zero => intro _ _ res h; cases h
  | succ n ih =>
    intro a3 a4 res h hk
    exact w_b_Mo_count_88 ok hexit (fun v3 v4 y h2 hk2 => ih v3 v4 h2 hk2) ht h hk
set_option maxRecDepth 100000 in
set_option maxHeartbeats 4000000 in
theorem w_j_Mo_count_15 {X : CX} {KX : Int32 × MS → Prop} {k : Nat} {a1 : Int32} {t0 : Int32} {t1 : Option Nat} {s : MS} (ok : Ok X cX5_count RX5 rm_Mo_count 5 false) (hret : ∀ r : Int32 × MS, KX r → Fin X (some .int) 0 0 false (some (vI r.1)) r.2) (ht : rf s.2.2 20 (some k) = some k) {res : Int32 × MS} (h : j_Mo_count_15 k a1 t0 t1 s = some res) (hk : KX res) : G X s 0 0 15 [(0, vR (some k)), (1, vI a1)] [vI t0, vR t1] := by
  unfold j_Mo_count_15 at h
  obtain ⟨k3, hk4, h⟩ := bnd_go h
  obtain ⟨x8, s7, hc6, h⟩ := bnd2_go h
  refine g_invV (rm2 := rm_Mo_refused) (As := [vI t0]) (rest := []) ok hk4 lay_20 rfl (c_Mo_refused X.1.2.1 (rf_self hk4) hc6) cm_Mo_refused cv_Mo_refused tw_841 ⟨rfl, rfl⟩ ⟨le_t rfl, le_t rfl⟩ ⟨rfl, le_t rfl⟩ ⟨le_t rfl, le_t rfl⟩ d_Mo_count_15 rfl (fun m5 => ?_)
  show G X s7 0 0 18 [(0, vR (some k)), (1, vI a1)] [vI x8]
  refine g_if_eq (tgt := 23) ok d_Mo_count_18 (by decide) (fun c9 => ?_) (fun c9 => ?_)
  · replace h := (if_pos c9).symm.trans h
    refine g_iload_n (i := 1) 1 ok d_Mo_count_23 rfl rfl ?_
    refine g_iconst (v := (2 : Int32)) ok d_Mo_count_24 (by decide) ?_
    refine g_icmp_ge (tgt := 44) ok d_Mo_count_25 (by decide) (fun c10 => ?_) (fun c10 => ?_)
    · replace h := (if_pos c10).symm.trans h
      refine g_iload_n (i := 1) 1 ok d_Mo_count_28 rfl rfl ?_
      refine g_if_ne (tgt := 39) ok d_Mo_count_29 (by decide) (fun c11 => ?_) (fun c11 => ?_)
      · replace h := (if_pos c11).symm.trans h
        refine g_aload_n (i := 0) 0 ok d_Mo_count_32 rfl rfl ?_
        refine g_geti (s0 := 20) (j := 17) (ci := 5) (C := RX5) (T := TX5) (N := 29) ok (rf_mono m5 ht) lay_20 rfl inX5 (by decide) rfl tw_755 rfl d_Mo_count_33 ?_
        refine g_goto (tgt := 43) ok d_Mo_count_36 (by decide) ?_
        cases h
        exact g_iret ok (hret _ hk) (by decide) (by decide) d_Mo_count_43
      · replace h := (if_neg c11).symm.trans h
        refine g_aload_n (i := 0) 0 ok d_Mo_count_39 rfl rfl ?_
        refine g_geti (s0 := 20) (j := 27) (ci := 5) (C := RX5) (T := TX5) (N := 29) ok (rf_mono m5 ht) lay_20 rfl inX5 (by decide) rfl tw_765 rfl d_Mo_count_40 ?_
        cases h
        exact g_iret ok (hret _ hk) (by decide) (by decide) d_Mo_count_43
    · replace h := (if_neg c10).symm.trans h
      refine g_iconst (v := (0 : Int32)) ok d_Mo_count_44 (by decide) ?_
      refine g_istore_n (i := 2) [(2, vI (0 : Int32)), (0, vR (some k)), (1, vI a1)] ok d_Mo_count_45 rfl (by decide) rfl ?_
      refine g_iconst (v := (0 : Int32)) ok d_Mo_count_46 (by decide) ?_
      refine g_istore_n (i := 3) [(3, vI (0 : Int32)), (2, vI (0 : Int32)), (0, vR (some k)), (1, vI a1)] ok d_Mo_count_47 rfl (by decide) rfl ?_
      refine g_iconst (v := (0 : Int32)) ok d_Mo_count_48 (by decide) ?_
      refine g_istore (i := 4) [(4, vI (0 : Int32)), (3, vI (0 : Int32)), (2, vI (0 : Int32)), (0, vR (some k)), (1, vI a1)] ok d_Mo_count_49 (by decide) rfl ?_
      refine g_sub [3, 4, 2, 1, 0] rfl ?_
      obtain ⟨e24, hx, h⟩ := bnd_go h
      refine w_l_Mo_count_51 (KX := fun y => y = e24) ok (fun y0 he => ?_) (rf_mono m5 ht) _ _ _ hx rfl
      cases he
      refine g_iconst (v := (0 : Int32)) ok d_Mo_count_85 (by decide) ?_
      refine g_istore (i := 4) [(4, vI (0 : Int32)), (0, vR (some k)), (1, vI a1), (2, vI e24), (3, vI (0 : Int32))] ok d_Mo_count_86 (by decide) rfl ?_
      refine g_sub [1, 2, 3, 4, 0] rfl ?_
      obtain ⟨e37, hx, h⟩ := bnd_go h
      refine w_l_Mo_count_88 (KX := fun y => y = e37) ok (fun y0 he => ?_) (rf_mono m5 ht) _ _ _ hx rfl
      cases he
      refine g_iload_n (i := 1) 1 ok d_Mo_count_122 rfl rfl ?_
      refine g_iconst (v := (2 : Int32)) ok d_Mo_count_123 (by decide) ?_
      refine g_icmp_ne (tgt := 131) ok d_Mo_count_124 (by decide) (fun c38 => ?_) (fun c38 => ?_)
      · replace h := (if_pos c38).symm.trans h
        refine g_iload_n (i := 2) 2 ok d_Mo_count_127 rfl rfl ?_
        refine g_goto (tgt := 144) ok d_Mo_count_128 (by decide) ?_
        cases h
        exact g_iret ok (hret _ hk) (by decide) (by decide) d_Mo_count_144
      · replace h := (if_neg c38).symm.trans h
        refine g_iload_n (i := 1) 1 ok d_Mo_count_131 rfl rfl ?_
        refine g_iconst (v := (3 : Int32)) ok d_Mo_count_132 (by decide) ?_
        refine g_icmp_ne (tgt := 140) ok d_Mo_count_133 (by decide) (fun c39 => ?_) (fun c39 => ?_)
        · replace h := (if_pos c39).symm.trans h
          refine g_iload_n (i := 3) 3 ok d_Mo_count_136 rfl rfl ?_
          refine g_goto (tgt := 144) ok d_Mo_count_137 (by decide) ?_
          cases h
          exact g_iret ok (hret _ hk) (by decide) (by decide) d_Mo_count_144
        · replace h := (if_neg c39).symm.trans h
          refine g_aload_n (i := 0) 0 ok d_Mo_count_140 rfl rfl ?_
          refine g_geti (s0 := 20) (j := 28) (ci := 5) (C := RX5) (T := TX5) (N := 29) ok (rf_mono m5 ht) lay_20 rfl inX5 (by decide) rfl tw_766 rfl d_Mo_count_141 ?_
          cases h
          exact g_iret ok (hret _ hk) (by decide) (by decide) d_Mo_count_144
  · replace h := (if_neg c9).symm.trans h
    refine g_iconst (v := (0 : Int32)) ok d_Mo_count_21 (by decide) ?_
    cases h
    exact g_iret ok (hret _ hk) (by decide) (by decide) d_Mo_count_22
set_option maxRecDepth 100000 in
set_option maxHeartbeats 4000000 in
theorem w_Mo_count {X : CX} {KX : Int32 × MS → Prop} {k : Nat} {a1 : Int32} {s : MS} (ok : Ok X cX5_count RX5 rm_Mo_count 5 false) (hret : ∀ r : Int32 × MS, KX r → Fin X (some .int) 0 0 false (some (vI r.1)) r.2)   (ht : rf s.2.2 20 (some k) = some k) {res : Int32 × MS} (h : f_Mo_count k a1 s = some res) (hk : KX res) : G X s 0 0 0 [(0, vR (some k)), (1, vI a1)] [] := by
  unfold f_Mo_count at h
  refine g_aload_n (i := 0) 0 ok d_Mo_count_0 rfl rfl ?_
  refine g_iload_n (i := 1) 1 ok d_Mo_count_1 rfl rfl ?_
  refine g_iconst (v := (0 : Int32)) ok d_Mo_count_2 (by decide) ?_
  refine g_iconst (v := (4 : Int32)) ok d_Mo_count_3 (by decide) ?_
  refine g_invS (rm2 := rm_Mo_within) (As := [vI a1, vI (0 : Int32), vI (4 : Int32)]) (rest := [vR (some k)]) ok (c_Mo_within X.1.2.1) cm_Mo_within cs_Mo_within tw_838 ⟨rfl, rfl⟩ ⟨le_t rfl, le_t rfl⟩ ⟨rfl, le_t rfl⟩ ⟨le_t rfl, le_t rfl⟩ d_Mo_count_4 rfl (fun m1 => ?_)
  show G X s 0 0 7 [(0, vR (some k)), (1, vI a1)] [vI (f_Mo_within a1 (0 : Int32) (4 : Int32)), vR (some k)]
  refine g_if_eq (tgt := 14) ok d_Mo_count_7 (by decide) (fun c2 => ?_) (fun c2 => ?_)
  · replace h := (if_pos c2).symm.trans h
    refine g_iconst (v := (1 : Int32)) ok d_Mo_count_14 (by decide) ?_
    exact w_j_Mo_count_15 ok hret ht h hk
  · replace h := (if_neg c2).symm.trans h
    refine g_iconst (v := (0 : Int32)) ok d_Mo_count_10 (by decide) ?_
    refine g_goto (tgt := 15) ok d_Mo_count_11 (by decide) ?_
    exact w_j_Mo_count_15 ok hret ht h hk
theorem c_Mo_count (l : Launch) {k : Nat} {a1 : Int32} {s : MS} (ht : rf s.2.2 20 (some k) = some k) {r : Int32} {z : MS} (h : f_Mo_count k a1 s = some (r, z)) : Ct l yX5_count (.code yX5_count cX5_count 5 (some .int)) rm_Mo_count 0 0 false [vR (some k), vI a1] s (some (vI r)) z :=
  Ct.of rfl (by decide +kernel) ⟨rfl, le_t rfl⟩ (fun X ok fn _ hI hl => w_Mo_count (KX := fun y => y = (r, z)) ok (fun y hy => by subst hy; exact fn) ht h rfl)
