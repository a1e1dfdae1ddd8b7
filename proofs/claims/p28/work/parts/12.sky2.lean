abbrev rm_Sk_placeBehind : Room := { frames := 1, cells := 0, slots := 0, locals := 22 }
theorem cm_Sk_placeBehind : cfM yX4_placeBehind cX4_placeBehind 5 (some .int) 2 := ⟨tw_506, tw_1, by decide, by decide, by decide +kernel⟩
theorem cs_Sk_placeBehind : cfS yX4_placeBehind := tw_505
theorem d_Sk_placeBehind_0 : decode cX4_placeBehind 0 = .ok (.iload_n 0, 1) := by decide +kernel
theorem d_Sk_placeBehind_1 : decode cX4_placeBehind 1 = .ok (.bipush 10, 2) := by decide +kernel
theorem d_Sk_placeBehind_3 : decode cX4_placeBehind 3 = .ok (.irem, 1) := by decide +kernel
theorem d_Sk_placeBehind_4 : decode cX4_placeBehind 4 = .ok (.istore_n 2, 1) := by decide +kernel
theorem d_Sk_placeBehind_5 : decode cX4_placeBehind 5 = .ok (.iload_n 0, 1) := by decide +kernel
theorem d_Sk_placeBehind_6 : decode cX4_placeBehind 6 = .ok (.bipush 10, 2) := by decide +kernel
theorem d_Sk_placeBehind_8 : decode cX4_placeBehind 8 = .ok (.idiv, 1) := by decide +kernel
theorem d_Sk_placeBehind_9 : decode cX4_placeBehind 9 = .ok (.bipush 10, 2) := by decide +kernel
theorem d_Sk_placeBehind_11 : decode cX4_placeBehind 11 = .ok (.irem, 1) := by decide +kernel
theorem d_Sk_placeBehind_12 : decode cX4_placeBehind 12 = .ok (.istore_n 3, 1) := by decide +kernel
theorem d_Sk_placeBehind_13 : decode cX4_placeBehind 13 = .ok (.iload_n 0, 1) := by decide +kernel
theorem d_Sk_placeBehind_14 : decode cX4_placeBehind 14 = .ok (.bipush 100, 2) := by decide +kernel
theorem d_Sk_placeBehind_16 : decode cX4_placeBehind 16 = .ok (.idiv, 1) := by decide +kernel
theorem d_Sk_placeBehind_17 : decode cX4_placeBehind 17 = .ok (.istore 4, 2) := by decide +kernel
theorem d_Sk_placeBehind_19 : decode cX4_placeBehind 19 = .ok (.iload_n 1, 1) := by decide +kernel
theorem d_Sk_placeBehind_20 : decode cX4_placeBehind 20 = .ok (.tableswitch 76 1 6 #[40, 46, 52, 58, 64, 70], 40) := by decide +kernel
theorem d_Sk_placeBehind_60 : decode cX4_placeBehind 60 = .ok (.iinc 2 1, 3) := by decide +kernel
theorem d_Sk_placeBehind_63 : decode cX4_placeBehind 63 = .ok (.goto 33, 3) := by decide +kernel
theorem d_Sk_placeBehind_66 : decode cX4_placeBehind 66 = .ok (.iinc 2 (-1), 3) := by decide +kernel
theorem d_Sk_placeBehind_69 : decode cX4_placeBehind 69 = .ok (.goto 27, 3) := by decide +kernel
theorem d_Sk_placeBehind_72 : decode cX4_placeBehind 72 = .ok (.iinc 3 1, 3) := by decide +kernel
theorem d_Sk_placeBehind_75 : decode cX4_placeBehind 75 = .ok (.goto 21, 3) := by decide +kernel
theorem d_Sk_placeBehind_78 : decode cX4_placeBehind 78 = .ok (.iinc 3 (-1), 3) := by decide +kernel
theorem d_Sk_placeBehind_81 : decode cX4_placeBehind 81 = .ok (.goto 15, 3) := by decide +kernel
theorem d_Sk_placeBehind_84 : decode cX4_placeBehind 84 = .ok (.iinc 4 1, 3) := by decide +kernel
theorem d_Sk_placeBehind_87 : decode cX4_placeBehind 87 = .ok (.goto 9, 3) := by decide +kernel
theorem d_Sk_placeBehind_90 : decode cX4_placeBehind 90 = .ok (.iinc 4 (-1), 3) := by decide +kernel
theorem d_Sk_placeBehind_93 : decode cX4_placeBehind 93 = .ok (.goto 3, 3) := by decide +kernel
theorem d_Sk_placeBehind_96 : decode cX4_placeBehind 96 = .ok (.iload_n 2, 1) := by decide +kernel
theorem d_Sk_placeBehind_97 : decode cX4_placeBehind 97 = .ok (.iconst 0, 1) := by decide +kernel
theorem d_Sk_placeBehind_98 : decode cX4_placeBehind 98 = .ok (.bipush 9, 2) := by decide +kernel
theorem d_Sk_placeBehind_100 : decode cX4_placeBehind 100 = .ok (.invokestatic 58, 3) := by decide +kernel
theorem d_Sk_placeBehind_103 : decode cX4_placeBehind 103 = .ok (.ifCond .ne 23, 3) := by decide +kernel
theorem d_Sk_placeBehind_106 : decode cX4_placeBehind 106 = .ok (.iload_n 3, 1) := by decide +kernel
theorem d_Sk_placeBehind_107 : decode cX4_placeBehind 107 = .ok (.iconst 0, 1) := by decide +kernel
theorem d_Sk_placeBehind_108 : decode cX4_placeBehind 108 = .ok (.bipush 9, 2) := by decide +kernel
theorem d_Sk_placeBehind_110 : decode cX4_placeBehind 110 = .ok (.invokestatic 58, 3) := by decide +kernel
theorem d_Sk_placeBehind_113 : decode cX4_placeBehind 113 = .ok (.ifCond .ne 13, 3) := by decide +kernel
theorem d_Sk_placeBehind_116 : decode cX4_placeBehind 116 = .ok (.iload 4, 2) := by decide +kernel
theorem d_Sk_placeBehind_118 : decode cX4_placeBehind 118 = .ok (.iconst 0, 1) := by decide +kernel
theorem d_Sk_placeBehind_119 : decode cX4_placeBehind 119 = .ok (.iconst 3, 1) := by decide +kernel
theorem d_Sk_placeBehind_120 : decode cX4_placeBehind 120 = .ok (.invokestatic 58, 3) := by decide +kernel
theorem d_Sk_placeBehind_123 : decode cX4_placeBehind 123 = .ok (.ifCond .eq 5, 3) := by decide +kernel
theorem d_Sk_placeBehind_126 : decode cX4_placeBehind 126 = .ok (.iconst (-1), 1) := by decide +kernel
theorem d_Sk_placeBehind_127 : decode cX4_placeBehind 127 = .ok (.ireturn, 1) := by decide +kernel
theorem d_Sk_placeBehind_128 : decode cX4_placeBehind 128 = .ok (.bipush 100, 2) := by decide +kernel
theorem d_Sk_placeBehind_130 : decode cX4_placeBehind 130 = .ok (.iload 4, 2) := by decide +kernel
theorem d_Sk_placeBehind_132 : decode cX4_placeBehind 132 = .ok (.imul, 1) := by decide +kernel
theorem d_Sk_placeBehind_133 : decode cX4_placeBehind 133 = .ok (.bipush 10, 2) := by decide +kernel
theorem d_Sk_placeBehind_135 : decode cX4_placeBehind 135 = .ok (.iload_n 3, 1) := by decide +kernel
theorem d_Sk_placeBehind_136 : decode cX4_placeBehind 136 = .ok (.imul, 1) := by decide +kernel
theorem d_Sk_placeBehind_137 : decode cX4_placeBehind 137 = .ok (.iadd, 1) := by decide +kernel
theorem d_Sk_placeBehind_138 : decode cX4_placeBehind 138 = .ok (.iload_n 2, 1) := by decide +kernel
theorem d_Sk_placeBehind_139 : decode cX4_placeBehind 139 = .ok (.iadd, 1) := by decide +kernel
theorem d_Sk_placeBehind_140 : decode cX4_placeBehind 140 = .ok (.ireturn, 1) := by decide +kernel
set_option maxRecDepth 100000 in
set_option maxHeartbeats 4000000 in
theorem w_j_Sk_placeBehind_96 {X : CX} {KX : Int32 → Prop} {a2 : Int32} {a3 : Int32} {a4 : Int32} {s : MS} (ok : Ok X cX4_placeBehind RX4 rm_Sk_placeBehind 5 false) (hret : ∀ r : Int32, KX r → Fin X (some .int) 0 0 false (some (vI r)) s) {res : Int32} (h : j_Sk_placeBehind_96 a2 a3 a4 = res) (hk : KX res) : G X s 0 0 96 [(2, vI a2), (3, vI a3), (4, vI a4)] [] := by
  unfold j_Sk_placeBehind_96 at h
  refine g_iload_n (i := 2) 0 ok d_Sk_placeBehind_96 rfl rfl ?_
  refine g_iconst (v := (0 : Int32)) ok d_Sk_placeBehind_97 (by decide) ?_
  refine g_bipush (v := (9 : Int32)) ok d_Sk_placeBehind_98 (by decide) ?_
  refine g_invS (rm2 := rm_Sk_isOut) (As := [vI a2, vI (0 : Int32), vI (9 : Int32)]) (rest := []) ok (c_Sk_isOut X.1.2.1) cm_Sk_isOut cs_Sk_isOut tw_149 ⟨rfl, rfl⟩ ⟨le_t rfl, le_t rfl⟩ ⟨rfl, le_t rfl⟩ ⟨le_t rfl, le_t rfl⟩ d_Sk_placeBehind_100 rfl (fun m9 => ?_)
  show G X s 0 0 103 [(2, vI a2), (3, vI a3), (4, vI a4)] [vI (f_Sk_isOut a2 (0 : Int32) (9 : Int32))]
  refine g_if_ne (tgt := 126) ok d_Sk_placeBehind_103 (by decide) (fun c10 => ?_) (fun c10 => ?_)
  · replace h := (if_pos c10).symm.trans h
    refine g_iload_n (i := 3) 1 ok d_Sk_placeBehind_106 rfl rfl ?_
    refine g_iconst (v := (0 : Int32)) ok d_Sk_placeBehind_107 (by decide) ?_
    refine g_bipush (v := (9 : Int32)) ok d_Sk_placeBehind_108 (by decide) ?_
    refine g_invS (rm2 := rm_Sk_isOut) (As := [vI a3, vI (0 : Int32), vI (9 : Int32)]) (rest := []) ok (c_Sk_isOut X.1.2.1) cm_Sk_isOut cs_Sk_isOut tw_149 ⟨rfl, rfl⟩ ⟨le_t rfl, le_t rfl⟩ ⟨rfl, le_t rfl⟩ ⟨le_t rfl, le_t rfl⟩ d_Sk_placeBehind_110 rfl (fun m11 => ?_)
    show G X s 0 0 113 [(2, vI a2), (3, vI a3), (4, vI a4)] [vI (f_Sk_isOut a3 (0 : Int32) (9 : Int32))]
    refine g_if_ne (tgt := 126) ok d_Sk_placeBehind_113 (by decide) (fun c12 => ?_) (fun c12 => ?_)
    · replace h := (if_pos c12).symm.trans h
      refine g_iload (i := 4) 2 ok d_Sk_placeBehind_116 rfl ?_
      refine g_iconst (v := (0 : Int32)) ok d_Sk_placeBehind_118 (by decide) ?_
      refine g_iconst (v := (3 : Int32)) ok d_Sk_placeBehind_119 (by decide) ?_
      refine g_invS (rm2 := rm_Sk_isOut) (As := [vI a4, vI (0 : Int32), vI (3 : Int32)]) (rest := []) ok (c_Sk_isOut X.1.2.1) cm_Sk_isOut cs_Sk_isOut tw_149 ⟨rfl, rfl⟩ ⟨le_t rfl, le_t rfl⟩ ⟨rfl, le_t rfl⟩ ⟨le_t rfl, le_t rfl⟩ d_Sk_placeBehind_120 rfl (fun m13 => ?_)
      show G X s 0 0 123 [(2, vI a2), (3, vI a3), (4, vI a4)] [vI (f_Sk_isOut a4 (0 : Int32) (3 : Int32))]
      refine g_if_eq (tgt := 128) ok d_Sk_placeBehind_123 (by decide) (fun c14 => ?_) (fun c14 => ?_)
      · replace h := (if_pos c14).symm.trans h
        refine g_bipush (v := (100 : Int32)) ok d_Sk_placeBehind_128 (by decide) ?_
        refine g_iload (i := 4) 2 ok d_Sk_placeBehind_130 rfl ?_
        refine g_imul ok d_Sk_placeBehind_132 ?_
        refine g_bipush (v := (10 : Int32)) ok d_Sk_placeBehind_133 (by decide) ?_
        refine g_iload_n (i := 3) 1 ok d_Sk_placeBehind_135 rfl rfl ?_
        refine g_imul ok d_Sk_placeBehind_136 ?_
        refine g_iadd ok d_Sk_placeBehind_137 ?_
        refine g_iload_n (i := 2) 0 ok d_Sk_placeBehind_138 rfl rfl ?_
        refine g_iadd ok d_Sk_placeBehind_139 ?_
        subst h
        exact g_iret ok (hret _ hk) (by decide) (by decide) d_Sk_placeBehind_140
      · replace h := (if_neg c14).symm.trans h
        refine g_iconst (v := (-1 : Int32)) ok d_Sk_placeBehind_126 (by decide) ?_
        subst h
        exact g_iret ok (hret _ hk) (by decide) (by decide) d_Sk_placeBehind_127
    · replace h := (if_neg c12).symm.trans h
      refine g_iconst (v := (-1 : Int32)) ok d_Sk_placeBehind_126 (by decide) ?_
      subst h
      exact g_iret ok (hret _ hk) (by decide) (by decide) d_Sk_placeBehind_127
  · replace h := (if_neg c10).symm.trans h
    refine g_iconst (v := (-1 : Int32)) ok d_Sk_placeBehind_126 (by decide) ?_
    subst h
    exact g_iret ok (hret _ hk) (by decide) (by decide) d_Sk_placeBehind_127
set_option maxRecDepth 100000 in
set_option maxHeartbeats 4000000 in
theorem w_Sk_placeBehind {X : CX} {KX : Int32 → Prop} {a0 : Int32} {a1 : Int32} {s : MS} (ok : Ok X cX4_placeBehind RX4 rm_Sk_placeBehind 5 false) (hret : ∀ r : Int32, KX r → Fin X (some .int) 0 0 false (some (vI r)) s)    {res : Int32} (h : f_Sk_placeBehind a0 a1 = res) (hk : KX res) : G X s 0 0 0 [(0, vI a0), (1, vI a1)] [] := by
  unfold f_Sk_placeBehind at h
  refine g_iload_n (i := 0) 0 ok d_Sk_placeBehind_0 rfl rfl ?_
  refine g_bipush (v := (10 : Int32)) ok d_Sk_placeBehind_1 (by decide) ?_
  refine g_irem ok d_Sk_placeBehind_3 (by decide) ?_
  obtain ⟨x1, e2⟩ : ∃ z, (a0 - a0 / (10 : Int32) * (10 : Int32)) = z := ⟨_, rfl⟩
  replace h := lt_go h e2
  rw [e2]
  refine g_istore_n (i := 2) [(2, vI x1), (0, vI a0), (1, vI a1)] ok d_Sk_placeBehind_4 rfl (by decide) rfl ?_
  refine g_iload_n (i := 0) 1 ok d_Sk_placeBehind_5 rfl rfl ?_
  refine g_bipush (v := (10 : Int32)) ok d_Sk_placeBehind_6 (by decide) ?_
  refine g_idiv ok d_Sk_placeBehind_8 (by decide) ?_
  refine g_bipush (v := (10 : Int32)) ok d_Sk_placeBehind_9 (by decide) ?_
  refine g_irem ok d_Sk_placeBehind_11 (by decide) ?_
  obtain ⟨x3, e4⟩ : ∃ z, ((a0 / (10 : Int32)) - (a0 / (10 : Int32)) / (10 : Int32) * (10 : Int32)) = z := ⟨_, rfl⟩
  replace h := lt_go h e4
  rw [e4]
  refine g_istore_n (i := 3) [(3, vI x3), (2, vI x1), (0, vI a0), (1, vI a1)] ok d_Sk_placeBehind_12 rfl (by decide) rfl ?_
  refine g_iload_n (i := 0) 2 ok d_Sk_placeBehind_13 rfl rfl ?_
  refine g_bipush (v := (100 : Int32)) ok d_Sk_placeBehind_14 (by decide) ?_
  refine g_idiv ok d_Sk_placeBehind_16 (by decide) ?_
  obtain ⟨x5, e6⟩ : ∃ z, (a0 / (100 : Int32)) = z := ⟨_, rfl⟩
  replace h := lt_go h e6
  rw [e6]
  refine g_istore (i := 4) [(4, vI x5), (3, vI x3), (2, vI x1), (0, vI a0), (1, vI a1)] ok d_Sk_placeBehind_17 (by decide) rfl ?_
  refine g_iload_n (i := 1) 4 ok d_Sk_placeBehind_19 rfl rfl ?_
  by_cases c20_1 : a1 = (1 : Int32)
  · replace h := (if_pos c20_1).symm.trans h
    refine g_tabIn (off := 40) (tgt := 60) ok d_Sk_placeBehind_20 (by rw [c20_1]; decide) (by rw [c20_1]; decide) (by rw [c20_1]; rfl) (by decide) ?_
    obtain ⟨x7, e8⟩ : ∃ z, x1 + (1 : Int32) = z := ⟨_, rfl⟩
    replace h := lt_go h e8
    refine g_iinc (i := 2) (v := x7) 2 [(2, vI x7), (4, vI x5), (3, vI x3), (0, vI a0), (1, vI a1)] ok d_Sk_placeBehind_60 rfl (by rw [← e8]; rfl) (by decide) rfl ?_
    refine g_goto (tgt := 96) ok d_Sk_placeBehind_63 (by decide) ?_
    refine g_sub [0, 2, 1] rfl ?_
    exact w_j_Sk_placeBehind_96 ok hret h hk
  · replace h := (if_neg c20_1).symm.trans h
    by_cases c20_2 : a1 = (2 : Int32)
    · replace h := (if_pos c20_2).symm.trans h
      refine g_tabIn (off := 46) (tgt := 66) ok d_Sk_placeBehind_20 (by rw [c20_2]; decide) (by rw [c20_2]; decide) (by rw [c20_2]; rfl) (by decide) ?_
      obtain ⟨x15, e16⟩ : ∃ z, x1 + (-1 : Int32) = z := ⟨_, rfl⟩
      replace h := lt_go h e16
      refine g_iinc (i := 2) (v := x15) 2 [(2, vI x15), (4, vI x5), (3, vI x3), (0, vI a0), (1, vI a1)] ok d_Sk_placeBehind_66 rfl (by rw [← e16]; rfl) (by decide) rfl ?_
      refine g_goto (tgt := 96) ok d_Sk_placeBehind_69 (by decide) ?_
      refine g_sub [0, 2, 1] rfl ?_
      exact w_j_Sk_placeBehind_96 ok hret h hk
    · replace h := (if_neg c20_2).symm.trans h
      by_cases c20_3 : a1 = (3 : Int32)
      · replace h := (if_pos c20_3).symm.trans h
        refine g_tabIn (off := 52) (tgt := 72) ok d_Sk_placeBehind_20 (by rw [c20_3]; decide) (by rw [c20_3]; decide) (by rw [c20_3]; rfl) (by decide) ?_
        obtain ⟨x17, e18⟩ : ∃ z, x3 + (1 : Int32) = z := ⟨_, rfl⟩
        replace h := lt_go h e18
        refine g_iinc (i := 3) (v := x17) 1 [(3, vI x17), (4, vI x5), (2, vI x1), (0, vI a0), (1, vI a1)] ok d_Sk_placeBehind_72 rfl (by rw [← e18]; rfl) (by decide) rfl ?_
        refine g_goto (tgt := 96) ok d_Sk_placeBehind_75 (by decide) ?_
        refine g_sub [2, 0, 1] rfl ?_
        exact w_j_Sk_placeBehind_96 ok hret h hk
      · replace h := (if_neg c20_3).symm.trans h
        by_cases c20_4 : a1 = (4 : Int32)
        · replace h := (if_pos c20_4).symm.trans h
          refine g_tabIn (off := 58) (tgt := 78) ok d_Sk_placeBehind_20 (by rw [c20_4]; decide) (by rw [c20_4]; decide) (by rw [c20_4]; rfl) (by decide) ?_
          obtain ⟨x19, e20⟩ : ∃ z, x3 + (-1 : Int32) = z := ⟨_, rfl⟩
          replace h := lt_go h e20
          refine g_iinc (i := 3) (v := x19) 1 [(3, vI x19), (4, vI x5), (2, vI x1), (0, vI a0), (1, vI a1)] ok d_Sk_placeBehind_78 rfl (by rw [← e20]; rfl) (by decide) rfl ?_
          refine g_goto (tgt := 96) ok d_Sk_placeBehind_81 (by decide) ?_
          refine g_sub [2, 0, 1] rfl ?_
          exact w_j_Sk_placeBehind_96 ok hret h hk
        · replace h := (if_neg c20_4).symm.trans h
          by_cases c20_5 : a1 = (5 : Int32)
          · replace h := (if_pos c20_5).symm.trans h
            refine g_tabIn (off := 64) (tgt := 84) ok d_Sk_placeBehind_20 (by rw [c20_5]; decide) (by rw [c20_5]; decide) (by rw [c20_5]; rfl) (by decide) ?_
            obtain ⟨x21, e22⟩ : ∃ z, x5 + (1 : Int32) = z := ⟨_, rfl⟩
            replace h := lt_go h e22
            refine g_iinc (i := 4) (v := x21) 0 [(4, vI x21), (3, vI x3), (2, vI x1), (0, vI a0), (1, vI a1)] ok d_Sk_placeBehind_84 rfl (by rw [← e22]; rfl) (by decide) rfl ?_
            refine g_goto (tgt := 96) ok d_Sk_placeBehind_87 (by decide) ?_
            refine g_sub [2, 1, 0] rfl ?_
            exact w_j_Sk_placeBehind_96 ok hret h hk
          · replace h := (if_neg c20_5).symm.trans h
            by_cases c20_6 : a1 = (6 : Int32)
            · replace h := (if_pos c20_6).symm.trans h
              refine g_tabIn (off := 70) (tgt := 90) ok d_Sk_placeBehind_20 (by rw [c20_6]; decide) (by rw [c20_6]; decide) (by rw [c20_6]; rfl) (by decide) ?_
              obtain ⟨x23, e24⟩ : ∃ z, x5 + (-1 : Int32) = z := ⟨_, rfl⟩
              replace h := lt_go h e24
              refine g_iinc (i := 4) (v := x23) 0 [(4, vI x23), (3, vI x3), (2, vI x1), (0, vI a0), (1, vI a1)] ok d_Sk_placeBehind_90 rfl (by rw [← e24]; rfl) (by decide) rfl ?_
              refine g_goto (tgt := 96) ok d_Sk_placeBehind_93 (by decide) ?_
              refine g_sub [2, 1, 0] rfl ?_
              exact w_j_Sk_placeBehind_96 ok hret h hk
            · replace h := (if_neg c20_6).symm.trans h
              refine g_tabOut (tgt := 96) ok d_Sk_placeBehind_20 (tab_out (fun z h1 h2 => ?_)) (by decide) ?_
              · rcases (show z = 1 ∨ z = 2 ∨ z = 3 ∨ z = 4 ∨ z = 5 ∨ z = 6 by omega) with rfl | rfl | rfl | rfl | rfl | rfl
                · exact c20_1
                · exact c20_2
                · exact c20_3
                · exact c20_4
                · exact c20_5
                · exact c20_6
              · refine g_sub [2, 1, 0] rfl ?_
                exact w_j_Sk_placeBehind_96 ok hret h hk
theorem c_Sk_placeBehind (l : Launch) {a0 : Int32} {a1 : Int32} {s : MS} : Ct l yX4_placeBehind (.code yX4_placeBehind cX4_placeBehind 5 (some .int)) rm_Sk_placeBehind 0 0 false [vI a0, vI a1] s (some (vI (f_Sk_placeBehind a0 a1))) s :=
  Ct.of rfl (by decide +kernel) ⟨rfl, le_t rfl⟩ (fun X ok fn _ hI hl => w_Sk_placeBehind (KX := fun y => y = f_Sk_placeBehind a0 a1) ok (fun y hy => by subst hy; exact fn) rfl rfl)
abbrev rm_Sk_layDraft : Room := { frames := 2, cells := 0, slots := 0, locals := 46 }
theorem cm_Sk_layDraft : cfM yX4_layDraft cX4_layDraft 4 (some .int) 1 := ⟨tw_499, tw_1, by decide, by decide, by decide +kernel⟩
theorem cv_Sk_layDraft : cfV yX4_layDraft := ⟨tw_498, ts_X4_layDraft⟩
theorem d_Sk_layDraft_0 : decode cX4_layDraft 0 = .ok (.iload_n 1, 1) := by decide +kernel
theorem d_Sk_layDraft_1 : decode cX4_layDraft 1 = .ok (.istore_n 2, 1) := by decide +kernel
theorem d_Sk_layDraft_2 : decode cX4_layDraft 2 = .ok (.aload_n 0, 1) := by decide +kernel
theorem d_Sk_layDraft_3 : decode cX4_layDraft 3 = .ok (.getfield 39, 3) := by decide +kernel
theorem d_Sk_layDraft_6 : decode cX4_layDraft 6 = .ok (.iconst 0, 1) := by decide +kernel
theorem d_Sk_layDraft_7 : decode cX4_layDraft 7 = .ok (.putfield 172, 3) := by decide +kernel
theorem d_Sk_layDraft_10 : decode cX4_layDraft 10 = .ok (.aload_n 0, 1) := by decide +kernel
theorem d_Sk_layDraft_11 : decode cX4_layDraft 11 = .ok (.getfield 39, 3) := by decide +kernel
theorem d_Sk_layDraft_14 : decode cX4_layDraft 14 = .ok (.iconst 0, 1) := by decide +kernel
theorem d_Sk_layDraft_15 : decode cX4_layDraft 15 = .ok (.iload_n 2, 1) := by decide +kernel
theorem d_Sk_layDraft_16 : decode cX4_layDraft 16 = .ok (.invokevirtual 326, 3) := by decide +kernel
theorem d_Sk_layDraft_19 : decode cX4_layDraft 19 = .ok (.iconst 1, 1) := by decide +kernel
theorem d_Sk_layDraft_20 : decode cX4_layDraft 20 = .ok (.istore_n 3, 1) := by decide +kernel
theorem d_Sk_layDraft_21 : decode cX4_layDraft 21 = .ok (.iload_n 3, 1) := by decide +kernel
theorem d_Sk_layDraft_22 : decode cX4_layDraft 22 = .ok (.aload_n 0, 1) := by decide +kernel
theorem d_Sk_layDraft_23 : decode cX4_layDraft 23 = .ok (.getfield 152, 3) := by decide +kernel
theorem d_Sk_layDraft_26 : decode cX4_layDraft 26 = .ok (.if_icmp .gt 61, 3) := by decide +kernel
theorem d_Sk_layDraft_29 : decode cX4_layDraft 29 = .ok (.iload_n 3, 1) := by decide +kernel
theorem d_Sk_layDraft_30 : decode cX4_layDraft 30 = .ok (.aload_n 0, 1) := by decide +kernel
theorem d_Sk_layDraft_31 : decode cX4_layDraft 31 = .ok (.getfield 34, 3) := by decide +kernel
theorem d_Sk_layDraft_34 : decode cX4_layDraft 34 = .ok (.arraylength, 1) := by decide +kernel
theorem d_Sk_layDraft_35 : decode cX4_layDraft 35 = .ok (.if_icmp .gt 52, 3) := by decide +kernel
theorem d_Sk_layDraft_38 : decode cX4_layDraft 38 = .ok (.iload_n 2, 1) := by decide +kernel
theorem d_Sk_layDraft_39 : decode cX4_layDraft 39 = .ok (.aload_n 0, 1) := by decide +kernel
theorem d_Sk_layDraft_40 : decode cX4_layDraft 40 = .ok (.getfield 34, 3) := by decide +kernel
theorem d_Sk_layDraft_43 : decode cX4_layDraft 43 = .ok (.iload_n 3, 1) := by decide +kernel
theorem d_Sk_layDraft_44 : decode cX4_layDraft 44 = .ok (.iconst 1, 1) := by decide +kernel
theorem d_Sk_layDraft_45 : decode cX4_layDraft 45 = .ok (.isub, 1) := by decide +kernel
theorem d_Sk_layDraft_46 : decode cX4_layDraft 46 = .ok (.iaload, 1) := by decide +kernel
theorem d_Sk_layDraft_47 : decode cX4_layDraft 47 = .ok (.invokestatic 329, 3) := by decide +kernel
theorem d_Sk_layDraft_50 : decode cX4_layDraft 50 = .ok (.istore_n 2, 1) := by decide +kernel
theorem d_Sk_layDraft_51 : decode cX4_layDraft 51 = .ok (.aload_n 0, 1) := by decide +kernel
theorem d_Sk_layDraft_52 : decode cX4_layDraft 52 = .ok (.getfield 10, 3) := by decide +kernel
theorem d_Sk_layDraft_55 : decode cX4_layDraft 55 = .ok (.iload_n 2, 1) := by decide +kernel
theorem d_Sk_layDraft_56 : decode cX4_layDraft 56 = .ok (.invokevirtual 332, 3) := by decide +kernel
theorem d_Sk_layDraft_59 : decode cX4_layDraft 59 = .ok (.ifCond .ne 5, 3) := by decide +kernel
theorem d_Sk_layDraft_62 : decode cX4_layDraft 62 = .ok (.iload_n 3, 1) := by decide +kernel
theorem d_Sk_layDraft_63 : decode cX4_layDraft 63 = .ok (.ireturn, 1) := by decide +kernel
theorem d_Sk_layDraft_64 : decode cX4_layDraft 64 = .ok (.aload_n 0, 1) := by decide +kernel
theorem d_Sk_layDraft_65 : decode cX4_layDraft 65 = .ok (.getfield 39, 3) := by decide +kernel
theorem d_Sk_layDraft_68 : decode cX4_layDraft 68 = .ok (.iload_n 3, 1) := by decide +kernel
theorem d_Sk_layDraft_69 : decode cX4_layDraft 69 = .ok (.putfield 172, 3) := by decide +kernel
theorem d_Sk_layDraft_72 : decode cX4_layDraft 72 = .ok (.aload_n 0, 1) := by decide +kernel
theorem d_Sk_layDraft_73 : decode cX4_layDraft 73 = .ok (.getfield 39, 3) := by decide +kernel
theorem d_Sk_layDraft_76 : decode cX4_layDraft 76 = .ok (.iload_n 3, 1) := by decide +kernel
theorem d_Sk_layDraft_77 : decode cX4_layDraft 77 = .ok (.iload_n 2, 1) := by decide +kernel
theorem d_Sk_layDraft_78 : decode cX4_layDraft 78 = .ok (.invokevirtual 326, 3) := by decide +kernel
theorem d_Sk_layDraft_81 : decode cX4_layDraft 81 = .ok (.iinc 3 1, 3) := by decide +kernel
theorem d_Sk_layDraft_84 : decode cX4_layDraft 84 = .ok (.goto (-63), 3) := by decide +kernel
theorem d_Sk_layDraft_87 : decode cX4_layDraft 87 = .ok (.aload_n 0, 1) := by decide +kernel
theorem d_Sk_layDraft_88 : decode cX4_layDraft 88 = .ok (.getfield 152, 3) := by decide +kernel
theorem d_Sk_layDraft_91 : decode cX4_layDraft 91 = .ok (.ifCond .eq 10, 3) := by decide +kernel
theorem d_Sk_layDraft_94 : decode cX4_layDraft 94 = .ok (.iload_n 2, 1) := by decide +kernel
theorem d_Sk_layDraft_95 : decode cX4_layDraft 95 = .ok (.invokestatic 232, 3) := by decide +kernel
theorem d_Sk_layDraft_98 : decode cX4_layDraft 98 = .ok (.ifCond .ne 10, 3) := by decide +kernel
theorem d_Sk_layDraft_101 : decode cX4_layDraft 101 = .ok (.aload_n 0, 1) := by decide +kernel
theorem d_Sk_layDraft_102 : decode cX4_layDraft 102 = .ok (.getfield 152, 3) := by decide +kernel
theorem d_Sk_layDraft_105 : decode cX4_layDraft 105 = .ok (.goto 4, 3) := by decide +kernel
theorem d_Sk_layDraft_108 : decode cX4_layDraft 108 = .ok (.iconst (-1), 1) := by decide +kernel
theorem d_Sk_layDraft_109 : decode cX4_layDraft 109 = .ok (.ireturn, 1) := by decide +kernel
set_option maxRecDepth 100000 in
set_option maxHeartbeats 4000000 in
theorem w_b_Sk_layDraft_21 {X : CX} {KX : (Int32 × MS) ⊕ (Int32 × MS) → Prop} {k : Nat} {a2 : Int32} {a3 : Int32} {s : MS} {rec : Int32 → Int32 → MS → Option ((Int32 × MS) ⊕ (Int32 × MS))} {sb : MS} (ok : Ok X cX4_layDraft RX4 rm_Sk_layDraft 4 false) (hret : ∀ r : Int32 × MS, KX (.inl r) → Fin X (some .int) 0 0 false (some (vI r.1)) r.2) (hexit : ∀ (e2 : Int32) (z : MS), KX (.inr (e2, z)) → (∀ q, dm sb q → dm z q) → G X z 0 0 87 [(0, vR (some k)), (2, vI e2)] []) (hrec : ∀ (v2 : Int32) (v3 : Int32) (z : MS), (∀ q, dm sb q → dm z q) → ∀ y, rec v2 v3 z = some y → KX y → G X z 0 0 21 [(0, vR (some k)), (2, vI v2), (3, vI v3)] []) (mb : ∀ q, dm sb q → dm s q) (ht : rf s.2.2 0 (some k) = some k) {res : (Int32 × MS) ⊕ (Int32 × MS)} (h : b_Sk_layDraft_21 k a2 a3 s rec = some res) (hk : KX res) : G X s 0 0 21 [(0, vR (some k)), (2, vI a2), (3, vI a3)] [] := by
  unfold b_Sk_layDraft_21 at h
  refine g_iload_n (i := 3) 2 ok d_Sk_layDraft_21 rfl rfl ?_
  refine g_aload_n (i := 0) 0 ok d_Sk_layDraft_22 rfl rfl ?_
  refine g_geti (s0 := 0) (j := 9) (ci := 4) (C := RX4) (T := TX4) (N := 14) ok ht lay_0 rfl inX4 (by decide) rfl tw_91 rfl d_Sk_layDraft_23 ?_
  refine g_icmp_gt (tgt := 87) ok d_Sk_layDraft_26 (by decide) (fun c11 => ?_) (fun c11 => ?_)
  · replace h := (if_pos c11).symm.trans h
    refine g_sub [0, 1] rfl ?_
    cases h
    exact hexit a2 s hk mb
  · replace h := (if_neg c11).symm.trans h
    refine g_iload_n (i := 3) 2 ok d_Sk_layDraft_29 rfl rfl ?_
    refine g_aload_n (i := 0) 0 ok d_Sk_layDraft_30 rfl rfl ?_
    refine g_getr (s0 := 0) (j := 4) (ci := 4) (C := RX4) (T := TX4) (N := 14) ok ht lay_0 rfl inX4 (by decide) rfl tw_86 rfl d_Sk_layDraft_31 ?_
    obtain ⟨n12, hn13, h⟩ := bnd_go h
    refine g_alen ok hn13 (by decide) d_Sk_layDraft_34 ?_
    refine g_icmp_gt (tgt := 87) ok d_Sk_layDraft_35 (by decide) (fun c14 => ?_) (fun c14 => ?_)
    · replace h := (if_pos c14).symm.trans h
      refine g_sub [0, 1] rfl ?_
      cases h
      exact hexit a2 s hk mb
    · replace h := (if_neg c14).symm.trans h
      refine g_iload_n (i := 2) 1 ok d_Sk_layDraft_38 rfl rfl ?_
      refine g_aload_n (i := 0) 0 ok d_Sk_layDraft_39 rfl rfl ?_
      refine g_getr (s0 := 0) (j := 4) (ci := 4) (C := RX4) (T := TX4) (N := 14) ok ht lay_0 rfl inX4 (by decide) rfl tw_86 rfl d_Sk_layDraft_40 ?_
      refine g_iload_n (i := 3) 2 ok d_Sk_layDraft_43 rfl rfl ?_
      refine g_iconst (v := (1 : Int32)) ok d_Sk_layDraft_44 (by decide) ?_
      refine g_isub ok d_Sk_layDraft_45 ?_
      obtain ⟨k15, hk16, h⟩ := bnd_go h
      refine g_iald ok hk16 d_Sk_layDraft_46 ?_
      refine g_invS (rm2 := rm_Sk_placeBehind) (As := [vI a2, vI (s.1 k15 (a3 - (1 : Int32)).toNatClampNeg)]) (rest := []) ok (c_Sk_placeBehind X.1.2.1) cm_Sk_placeBehind cs_Sk_placeBehind tw_504 ⟨rfl, rfl⟩ ⟨le_t rfl, le_t rfl⟩ ⟨rfl, le_t rfl⟩ ⟨le_t rfl, le_t rfl⟩ d_Sk_layDraft_47 rfl (fun m17 => ?_)
      show G X s 0 0 50 [(0, vR (some k)), (2, vI a2), (3, vI a3)] [vI (f_Sk_placeBehind a2 (s.1 k15 (a3 - (1 : Int32)).toNatClampNeg))]
      obtain ⟨x18, e19⟩ : ∃ z, (f_Sk_placeBehind a2 (s.1 k15 (a3 - (1 : Int32)).toNatClampNeg)) = z := ⟨_, rfl⟩
      replace h := lt_go h e19
      rw [e19]
      refine g_istore_n (i := 2) [(2, vI x18), (0, vR (some k)), (3, vI a3)] ok d_Sk_layDraft_50 rfl (by decide) rfl ?_
      refine g_aload_n (i := 0) 1 ok d_Sk_layDraft_51 rfl rfl ?_
      refine g_getr (s0 := 0) (j := 0) (ci := 4) (C := RX4) (T := TX4) (N := 14) ok ht lay_0 rfl inX4 (by decide) rfl tw_82 rfl d_Sk_layDraft_52 ?_
      refine g_iload_n (i := 2) 0 ok d_Sk_layDraft_55 rfl rfl ?_
      obtain ⟨k20, hk21, h⟩ := bnd_go h
      obtain ⟨x23, hc24, h⟩ := bnd_go h
      refine g_invVN (rm2 := rm_Ci_isFree) (As := [vI x18]) (rest := []) ok hk21 lay_1 rfl (c_Ci_isFree X.1.2.1 (rf_self hk21) hc24) cm_Ci_isFree cv_Ci_isFree tw_507 ⟨rfl, rfl⟩ ⟨le_t rfl, le_t rfl⟩ ⟨rfl, le_t rfl⟩ ⟨le_t rfl, le_t rfl⟩ d_Sk_layDraft_56 rfl (fun m22 => ?_)
      show G X s 0 0 59 [(2, vI x18), (0, vR (some k)), (3, vI a3)] [vI x23]
      refine g_if_ne (tgt := 64) ok d_Sk_layDraft_59 (by decide) (fun c25 => ?_) (fun c25 => ?_)
      · replace h := (if_pos c25).symm.trans h
        refine g_iload_n (i := 3) 2 ok d_Sk_layDraft_62 rfl rfl ?_
        cases h
        exact g_iret ok (hret _ hk) (by decide) (by decide) d_Sk_layDraft_63
      · replace h := (if_neg c25).symm.trans h
        refine g_aload_n (i := 0) 1 ok d_Sk_layDraft_64 rfl rfl ?_
        refine g_getr (s0 := 0) (j := 5) (ci := 4) (C := RX4) (T := TX4) (N := 14) ok ht lay_0 rfl inX4 (by decide) rfl tw_87 rfl d_Sk_layDraft_65 ?_
        refine g_iload_n (i := 3) 2 ok d_Sk_layDraft_68 rfl rfl ?_
        obtain ⟨k26, hk27, h⟩ := bnd_go h
        refine g_putiN (s0 := 12) (j := 4) (ci := 2) (C := RX2) (T := TX2) (N := 7) ok hk27 lay_12 rfl inX2 (by decide) rfl tw_64 rfl tyX2_ok nmX2 rfl (Or.inl rfl) d_Sk_layDraft_69 ?_
        obtain ⟨s28, e29⟩ : ∃ z, wi s k26 4 a3 = z := ⟨_, rfl⟩
        replace h := lt_go h e29
        have m30 := mo_wi e29
        rw [e29]
        refine g_aload_n (i := 0) 1 ok d_Sk_layDraft_72 rfl rfl ?_
        refine g_getr (s0 := 0) (j := 5) (ci := 4) (C := RX4) (T := TX4) (N := 14) ok (rf_mono m30 ht) lay_0 rfl inX4 (by decide) rfl tw_87 rfl d_Sk_layDraft_73 ?_
        refine g_iload_n (i := 3) 2 ok d_Sk_layDraft_76 rfl rfl ?_
        refine g_iload_n (i := 2) 0 ok d_Sk_layDraft_77 rfl rfl ?_
        obtain ⟨k31, hk32, h⟩ := bnd_go h
        obtain ⟨s35, hc34, h⟩ := bnd_go h
        refine g_invVN (rm2 := rm_Pa_setPlace) (As := [vI a3, vI x18]) (rest := []) ok hk32 lay_12 rfl (c_Pa_setPlace X.1.2.1 (rf_self hk32) hc34) cm_Pa_setPlace cv_Pa_setPlace tw_500 ⟨rfl, rfl⟩ ⟨le_t rfl, le_t rfl⟩ ⟨rfl, le_t rfl⟩ ⟨le_t rfl, le_t rfl⟩ d_Sk_layDraft_78 rfl (fun m33 => ?_)
        show G X s35 0 0 81 [(2, vI x18), (0, vR (some k)), (3, vI a3)] []
        obtain ⟨x36, e37⟩ : ∃ z, a3 + (1 : Int32) = z := ⟨_, rfl⟩
        replace h := lt_go h e37
        refine g_iinc (i := 3) (v := x36) 2 [(3, vI x36), (2, vI x18), (0, vR (some k))] ok d_Sk_layDraft_81 rfl (by rw [← e37]; rfl) (by decide) rfl ?_
        refine g_goto (tgt := 21) ok d_Sk_layDraft_84 (by decide) ?_
        refine g_sub [2, 1, 0] rfl ?_
        exact hrec x18 x36 s35 (fun z hz => m33 z ((fun z hz => m30 z (mb z hz)) z hz)) _ h hk
theorem wx_l_Sk_layDraft_21 {X : CX} {KX : (Int32 × MS) ⊕ (Int32 × MS) → Prop} {k : Nat} {sb : MS} (ok : Ok X cX4_layDraft RX4 rm_Sk_layDraft 4 false) (hret : ∀ r : Int32 × MS, KX (.inl r) → Fin X (some .int) 0 0 false (some (vI r.1)) r.2) (hexit : ∀ (e2 : Int32) (z : MS), KX (.inr (e2, z)) → (∀ q, dm sb q → dm z q) → G X z 0 0 87 [(0, vR (some k)), (2, vI e2)] []) (htb : rf sb.2.2 0 (some k) = some k) : ∀ (n : Nat) (a2 : Int32) (a3 : Int32) (s : MS), (∀ q, dm sb q → dm s q) → ∀ (res : (Int32 × MS) ⊕ (Int32 × MS)), l_Sk_layDraft_21 k n a2 a3 s = some res → KX res → G X s 0 0 21 [(0, vR (some k)), (2, vI a2), (3, vI a3)] [] := by
  intro n
  induction n with
  | zero => intro _ _ s _ res h; cases h
  | succ n ih =>
    intro a2 a3 s mb res h hk
    exact w_b_Sk_layDraft_21 ok hret hexit (fun v2 v3 z hz y h2 hk2 => ih v2 v3 z hz y h2 hk2) mb (rf_mono mb htb) h hk
theorem w_l_Sk_layDraft_21 {X : CX} {KX : (Int32 × MS) ⊕ (Int32 × MS) → Prop} {k : Nat} {sb : MS} (ok : Ok X cX4_layDraft RX4 rm_Sk_layDraft 4 false) (hret : ∀ r : Int32 × MS, KX (.inl r) → Fin X (some .int) 0 0 false (some (vI r.1)) r.2) (hexit : ∀ (e2 : Int32) (z : MS), KX (.inr (e2, z)) → (∀ q, dm sb q → dm z q) → G X z 0 0 87 [(0, vR (some k)), (2, vI e2)] []) (mb : ∀ q, dm sb q → dm sb q) (htb : rf sb.2.2 0 (some k) = some k) (n : Nat) (a2 : Int32) (a3 : Int32) {res : (Int32 × MS) ⊕ (Int32 × MS)} (h : l_Sk_layDraft_21 k n a2 a3 sb = some res) (hk : KX res) : G X sb 0 0 21 [(0, vR (some k)), (2, vI a2), (3, vI a3)] [] := wx_l_Sk_layDraft_21 ok hret hexit htb n a2 a3 sb mb res h hk
set_option maxRecDepth 100000 in
set_option maxHeartbeats 4000000 in
theorem w_Sk_layDraft {X : CX} {KX : Int32 × MS → Prop} {k : Nat} {a1 : Int32} {s : MS} (ok : Ok X cX4_layDraft RX4 rm_Sk_layDraft 4 false) (hret : ∀ r : Int32 × MS, KX r → Fin X (some .int) 0 0 false (some (vI r.1)) r.2)   (ht : rf s.2.2 0 (some k) = some k) {res : Int32 × MS} (h : f_Sk_layDraft k a1 s = some res) (hk : KX res) : G X s 0 0 0 [(0, vR (some k)), (1, vI a1)] [] := by
  unfold f_Sk_layDraft at h
  refine g_iload_n (i := 1) 1 ok d_Sk_layDraft_0 rfl rfl ?_
  refine g_istore_n (i := 2) [(2, vI a1), (0, vR (some k)), (1, vI a1)] ok d_Sk_layDraft_1 rfl (by decide) rfl ?_
  refine g_aload_n (i := 0) 1 ok d_Sk_layDraft_2 rfl rfl ?_
  refine g_getr (s0 := 0) (j := 5) (ci := 4) (C := RX4) (T := TX4) (N := 14) ok ht lay_0 rfl inX4 (by decide) rfl tw_87 rfl d_Sk_layDraft_3 ?_
  refine g_iconst (v := (0 : Int32)) ok d_Sk_layDraft_6 (by decide) ?_
  obtain ⟨k1, hk2, h⟩ := bnd_go h
  refine g_putiN (s0 := 12) (j := 4) (ci := 2) (C := RX2) (T := TX2) (N := 7) ok hk2 lay_12 rfl inX2 (by decide) rfl tw_64 rfl tyX2_ok nmX2 rfl (Or.inl rfl) d_Sk_layDraft_7 ?_
  obtain ⟨s3, e4⟩ : ∃ z, wi s k1 4 (0 : Int32) = z := ⟨_, rfl⟩
  replace h := lt_go h e4
  have m5 := mo_wi e4
  rw [e4]
  refine g_aload_n (i := 0) 1 ok d_Sk_layDraft_10 rfl rfl ?_
  refine g_getr (s0 := 0) (j := 5) (ci := 4) (C := RX4) (T := TX4) (N := 14) ok (rf_mono m5 ht) lay_0 rfl inX4 (by decide) rfl tw_87 rfl d_Sk_layDraft_11 ?_
  refine g_iconst (v := (0 : Int32)) ok d_Sk_layDraft_14 (by decide) ?_
  refine g_iload_n (i := 2) 0 ok d_Sk_layDraft_15 rfl rfl ?_
  obtain ⟨k6, hk7, h⟩ := bnd_go h
  obtain ⟨s10, hc9, h⟩ := bnd_go h
  refine g_invVN (rm2 := rm_Pa_setPlace) (As := [vI (0 : Int32), vI a1]) (rest := []) ok hk7 lay_12 rfl (c_Pa_setPlace X.1.2.1 (rf_self hk7) hc9) cm_Pa_setPlace cv_Pa_setPlace tw_500 ⟨rfl, rfl⟩ ⟨le_t rfl, le_t rfl⟩ ⟨rfl, le_t rfl⟩ ⟨le_t rfl, le_t rfl⟩ d_Sk_layDraft_16 rfl (fun m8 => ?_)
  show G X s10 0 0 19 [(2, vI a1), (0, vR (some k)), (1, vI a1)] []
  refine g_iconst (v := (1 : Int32)) ok d_Sk_layDraft_19 (by decide) ?_
  refine g_istore_n (i := 3) [(3, vI (1 : Int32)), (2, vI a1), (0, vR (some k)), (1, vI a1)] ok d_Sk_layDraft_20 rfl (by decide) rfl ?_
  refine g_sub [2, 1, 0] rfl ?_
  rcases el2_go h with ⟨r, hx, h⟩ | ⟨e38, s40, hx, h⟩
  · refine w_l_Sk_layDraft_21 (KX := fun y => y = .inl r) ok (fun r2 he => ?_) (fun _ _ he _ => by cases he) (fun _ hz => hz) (rf_mono m8 (rf_mono m5 ht)) _ _ _ hx rfl
    cases he
    cases h
    exact hret _ hk
  · refine w_l_Sk_layDraft_21 (KX := fun y => y = .inr (e38, s40)) ok (fun r2 he => by cases he) (fun y0 y1 he m39 => ?_) (fun _ hz => hz) (rf_mono m8 (rf_mono m5 ht)) _ _ _ hx rfl
    cases he
    refine g_aload_n (i := 0) 0 ok d_Sk_layDraft_87 rfl rfl ?_
    refine g_geti (s0 := 0) (j := 9) (ci := 4) (C := RX4) (T := TX4) (N := 14) ok (rf_mono m39 (rf_mono m8 (rf_mono m5 ht))) lay_0 rfl inX4 (by decide) rfl tw_91 rfl d_Sk_layDraft_88 ?_
    refine g_if_eq (tgt := 101) ok d_Sk_layDraft_91 (by decide) (fun c41 => ?_) (fun c41 => ?_)
    · replace h := (if_pos c41).symm.trans h
      refine g_aload_n (i := 0) 0 ok d_Sk_layDraft_101 rfl rfl ?_
      refine g_geti (s0 := 0) (j := 9) (ci := 4) (C := RX4) (T := TX4) (N := 14) ok (rf_mono m39 (rf_mono m8 (rf_mono m5 ht))) lay_0 rfl inX4 (by decide) rfl tw_91 rfl d_Sk_layDraft_102 ?_
      refine g_goto (tgt := 109) ok d_Sk_layDraft_105 (by decide) ?_
      cases h
      exact g_iret ok (hret _ hk) (by decide) (by decide) d_Sk_layDraft_109
    · replace h := (if_neg c41).symm.trans h
      refine g_iload_n (i := 2) 1 ok d_Sk_layDraft_94 rfl rfl ?_
      refine g_invS (rm2 := rm_Sk_isOnGround) (As := [vI e38]) (rest := []) ok (c_Sk_isOnGround X.1.2.1) cm_Sk_isOnGround cs_Sk_isOnGround tw_184 ⟨rfl, rfl⟩ ⟨le_t rfl, le_t rfl⟩ ⟨rfl, le_t rfl⟩ ⟨le_t rfl, le_t rfl⟩ d_Sk_layDraft_95 rfl (fun m42 => ?_)
      show G X s40 0 0 98 [(0, vR (some k)), (2, vI e38)] [vI (f_Sk_isOnGround e38)]
      refine g_if_ne (tgt := 108) ok d_Sk_layDraft_98 (by decide) (fun c43 => ?_) (fun c43 => ?_)
      · replace h := (if_pos c43).symm.trans h
        refine g_aload_n (i := 0) 0 ok d_Sk_layDraft_101 rfl rfl ?_
        refine g_geti (s0 := 0) (j := 9) (ci := 4) (C := RX4) (T := TX4) (N := 14) ok (rf_mono m39 (rf_mono m8 (rf_mono m5 ht))) lay_0 rfl inX4 (by decide) rfl tw_91 rfl d_Sk_layDraft_102 ?_
        refine g_goto (tgt := 109) ok d_Sk_layDraft_105 (by decide) ?_
        cases h
        exact g_iret ok (hret _ hk) (by decide) (by decide) d_Sk_layDraft_109
      · replace h := (if_neg c43).symm.trans h
        refine g_iconst (v := (-1 : Int32)) ok d_Sk_layDraft_108 (by decide) ?_
        cases h
        exact g_iret ok (hret _ hk) (by decide) (by decide) d_Sk_layDraft_109
theorem c_Sk_layDraft (l : Launch) {k : Nat} {a1 : Int32} {s : MS} (ht : rf s.2.2 0 (some k) = some k) {r : Int32} {z : MS} (h : f_Sk_layDraft k a1 s = some (r, z)) : Ct l yX4_layDraft (.code yX4_layDraft cX4_layDraft 4 (some .int)) rm_Sk_layDraft 0 0 false [vR (some k), vI a1] s (some (vI r)) z :=
  Ct.of rfl (by decide +kernel) ⟨rfl, le_t rfl⟩ (fun X ok fn _ hI hl => w_Sk_layDraft (KX := fun y => y = (r, z)) ok (fun y hy => by subst hy; exact fn) ht h rfl)
abbrev rm_Sk_placeTooLow : Room := { frames := 4, cells := 0, slots := 0, locals := 89 }
theorem cm_Sk_placeTooLow : cfM yX4_placeTooLow cX4_placeTooLow 8 (some .int) 3 := ⟨tw_522, tw_1, by decide, by decide, by decide +kernel⟩
theorem cv_Sk_placeTooLow : cfV yX4_placeTooLow := ⟨tw_521, ts_X4_placeTooLow⟩
theorem d_Sk_placeTooLow_0 : decode cX4_placeTooLow 0 = .ok (.iload_n 3, 1) := by decide +kernel
theorem d_Sk_placeTooLow_1 : decode cX4_placeTooLow 1 = .ok (.istore 4, 2) := by decide +kernel
theorem d_Sk_placeTooLow_3 : decode cX4_placeTooLow 3 = .ok (.iload_n 2, 1) := by decide +kernel
theorem d_Sk_placeTooLow_4 : decode cX4_placeTooLow 4 = .ok (.iconst 1, 1) := by decide +kernel
theorem d_Sk_placeTooLow_5 : decode cX4_placeTooLow 5 = .ok (.iadd, 1) := by decide +kernel
theorem d_Sk_placeTooLow_6 : decode cX4_placeTooLow 6 = .ok (.istore 5, 2) := by decide +kernel
theorem d_Sk_placeTooLow_8 : decode cX4_placeTooLow 8 = .ok (.iload 5, 2) := by decide +kernel
theorem d_Sk_placeTooLow_10 : decode cX4_placeTooLow 10 = .ok (.aload_n 1, 1) := by decide +kernel
theorem d_Sk_placeTooLow_11 : decode cX4_placeTooLow 11 = .ok (.getfield 172, 3) := by decide +kernel
theorem d_Sk_placeTooLow_14 : decode cX4_placeTooLow 14 = .ok (.if_icmp .gt 85, 3) := by decide +kernel
theorem d_Sk_placeTooLow_17 : decode cX4_placeTooLow 17 = .ok (.aload_n 1, 1) := by decide +kernel
theorem d_Sk_placeTooLow_18 : decode cX4_placeTooLow 18 = .ok (.iload 5, 2) := by decide +kernel
theorem d_Sk_placeTooLow_20 : decode cX4_placeTooLow 20 = .ok (.invokevirtual 175, 3) := by decide +kernel
theorem d_Sk_placeTooLow_23 : decode cX4_placeTooLow 23 = .ok (.istore 6, 2) := by decide +kernel
theorem d_Sk_placeTooLow_25 : decode cX4_placeTooLow 25 = .ok (.iload 4, 2) := by decide +kernel
theorem d_Sk_placeTooLow_27 : decode cX4_placeTooLow 27 = .ok (.aload_n 0, 1) := by decide +kernel
theorem d_Sk_placeTooLow_28 : decode cX4_placeTooLow 28 = .ok (.getfield 10, 3) := by decide +kernel
theorem d_Sk_placeTooLow_31 : decode cX4_placeTooLow 31 = .ok (.aload_n 1, 1) := by decide +kernel
theorem d_Sk_placeTooLow_32 : decode cX4_placeTooLow 32 = .ok (.iload 5, 2) := by decide +kernel
theorem d_Sk_placeTooLow_34 : decode cX4_placeTooLow 34 = .ok (.iconst 1, 1) := by decide +kernel
theorem d_Sk_placeTooLow_35 : decode cX4_placeTooLow 35 = .ok (.isub, 1) := by decide +kernel
theorem d_Sk_placeTooLow_36 : decode cX4_placeTooLow 36 = .ok (.invokevirtual 175, 3) := by decide +kernel
theorem d_Sk_placeTooLow_39 : decode cX4_placeTooLow 39 = .ok (.iload 6, 2) := by decide +kernel
theorem d_Sk_placeTooLow_41 : decode cX4_placeTooLow 41 = .ok (.aload_n 0, 1) := by decide +kernel
theorem d_Sk_placeTooLow_42 : decode cX4_placeTooLow 42 = .ok (.getfield 10, 3) := by decide +kernel
theorem d_Sk_placeTooLow_45 : decode cX4_placeTooLow 45 = .ok (.getfield 97, 3) := by decide +kernel
theorem d_Sk_placeTooLow_48 : decode cX4_placeTooLow 48 = .ok (.invokevirtual 178, 3) := by decide +kernel
theorem d_Sk_placeTooLow_51 : decode cX4_placeTooLow 51 = .ok (.isub, 1) := by decide +kernel
theorem d_Sk_placeTooLow_52 : decode cX4_placeTooLow 52 = .ok (.istore 4, 2) := by decide +kernel
theorem d_Sk_placeTooLow_54 : decode cX4_placeTooLow 54 = .ok (.iload 6, 2) := by decide +kernel
theorem d_Sk_placeTooLow_56 : decode cX4_placeTooLow 56 = .ok (.invokestatic 232, 3) := by decide +kernel
theorem d_Sk_placeTooLow_59 : decode cX4_placeTooLow 59 = .ok (.ifCond .eq 7, 3) := by decide +kernel
theorem d_Sk_placeTooLow_62 : decode cX4_placeTooLow 62 = .ok (.iconst 0, 1) := by decide +kernel
theorem d_Sk_placeTooLow_63 : decode cX4_placeTooLow 63 = .ok (.goto 18, 3) := by decide +kernel
theorem d_Sk_placeTooLow_66 : decode cX4_placeTooLow 66 = .ok (.aload_n 0, 1) := by decide +kernel
theorem d_Sk_placeTooLow_67 : decode cX4_placeTooLow 67 = .ok (.getfield 10, 3) := by decide +kernel
theorem d_Sk_placeTooLow_70 : decode cX4_placeTooLow 70 = .ok (.iload 6, 2) := by decide +kernel
theorem d_Sk_placeTooLow_72 : decode cX4_placeTooLow 72 = .ok (.bipush 100, 2) := by decide +kernel
theorem d_Sk_placeTooLow_74 : decode cX4_placeTooLow 74 = .ok (.irem, 1) := by decide +kernel
theorem d_Sk_placeTooLow_75 : decode cX4_placeTooLow 75 = .ok (.invokevirtual 267, 3) := by decide +kernel
theorem d_Sk_placeTooLow_78 : decode cX4_placeTooLow 78 = .ok (.bipush 10, 2) := by decide +kernel
theorem d_Sk_placeTooLow_80 : decode cX4_placeTooLow 80 = .ok (.iadd, 1) := by decide +kernel
theorem d_Sk_placeTooLow_81 : decode cX4_placeTooLow 81 = .ok (.istore 7, 2) := by decide +kernel
theorem d_Sk_placeTooLow_83 : decode cX4_placeTooLow 83 = .ok (.iload 4, 2) := by decide +kernel
theorem d_Sk_placeTooLow_85 : decode cX4_placeTooLow 85 = .ok (.iload 7, 2) := by decide +kernel
theorem d_Sk_placeTooLow_87 : decode cX4_placeTooLow 87 = .ok (.if_icmp .ge 6, 3) := by decide +kernel
theorem d_Sk_placeTooLow_90 : decode cX4_placeTooLow 90 = .ok (.iload 5, 2) := by decide +kernel
theorem d_Sk_placeTooLow_92 : decode cX4_placeTooLow 92 = .ok (.ireturn, 1) := by decide +kernel
theorem d_Sk_placeTooLow_93 : decode cX4_placeTooLow 93 = .ok (.iinc 5 1, 3) := by decide +kernel
theorem d_Sk_placeTooLow_96 : decode cX4_placeTooLow 96 = .ok (.goto (-88), 3) := by decide +kernel
theorem d_Sk_placeTooLow_99 : decode cX4_placeTooLow 99 = .ok (.iconst (-1), 1) := by decide +kernel
theorem d_Sk_placeTooLow_100 : decode cX4_placeTooLow 100 = .ok (.ireturn, 1) := by decide +kernel
set_option maxRecDepth 100000 in
set_option maxHeartbeats 4000000 in
theorem w_j_Sk_placeTooLow_81 {X : CX} {KX : (Int32) ⊕ (Unit) → Prop} {k : Nat} {a1 : Option Nat} {a4 : Int32} {a5 : Int32} {t0 : Int32} {s : MS} {rec : Int32 → Int32 → Option ((Int32) ⊕ (Unit))} (ok : Ok X cX4_placeTooLow RX4 rm_Sk_placeTooLow 8 false) (hret : ∀ r : Int32, KX (.inl r) → Fin X (some .int) 0 0 false (some (vI r)) s) (hexit : KX (.inr ()) → G X s 0 0 99 [(0, vR (some k))] []) (hrec : ∀ (v4 : Int32) (v5 : Int32), ∀ y, rec v4 v5 = some y → KX y → G X s 0 0 8 [(0, vR (some k)), (1, vR a1), (4, vI v4), (5, vI v5)] []) (ht : rf s.2.2 0 (some k) = some k) {res : (Int32) ⊕ (Unit)} (h : j_Sk_placeTooLow_81 k a1 a4 a5 t0 s rec = some res) (hk : KX res) : G X s 0 0 81 [(0, vR (some k)), (1, vR a1), (4, vI a4), (5, vI a5)] [vI t0] := by
  unfold j_Sk_placeTooLow_81 at h
  refine g_istore (i := 7) [(7, vI t0), (0, vR (some k)), (1, vR a1), (4, vI a4), (5, vI a5)] ok d_Sk_placeTooLow_81 (by decide) rfl ?_
  refine g_iload (i := 4) 3 ok d_Sk_placeTooLow_83 rfl ?_
  refine g_iload (i := 7) 0 ok d_Sk_placeTooLow_85 rfl ?_
  refine g_icmp_ge (tgt := 93) ok d_Sk_placeTooLow_87 (by decide) (fun c24 => ?_) (fun c24 => ?_)
  · replace h := (if_pos c24).symm.trans h
    refine g_iload (i := 5) 4 ok d_Sk_placeTooLow_90 rfl ?_
    cases h
    exact g_iret ok (hret _ hk) (by decide) (by decide) d_Sk_placeTooLow_92
  · replace h := (if_neg c24).symm.trans h
    obtain ⟨x25, e26⟩ : ∃ z, a5 + (1 : Int32) = z := ⟨_, rfl⟩
    replace h := lt_go h e26
    refine g_iinc (i := 5) (v := x25) 4 [(5, vI x25), (7, vI t0), (0, vR (some k)), (1, vR a1), (4, vI a4)] ok d_Sk_placeTooLow_93 rfl (by rw [← e26]; rfl) (by decide) rfl ?_
    refine g_goto (tgt := 8) ok d_Sk_placeTooLow_96 (by decide) ?_
    refine g_sub [2, 3, 4, 0] rfl ?_
    exact hrec a4 x25 _ h hk
set_option maxRecDepth 100000 in
set_option maxHeartbeats 4000000 in
theorem w_b_Sk_placeTooLow_8 {X : CX} {KX : (Int32) ⊕ (Unit) → Prop} {k : Nat} {a1 : Option Nat} {a4 : Int32} {a5 : Int32} {s : MS} {rec : Int32 → Int32 → Option ((Int32) ⊕ (Unit))} (ok : Ok X cX4_placeTooLow RX4 rm_Sk_placeTooLow 8 false) (hret : ∀ r : Int32, KX (.inl r) → Fin X (some .int) 0 0 false (some (vI r)) s) (hexit : KX (.inr ()) → G X s 0 0 99 [(0, vR (some k))] []) (hrec : ∀ (v4 : Int32) (v5 : Int32), ∀ y, rec v4 v5 = some y → KX y → G X s 0 0 8 [(0, vR (some k)), (1, vR a1), (4, vI v4), (5, vI v5)] []) (ht : rf s.2.2 0 (some k) = some k) {res : (Int32) ⊕ (Unit)} (h : b_Sk_placeTooLow_8 k a1 a4 a5 s rec = some res) (hk : KX res) : G X s 0 0 8 [(0, vR (some k)), (1, vR a1), (4, vI a4), (5, vI a5)] [] := by
  unfold b_Sk_placeTooLow_8 at h
  refine g_iload (i := 5) 3 ok d_Sk_placeTooLow_8 rfl ?_
  refine g_aload_n (i := 1) 1 ok d_Sk_placeTooLow_10 rfl rfl ?_
  obtain ⟨k3, hk4, h⟩ := bnd_go h
  refine g_getiN (s0 := 12) (j := 4) (ci := 2) (C := RX2) (T := TX2) (N := 7) ok hk4 lay_12 rfl inX2 (by decide) rfl tw_64 rfl d_Sk_placeTooLow_11 ?_
  refine g_icmp_gt (tgt := 99) ok d_Sk_placeTooLow_14 (by decide) (fun c5 => ?_) (fun c5 => ?_)
  · replace h := (if_pos c5).symm.trans h
    refine g_sub [0] rfl ?_
    cases h
    exact hexit hk
  · replace h := (if_neg c5).symm.trans h
    refine g_aload_n (i := 1) 1 ok d_Sk_placeTooLow_17 rfl rfl ?_
    refine g_iload (i := 5) 3 ok d_Sk_placeTooLow_18 rfl ?_
    obtain ⟨x7, hc8, h⟩ := bnd_go h
    refine g_invVN (rm2 := rm_Pa_placeOf) (As := [vI a5]) (rest := []) ok hk4 lay_12 rfl (c_Pa_placeOf X.1.2.1 (rf_self hk4) hc8) cm_Pa_placeOf cv_Pa_placeOf tw_410 ⟨rfl, rfl⟩ ⟨le_t rfl, le_t rfl⟩ ⟨rfl, le_t rfl⟩ ⟨le_t rfl, le_t rfl⟩ d_Sk_placeTooLow_20 rfl (fun m6 => ?_)
    show G X s 0 0 23 [(0, vR (some k)), (1, vR a1), (4, vI a4), (5, vI a5)] [vI x7]
    refine g_istore (i := 6) [(6, vI x7), (0, vR (some k)), (1, vR a1), (4, vI a4), (5, vI a5)] ok d_Sk_placeTooLow_23 (by decide) rfl ?_
    refine g_iload (i := 4) 3 ok d_Sk_placeTooLow_25 rfl ?_
    refine g_aload_n (i := 0) 1 ok d_Sk_placeTooLow_27 rfl rfl ?_
    refine g_getr (s0 := 0) (j := 0) (ci := 4) (C := RX4) (T := TX4) (N := 14) ok ht lay_0 rfl inX4 (by decide) rfl tw_82 rfl d_Sk_placeTooLow_28 ?_
    refine g_aload_n (i := 1) 2 ok d_Sk_placeTooLow_31 rfl rfl ?_
    refine g_iload (i := 5) 4 ok d_Sk_placeTooLow_32 rfl ?_
    refine g_iconst (v := (1 : Int32)) ok d_Sk_placeTooLow_34 (by decide) ?_
    refine g_isub ok d_Sk_placeTooLow_35 ?_
    obtain ⟨x10, hc11, h⟩ := bnd_go h
    refine g_invVN (rm2 := rm_Pa_placeOf) (As := [vI (a5 - (1 : Int32))]) (rest := [vR (s.2.1 k 0), vI a4]) ok hk4 lay_12 rfl (c_Pa_placeOf X.1.2.1 (rf_self hk4) hc11) cm_Pa_placeOf cv_Pa_placeOf tw_410 ⟨rfl, rfl⟩ ⟨le_t rfl, le_t rfl⟩ ⟨rfl, le_t rfl⟩ ⟨le_t rfl, le_t rfl⟩ d_Sk_placeTooLow_36 rfl (fun m9 => ?_)
    show G X s 0 0 39 [(6, vI x7), (0, vR (some k)), (1, vR a1), (4, vI a4), (5, vI a5)] [vI x10, vR (s.2.1 k 0), vI a4]
    refine g_iload (i := 6) 0 ok d_Sk_placeTooLow_39 rfl ?_
    refine g_aload_n (i := 0) 1 ok d_Sk_placeTooLow_41 rfl rfl ?_
    refine g_getr (s0 := 0) (j := 0) (ci := 4) (C := RX4) (T := TX4) (N := 14) ok ht lay_0 rfl inX4 (by decide) rfl tw_82 rfl d_Sk_placeTooLow_42 ?_
    obtain ⟨k12, hk13, h⟩ := bnd_go h
    refine g_getrN (s0 := 1) (j := 2) (ci := 0) (C := RX0) (T := TX0) (N := 5) ok hk13 lay_1 rfl inX0 (by decide) rfl tw_30 rfl d_Sk_placeTooLow_45 ?_
    obtain ⟨x15, hc16, h⟩ := bnd_go h
    refine g_invVN (rm2 := rm_Ci_taken) (As := [vI x10, vI x7, vR (s.2.1 k12 2)]) (rest := [vI a4]) ok hk13 lay_1 rfl (c_Ci_taken X.1.2.1 (rf_self hk13) hc16) cm_Ci_taken cv_Ci_taken tw_523 ⟨rfl, rfl⟩ ⟨le_t rfl, le_t rfl⟩ ⟨rfl, le_t rfl⟩ ⟨le_t rfl, le_t rfl⟩ d_Sk_placeTooLow_48 rfl (fun m14 => ?_)
    show G X s 0 0 51 [(6, vI x7), (0, vR (some k)), (1, vR a1), (4, vI a4), (5, vI a5)] [vI x15, vI a4]
    refine g_isub ok d_Sk_placeTooLow_51 ?_
    obtain ⟨x17, e18⟩ : ∃ z, (a4 - x15) = z := ⟨_, rfl⟩
    replace h := lt_go h e18
    rw [e18]
    refine g_istore (i := 4) [(4, vI x17), (6, vI x7), (0, vR (some k)), (1, vR a1), (5, vI a5)] ok d_Sk_placeTooLow_52 (by decide) rfl ?_
    refine g_iload (i := 6) 1 ok d_Sk_placeTooLow_54 rfl ?_
    refine g_invS (rm2 := rm_Sk_isOnGround) (As := [vI x7]) (rest := []) ok (c_Sk_isOnGround X.1.2.1) cm_Sk_isOnGround cs_Sk_isOnGround tw_184 ⟨rfl, rfl⟩ ⟨le_t rfl, le_t rfl⟩ ⟨rfl, le_t rfl⟩ ⟨le_t rfl, le_t rfl⟩ d_Sk_placeTooLow_56 rfl (fun m19 => ?_)
    show G X s 0 0 59 [(4, vI x17), (6, vI x7), (0, vR (some k)), (1, vR a1), (5, vI a5)] [vI (f_Sk_isOnGround x7)]
    refine g_if_eq (tgt := 66) ok d_Sk_placeTooLow_59 (by decide) (fun c20 => ?_) (fun c20 => ?_)
    · replace h := (if_pos c20).symm.trans h
      refine g_aload_n (i := 0) 2 ok d_Sk_placeTooLow_66 rfl rfl ?_
      refine g_getr (s0 := 0) (j := 0) (ci := 4) (C := RX4) (T := TX4) (N := 14) ok ht lay_0 rfl inX4 (by decide) rfl tw_82 rfl d_Sk_placeTooLow_67 ?_
      refine g_iload (i := 6) 1 ok d_Sk_placeTooLow_70 rfl ?_
      refine g_bipush (v := (100 : Int32)) ok d_Sk_placeTooLow_72 (by decide) ?_
      refine g_irem ok d_Sk_placeTooLow_74 (by decide) ?_
      obtain ⟨x22, hc23, h⟩ := bnd_go h
      refine g_invVN (rm2 := rm_Ci_wayHome) (As := [vI (x7 - x7 / (100 : Int32) * (100 : Int32))]) (rest := []) ok hk13 lay_1 rfl (c_Ci_wayHome X.1.2.1 (rf_self hk13) hc23) cm_Ci_wayHome cv_Ci_wayHome tw_527 ⟨rfl, rfl⟩ ⟨le_t rfl, le_t rfl⟩ ⟨rfl, le_t rfl⟩ ⟨le_t rfl, le_t rfl⟩ d_Sk_placeTooLow_75 rfl (fun m21 => ?_)
      show G X s 0 0 78 [(4, vI x17), (6, vI x7), (0, vR (some k)), (1, vR a1), (5, vI a5)] [vI x22]
      refine g_bipush (v := (10 : Int32)) ok d_Sk_placeTooLow_78 (by decide) ?_
      refine g_iadd ok d_Sk_placeTooLow_80 ?_
      refine g_sub [2, 3, 0, 4] rfl ?_
      exact w_j_Sk_placeTooLow_81 ok hret hexit hrec ht h hk
    · replace h := (if_neg c20).symm.trans h
      refine g_iconst (v := (0 : Int32)) ok d_Sk_placeTooLow_62 (by decide) ?_
      refine g_goto (tgt := 81) ok d_Sk_placeTooLow_63 (by decide) ?_
      refine g_sub [2, 3, 0, 4] rfl ?_
      exact w_j_Sk_placeTooLow_81 ok hret hexit hrec ht h hk
theorem w_l_Sk_placeTooLow_8 {X : CX} {KX : (Int32) ⊕ (Unit) → Prop} {k : Nat} {a1 : Option Nat} {s : MS} (ok : Ok X cX4_placeTooLow RX4 rm_Sk_placeTooLow 8 false) (hret : ∀ r : Int32, KX (.inl r) → Fin X (some .int) 0 0 false (some (vI r)) s) (hexit : KX (.inr ()) → G X s 0 0 99 [(0, vR (some k))] []) (ht : rf s.2.2 0 (some k) = some k) : ∀ (n : Nat) (a4 : Int32) (a5 : Int32) {res : (Int32) ⊕ (Unit)}, l_Sk_placeTooLow_8 k a1 s n a4 a5 = some res → KX res → G X s 0 0 8 [(0, vR (some k)), (1, vR a1), (4, vI a4), (5, vI a5)] [] := by
  intro n
  induction n with
  | zero => intro _ _ res h; cases h
  | succ n ih =>
    intro a4 a5 res h hk
    exact w_b_Sk_placeTooLow_8 ok hret hexit (fun v4 v5 y h2 hk2 => ih v4 v5 h2 hk2) ht h hk
set_option maxRecDepth 100000 in
set_option maxHeartbeats 4000000 in
theorem w_Sk_placeTooLow {X : CX} {KX : Int32 → Prop} {k : Nat} {a1 : Option Nat} {a2 : Int32} {a3 : Int32} {s : MS} (ok : Ok X cX4_placeTooLow RX4 rm_Sk_placeTooLow 8 false) (hret : ∀ r : Int32, KX r → Fin X (some .int) 0 0 false (some (vI r)) s)   (ht : rf s.2.2 0 (some k) = some k) {res : Int32} (h : f_Sk_placeTooLow k a1 a2 a3 s = some res) (hk : KX res) : G X s 0 0 0 [(0, vR (some k)), (1, vR a1), (2, vI a2), (3, vI a3)] [] := by
  unfold f_Sk_placeTooLow at h
  refine g_iload_n (i := 3) 3 ok d_Sk_placeTooLow_0 rfl rfl ?_
  refine g_istore (i := 4) [(4, vI a3), (0, vR (some k)), (1, vR a1), (2, vI a2), (3, vI a3)] ok d_Sk_placeTooLow_1 (by decide) rfl ?_
  refine g_iload_n (i := 2) 3 ok d_Sk_placeTooLow_3 rfl rfl ?_
  refine g_iconst (v := (1 : Int32)) ok d_Sk_placeTooLow_4 (by decide) ?_
  refine g_iadd ok d_Sk_placeTooLow_5 ?_
  obtain ⟨x1, e2⟩ : ∃ z, (a2 + (1 : Int32)) = z := ⟨_, rfl⟩
  replace h := lt_go h e2
  rw [e2]
  refine g_istore (i := 5) [(5, vI x1), (4, vI a3), (0, vR (some k)), (1, vR a1), (2, vI a2), (3, vI a3)] ok d_Sk_placeTooLow_6 (by decide) rfl ?_
  refine g_sub [2, 3, 1, 0] rfl ?_
  rcases el0_go h with ⟨r, hx, h⟩ | ⟨hx, h⟩
  · refine w_l_Sk_placeTooLow_8 (KX := fun y => y = .inl r) ok (fun r2 he => ?_) (fun he => by cases he) ht _ _ _ hx rfl
    cases he
    cases h
    exact hret _ hk
  · refine w_l_Sk_placeTooLow_8 (KX := fun y => y = .inr ()) ok (fun r2 he => by cases he) (fun he => ?_) ht _ _ _ hx rfl
    cases he
    refine g_iconst (v := (-1 : Int32)) ok d_Sk_placeTooLow_99 (by decide) ?_
    cases h
    exact g_iret ok (hret _ hk) (by decide) (by decide) d_Sk_placeTooLow_100
theorem c_Sk_placeTooLow (l : Launch) {k : Nat} {a1 : Option Nat} {a2 : Int32} {a3 : Int32} {s : MS} (ht : rf s.2.2 0 (some k) = some k) {r : Int32} (h : f_Sk_placeTooLow k a1 a2 a3 s = some r) : Ct l yX4_placeTooLow (.code yX4_placeTooLow cX4_placeTooLow 8 (some .int)) rm_Sk_placeTooLow 0 0 false [vR (some k), vR a1, vI a2, vI a3] s (some (vI r)) s :=
  Ct.of rfl (by decide +kernel) ⟨rfl, le_t rfl⟩ (fun X ok fn _ hI hl => w_Sk_placeTooLow (KX := fun y => y = r) ok (fun y hy => by subst hy; exact fn) ht h rfl)
abbrev rm_Sk_judge : Room := { frames := 5, cells := 0, slots := 0, locals := 116 }
theorem cm_Sk_judge : cfM yX4_judge cX4_judge 6 (some .int) 1 := ⟨tw_487, tw_1, by decide, by decide, by decide +kernel⟩
theorem cv_Sk_judge : cfV yX4_judge := ⟨tw_486, ts_X4_judge⟩
theorem d_Sk_judge_0 : decode cX4_judge 0 = .ok (.aload_n 1, 1) := by decide +kernel
theorem d_Sk_judge_1 : decode cX4_judge 1 = .ok (.getfield 163, 3) := by decide +kernel
theorem d_Sk_judge_4 : decode cX4_judge 4 = .ok (.ifCond .eq 10, 3) := by decide +kernel
theorem d_Sk_judge_7 : decode cX4_judge 7 = .ok (.aload_n 0, 1) := by decide +kernel
theorem d_Sk_judge_8 : decode cX4_judge 8 = .ok (.iconst 1, 1) := by decide +kernel
theorem d_Sk_judge_9 : decode cX4_judge 9 = .ok (.iconst (-1), 1) := by decide +kernel
theorem d_Sk_judge_10 : decode cX4_judge 10 = .ok (.invokevirtual 301, 3) := by decide +kernel
theorem d_Sk_judge_13 : decode cX4_judge 13 = .ok (.ireturn, 1) := by decide +kernel
theorem d_Sk_judge_14 : decode cX4_judge 14 = .ok (.aload_n 1, 1) := by decide +kernel
theorem d_Sk_judge_15 : decode cX4_judge 15 = .ok (.getfield 284, 3) := by decide +kernel
theorem d_Sk_judge_18 : decode cX4_judge 18 = .ok (.iconst (-1), 1) := by decide +kernel
theorem d_Sk_judge_19 : decode cX4_judge 19 = .ok (.if_icmp .eq 13, 3) := by decide +kernel
theorem d_Sk_judge_22 : decode cX4_judge 22 = .ok (.aload_n 0, 1) := by decide +kernel
theorem d_Sk_judge_23 : decode cX4_judge 23 = .ok (.iconst 1, 1) := by decide +kernel
theorem d_Sk_judge_24 : decode cX4_judge 24 = .ok (.aload_n 1, 1) := by decide +kernel
theorem d_Sk_judge_25 : decode cX4_judge 25 = .ok (.getfield 284, 3) := by decide +kernel
theorem d_Sk_judge_28 : decode cX4_judge 28 = .ok (.invokevirtual 301, 3) := by decide +kernel
theorem d_Sk_judge_31 : decode cX4_judge 31 = .ok (.ireturn, 1) := by decide +kernel
theorem d_Sk_judge_32 : decode cX4_judge 32 = .ok (.aload_n 0, 1) := by decide +kernel
theorem d_Sk_judge_33 : decode cX4_judge 33 = .ok (.aload_n 1, 1) := by decide +kernel
theorem d_Sk_judge_34 : decode cX4_judge 34 = .ok (.getfield 281, 3) := by decide +kernel
theorem d_Sk_judge_37 : decode cX4_judge 37 = .ok (.invokevirtual 305, 3) := by decide +kernel
theorem d_Sk_judge_40 : decode cX4_judge 40 = .ok (.iconst 3, 1) := by decide +kernel
theorem d_Sk_judge_41 : decode cX4_judge 41 = .ok (.if_icmp .lt 10, 3) := by decide +kernel
theorem d_Sk_judge_44 : decode cX4_judge 44 = .ok (.aload_n 0, 1) := by decide +kernel
theorem d_Sk_judge_45 : decode cX4_judge 45 = .ok (.iconst 2, 1) := by decide +kernel
theorem d_Sk_judge_46 : decode cX4_judge 46 = .ok (.iconst (-1), 1) := by decide +kernel
theorem d_Sk_judge_47 : decode cX4_judge 47 = .ok (.invokevirtual 301, 3) := by decide +kernel
theorem d_Sk_judge_50 : decode cX4_judge 50 = .ok (.ireturn, 1) := by decide +kernel
theorem d_Sk_judge_51 : decode cX4_judge 51 = .ok (.aload_n 0, 1) := by decide +kernel
theorem d_Sk_judge_52 : decode cX4_judge 52 = .ok (.aload_n 1, 1) := by decide +kernel
theorem d_Sk_judge_53 : decode cX4_judge 53 = .ok (.getfield 166, 3) := by decide +kernel
theorem d_Sk_judge_56 : decode cX4_judge 56 = .ok (.invokevirtual 169, 3) := by decide +kernel
theorem d_Sk_judge_59 : decode cX4_judge 59 = .ok (.istore_n 2, 1) := by decide +kernel
theorem d_Sk_judge_60 : decode cX4_judge 60 = .ok (.iload_n 2, 1) := by decide +kernel
theorem d_Sk_judge_61 : decode cX4_judge 61 = .ok (.iconst (-1), 1) := by decide +kernel
theorem d_Sk_judge_62 : decode cX4_judge 62 = .ok (.if_icmp .eq 10, 3) := by decide +kernel
theorem d_Sk_judge_65 : decode cX4_judge 65 = .ok (.aload_n 0, 1) := by decide +kernel
theorem d_Sk_judge_66 : decode cX4_judge 66 = .ok (.iconst 3, 1) := by decide +kernel
theorem d_Sk_judge_67 : decode cX4_judge 67 = .ok (.iload_n 2, 1) := by decide +kernel
theorem d_Sk_judge_68 : decode cX4_judge 68 = .ok (.invokevirtual 301, 3) := by decide +kernel
theorem d_Sk_judge_71 : decode cX4_judge 71 = .ok (.ireturn, 1) := by decide +kernel
theorem d_Sk_judge_72 : decode cX4_judge 72 = .ok (.aload_n 0, 1) := by decide +kernel
theorem d_Sk_judge_73 : decode cX4_judge 73 = .ok (.aload_n 0, 1) := by decide +kernel
theorem d_Sk_judge_74 : decode cX4_judge 74 = .ok (.getfield 39, 3) := by decide +kernel
theorem d_Sk_judge_77 : decode cX4_judge 77 = .ok (.iconst 0, 1) := by decide +kernel
theorem d_Sk_judge_78 : decode cX4_judge 78 = .ok (.aload_n 1, 1) := by decide +kernel
theorem d_Sk_judge_79 : decode cX4_judge 79 = .ok (.aload_n 0, 1) := by decide +kernel
theorem d_Sk_judge_80 : decode cX4_judge 80 = .ok (.getfield 39, 3) := by decide +kernel
theorem d_Sk_judge_83 : decode cX4_judge 83 = .ok (.getfield 195, 3) := by decide +kernel
theorem d_Sk_judge_86 : decode cX4_judge 86 = .ok (.aload_n 0, 1) := by decide +kernel
theorem d_Sk_judge_87 : decode cX4_judge 87 = .ok (.getfield 182, 3) := by decide +kernel
theorem d_Sk_judge_90 : decode cX4_judge 90 = .ok (.isub, 1) := by decide +kernel
theorem d_Sk_judge_91 : decode cX4_judge 91 = .ok (.invokevirtual 308, 3) := by decide +kernel
theorem d_Sk_judge_94 : decode cX4_judge 94 = .ok (.invokevirtual 311, 3) := by decide +kernel
theorem d_Sk_judge_97 : decode cX4_judge 97 = .ok (.istore_n 3, 1) := by decide +kernel
theorem d_Sk_judge_98 : decode cX4_judge 98 = .ok (.iload_n 3, 1) := by decide +kernel
theorem d_Sk_judge_99 : decode cX4_judge 99 = .ok (.iconst (-1), 1) := by decide +kernel
theorem d_Sk_judge_100 : decode cX4_judge 100 = .ok (.if_icmp .eq 10, 3) := by decide +kernel
theorem d_Sk_judge_103 : decode cX4_judge 103 = .ok (.aload_n 0, 1) := by decide +kernel
theorem d_Sk_judge_104 : decode cX4_judge 104 = .ok (.iconst 4, 1) := by decide +kernel
theorem d_Sk_judge_105 : decode cX4_judge 105 = .ok (.iload_n 3, 1) := by decide +kernel
theorem d_Sk_judge_106 : decode cX4_judge 106 = .ok (.invokevirtual 301, 3) := by decide +kernel
theorem d_Sk_judge_109 : decode cX4_judge 109 = .ok (.ireturn, 1) := by decide +kernel
theorem d_Sk_judge_110 : decode cX4_judge 110 = .ok (.aload_n 0, 1) := by decide +kernel
theorem d_Sk_judge_111 : decode cX4_judge 111 = .ok (.aload_n 0, 1) := by decide +kernel
theorem d_Sk_judge_112 : decode cX4_judge 112 = .ok (.getfield 39, 3) := by decide +kernel
theorem d_Sk_judge_115 : decode cX4_judge 115 = .ok (.iconst 0, 1) := by decide +kernel
theorem d_Sk_judge_116 : decode cX4_judge 116 = .ok (.invokevirtual 315, 3) := by decide +kernel
theorem d_Sk_judge_119 : decode cX4_judge 119 = .ok (.istore 4, 2) := by decide +kernel
theorem d_Sk_judge_121 : decode cX4_judge 121 = .ok (.iload 4, 2) := by decide +kernel
theorem d_Sk_judge_123 : decode cX4_judge 123 = .ok (.iconst (-1), 1) := by decide +kernel
theorem d_Sk_judge_124 : decode cX4_judge 124 = .ok (.if_icmp .eq 11, 3) := by decide +kernel
theorem d_Sk_judge_127 : decode cX4_judge 127 = .ok (.aload_n 0, 1) := by decide +kernel
theorem d_Sk_judge_128 : decode cX4_judge 128 = .ok (.iconst 5, 1) := by decide +kernel
theorem d_Sk_judge_129 : decode cX4_judge 129 = .ok (.iload 4, 2) := by decide +kernel
theorem d_Sk_judge_131 : decode cX4_judge 131 = .ok (.invokevirtual 301, 3) := by decide +kernel
theorem d_Sk_judge_134 : decode cX4_judge 134 = .ok (.ireturn, 1) := by decide +kernel
theorem d_Sk_judge_135 : decode cX4_judge 135 = .ok (.aload_n 0, 1) := by decide +kernel
theorem d_Sk_judge_136 : decode cX4_judge 136 = .ok (.aload_n 0, 1) := by decide +kernel
theorem d_Sk_judge_137 : decode cX4_judge 137 = .ok (.getfield 39, 3) := by decide +kernel
theorem d_Sk_judge_140 : decode cX4_judge 140 = .ok (.invokevirtual 319, 3) := by decide +kernel
theorem d_Sk_judge_143 : decode cX4_judge 143 = .ok (.istore 5, 2) := by decide +kernel
theorem d_Sk_judge_145 : decode cX4_judge 145 = .ok (.iload 5, 2) := by decide +kernel
theorem d_Sk_judge_147 : decode cX4_judge 147 = .ok (.iconst (-1), 1) := by decide +kernel
theorem d_Sk_judge_148 : decode cX4_judge 148 = .ok (.if_icmp .eq 12, 3) := by decide +kernel
theorem d_Sk_judge_151 : decode cX4_judge 151 = .ok (.aload_n 0, 1) := by decide +kernel
theorem d_Sk_judge_152 : decode cX4_judge 152 = .ok (.bipush 6, 2) := by decide +kernel
theorem d_Sk_judge_154 : decode cX4_judge 154 = .ok (.iload 5, 2) := by decide +kernel
theorem d_Sk_judge_156 : decode cX4_judge 156 = .ok (.invokevirtual 301, 3) := by decide +kernel
theorem d_Sk_judge_159 : decode cX4_judge 159 = .ok (.ireturn, 1) := by decide +kernel
theorem d_Sk_judge_160 : decode cX4_judge 160 = .ok (.iconst 0, 1) := by decide +kernel
theorem d_Sk_judge_161 : decode cX4_judge 161 = .ok (.ireturn, 1) := by decide +kernel
set_option maxRecDepth 100000 in
set_option maxHeartbeats 4000000 in
theorem w_Sk_judge {X : CX} {KX : Int32 × MS → Prop} {k : Nat} {a1 : Option Nat} {s : MS} (ok : Ok X cX4_judge RX4 rm_Sk_judge 6 false) (hret : ∀ r : Int32 × MS, KX r → Fin X (some .int) 0 0 false (some (vI r.1)) r.2)   (ht : rf s.2.2 0 (some k) = some k) {res : Int32 × MS} (h : f_Sk_judge k a1 s = some res) (hk : KX res) : G X s 0 0 0 [(0, vR (some k)), (1, vR a1)] [] := by
  unfold f_Sk_judge at h
  refine g_aload_n (i := 1) 1 ok d_Sk_judge_0 rfl rfl ?_
  obtain ⟨k1, hk2, h⟩ := bnd_go h
  refine g_getiN (s0 := 11) (j := 4) (ci := 1) (C := RX1) (T := TX1) (N := 7) ok hk2 lay_11 rfl inX1 (by decide) rfl tw_454 rfl d_Sk_judge_1 ?_
  refine g_if_eq (tgt := 14) ok d_Sk_judge_4 (by decide) (fun c3 => ?_) (fun c3 => ?_)
  · replace h := (if_pos c3).symm.trans h
    refine g_aload_n (i := 1) 1 ok d_Sk_judge_14 rfl rfl ?_
    refine g_getiN (s0 := 11) (j := 5) (ci := 1) (C := RX1) (T := TX1) (N := 7) ok hk2 lay_11 rfl inX1 (by decide) rfl tw_456 rfl d_Sk_judge_15 ?_
    refine g_iconst (v := (-1 : Int32)) ok d_Sk_judge_18 (by decide) ?_
    refine g_icmp_eq (tgt := 32) ok d_Sk_judge_19 (by decide) (fun c4 => ?_) (fun c4 => ?_)
    · replace h := (if_pos c4).symm.trans h
      refine g_aload_n (i := 0) 0 ok d_Sk_judge_32 rfl rfl ?_
      refine g_aload_n (i := 1) 1 ok d_Sk_judge_33 rfl rfl ?_
      refine g_getiN (s0 := 11) (j := 0) (ci := 1) (C := RX1) (T := TX1) (N := 7) ok hk2 lay_11 rfl inX1 (by decide) rfl tw_447 rfl d_Sk_judge_34 ?_
      obtain ⟨x6, hc7, h⟩ := bnd_go h
      refine g_invV (rm2 := rm_Sk_waitingOfFirm) (As := [vI (s.1 k1 0)]) (rest := []) ok ht lay_0 rfl (c_Sk_waitingOfFirm X.1.2.1 (rf_self ht) hc7) cm_Sk_waitingOfFirm cv_Sk_waitingOfFirm tw_492 ⟨rfl, rfl⟩ ⟨le_t rfl, le_t rfl⟩ ⟨rfl, le_t rfl⟩ ⟨le_t rfl, le_t rfl⟩ d_Sk_judge_37 rfl (fun m5 => ?_)
      show G X s 0 0 40 [(0, vR (some k)), (1, vR a1)] [vI x6]
      refine g_iconst (v := (3 : Int32)) ok d_Sk_judge_40 (by decide) ?_
      refine g_icmp_lt (tgt := 51) ok d_Sk_judge_41 (by decide) (fun c8 => ?_) (fun c8 => ?_)
      · replace h := (if_pos c8).symm.trans h
        refine g_aload_n (i := 0) 0 ok d_Sk_judge_51 rfl rfl ?_
        refine g_aload_n (i := 1) 1 ok d_Sk_judge_52 rfl rfl ?_
        refine g_getiN (s0 := 11) (j := 3) (ci := 1) (C := RX1) (T := TX1) (N := 7) ok hk2 lay_11 rfl inX1 (by decide) rfl tw_452 rfl d_Sk_judge_53 ?_
        obtain ⟨x12, s11, hc10, h⟩ := bnd2_go h
        refine g_invV (rm2 := rm_Sk_layDraft) (As := [vI (s.1 k1 3)]) (rest := []) ok ht lay_0 rfl (c_Sk_layDraft X.1.2.1 (rf_self ht) hc10) cm_Sk_layDraft cv_Sk_layDraft tw_496 ⟨rfl, rfl⟩ ⟨le_t rfl, le_t rfl⟩ ⟨rfl, le_t rfl⟩ ⟨le_t rfl, le_t rfl⟩ d_Sk_judge_56 rfl (fun m9 => ?_)
        show G X s11 0 0 59 [(0, vR (some k)), (1, vR a1)] [vI x12]
        refine g_istore_n (i := 2) [(2, vI x12), (0, vR (some k)), (1, vR a1)] ok d_Sk_judge_59 rfl (by decide) rfl ?_
        refine g_iload_n (i := 2) 0 ok d_Sk_judge_60 rfl rfl ?_
        refine g_iconst (v := (-1 : Int32)) ok d_Sk_judge_61 (by decide) ?_
        refine g_icmp_eq (tgt := 72) ok d_Sk_judge_62 (by decide) (fun c13 => ?_) (fun c13 => ?_)
        · replace h := (if_pos c13).symm.trans h
          refine g_aload_n (i := 0) 1 ok d_Sk_judge_72 rfl rfl ?_
          refine g_aload_n (i := 0) 1 ok d_Sk_judge_73 rfl rfl ?_
          refine g_getr (s0 := 0) (j := 5) (ci := 4) (C := RX4) (T := TX4) (N := 14) ok (rf_mono m9 ht) lay_0 rfl inX4 (by decide) rfl tw_87 rfl d_Sk_judge_74 ?_
          refine g_iconst (v := (0 : Int32)) ok d_Sk_judge_77 (by decide) ?_
          refine g_aload_n (i := 1) 2 ok d_Sk_judge_78 rfl rfl ?_
          refine g_aload_n (i := 0) 1 ok d_Sk_judge_79 rfl rfl ?_
          refine g_getr (s0 := 0) (j := 5) (ci := 4) (C := RX4) (T := TX4) (N := 14) ok (rf_mono m9 ht) lay_0 rfl inX4 (by decide) rfl tw_87 rfl d_Sk_judge_80 ?_
          obtain ⟨k14, hk15, h⟩ := bnd_go h
          refine g_getiN (s0 := 12) (j := 3) (ci := 2) (C := RX2) (T := TX2) (N := 7) ok hk15 lay_12 rfl inX2 (by decide) rfl tw_62 rfl d_Sk_judge_83 ?_
          refine g_aload_n (i := 0) 1 ok d_Sk_judge_86 rfl rfl ?_
          refine g_geti (s0 := 0) (j := 10) (ci := 4) (C := RX4) (T := TX4) (N := 14) ok (rf_mono m9 ht) lay_0 rfl inX4 (by decide) rfl tw_92 rfl d_Sk_judge_87 ?_
          refine g_isub ok d_Sk_judge_90 ?_
          obtain ⟨x17, hc18, h⟩ := bnd_go h
          refine g_invVN (rm2 := rm_Ma_batteryAfter) (As := [vI ((s11.1 k14 3) - (s11.1 k 10))]) (rest := [vI (0 : Int32), vR (s11.2.1 k 5), vR (some k)]) ok (rf_mono m9 hk2) lay_11 rfl (c_Ma_batteryAfter X.1.2.1 (rf_self (rf_mono m9 hk2)) hc18) cm_Ma_batteryAfter cv_Ma_batteryAfter tw_514 ⟨rfl, rfl⟩ ⟨le_t rfl, le_t rfl⟩ ⟨rfl, le_t rfl⟩ ⟨le_t rfl, le_t rfl⟩ d_Sk_judge_91 rfl (fun m16 => ?_)
          show G X s11 0 0 94 [(2, vI x12), (0, vR (some k)), (1, vR a1)] [vI x17, vI (0 : Int32), vR (s11.2.1 k 5), vR (some k)]
          obtain ⟨x20, hc21, h⟩ := bnd_go h
          refine g_invV (rm2 := rm_Sk_placeTooLow) (As := [vR (s11.2.1 k 5), vI (0 : Int32), vI x17]) (rest := []) ok (rf_mono m9 ht) lay_0 rfl (c_Sk_placeTooLow X.1.2.1 (rf_self (rf_mono m9 ht)) hc21) cm_Sk_placeTooLow cv_Sk_placeTooLow tw_519 ⟨rfl, rfl⟩ ⟨le_t rfl, le_t rfl⟩ ⟨rfl, le_t rfl⟩ ⟨le_t rfl, le_t rfl⟩ d_Sk_judge_94 rfl (fun m19 => ?_)
          show G X s11 0 0 97 [(2, vI x12), (0, vR (some k)), (1, vR a1)] [vI x20]
          refine g_istore_n (i := 3) [(3, vI x20), (2, vI x12), (0, vR (some k)), (1, vR a1)] ok d_Sk_judge_97 rfl (by decide) rfl ?_
          refine g_iload_n (i := 3) 0 ok d_Sk_judge_98 rfl rfl ?_
          refine g_iconst (v := (-1 : Int32)) ok d_Sk_judge_99 (by decide) ?_
          refine g_icmp_eq (tgt := 110) ok d_Sk_judge_100 (by decide) (fun c22 => ?_) (fun c22 => ?_)
          · replace h := (if_pos c22).symm.trans h
            refine g_aload_n (i := 0) 2 ok d_Sk_judge_110 rfl rfl ?_
            refine g_aload_n (i := 0) 2 ok d_Sk_judge_111 rfl rfl ?_
            refine g_getr (s0 := 0) (j := 5) (ci := 4) (C := RX4) (T := TX4) (N := 14) ok (rf_mono m9 ht) lay_0 rfl inX4 (by decide) rfl tw_87 rfl d_Sk_judge_112 ?_
            refine g_iconst (v := (0 : Int32)) ok d_Sk_judge_115 (by decide) ?_
            obtain ⟨x24, hc25, h⟩ := bnd_go h
            refine g_invV (rm2 := rm_Sk_roomHolding) (As := [vR (s11.2.1 k 5), vI (0 : Int32)]) (rest := []) ok (rf_mono m9 ht) lay_0 rfl (c_Sk_roomHolding X.1.2.1 (rf_self (rf_mono m9 ht)) hc25) cm_Sk_roomHolding cv_Sk_roomHolding tw_541 ⟨rfl, rfl⟩ ⟨le_t rfl, le_t rfl⟩ ⟨rfl, le_t rfl⟩ ⟨le_t rfl, le_t rfl⟩ d_Sk_judge_116 rfl (fun m23 => ?_)
            show G X s11 0 0 119 [(3, vI x20), (2, vI x12), (0, vR (some k)), (1, vR a1)] [vI x24]
            refine g_istore (i := 4) [(4, vI x24), (3, vI x20), (2, vI x12), (0, vR (some k)), (1, vR a1)] ok d_Sk_judge_119 (by decide) rfl ?_
            refine g_iload (i := 4) 0 ok d_Sk_judge_121 rfl ?_
            refine g_iconst (v := (-1 : Int32)) ok d_Sk_judge_123 (by decide) ?_
            refine g_icmp_eq (tgt := 135) ok d_Sk_judge_124 (by decide) (fun c26 => ?_) (fun c26 => ?_)
            · replace h := (if_pos c26).symm.trans h
              refine g_aload_n (i := 0) 3 ok d_Sk_judge_135 rfl rfl ?_
              refine g_aload_n (i := 0) 3 ok d_Sk_judge_136 rfl rfl ?_
              refine g_getr (s0 := 0) (j := 5) (ci := 4) (C := RX4) (T := TX4) (N := 14) ok (rf_mono m9 ht) lay_0 rfl inX4 (by decide) rfl tw_87 rfl d_Sk_judge_137 ?_
              obtain ⟨x28, hc29, h⟩ := bnd_go h
              refine g_invV (rm2 := rm_Sk_pathInTheWay) (As := [vR (s11.2.1 k 5)]) (rest := []) ok (rf_mono m9 ht) lay_0 rfl (c_Sk_pathInTheWay X.1.2.1 (rf_self (rf_mono m9 ht)) hc29) cm_Sk_pathInTheWay cv_Sk_pathInTheWay tw_545 ⟨rfl, rfl⟩ ⟨le_t rfl, le_t rfl⟩ ⟨rfl, le_t rfl⟩ ⟨le_t rfl, le_t rfl⟩ d_Sk_judge_140 rfl (fun m27 => ?_)
              show G X s11 0 0 143 [(4, vI x24), (3, vI x20), (2, vI x12), (0, vR (some k)), (1, vR a1)] [vI x28]
              refine g_istore (i := 5) [(5, vI x28), (4, vI x24), (3, vI x20), (2, vI x12), (0, vR (some k)), (1, vR a1)] ok d_Sk_judge_143 (by decide) rfl ?_
              refine g_iload (i := 5) 0 ok d_Sk_judge_145 rfl ?_
              refine g_iconst (v := (-1 : Int32)) ok d_Sk_judge_147 (by decide) ?_
              refine g_icmp_eq (tgt := 160) ok d_Sk_judge_148 (by decide) (fun c30 => ?_) (fun c30 => ?_)
              · replace h := (if_pos c30).symm.trans h
                refine g_iconst (v := (0 : Int32)) ok d_Sk_judge_160 (by decide) ?_
                cases h
                exact g_iret ok (hret _ hk) (by decide) (by decide) d_Sk_judge_161
              · replace h := (if_neg c30).symm.trans h
                refine g_aload_n (i := 0) 4 ok d_Sk_judge_151 rfl rfl ?_
                refine g_bipush (v := (6 : Int32)) ok d_Sk_judge_152 (by decide) ?_
                refine g_iload (i := 5) 0 ok d_Sk_judge_154 rfl ?_
                obtain ⟨x34, s33, hc32, h⟩ := bnd2_go h
                refine g_invV (rm2 := rm_Sk_refuse) (As := [vI (6 : Int32), vI x28]) (rest := []) ok (rf_mono m9 ht) lay_0 rfl (c_Sk_refuse X.1.2.1 (rf_self (rf_mono m9 ht)) hc32) cm_Sk_refuse cv_Sk_refuse tw_488 ⟨rfl, rfl⟩ ⟨le_t rfl, le_t rfl⟩ ⟨rfl, le_t rfl⟩ ⟨le_t rfl, le_t rfl⟩ d_Sk_judge_156 rfl (fun m31 => ?_)
                show G X s33 0 0 159 [(5, vI x28), (4, vI x24), (3, vI x20), (2, vI x12), (0, vR (some k)), (1, vR a1)] [vI x34]
                cases h
                exact g_iret ok (hret _ hk) (by decide) (by decide) d_Sk_judge_159
            · replace h := (if_neg c26).symm.trans h
              refine g_aload_n (i := 0) 3 ok d_Sk_judge_127 rfl rfl ?_
              refine g_iconst (v := (5 : Int32)) ok d_Sk_judge_128 (by decide) ?_
              refine g_iload (i := 4) 0 ok d_Sk_judge_129 rfl ?_
              obtain ⟨x38, s37, hc36, h⟩ := bnd2_go h
              refine g_invV (rm2 := rm_Sk_refuse) (As := [vI (5 : Int32), vI x24]) (rest := []) ok (rf_mono m9 ht) lay_0 rfl (c_Sk_refuse X.1.2.1 (rf_self (rf_mono m9 ht)) hc36) cm_Sk_refuse cv_Sk_refuse tw_488 ⟨rfl, rfl⟩ ⟨le_t rfl, le_t rfl⟩ ⟨rfl, le_t rfl⟩ ⟨le_t rfl, le_t rfl⟩ d_Sk_judge_131 rfl (fun m35 => ?_)
              show G X s37 0 0 134 [(4, vI x24), (3, vI x20), (2, vI x12), (0, vR (some k)), (1, vR a1)] [vI x38]
              cases h
              exact g_iret ok (hret _ hk) (by decide) (by decide) d_Sk_judge_134
          · replace h := (if_neg c22).symm.trans h
            refine g_aload_n (i := 0) 2 ok d_Sk_judge_103 rfl rfl ?_
            refine g_iconst (v := (4 : Int32)) ok d_Sk_judge_104 (by decide) ?_
            refine g_iload_n (i := 3) 0 ok d_Sk_judge_105 rfl rfl ?_
            obtain ⟨x42, s41, hc40, h⟩ := bnd2_go h
            refine g_invV (rm2 := rm_Sk_refuse) (As := [vI (4 : Int32), vI x20]) (rest := []) ok (rf_mono m9 ht) lay_0 rfl (c_Sk_refuse X.1.2.1 (rf_self (rf_mono m9 ht)) hc40) cm_Sk_refuse cv_Sk_refuse tw_488 ⟨rfl, rfl⟩ ⟨le_t rfl, le_t rfl⟩ ⟨rfl, le_t rfl⟩ ⟨le_t rfl, le_t rfl⟩ d_Sk_judge_106 rfl (fun m39 => ?_)
            show G X s41 0 0 109 [(3, vI x20), (2, vI x12), (0, vR (some k)), (1, vR a1)] [vI x42]
            cases h
            exact g_iret ok (hret _ hk) (by decide) (by decide) d_Sk_judge_109
        · replace h := (if_neg c13).symm.trans h
          refine g_aload_n (i := 0) 1 ok d_Sk_judge_65 rfl rfl ?_
          refine g_iconst (v := (3 : Int32)) ok d_Sk_judge_66 (by decide) ?_
          refine g_iload_n (i := 2) 0 ok d_Sk_judge_67 rfl rfl ?_
          obtain ⟨x46, s45, hc44, h⟩ := bnd2_go h
          refine g_invV (rm2 := rm_Sk_refuse) (As := [vI (3 : Int32), vI x12]) (rest := []) ok (rf_mono m9 ht) lay_0 rfl (c_Sk_refuse X.1.2.1 (rf_self (rf_mono m9 ht)) hc44) cm_Sk_refuse cv_Sk_refuse tw_488 ⟨rfl, rfl⟩ ⟨le_t rfl, le_t rfl⟩ ⟨rfl, le_t rfl⟩ ⟨le_t rfl, le_t rfl⟩ d_Sk_judge_68 rfl (fun m43 => ?_)
          show G X s45 0 0 71 [(2, vI x12), (0, vR (some k)), (1, vR a1)] [vI x46]
          cases h
          exact g_iret ok (hret _ hk) (by decide) (by decide) d_Sk_judge_71
      · replace h := (if_neg c8).symm.trans h
        refine g_aload_n (i := 0) 0 ok d_Sk_judge_44 rfl rfl ?_
        refine g_iconst (v := (2 : Int32)) ok d_Sk_judge_45 (by decide) ?_
        refine g_iconst (v := (-1 : Int32)) ok d_Sk_judge_46 (by decide) ?_
        obtain ⟨x50, s49, hc48, h⟩ := bnd2_go h
        refine g_invV (rm2 := rm_Sk_refuse) (As := [vI (2 : Int32), vI (-1 : Int32)]) (rest := []) ok ht lay_0 rfl (c_Sk_refuse X.1.2.1 (rf_self ht) hc48) cm_Sk_refuse cv_Sk_refuse tw_488 ⟨rfl, rfl⟩ ⟨le_t rfl, le_t rfl⟩ ⟨rfl, le_t rfl⟩ ⟨le_t rfl, le_t rfl⟩ d_Sk_judge_47 rfl (fun m47 => ?_)
        show G X s49 0 0 50 [(0, vR (some k)), (1, vR a1)] [vI x50]
        cases h
        exact g_iret ok (hret _ hk) (by decide) (by decide) d_Sk_judge_50
    · replace h := (if_neg c4).symm.trans h
      refine g_aload_n (i := 0) 0 ok d_Sk_judge_22 rfl rfl ?_
      refine g_iconst (v := (1 : Int32)) ok d_Sk_judge_23 (by decide) ?_
      refine g_aload_n (i := 1) 1 ok d_Sk_judge_24 rfl rfl ?_
      refine g_getiN (s0 := 11) (j := 5) (ci := 1) (C := RX1) (T := TX1) (N := 7) ok hk2 lay_11 rfl inX1 (by decide) rfl tw_456 rfl d_Sk_judge_25 ?_
      obtain ⟨x54, s53, hc52, h⟩ := bnd2_go h
      refine g_invV (rm2 := rm_Sk_refuse) (As := [vI (1 : Int32), vI (s.1 k1 5)]) (rest := []) ok ht lay_0 rfl (c_Sk_refuse X.1.2.1 (rf_self ht) hc52) cm_Sk_refuse cv_Sk_refuse tw_488 ⟨rfl, rfl⟩ ⟨le_t rfl, le_t rfl⟩ ⟨rfl, le_t rfl⟩ ⟨le_t rfl, le_t rfl⟩ d_Sk_judge_28 rfl (fun m51 => ?_)
      show G X s53 0 0 31 [(0, vR (some k)), (1, vR a1)] [vI x54]
      cases h
      exact g_iret ok (hret _ hk) (by decide) (by decide) d_Sk_judge_31
  · replace h := (if_neg c3).symm.trans h
    refine g_aload_n (i := 0) 0 ok d_Sk_judge_7 rfl rfl ?_
    refine g_iconst (v := (1 : Int32)) ok d_Sk_judge_8 (by decide) ?_
    refine g_iconst (v := (-1 : Int32)) ok d_Sk_judge_9 (by decide) ?_
    obtain ⟨x58, s57, hc56, h⟩ := bnd2_go h
    refine g_invV (rm2 := rm_Sk_refuse) (As := [vI (1 : Int32), vI (-1 : Int32)]) (rest := []) ok ht lay_0 rfl (c_Sk_refuse X.1.2.1 (rf_self ht) hc56) cm_Sk_refuse cv_Sk_refuse tw_488 ⟨rfl, rfl⟩ ⟨le_t rfl, le_t rfl⟩ ⟨rfl, le_t rfl⟩ ⟨le_t rfl, le_t rfl⟩ d_Sk_judge_10 rfl (fun m55 => ?_)
    show G X s57 0 0 13 [(0, vR (some k)), (1, vR a1)] [vI x58]
    cases h
    exact g_iret ok (hret _ hk) (by decide) (by decide) d_Sk_judge_13
theorem c_Sk_judge (l : Launch) {k : Nat} {a1 : Option Nat} {s : MS} (ht : rf s.2.2 0 (some k) = some k) {r : Int32} {z : MS} (h : f_Sk_judge k a1 s = some (r, z)) : Ct l yX4_judge (.code yX4_judge cX4_judge 6 (some .int)) rm_Sk_judge 0 0 false [vR (some k), vR a1] s (some (vI r)) z :=
  Ct.of rfl (by decide +kernel) ⟨rfl, le_t rfl⟩ (fun X ok fn _ hI hl => w_Sk_judge (KX := fun y => y = (r, z)) ok (fun y hy => by subst hy; exact fn) ht h rfl)
abbrev rm_Sk_homeward : Room := { frames := 1, cells := 0, slots := 0, locals := 20 }
theorem cm_Sk_homeward : cfM yX4_homeward cX4_homeward 5 (some .int) 2 := ⟨tw_183, tw_1, by decide, by decide, by decide +kernel⟩
theorem cs_Sk_homeward : cfS yX4_homeward := tw_182
theorem d_Sk_homeward_0 : decode cX4_homeward 0 = .ok (.iload_n 0, 1) := by decide +kernel
theorem d_Sk_homeward_1 : decode cX4_homeward 1 = .ok (.bipush 100, 2) := by decide +kernel
theorem d_Sk_homeward_3 : decode cX4_homeward 3 = .ok (.irem, 1) := by decide +kernel
theorem d_Sk_homeward_4 : decode cX4_homeward 4 = .ok (.istore_n 2, 1) := by decide +kernel
theorem d_Sk_homeward_5 : decode cX4_homeward 5 = .ok (.iload_n 0, 1) := by decide +kernel
theorem d_Sk_homeward_6 : decode cX4_homeward 6 = .ok (.invokestatic 232, 3) := by decide +kernel
theorem d_Sk_homeward_9 : decode cX4_homeward 9 = .ok (.ifCond .eq 5, 3) := by decide +kernel
theorem d_Sk_homeward_12 : decode cX4_homeward 12 = .ok (.iload_n 0, 1) := by decide +kernel
theorem d_Sk_homeward_13 : decode cX4_homeward 13 = .ok (.ireturn, 1) := by decide +kernel
theorem d_Sk_homeward_14 : decode cX4_homeward 14 = .ok (.iload_n 2, 1) := by decide +kernel
theorem d_Sk_homeward_15 : decode cX4_homeward 15 = .ok (.iload_n 1, 1) := by decide +kernel
theorem d_Sk_homeward_16 : decode cX4_homeward 16 = .ok (.if_icmp .ne 8, 3) := by decide +kernel
theorem d_Sk_homeward_19 : decode cX4_homeward 19 = .ok (.iload_n 0, 1) := by decide +kernel
theorem d_Sk_homeward_20 : decode cX4_homeward 20 = .ok (.bipush 100, 2) := by decide +kernel
theorem d_Sk_homeward_22 : decode cX4_homeward 22 = .ok (.isub, 1) := by decide +kernel
theorem d_Sk_homeward_23 : decode cX4_homeward 23 = .ok (.ireturn, 1) := by decide +kernel
theorem d_Sk_homeward_24 : decode cX4_homeward 24 = .ok (.iload_n 0, 1) := by decide +kernel
theorem d_Sk_homeward_25 : decode cX4_homeward 25 = .ok (.bipush 100, 2) := by decide +kernel
theorem d_Sk_homeward_27 : decode cX4_homeward 27 = .ok (.idiv, 1) := by decide +kernel
theorem d_Sk_homeward_28 : decode cX4_homeward 28 = .ok (.iconst 4, 1) := by decide +kernel
theorem d_Sk_homeward_29 : decode cX4_homeward 29 = .ok (.if_icmp .ge 8, 3) := by decide +kernel
theorem d_Sk_homeward_32 : decode cX4_homeward 32 = .ok (.iload_n 0, 1) := by decide +kernel
theorem d_Sk_homeward_33 : decode cX4_homeward 33 = .ok (.bipush 100, 2) := by decide +kernel
theorem d_Sk_homeward_35 : decode cX4_homeward 35 = .ok (.iadd, 1) := by decide +kernel
theorem d_Sk_homeward_36 : decode cX4_homeward 36 = .ok (.ireturn, 1) := by decide +kernel
theorem d_Sk_homeward_37 : decode cX4_homeward 37 = .ok (.iload_n 2, 1) := by decide +kernel
theorem d_Sk_homeward_38 : decode cX4_homeward 38 = .ok (.bipush 10, 2) := by decide +kernel
theorem d_Sk_homeward_40 : decode cX4_homeward 40 = .ok (.irem, 1) := by decide +kernel
theorem d_Sk_homeward_41 : decode cX4_homeward 41 = .ok (.istore_n 3, 1) := by decide +kernel
theorem d_Sk_homeward_42 : decode cX4_homeward 42 = .ok (.iload_n 1, 1) := by decide +kernel
theorem d_Sk_homeward_43 : decode cX4_homeward 43 = .ok (.bipush 10, 2) := by decide +kernel
theorem d_Sk_homeward_45 : decode cX4_homeward 45 = .ok (.irem, 1) := by decide +kernel
theorem d_Sk_homeward_46 : decode cX4_homeward 46 = .ok (.istore 4, 2) := by decide +kernel
theorem d_Sk_homeward_48 : decode cX4_homeward 48 = .ok (.iload_n 3, 1) := by decide +kernel
theorem d_Sk_homeward_49 : decode cX4_homeward 49 = .ok (.iload 4, 2) := by decide +kernel
theorem d_Sk_homeward_51 : decode cX4_homeward 51 = .ok (.if_icmp .eq 19, 3) := by decide +kernel
theorem d_Sk_homeward_54 : decode cX4_homeward 54 = .ok (.iload_n 3, 1) := by decide +kernel
theorem d_Sk_homeward_55 : decode cX4_homeward 55 = .ok (.iload 4, 2) := by decide +kernel
theorem d_Sk_homeward_57 : decode cX4_homeward 57 = .ok (.if_icmp .ge 9, 3) := by decide +kernel
theorem d_Sk_homeward_60 : decode cX4_homeward 60 = .ok (.iload_n 0, 1) := by decide +kernel
theorem d_Sk_homeward_61 : decode cX4_homeward 61 = .ok (.iconst 1, 1) := by decide +kernel
theorem d_Sk_homeward_62 : decode cX4_homeward 62 = .ok (.iadd, 1) := by decide +kernel
theorem d_Sk_homeward_63 : decode cX4_homeward 63 = .ok (.goto 6, 3) := by decide +kernel
theorem d_Sk_homeward_66 : decode cX4_homeward 66 = .ok (.iload_n 0, 1) := by decide +kernel
theorem d_Sk_homeward_67 : decode cX4_homeward 67 = .ok (.iconst 1, 1) := by decide +kernel
theorem d_Sk_homeward_68 : decode cX4_homeward 68 = .ok (.isub, 1) := by decide +kernel
theorem d_Sk_homeward_69 : decode cX4_homeward 69 = .ok (.ireturn, 1) := by decide +kernel
theorem d_Sk_homeward_70 : decode cX4_homeward 70 = .ok (.iload_n 2, 1) := by decide +kernel
theorem d_Sk_homeward_71 : decode cX4_homeward 71 = .ok (.iload_n 1, 1) := by decide +kernel
theorem d_Sk_homeward_72 : decode cX4_homeward 72 = .ok (.if_icmp .ge 10, 3) := by decide +kernel
theorem d_Sk_homeward_75 : decode cX4_homeward 75 = .ok (.iload_n 0, 1) := by decide +kernel
theorem d_Sk_homeward_76 : decode cX4_homeward 76 = .ok (.bipush 10, 2) := by decide +kernel
theorem d_Sk_homeward_78 : decode cX4_homeward 78 = .ok (.iadd, 1) := by decide +kernel
theorem d_Sk_homeward_79 : decode cX4_homeward 79 = .ok (.goto 7, 3) := by decide +kernel
theorem d_Sk_homeward_82 : decode cX4_homeward 82 = .ok (.iload_n 0, 1) := by decide +kernel
theorem d_Sk_homeward_83 : decode cX4_homeward 83 = .ok (.bipush 10, 2) := by decide +kernel
theorem d_Sk_homeward_85 : decode cX4_homeward 85 = .ok (.isub, 1) := by decide +kernel
theorem d_Sk_homeward_86 : decode cX4_homeward 86 = .ok (.ireturn, 1) := by decide +kernel
set_option maxRecDepth 100000 in
set_option maxHeartbeats 4000000 in
theorem w_Sk_homeward {X : CX} {KX : Int32 → Prop} {a0 : Int32} {a1 : Int32} {s : MS} (ok : Ok X cX4_homeward RX4 rm_Sk_homeward 5 false) (hret : ∀ r : Int32, KX r → Fin X (some .int) 0 0 false (some (vI r)) s)    {res : Int32} (h : f_Sk_homeward a0 a1 = res) (hk : KX res) : G X s 0 0 0 [(0, vI a0), (1, vI a1)] [] := by
  unfold f_Sk_homeward at h
  refine g_iload_n (i := 0) 0 ok d_Sk_homeward_0 rfl rfl ?_
  refine g_bipush (v := (100 : Int32)) ok d_Sk_homeward_1 (by decide) ?_
  refine g_irem ok d_Sk_homeward_3 (by decide) ?_
  obtain ⟨x1, e2⟩ : ∃ z, (a0 - a0 / (100 : Int32) * (100 : Int32)) = z := ⟨_, rfl⟩
  replace h := lt_go h e2
  rw [e2]
  refine g_istore_n (i := 2) [(2, vI x1), (0, vI a0), (1, vI a1)] ok d_Sk_homeward_4 rfl (by decide) rfl ?_
  refine g_iload_n (i := 0) 1 ok d_Sk_homeward_5 rfl rfl ?_
  refine g_invS (rm2 := rm_Sk_isOnGround) (As := [vI a0]) (rest := []) ok (c_Sk_isOnGround X.1.2.1) cm_Sk_isOnGround cs_Sk_isOnGround tw_184 ⟨rfl, rfl⟩ ⟨le_t rfl, le_t rfl⟩ ⟨rfl, le_t rfl⟩ ⟨le_t rfl, le_t rfl⟩ d_Sk_homeward_6 rfl (fun m3 => ?_)
  show G X s 0 0 9 [(2, vI x1), (0, vI a0), (1, vI a1)] [vI (f_Sk_isOnGround a0)]
  refine g_if_eq (tgt := 14) ok d_Sk_homeward_9 (by decide) (fun c4 => ?_) (fun c4 => ?_)
  · replace h := (if_pos c4).symm.trans h
    refine g_iload_n (i := 2) 0 ok d_Sk_homeward_14 rfl rfl ?_
    refine g_iload_n (i := 1) 2 ok d_Sk_homeward_15 rfl rfl ?_
    refine g_icmp_ne (tgt := 24) ok d_Sk_homeward_16 (by decide) (fun c5 => ?_) (fun c5 => ?_)
    · replace h := (if_pos c5).symm.trans h
      refine g_iload_n (i := 0) 1 ok d_Sk_homeward_19 rfl rfl ?_
      refine g_bipush (v := (100 : Int32)) ok d_Sk_homeward_20 (by decide) ?_
      refine g_isub ok d_Sk_homeward_22 ?_
      subst h
      exact g_iret ok (hret _ hk) (by decide) (by decide) d_Sk_homeward_23
    · replace h := (if_neg c5).symm.trans h
      refine g_iload_n (i := 0) 1 ok d_Sk_homeward_24 rfl rfl ?_
      refine g_bipush (v := (100 : Int32)) ok d_Sk_homeward_25 (by decide) ?_
      refine g_idiv ok d_Sk_homeward_27 (by decide) ?_
      refine g_iconst (v := (4 : Int32)) ok d_Sk_homeward_28 (by decide) ?_
      refine g_icmp_ge (tgt := 37) ok d_Sk_homeward_29 (by decide) (fun c6 => ?_) (fun c6 => ?_)
      · replace h := (if_pos c6).symm.trans h
        refine g_iload_n (i := 0) 1 ok d_Sk_homeward_32 rfl rfl ?_
        refine g_bipush (v := (100 : Int32)) ok d_Sk_homeward_33 (by decide) ?_
        refine g_iadd ok d_Sk_homeward_35 ?_
        subst h
        exact g_iret ok (hret _ hk) (by decide) (by decide) d_Sk_homeward_36
      · replace h := (if_neg c6).symm.trans h
        refine g_iload_n (i := 2) 0 ok d_Sk_homeward_37 rfl rfl ?_
        refine g_bipush (v := (10 : Int32)) ok d_Sk_homeward_38 (by decide) ?_
        refine g_irem ok d_Sk_homeward_40 (by decide) ?_
        obtain ⟨x7, e8⟩ : ∃ z, (x1 - x1 / (10 : Int32) * (10 : Int32)) = z := ⟨_, rfl⟩
        replace h := lt_go h e8
        rw [e8]
        refine g_istore_n (i := 3) [(3, vI x7), (2, vI x1), (0, vI a0), (1, vI a1)] ok d_Sk_homeward_41 rfl (by decide) rfl ?_
        refine g_iload_n (i := 1) 3 ok d_Sk_homeward_42 rfl rfl ?_
        refine g_bipush (v := (10 : Int32)) ok d_Sk_homeward_43 (by decide) ?_
        refine g_irem ok d_Sk_homeward_45 (by decide) ?_
        obtain ⟨x9, e10⟩ : ∃ z, (a1 - a1 / (10 : Int32) * (10 : Int32)) = z := ⟨_, rfl⟩
        replace h := lt_go h e10
        rw [e10]
        refine g_istore (i := 4) [(4, vI x9), (3, vI x7), (2, vI x1), (0, vI a0), (1, vI a1)] ok d_Sk_homeward_46 (by decide) rfl ?_
        refine g_iload_n (i := 3) 1 ok d_Sk_homeward_48 rfl rfl ?_
        refine g_iload (i := 4) 0 ok d_Sk_homeward_49 rfl ?_
        refine g_icmp_eq (tgt := 70) ok d_Sk_homeward_51 (by decide) (fun c11 => ?_) (fun c11 => ?_)
        · replace h := (if_pos c11).symm.trans h
          refine g_iload_n (i := 2) 2 ok d_Sk_homeward_70 rfl rfl ?_
          refine g_iload_n (i := 1) 4 ok d_Sk_homeward_71 rfl rfl ?_
          refine g_icmp_ge (tgt := 82) ok d_Sk_homeward_72 (by decide) (fun c12 => ?_) (fun c12 => ?_)
          · replace h := (if_pos c12).symm.trans h
            refine g_iload_n (i := 0) 3 ok d_Sk_homeward_75 rfl rfl ?_
            refine g_bipush (v := (10 : Int32)) ok d_Sk_homeward_76 (by decide) ?_
            refine g_iadd ok d_Sk_homeward_78 ?_
            refine g_goto (tgt := 86) ok d_Sk_homeward_79 (by decide) ?_
            subst h
            exact g_iret ok (hret _ hk) (by decide) (by decide) d_Sk_homeward_86
          · replace h := (if_neg c12).symm.trans h
            refine g_iload_n (i := 0) 3 ok d_Sk_homeward_82 rfl rfl ?_
            refine g_bipush (v := (10 : Int32)) ok d_Sk_homeward_83 (by decide) ?_
            refine g_isub ok d_Sk_homeward_85 ?_
            subst h
            exact g_iret ok (hret _ hk) (by decide) (by decide) d_Sk_homeward_86
        · replace h := (if_neg c11).symm.trans h
          refine g_iload_n (i := 3) 1 ok d_Sk_homeward_54 rfl rfl ?_
          refine g_iload (i := 4) 0 ok d_Sk_homeward_55 rfl ?_
          refine g_icmp_ge (tgt := 66) ok d_Sk_homeward_57 (by decide) (fun c13 => ?_) (fun c13 => ?_)
          · replace h := (if_pos c13).symm.trans h
            refine g_iload_n (i := 0) 3 ok d_Sk_homeward_60 rfl rfl ?_
            refine g_iconst (v := (1 : Int32)) ok d_Sk_homeward_61 (by decide) ?_
            refine g_iadd ok d_Sk_homeward_62 ?_
            refine g_goto (tgt := 69) ok d_Sk_homeward_63 (by decide) ?_
            subst h
            exact g_iret ok (hret _ hk) (by decide) (by decide) d_Sk_homeward_69
          · replace h := (if_neg c13).symm.trans h
            refine g_iload_n (i := 0) 3 ok d_Sk_homeward_66 rfl rfl ?_
            refine g_iconst (v := (1 : Int32)) ok d_Sk_homeward_67 (by decide) ?_
            refine g_isub ok d_Sk_homeward_68 ?_
            subst h
            exact g_iret ok (hret _ hk) (by decide) (by decide) d_Sk_homeward_69
  · replace h := (if_neg c4).symm.trans h
    refine g_iload_n (i := 0) 1 ok d_Sk_homeward_12 rfl rfl ?_
    subst h
    exact g_iret ok (hret _ hk) (by decide) (by decide) d_Sk_homeward_13
theorem c_Sk_homeward (l : Launch) {a0 : Int32} {a1 : Int32} {s : MS} : Ct l yX4_homeward (.code yX4_homeward cX4_homeward 5 (some .int)) rm_Sk_homeward 0 0 false [vI a0, vI a1] s (some (vI (f_Sk_homeward a0 a1))) s :=
  Ct.of rfl (by decide +kernel) ⟨rfl, le_t rfl⟩ (fun X ok fn _ hI hl => w_Sk_homeward (KX := fun y => y = f_Sk_homeward a0 a1) ok (fun y hy => by subst hy; exact fn) rfl rfl)
abbrev rm_Sk_moveMachines : Room := { frames := 4, cells := 0, slots := 0, locals := 88 }
theorem cm_Sk_moveMachines : cfM yX4_moveMachines cX4_moveMachines 6 none 0 := ⟨tw_590, tw_1, by decide, by decide, by decide +kernel⟩
theorem cv_Sk_moveMachines : cfV yX4_moveMachines := ⟨tw_589, ts_X4_moveMachines⟩
theorem d_Sk_moveMachines_0 : decode cX4_moveMachines 0 = .ok (.aload_n 0, 1) := by decide +kernel
theorem d_Sk_moveMachines_1 : decode cX4_moveMachines 1 = .ok (.getfield 24, 3) := by decide +kernel
theorem d_Sk_moveMachines_4 : decode cX4_moveMachines 4 = .ok (.astore_n 1, 1) := by decide +kernel
theorem d_Sk_moveMachines_5 : decode cX4_moveMachines 5 = .ok (.aload_n 1, 1) := by decide +kernel
theorem d_Sk_moveMachines_6 : decode cX4_moveMachines 6 = .ok (.arraylength, 1) := by decide +kernel
theorem d_Sk_moveMachines_7 : decode cX4_moveMachines 7 = .ok (.istore_n 2, 1) := by decide +kernel
theorem d_Sk_moveMachines_8 : decode cX4_moveMachines 8 = .ok (.iconst 0, 1) := by decide +kernel
theorem d_Sk_moveMachines_9 : decode cX4_moveMachines 9 = .ok (.istore_n 3, 1) := by decide +kernel
theorem d_Sk_moveMachines_10 : decode cX4_moveMachines 10 = .ok (.iload_n 3, 1) := by decide +kernel
theorem d_Sk_moveMachines_11 : decode cX4_moveMachines 11 = .ok (.iload_n 2, 1) := by decide +kernel
theorem d_Sk_moveMachines_12 : decode cX4_moveMachines 12 = .ok (.if_icmp .ge 109, 3) := by decide +kernel
theorem d_Sk_moveMachines_15 : decode cX4_moveMachines 15 = .ok (.aload_n 1, 1) := by decide +kernel
theorem d_Sk_moveMachines_16 : decode cX4_moveMachines 16 = .ok (.iload_n 3, 1) := by decide +kernel
theorem d_Sk_moveMachines_17 : decode cX4_moveMachines 17 = .ok (.aaload, 1) := by decide +kernel
theorem d_Sk_moveMachines_18 : decode cX4_moveMachines 18 = .ok (.astore 4, 2) := by decide +kernel
theorem d_Sk_moveMachines_20 : decode cX4_moveMachines 20 = .ok (.aload_n 0, 1) := by decide +kernel
theorem d_Sk_moveMachines_21 : decode cX4_moveMachines 21 = .ok (.aload 4, 2) := by decide +kernel
theorem d_Sk_moveMachines_23 : decode cX4_moveMachines 23 = .ok (.invokevirtual 228, 3) := by decide +kernel
theorem d_Sk_moveMachines_26 : decode cX4_moveMachines 26 = .ok (.astore 5, 2) := by decide +kernel
theorem d_Sk_moveMachines_28 : decode cX4_moveMachines 28 = .ok (.aload 5, 2) := by decide +kernel
theorem d_Sk_moveMachines_30 : decode cX4_moveMachines 30 = .ok (.ifnull 30, 3) := by decide +kernel
theorem d_Sk_moveMachines_33 : decode cX4_moveMachines 33 = .ok (.aload 5, 2) := by decide +kernel
theorem d_Sk_moveMachines_35 : decode cX4_moveMachines 35 = .ok (.getfield 195, 3) := by decide +kernel
theorem d_Sk_moveMachines_38 : decode cX4_moveMachines 38 = .ok (.aload_n 0, 1) := by decide +kernel
theorem d_Sk_moveMachines_39 : decode cX4_moveMachines 39 = .ok (.getfield 182, 3) := by decide +kernel
theorem d_Sk_moveMachines_42 : decode cX4_moveMachines 42 = .ok (.if_icmp .ge 18, 3) := by decide +kernel
theorem d_Sk_moveMachines_45 : decode cX4_moveMachines 45 = .ok (.aload_n 0, 1) := by decide +kernel
theorem d_Sk_moveMachines_46 : decode cX4_moveMachines 46 = .ok (.aload 4, 2) := by decide +kernel
theorem d_Sk_moveMachines_48 : decode cX4_moveMachines 48 = .ok (.aload 5, 2) := by decide +kernel
theorem d_Sk_moveMachines_50 : decode cX4_moveMachines 50 = .ok (.aload_n 0, 1) := by decide +kernel
theorem d_Sk_moveMachines_51 : decode cX4_moveMachines 51 = .ok (.getfield 182, 3) := by decide +kernel
theorem d_Sk_moveMachines_54 : decode cX4_moveMachines 54 = .ok (.invokevirtual 270, 3) := by decide +kernel
theorem d_Sk_moveMachines_57 : decode cX4_moveMachines 57 = .ok (.invokevirtual 376, 3) := by decide +kernel
theorem d_Sk_moveMachines_60 : decode cX4_moveMachines 60 = .ok (.aload 4, 2) := by decide +kernel
theorem d_Sk_moveMachines_62 : decode cX4_moveMachines 62 = .ok (.ifnull 31, 3) := by decide +kernel
theorem d_Sk_moveMachines_65 : decode cX4_moveMachines 65 = .ok (.aload 4, 2) := by decide +kernel
theorem d_Sk_moveMachines_67 : decode cX4_moveMachines 67 = .ok (.getfield 163, 3) := by decide +kernel
theorem d_Sk_moveMachines_70 : decode cX4_moveMachines 70 = .ok (.iconst 2, 1) := by decide +kernel
theorem d_Sk_moveMachines_71 : decode cX4_moveMachines 71 = .ok (.if_icmp .ne 22, 3) := by decide +kernel
theorem d_Sk_moveMachines_74 : decode cX4_moveMachines 74 = .ok (.aload_n 0, 1) := by decide +kernel
theorem d_Sk_moveMachines_75 : decode cX4_moveMachines 75 = .ok (.aload 4, 2) := by decide +kernel
theorem d_Sk_moveMachines_77 : decode cX4_moveMachines 77 = .ok (.aload 4, 2) := by decide +kernel
theorem d_Sk_moveMachines_79 : decode cX4_moveMachines 79 = .ok (.getfield 166, 3) := by decide +kernel
theorem d_Sk_moveMachines_82 : decode cX4_moveMachines 82 = .ok (.aload 4, 2) := by decide +kernel
theorem d_Sk_moveMachines_84 : decode cX4_moveMachines 84 = .ok (.getfield 240, 3) := by decide +kernel
theorem d_Sk_moveMachines_87 : decode cX4_moveMachines 87 = .ok (.invokestatic 380, 3) := by decide +kernel
theorem d_Sk_moveMachines_90 : decode cX4_moveMachines 90 = .ok (.invokevirtual 376, 3) := by decide +kernel
theorem d_Sk_moveMachines_93 : decode cX4_moveMachines 93 = .ok (.aload 4, 2) := by decide +kernel
theorem d_Sk_moveMachines_95 : decode cX4_moveMachines 95 = .ok (.invokestatic 383, 3) := by decide +kernel
theorem d_Sk_moveMachines_98 : decode cX4_moveMachines 98 = .ok (.ifCond .eq 17, 3) := by decide +kernel
theorem d_Sk_moveMachines_101 : decode cX4_moveMachines 101 = .ok (.aload 4, 2) := by decide +kernel
theorem d_Sk_moveMachines_103 : decode cX4_moveMachines 103 = .ok (.getfield 243, 3) := by decide +kernel
theorem d_Sk_moveMachines_106 : decode cX4_moveMachines 106 = .ok (.ifCond .ge 9, 3) := by decide +kernel
theorem d_Sk_moveMachines_109 : decode cX4_moveMachines 109 = .ok (.aload_n 0, 1) := by decide +kernel
theorem d_Sk_moveMachines_110 : decode cX4_moveMachines 110 = .ok (.aload 4, 2) := by decide +kernel
theorem d_Sk_moveMachines_112 : decode cX4_moveMachines 112 = .ok (.invokevirtual 387, 3) := by decide +kernel
theorem d_Sk_moveMachines_115 : decode cX4_moveMachines 115 = .ok (.iinc 3 1, 3) := by decide +kernel
theorem d_Sk_moveMachines_118 : decode cX4_moveMachines 118 = .ok (.goto (-108), 3) := by decide +kernel
theorem d_Sk_moveMachines_121 : decode cX4_moveMachines 121 = .ok (.return_, 1) := by decide +kernel
set_option maxRecDepth 100000 in
set_option maxHeartbeats 4000000 in
theorem w_j_Sk_moveMachines_93 {X : CX} {KX : MS → Prop} {k : Nat} {a1 : Option Nat} {a2 : Int32} {a3 : Int32} {a4 : Option Nat} {s : MS} {rec : Int32 → MS → Option (MS)} {sb : MS} (ok : Ok X cX4_moveMachines RX4 rm_Sk_moveMachines 6 false) (hexit : ∀ (z : MS), KX z → (∀ q, dm sb q → dm z q) → G X z 0 0 121 [(0, vR (some k))] []) (hrec : ∀ (v3 : Int32) (z : MS), (∀ q, dm sb q → dm z q) → ∀ y, rec v3 z = some y → KX y → G X z 0 0 10 [(0, vR (some k)), (1, vR a1), (2, vI a2), (3, vI v3)] []) (mb : ∀ q, dm sb q → dm s q) (ht : rf s.2.2 0 (some k) = some k) {res : MS} (h : j_Sk_moveMachines_93 k a1 a2 a3 a4 s rec = some res) (hk : KX res) : G X s 0 0 93 [(0, vR (some k)), (1, vR a1), (2, vI a2), (3, vI a3), (4, vR a4)] [] := by
  unfold j_Sk_moveMachines_93 at h
  refine g_aload (i := 4) 4 ok d_Sk_moveMachines_93 rfl ?_
  obtain ⟨x18, hc19, h⟩ := bnd_go h
  refine g_invS (rm2 := rm_Sk_isUnderWay) (As := [vR a4]) (rest := []) ok (c_Sk_isUnderWay X.1.2.1 hc19) cm_Sk_isUnderWay cs_Sk_isUnderWay tw_595 ⟨rfl, rfl⟩ ⟨le_t rfl, le_t rfl⟩ ⟨rfl, le_t rfl⟩ ⟨le_t rfl, le_t rfl⟩ d_Sk_moveMachines_95 rfl (fun m17 => ?_)
  show G X s 0 0 98 [(0, vR (some k)), (1, vR a1), (2, vI a2), (3, vI a3), (4, vR a4)] [vI x18]
  refine g_if_eq (tgt := 115) ok d_Sk_moveMachines_98 (by decide) (fun c20 => ?_) (fun c20 => ?_)
  · replace h := (if_pos c20).symm.trans h
    obtain ⟨x21, e22⟩ : ∃ z, a3 + (1 : Int32) = z := ⟨_, rfl⟩
    replace h := lt_go h e22
    refine g_iinc (i := 3) (v := x21) 3 [(3, vI x21), (0, vR (some k)), (1, vR a1), (2, vI a2), (4, vR a4)] ok d_Sk_moveMachines_115 rfl (by rw [← e22]; rfl) (by decide) rfl ?_
    refine g_goto (tgt := 10) ok d_Sk_moveMachines_118 (by decide) ?_
    refine g_sub [1, 2, 3, 0] rfl ?_
    exact hrec x21 s mb _ h hk
  · replace h := (if_neg c20).symm.trans h
    refine g_aload (i := 4) 4 ok d_Sk_moveMachines_101 rfl ?_
    obtain ⟨k23, hk24, h⟩ := bnd_go h
    refine g_getiN (s0 := 11) (j := 2) (ci := 1) (C := RX1) (T := TX1) (N := 7) ok hk24 lay_11 rfl inX1 (by decide) rfl tw_450 rfl d_Sk_moveMachines_103 ?_
    refine g_if_ge (tgt := 115) ok d_Sk_moveMachines_106 (by decide) (fun c25 => ?_) (fun c25 => ?_)
    · replace h := (if_pos c25).symm.trans h
      refine g_aload_n (i := 0) 0 ok d_Sk_moveMachines_109 rfl rfl ?_
      refine g_aload (i := 4) 4 ok d_Sk_moveMachines_110 rfl ?_
      obtain ⟨s28, hc27, h⟩ := bnd_go h
      refine g_invV (rm2 := rm_Sk_bringDown) (As := [vR a4]) (rest := []) ok ht lay_0 rfl (c_Sk_bringDown X.1.2.1 (rf_self ht) hc27) cm_Sk_bringDown cv_Sk_bringDown tw_598 ⟨rfl, rfl⟩ ⟨le_t rfl, le_t rfl⟩ ⟨rfl, le_t rfl⟩ ⟨le_t rfl, le_t rfl⟩ d_Sk_moveMachines_112 rfl (fun m26 => ?_)
      show G X s28 0 0 115 [(0, vR (some k)), (1, vR a1), (2, vI a2), (3, vI a3), (4, vR a4)] []
      obtain ⟨x29, e30⟩ : ∃ z, a3 + (1 : Int32) = z := ⟨_, rfl⟩
      replace h := lt_go h e30
      refine g_iinc (i := 3) (v := x29) 3 [(3, vI x29), (0, vR (some k)), (1, vR a1), (2, vI a2), (4, vR a4)] ok d_Sk_moveMachines_115 rfl (by rw [← e30]; rfl) (by decide) rfl ?_
      refine g_goto (tgt := 10) ok d_Sk_moveMachines_118 (by decide) ?_
      refine g_sub [1, 2, 3, 0] rfl ?_
      exact hrec x29 s28 (fun z hz => m26 z (mb z hz)) _ h hk
    · replace h := (if_neg c25).symm.trans h
      obtain ⟨x31, e32⟩ : ∃ z, a3 + (1 : Int32) = z := ⟨_, rfl⟩
      replace h := lt_go h e32
      refine g_iinc (i := 3) (v := x31) 3 [(3, vI x31), (0, vR (some k)), (1, vR a1), (2, vI a2), (4, vR a4)] ok d_Sk_moveMachines_115 rfl (by rw [← e32]; rfl) (by decide) rfl ?_
      refine g_goto (tgt := 10) ok d_Sk_moveMachines_118 (by decide) ?_
      refine g_sub [1, 2, 3, 0] rfl ?_
      exact hrec x31 s mb _ h hk
set_option maxRecDepth 100000 in
set_option maxHeartbeats 4000000 in
theorem w_j_Sk_moveMachines_60 {X : CX} {KX : MS → Prop} {k : Nat} {a1 : Option Nat} {a2 : Int32} {a3 : Int32} {a4 : Option Nat} {s : MS} {rec : Int32 → MS → Option (MS)} {sb : MS} (ok : Ok X cX4_moveMachines RX4 rm_Sk_moveMachines 6 false) (hexit : ∀ (z : MS), KX z → (∀ q, dm sb q → dm z q) → G X z 0 0 121 [(0, vR (some k))] []) (hrec : ∀ (v3 : Int32) (z : MS), (∀ q, dm sb q → dm z q) → ∀ y, rec v3 z = some y → KX y → G X z 0 0 10 [(0, vR (some k)), (1, vR a1), (2, vI a2), (3, vI v3)] []) (mb : ∀ q, dm sb q → dm s q) (ht : rf s.2.2 0 (some k) = some k) {res : MS} (h : j_Sk_moveMachines_60 k a1 a2 a3 a4 s rec = some res) (hk : KX res) : G X s 0 0 60 [(0, vR (some k)), (1, vR a1), (2, vI a2), (3, vI a3), (4, vR a4)] [] := by
  unfold j_Sk_moveMachines_60 at h
  refine g_aload (i := 4) 4 ok d_Sk_moveMachines_60 rfl ?_
  refine g_ifnull (tgt := 93) ok d_Sk_moveMachines_62 (by decide) (fun c16 => ?_) (fun c16 => ?_)
  · replace h := (if_pos c16).symm.trans h
    exact w_j_Sk_moveMachines_93 ok hexit hrec mb ht h hk
  · replace h := (if_neg c16).symm.trans h
    refine g_aload (i := 4) 4 ok d_Sk_moveMachines_65 rfl ?_
    obtain ⟨k33, hk34, h⟩ := bnd_go h
    refine g_getiN (s0 := 11) (j := 4) (ci := 1) (C := RX1) (T := TX1) (N := 7) ok hk34 lay_11 rfl inX1 (by decide) rfl tw_454 rfl d_Sk_moveMachines_67 ?_
    refine g_iconst (v := (2 : Int32)) ok d_Sk_moveMachines_70 (by decide) ?_
    refine g_icmp_ne (tgt := 93) ok d_Sk_moveMachines_71 (by decide) (fun c35 => ?_) (fun c35 => ?_)
    · replace h := (if_pos c35).symm.trans h
      refine g_aload_n (i := 0) 0 ok d_Sk_moveMachines_74 rfl rfl ?_
      refine g_aload (i := 4) 4 ok d_Sk_moveMachines_75 rfl ?_
      refine g_aload (i := 4) 4 ok d_Sk_moveMachines_77 rfl ?_
      refine g_getiN (s0 := 11) (j := 3) (ci := 1) (C := RX1) (T := TX1) (N := 7) ok hk34 lay_11 rfl inX1 (by decide) rfl tw_452 rfl d_Sk_moveMachines_79 ?_
      refine g_aload (i := 4) 4 ok d_Sk_moveMachines_82 rfl ?_
      refine g_getiN (s0 := 11) (j := 6) (ci := 1) (C := RX1) (T := TX1) (N := 7) ok hk34 lay_11 rfl inX1 (by decide) rfl tw_458 rfl d_Sk_moveMachines_84 ?_
      refine g_invS (rm2 := rm_Sk_homeward) (As := [vI (s.1 k33 3), vI (s.1 k33 6)]) (rest := [vR a4, vR (some k)]) ok (c_Sk_homeward X.1.2.1) cm_Sk_homeward cs_Sk_homeward tw_181 ⟨rfl, rfl⟩ ⟨le_t rfl, le_t rfl⟩ ⟨rfl, le_t rfl⟩ ⟨le_t rfl, le_t rfl⟩ d_Sk_moveMachines_87 rfl (fun m36 => ?_)
      show G X s 0 0 90 [(0, vR (some k)), (1, vR a1), (2, vI a2), (3, vI a3), (4, vR a4)] [vI (f_Sk_homeward (s.1 k33 3) (s.1 k33 6)), vR a4, vR (some k)]
      obtain ⟨s39, hc38, h⟩ := bnd_go h
      refine g_invV (rm2 := rm_Sk_moveTo) (As := [vR a4, vI (f_Sk_homeward (s.1 k33 3) (s.1 k33 6))]) (rest := []) ok ht lay_0 rfl (c_Sk_moveTo X.1.2.1 (rf_self ht) hc38) cm_Sk_moveTo cv_Sk_moveTo tw_591 ⟨rfl, rfl⟩ ⟨le_t rfl, le_t rfl⟩ ⟨rfl, le_t rfl⟩ ⟨le_t rfl, le_t rfl⟩ d_Sk_moveMachines_90 rfl (fun m37 => ?_)
      show G X s39 0 0 93 [(0, vR (some k)), (1, vR a1), (2, vI a2), (3, vI a3), (4, vR a4)] []
      exact w_j_Sk_moveMachines_93 ok hexit hrec (fun z hz => m37 z (mb z hz)) (rf_mono m37 ht) h hk
    · replace h := (if_neg c35).symm.trans h
      exact w_j_Sk_moveMachines_93 ok hexit hrec mb ht h hk
set_option maxRecDepth 100000 in
set_option maxHeartbeats 4000000 in
theorem w_b_Sk_moveMachines_10 {X : CX} {KX : MS → Prop} {k : Nat} {a1 : Option Nat} {a2 : Int32} {a3 : Int32} {s : MS} {rec : Int32 → MS → Option (MS)} {sb : MS} (ok : Ok X cX4_moveMachines RX4 rm_Sk_moveMachines 6 false) (hexit : ∀ (z : MS), KX z → (∀ q, dm sb q → dm z q) → G X z 0 0 121 [(0, vR (some k))] []) (hrec : ∀ (v3 : Int32) (z : MS), (∀ q, dm sb q → dm z q) → ∀ y, rec v3 z = some y → KX y → G X z 0 0 10 [(0, vR (some k)), (1, vR a1), (2, vI a2), (3, vI v3)] []) (mb : ∀ q, dm sb q → dm s q) (ht : rf s.2.2 0 (some k) = some k) {res : MS} (h : b_Sk_moveMachines_10 k a1 a2 a3 s rec = some res) (hk : KX res) : G X s 0 0 10 [(0, vR (some k)), (1, vR a1), (2, vI a2), (3, vI a3)] [] := by
  unfold b_Sk_moveMachines_10 at h
  refine g_iload_n (i := 3) 3 ok d_Sk_moveMachines_10 rfl rfl ?_
  refine g_iload_n (i := 2) 2 ok d_Sk_moveMachines_11 rfl rfl ?_
  refine g_icmp_ge (tgt := 121) ok d_Sk_moveMachines_12 (by decide) (fun c7 => ?_) (fun c7 => ?_)
  · replace h := (if_pos c7).symm.trans h
    refine g_aload_n (i := 1) 1 ok d_Sk_moveMachines_15 rfl rfl ?_
    refine g_iload_n (i := 3) 3 ok d_Sk_moveMachines_16 rfl rfl ?_
    obtain ⟨k8, hk9, h⟩ := bnd_go h
    refine g_aald4 ok hk9 d_Sk_moveMachines_17 ?_
    obtain ⟨x10, e11⟩ : ∃ z, (s.2.1 k8 a3.toNatClampNeg) = z := ⟨_, rfl⟩
    replace h := lt_go h e11
    rw [e11]
    refine g_astore (i := 4) [(4, vR x10), (0, vR (some k)), (1, vR a1), (2, vI a2), (3, vI a3)] ok d_Sk_moveMachines_18 (by decide) rfl ?_
    refine g_aload_n (i := 0) 1 ok d_Sk_moveMachines_20 rfl rfl ?_
    refine g_aload (i := 4) 0 ok d_Sk_moveMachines_21 rfl ?_
    obtain ⟨x13, hc14, h⟩ := bnd_go h
    refine g_invV (rm2 := rm_Sk_flownBy) (As := [vR x10]) (rest := []) ok ht lay_0 rfl (c_Sk_flownBy X.1.2.1 (rf_self ht) hc14) cm_Sk_flownBy cv_Sk_flownBy tw_141 ⟨rfl, rfl⟩ ⟨le_t rfl, le_t rfl⟩ ⟨rfl, le_t rfl⟩ ⟨le_t rfl, le_t rfl⟩ d_Sk_moveMachines_23 rfl (fun m12 => ?_)
    show G X s 0 0 26 [(4, vR x10), (0, vR (some k)), (1, vR a1), (2, vI a2), (3, vI a3)] [vR x13]
    refine g_astore (i := 5) [(5, vR x13), (4, vR x10), (0, vR (some k)), (1, vR a1), (2, vI a2), (3, vI a3)] ok d_Sk_moveMachines_26 (by decide) rfl ?_
    refine g_aload (i := 5) 0 ok d_Sk_moveMachines_28 rfl ?_
    refine g_ifnull (tgt := 60) ok d_Sk_moveMachines_30 (by decide) (fun c15 => ?_) (fun c15 => ?_)
    · replace h := (if_pos c15).symm.trans h
      refine g_sub [2, 3, 4, 5, 1] rfl ?_
      exact w_j_Sk_moveMachines_60 ok hexit hrec mb ht h hk
    · replace h := (if_neg c15).symm.trans h
      refine g_aload (i := 5) 0 ok d_Sk_moveMachines_33 rfl ?_
      obtain ⟨k40, hk41, h⟩ := bnd_go h
      refine g_getiN (s0 := 12) (j := 3) (ci := 2) (C := RX2) (T := TX2) (N := 7) ok hk41 lay_12 rfl inX2 (by decide) rfl tw_62 rfl d_Sk_moveMachines_35 ?_
      refine g_aload_n (i := 0) 2 ok d_Sk_moveMachines_38 rfl rfl ?_
      refine g_geti (s0 := 0) (j := 10) (ci := 4) (C := RX4) (T := TX4) (N := 14) ok ht lay_0 rfl inX4 (by decide) rfl tw_92 rfl d_Sk_moveMachines_39 ?_
      refine g_icmp_ge (tgt := 60) ok d_Sk_moveMachines_42 (by decide) (fun c42 => ?_) (fun c42 => ?_)
      · replace h := (if_pos c42).symm.trans h
        refine g_aload_n (i := 0) 2 ok d_Sk_moveMachines_45 rfl rfl ?_
        refine g_aload (i := 4) 1 ok d_Sk_moveMachines_46 rfl ?_
        refine g_aload (i := 5) 0 ok d_Sk_moveMachines_48 rfl ?_
        refine g_aload_n (i := 0) 2 ok d_Sk_moveMachines_50 rfl rfl ?_
        refine g_geti (s0 := 0) (j := 10) (ci := 4) (C := RX4) (T := TX4) (N := 14) ok ht lay_0 rfl inX4 (by decide) rfl tw_92 rfl d_Sk_moveMachines_51 ?_
        obtain ⟨x44, hc45, h⟩ := bnd_go h
        refine g_invVN (rm2 := rm_Pa_placeWhen) (As := [vI (s.1 k 10)]) (rest := [vR x10, vR (some k)]) ok hk41 lay_12 rfl (c_Pa_placeWhen X.1.2.1 (rf_self hk41) hc45) cm_Pa_placeWhen cv_Pa_placeWhen tw_156 ⟨rfl, rfl⟩ ⟨le_t rfl, le_t rfl⟩ ⟨rfl, le_t rfl⟩ ⟨le_t rfl, le_t rfl⟩ d_Sk_moveMachines_54 rfl (fun m43 => ?_)
        show G X s 0 0 57 [(5, vR x13), (4, vR x10), (0, vR (some k)), (1, vR a1), (2, vI a2), (3, vI a3)] [vI x44, vR x10, vR (some k)]
        obtain ⟨s48, hc47, h⟩ := bnd_go h
        refine g_invV (rm2 := rm_Sk_moveTo) (As := [vR x10, vI x44]) (rest := []) ok ht lay_0 rfl (c_Sk_moveTo X.1.2.1 (rf_self ht) hc47) cm_Sk_moveTo cv_Sk_moveTo tw_591 ⟨rfl, rfl⟩ ⟨le_t rfl, le_t rfl⟩ ⟨rfl, le_t rfl⟩ ⟨le_t rfl, le_t rfl⟩ d_Sk_moveMachines_57 rfl (fun m46 => ?_)
        show G X s48 0 0 60 [(5, vR x13), (4, vR x10), (0, vR (some k)), (1, vR a1), (2, vI a2), (3, vI a3)] []
        refine g_sub [2, 3, 4, 5, 1] rfl ?_
        exact w_j_Sk_moveMachines_60 ok hexit hrec (fun z hz => m46 z (mb z hz)) (rf_mono m46 ht) h hk
      · replace h := (if_neg c42).symm.trans h
        refine g_sub [2, 3, 4, 5, 1] rfl ?_
        exact w_j_Sk_moveMachines_60 ok hexit hrec mb ht h hk
  · replace h := (if_neg c7).symm.trans h
    refine g_sub [0] rfl ?_
    cases h
    exact hexit s hk mb
theorem wx_l_Sk_moveMachines_10 {X : CX} {KX : MS → Prop} {k : Nat} {a1 : Option Nat} {a2 : Int32} {sb : MS} (ok : Ok X cX4_moveMachines RX4 rm_Sk_moveMachines 6 false) (hexit : ∀ (z : MS), KX z → (∀ q, dm sb q → dm z q) → G X z 0 0 121 [(0, vR (some k))] []) (htb : rf sb.2.2 0 (some k) = some k) : ∀ (n : Nat) (a3 : Int32) (s : MS), (∀ q, dm sb q → dm s q) → ∀ (res : MS), l_Sk_moveMachines_10 k a1 a2 n a3 s = some res → KX res → G X s 0 0 10 [(0, vR (some k)), (1, vR a1), (2, vI a2), (3, vI a3)] [] := by
  intro n
  induction n with
  | zero => intro _ s _ res h; cases h
  | succ n ih =>
    intro a3 s mb res h hk
    exact w_b_Sk_moveMachines_10 ok hexit (fun v3 z hz y h2 hk2 => ih v3 z hz y h2 hk2) mb (rf_mono mb htb) h hk
theorem w_l_Sk_moveMachines_10 {X : CX} {KX : MS → Prop} {k : Nat} {a1 : Option Nat} {a2 : Int32} {sb : MS} (ok : Ok X cX4_moveMachines RX4 rm_Sk_moveMachines 6 false) (hexit : ∀ (z : MS), KX z → (∀ q, dm sb q → dm z q) → G X z 0 0 121 [(0, vR (some k))] []) (mb : ∀ q, dm sb q → dm sb q) (htb : rf sb.2.2 0 (some k) = some k) (n : Nat) (a3 : Int32) {res : MS} (h : l_Sk_moveMachines_10 k a1 a2 n a3 sb = some res) (hk : KX res) : G X sb 0 0 10 [(0, vR (some k)), (1, vR a1), (2, vI a2), (3, vI a3)] [] := wx_l_Sk_moveMachines_10 ok hexit htb n a3 sb mb res h hk
set_option maxRecDepth 100000 in
set_option maxHeartbeats 4000000 in
theorem w_Sk_moveMachines {X : CX} {KX : MS → Prop} {k : Nat} {s : MS} (ok : Ok X cX4_moveMachines RX4 rm_Sk_moveMachines 6 false) (hret : ∀ r : MS, KX r → Fin X none 0 0 false none r)   (ht : rf s.2.2 0 (some k) = some k) {res : MS} (h : f_Sk_moveMachines k s = some res) (hk : KX res) : G X s 0 0 0 [(0, vR (some k))] [] := by
  unfold f_Sk_moveMachines at h
  refine g_aload_n (i := 0) 0 ok d_Sk_moveMachines_0 rfl rfl ?_
  refine g_getr (s0 := 0) (j := 2) (ci := 4) (C := RX4) (T := TX4) (N := 14) ok ht lay_0 rfl inX4 (by decide) rfl tw_84 rfl d_Sk_moveMachines_1 ?_
  obtain ⟨x1, e2⟩ : ∃ z, (s.2.1 k 2) = z := ⟨_, rfl⟩
  replace h := lt_go h e2
  rw [e2]
  refine g_astore_n (i := 1) [(1, vR x1), (0, vR (some k))] ok d_Sk_moveMachines_4 rfl (by decide) rfl ?_
  refine g_aload_n (i := 1) 0 ok d_Sk_moveMachines_5 rfl rfl ?_
  obtain ⟨n3, hn4, h⟩ := bnd_go h
  refine g_alen ok hn4 (by decide) d_Sk_moveMachines_6 ?_
  obtain ⟨x5, e6⟩ : ∃ z, (Int32.ofNat n3) = z := ⟨_, rfl⟩
  replace h := lt_go h e6
  rw [e6]
  refine g_istore_n (i := 2) [(2, vI x5), (1, vR x1), (0, vR (some k))] ok d_Sk_moveMachines_7 rfl (by decide) rfl ?_
  refine g_iconst (v := (0 : Int32)) ok d_Sk_moveMachines_8 (by decide) ?_
  refine g_istore_n (i := 3) [(3, vI (0 : Int32)), (2, vI x5), (1, vR x1), (0, vR (some k))] ok d_Sk_moveMachines_9 rfl (by decide) rfl ?_
  refine g_sub [3, 2, 1, 0] rfl ?_
  obtain ⟨s50, hx, h⟩ := bnd_go h
  refine w_l_Sk_moveMachines_10 (KX := fun y => y = s50) ok (fun y0 he m49 => ?_) (fun _ hz => hz) ht _ _ hx rfl
  cases he
  cases h
  exact g_vret ok (hret _ hk) (by decide) (by decide) d_Sk_moveMachines_121
theorem c_Sk_moveMachines (l : Launch) {k : Nat} {s : MS} (ht : rf s.2.2 0 (some k) = some k) {z : MS} (h : f_Sk_moveMachines k s = some z) : Ct l yX4_moveMachines (.code yX4_moveMachines cX4_moveMachines 6 none) rm_Sk_moveMachines 0 0 false [vR (some k)] s none z :=
  Ct.of rfl (by decide +kernel) ⟨rfl, le_t rfl⟩ (fun X ok fn _ hI hl => w_Sk_moveMachines (KX := fun y => y = z) ok (fun y hy => by subst hy; exact fn) ht h rfl)
abbrev rm_Sk_bringDownThoseTogether : Room := { frames := 4, cells := 0, slots := 0, locals := 88 }
theorem cm_Sk_bringDownThoseTogether : cfM yX4_bringDownThoseTogether cX4_bringDownThoseTogether 4 none 0 := ⟨tw_605, tw_1, by decide, by decide, by decide +kernel⟩
theorem cv_Sk_bringDownThoseTogether : cfV yX4_bringDownThoseTogether := ⟨tw_604, ts_X4_bringDownThoseTogether⟩
theorem d_Sk_bringDownThoseTogether_0 : decode cX4_bringDownThoseTogether 0 = .ok (.iconst 0, 1) := by decide +kernel
theorem d_Sk_bringDownThoseTogether_1 : decode cX4_bringDownThoseTogether 1 = .ok (.istore_n 1, 1) := by decide +kernel
theorem d_Sk_bringDownThoseTogether_2 : decode cX4_bringDownThoseTogether 2 = .ok (.iconst 0, 1) := by decide +kernel
theorem d_Sk_bringDownThoseTogether_3 : decode cX4_bringDownThoseTogether 3 = .ok (.istore_n 2, 1) := by decide +kernel
theorem d_Sk_bringDownThoseTogether_4 : decode cX4_bringDownThoseTogether 4 = .ok (.iload_n 2, 1) := by decide +kernel
theorem d_Sk_bringDownThoseTogether_5 : decode cX4_bringDownThoseTogether 5 = .ok (.aload_n 0, 1) := by decide +kernel
theorem d_Sk_bringDownThoseTogether_6 : decode cX4_bringDownThoseTogether 6 = .ok (.getfield 24, 3) := by decide +kernel
theorem d_Sk_bringDownThoseTogether_9 : decode cX4_bringDownThoseTogether 9 = .ok (.arraylength, 1) := by decide +kernel
theorem d_Sk_bringDownThoseTogether_10 : decode cX4_bringDownThoseTogether 10 = .ok (.if_icmp .ge 23, 3) := by decide +kernel
theorem d_Sk_bringDownThoseTogether_13 : decode cX4_bringDownThoseTogether 13 = .ok (.aload_n 0, 1) := by decide +kernel
theorem d_Sk_bringDownThoseTogether_14 : decode cX4_bringDownThoseTogether 14 = .ok (.iload_n 2, 1) := by decide +kernel
theorem d_Sk_bringDownThoseTogether_15 : decode cX4_bringDownThoseTogether 15 = .ok (.invokevirtual 391, 3) := by decide +kernel
theorem d_Sk_bringDownThoseTogether_18 : decode cX4_bringDownThoseTogether 18 = .ok (.ifCond .eq 9, 3) := by decide +kernel
theorem d_Sk_bringDownThoseTogether_21 : decode cX4_bringDownThoseTogether 21 = .ok (.iload_n 1, 1) := by decide +kernel
theorem d_Sk_bringDownThoseTogether_22 : decode cX4_bringDownThoseTogether 22 = .ok (.iconst 1, 1) := by decide +kernel
theorem d_Sk_bringDownThoseTogether_23 : decode cX4_bringDownThoseTogether 23 = .ok (.iload_n 2, 1) := by decide +kernel
theorem d_Sk_bringDownThoseTogether_24 : decode cX4_bringDownThoseTogether 24 = .ok (.ishl, 1) := by decide +kernel
theorem d_Sk_bringDownThoseTogether_25 : decode cX4_bringDownThoseTogether 25 = .ok (.ior, 1) := by decide +kernel
theorem d_Sk_bringDownThoseTogether_26 : decode cX4_bringDownThoseTogether 26 = .ok (.istore_n 1, 1) := by decide +kernel
theorem d_Sk_bringDownThoseTogether_27 : decode cX4_bringDownThoseTogether 27 = .ok (.iinc 2 1, 3) := by decide +kernel
theorem d_Sk_bringDownThoseTogether_30 : decode cX4_bringDownThoseTogether 30 = .ok (.goto (-26), 3) := by decide +kernel
theorem d_Sk_bringDownThoseTogether_33 : decode cX4_bringDownThoseTogether 33 = .ok (.iconst 0, 1) := by decide +kernel
theorem d_Sk_bringDownThoseTogether_34 : decode cX4_bringDownThoseTogether 34 = .ok (.istore_n 2, 1) := by decide +kernel
theorem d_Sk_bringDownThoseTogether_35 : decode cX4_bringDownThoseTogether 35 = .ok (.iload_n 2, 1) := by decide +kernel
theorem d_Sk_bringDownThoseTogether_36 : decode cX4_bringDownThoseTogether 36 = .ok (.aload_n 0, 1) := by decide +kernel
theorem d_Sk_bringDownThoseTogether_37 : decode cX4_bringDownThoseTogether 37 = .ok (.getfield 24, 3) := by decide +kernel
theorem d_Sk_bringDownThoseTogether_40 : decode cX4_bringDownThoseTogether 40 = .ok (.arraylength, 1) := by decide +kernel
theorem d_Sk_bringDownThoseTogether_41 : decode cX4_bringDownThoseTogether 41 = .ok (.if_icmp .ge 44, 3) := by decide +kernel
theorem d_Sk_bringDownThoseTogether_44 : decode cX4_bringDownThoseTogether 44 = .ok (.aload_n 0, 1) := by decide +kernel
theorem d_Sk_bringDownThoseTogether_45 : decode cX4_bringDownThoseTogether 45 = .ok (.getfield 24, 3) := by decide +kernel
theorem d_Sk_bringDownThoseTogether_48 : decode cX4_bringDownThoseTogether 48 = .ok (.iload_n 2, 1) := by decide +kernel
theorem d_Sk_bringDownThoseTogether_49 : decode cX4_bringDownThoseTogether 49 = .ok (.aaload, 1) := by decide +kernel
theorem d_Sk_bringDownThoseTogether_50 : decode cX4_bringDownThoseTogether 50 = .ok (.astore_n 3, 1) := by decide +kernel
theorem d_Sk_bringDownThoseTogether_51 : decode cX4_bringDownThoseTogether 51 = .ok (.aload_n 3, 1) := by decide +kernel
theorem d_Sk_bringDownThoseTogether_52 : decode cX4_bringDownThoseTogether 52 = .ok (.ifnull 27, 3) := by decide +kernel
theorem d_Sk_bringDownThoseTogether_55 : decode cX4_bringDownThoseTogether 55 = .ok (.iload_n 1, 1) := by decide +kernel
theorem d_Sk_bringDownThoseTogether_56 : decode cX4_bringDownThoseTogether 56 = .ok (.iload_n 2, 1) := by decide +kernel
theorem d_Sk_bringDownThoseTogether_57 : decode cX4_bringDownThoseTogether 57 = .ok (.ishr, 1) := by decide +kernel
theorem d_Sk_bringDownThoseTogether_58 : decode cX4_bringDownThoseTogether 58 = .ok (.iconst 1, 1) := by decide +kernel
theorem d_Sk_bringDownThoseTogether_59 : decode cX4_bringDownThoseTogether 59 = .ok (.iand, 1) := by decide +kernel
theorem d_Sk_bringDownThoseTogether_60 : decode cX4_bringDownThoseTogether 60 = .ok (.iconst 1, 1) := by decide +kernel
theorem d_Sk_bringDownThoseTogether_61 : decode cX4_bringDownThoseTogether 61 = .ok (.if_icmp .ne 18, 3) := by decide +kernel
theorem d_Sk_bringDownThoseTogether_64 : decode cX4_bringDownThoseTogether 64 = .ok (.aload_n 0, 1) := by decide +kernel
theorem d_Sk_bringDownThoseTogether_65 : decode cX4_bringDownThoseTogether 65 = .ok (.aload_n 3, 1) := by decide +kernel
theorem d_Sk_bringDownThoseTogether_66 : decode cX4_bringDownThoseTogether 66 = .ok (.invokevirtual 387, 3) := by decide +kernel
theorem d_Sk_bringDownThoseTogether_69 : decode cX4_bringDownThoseTogether 69 = .ok (.aload_n 0, 1) := by decide +kernel
theorem d_Sk_bringDownThoseTogether_70 : decode cX4_bringDownThoseTogether 70 = .ok (.dup, 1) := by decide +kernel
theorem d_Sk_bringDownThoseTogether_71 : decode cX4_bringDownThoseTogether 71 = .ok (.getfield 298, 3) := by decide +kernel
theorem d_Sk_bringDownThoseTogether_74 : decode cX4_bringDownThoseTogether 74 = .ok (.iconst 1, 1) := by decide +kernel
theorem d_Sk_bringDownThoseTogether_75 : decode cX4_bringDownThoseTogether 75 = .ok (.iadd, 1) := by decide +kernel
theorem d_Sk_bringDownThoseTogether_76 : decode cX4_bringDownThoseTogether 76 = .ok (.putfield 298, 3) := by decide +kernel
theorem d_Sk_bringDownThoseTogether_79 : decode cX4_bringDownThoseTogether 79 = .ok (.iinc 2 1, 3) := by decide +kernel
theorem d_Sk_bringDownThoseTogether_82 : decode cX4_bringDownThoseTogether 82 = .ok (.goto (-47), 3) := by decide +kernel
theorem d_Sk_bringDownThoseTogether_85 : decode cX4_bringDownThoseTogether 85 = .ok (.return_, 1) := by decide +kernel
set_option maxRecDepth 100000 in
set_option maxHeartbeats 4000000 in
theorem w_b_Sk_bringDownThoseTogether_4 {X : CX} {KX : Int32 → Prop} {k : Nat} {a1 : Int32} {a2 : Int32} {s : MS} {rec : Int32 → Int32 → Option (Int32)} (ok : Ok X cX4_bringDownThoseTogether RX4 rm_Sk_bringDownThoseTogether 4 false) (hexit : ∀ (e1 : Int32), KX e1 → G X s 0 0 33 [(0, vR (some k)), (1, vI e1)] []) (hrec : ∀ (v1 : Int32) (v2 : Int32), ∀ y, rec v1 v2 = some y → KX y → G X s 0 0 4 [(0, vR (some k)), (1, vI v1), (2, vI v2)] []) (ht : rf s.2.2 0 (some k) = some k) {res : Int32} (h : b_Sk_bringDownThoseTogether_4 k a1 a2 s rec = some res) (hk : KX res) : G X s 0 0 4 [(0, vR (some k)), (1, vI a1), (2, vI a2)] [] := by
  unfold b_Sk_bringDownThoseTogether_4 at h
  refine g_iload_n (i := 2) 2 ok d_Sk_bringDownThoseTogether_4 rfl rfl ?_
  refine g_aload_n (i := 0) 0 ok d_Sk_bringDownThoseTogether_5 rfl rfl ?_
  refine g_getr (s0 := 0) (j := 2) (ci := 4) (C := RX4) (T := TX4) (N := 14) ok ht lay_0 rfl inX4 (by decide) rfl tw_84 rfl d_Sk_bringDownThoseTogether_6 ?_
  obtain ⟨n1, hn2, h⟩ := bnd_go h
  refine g_alen ok hn2 (by decide) d_Sk_bringDownThoseTogether_9 ?_
  refine g_icmp_ge (tgt := 33) ok d_Sk_bringDownThoseTogether_10 (by decide) (fun c3 => ?_) (fun c3 => ?_)
  · replace h := (if_pos c3).symm.trans h
    refine g_aload_n (i := 0) 0 ok d_Sk_bringDownThoseTogether_13 rfl rfl ?_
    refine g_iload_n (i := 2) 2 ok d_Sk_bringDownThoseTogether_14 rfl rfl ?_
    obtain ⟨x5, hc6, h⟩ := bnd_go h
    refine g_invV (rm2 := rm_Sk_isTogether) (As := [vI a2]) (rest := []) ok ht lay_0 rfl (c_Sk_isTogether X.1.2.1 (rf_self ht) hc6) cm_Sk_isTogether cv_Sk_isTogether tw_606 ⟨rfl, rfl⟩ ⟨le_t rfl, le_t rfl⟩ ⟨rfl, le_t rfl⟩ ⟨le_t rfl, le_t rfl⟩ d_Sk_bringDownThoseTogether_15 rfl (fun m4 => ?_)
    show G X s 0 0 18 [(0, vR (some k)), (1, vI a1), (2, vI a2)] [vI x5]
    refine g_if_eq (tgt := 27) ok d_Sk_bringDownThoseTogether_18 (by decide) (fun c7 => ?_) (fun c7 => ?_)
    · replace h := (if_pos c7).symm.trans h
      obtain ⟨x8, e9⟩ : ∃ z, a2 + (1 : Int32) = z := ⟨_, rfl⟩
      replace h := lt_go h e9
      refine g_iinc (i := 2) (v := x8) 2 [(2, vI x8), (0, vR (some k)), (1, vI a1)] ok d_Sk_bringDownThoseTogether_27 rfl (by rw [← e9]; rfl) (by decide) rfl ?_
      refine g_goto (tgt := 4) ok d_Sk_bringDownThoseTogether_30 (by decide) ?_
      refine g_sub [1, 2, 0] rfl ?_
      exact hrec a1 x8 _ h hk
    · replace h := (if_neg c7).symm.trans h
      refine g_iload_n (i := 1) 1 ok d_Sk_bringDownThoseTogether_21 rfl rfl ?_
      refine g_iconst (v := (1 : Int32)) ok d_Sk_bringDownThoseTogether_22 (by decide) ?_
      refine g_iload_n (i := 2) 2 ok d_Sk_bringDownThoseTogether_23 rfl rfl ?_
      refine g_ishl ok d_Sk_bringDownThoseTogether_24 ?_
      refine g_ior ok d_Sk_bringDownThoseTogether_25 ?_
      obtain ⟨x10, e11⟩ : ∃ z, (a1 ||| ((1 : Int32) <<< (a2 &&& (31 : Int32)))) = z := ⟨_, rfl⟩
      replace h := lt_go h e11
      rw [e11]
      refine g_istore_n (i := 1) [(1, vI x10), (0, vR (some k)), (2, vI a2)] ok d_Sk_bringDownThoseTogether_26 rfl (by decide) rfl ?_
      obtain ⟨x12, e13⟩ : ∃ z, a2 + (1 : Int32) = z := ⟨_, rfl⟩
      replace h := lt_go h e13
      refine g_iinc (i := 2) (v := x12) 2 [(2, vI x12), (1, vI x10), (0, vR (some k))] ok d_Sk_bringDownThoseTogether_27 rfl (by rw [← e13]; rfl) (by decide) rfl ?_
      refine g_goto (tgt := 4) ok d_Sk_bringDownThoseTogether_30 (by decide) ?_
      refine g_sub [2, 1, 0] rfl ?_
      exact hrec x10 x12 _ h hk
  · replace h := (if_neg c3).symm.trans h
    refine g_sub [0, 1] rfl ?_
    cases h
    exact hexit a1 hk
theorem w_l_Sk_bringDownThoseTogether_4 {X : CX} {KX : Int32 → Prop} {k : Nat} {s : MS} (ok : Ok X cX4_bringDownThoseTogether RX4 rm_Sk_bringDownThoseTogether 4 false) (hexit : ∀ (e1 : Int32), KX e1 → G X s 0 0 33 [(0, vR (some k)), (1, vI e1)] []) (ht : rf s.2.2 0 (some k) = some k) : ∀ (n : Nat) (a1 : Int32) (a2 : Int32) {res : Int32}, l_Sk_bringDownThoseTogether_4 k s n a1 a2 = some res → KX res → G X s 0 0 4 [(0, vR (some k)), (1, vI a1), (2, vI a2)] [] := by
  intro n
  induction n with
  | zero => intro _ _ res h; cases h
  | succ n ih =>
    intro a1 a2 res h hk
    exact w_b_Sk_bringDownThoseTogether_4 ok hexit (fun v1 v2 y h2 hk2 => ih v1 v2 h2 hk2) ht h hk
set_option maxRecDepth 100000 in
set_option maxHeartbeats 4000000 in
theorem w_b_Sk_bringDownThoseTogether_35 {X : CX} {KX : MS → Prop} {k : Nat} {a1 : Int32} {a2 : Int32} {s : MS} {rec : Int32 → MS → Option (MS)} {sb : MS} (ok : Ok X cX4_bringDownThoseTogether RX4 rm_Sk_bringDownThoseTogether 4 false) (hexit : ∀ (z : MS), KX z → (∀ q, dm sb q → dm z q) → G X z 0 0 85 [(0, vR (some k))] []) (hrec : ∀ (v2 : Int32) (z : MS), (∀ q, dm sb q → dm z q) → ∀ y, rec v2 z = some y → KX y → G X z 0 0 35 [(0, vR (some k)), (1, vI a1), (2, vI v2)] []) (mb : ∀ q, dm sb q → dm s q) (ht : rf s.2.2 0 (some k) = some k) {res : MS} (h : b_Sk_bringDownThoseTogether_35 k a1 a2 s rec = some res) (hk : KX res) : G X s 0 0 35 [(0, vR (some k)), (1, vI a1), (2, vI a2)] [] := by
  unfold b_Sk_bringDownThoseTogether_35 at h
  refine g_iload_n (i := 2) 2 ok d_Sk_bringDownThoseTogether_35 rfl rfl ?_
  refine g_aload_n (i := 0) 0 ok d_Sk_bringDownThoseTogether_36 rfl rfl ?_
  refine g_getr (s0 := 0) (j := 2) (ci := 4) (C := RX4) (T := TX4) (N := 14) ok ht lay_0 rfl inX4 (by decide) rfl tw_84 rfl d_Sk_bringDownThoseTogether_37 ?_
  obtain ⟨n15, hn16, h⟩ := bnd_go h
  refine g_alen ok hn16 (by decide) d_Sk_bringDownThoseTogether_40 ?_
  refine g_icmp_ge (tgt := 85) ok d_Sk_bringDownThoseTogether_41 (by decide) (fun c17 => ?_) (fun c17 => ?_)
  · replace h := (if_pos c17).symm.trans h
    refine g_aload_n (i := 0) 0 ok d_Sk_bringDownThoseTogether_44 rfl rfl ?_
    refine g_getr (s0 := 0) (j := 2) (ci := 4) (C := RX4) (T := TX4) (N := 14) ok ht lay_0 rfl inX4 (by decide) rfl tw_84 rfl d_Sk_bringDownThoseTogether_45 ?_
    refine g_iload_n (i := 2) 2 ok d_Sk_bringDownThoseTogether_48 rfl rfl ?_
    obtain ⟨k18, hk19, h⟩ := bnd_go h
    refine g_aald4 ok hk19 d_Sk_bringDownThoseTogether_49 ?_
    obtain ⟨x20, e21⟩ : ∃ z, (s.2.1 k18 a2.toNatClampNeg) = z := ⟨_, rfl⟩
    replace h := lt_go h e21
    rw [e21]
    refine g_astore_n (i := 3) [(3, vR x20), (0, vR (some k)), (1, vI a1), (2, vI a2)] ok d_Sk_bringDownThoseTogether_50 rfl (by decide) rfl ?_
    refine g_aload_n (i := 3) 0 ok d_Sk_bringDownThoseTogether_51 rfl rfl ?_
    refine g_ifnull (tgt := 79) ok d_Sk_bringDownThoseTogether_52 (by decide) (fun c22 => ?_) (fun c22 => ?_)
    · replace h := (if_pos c22).symm.trans h
      obtain ⟨x23, e24⟩ : ∃ z, a2 + (1 : Int32) = z := ⟨_, rfl⟩
      replace h := lt_go h e24
      refine g_iinc (i := 2) (v := x23) 3 [(2, vI x23), (3, vR x20), (0, vR (some k)), (1, vI a1)] ok d_Sk_bringDownThoseTogether_79 rfl (by rw [← e24]; rfl) (by decide) rfl ?_
      refine g_goto (tgt := 35) ok d_Sk_bringDownThoseTogether_82 (by decide) ?_
      refine g_sub [2, 3, 0] rfl ?_
      exact hrec x23 s mb _ h hk
    · replace h := (if_neg c22).symm.trans h
      refine g_iload_n (i := 1) 2 ok d_Sk_bringDownThoseTogether_55 rfl rfl ?_
      refine g_iload_n (i := 2) 3 ok d_Sk_bringDownThoseTogether_56 rfl rfl ?_
      refine g_ishr ok d_Sk_bringDownThoseTogether_57 ?_
      refine g_iconst (v := (1 : Int32)) ok d_Sk_bringDownThoseTogether_58 (by decide) ?_
      refine g_iand ok d_Sk_bringDownThoseTogether_59 ?_
      refine g_iconst (v := (1 : Int32)) ok d_Sk_bringDownThoseTogether_60 (by decide) ?_
      refine g_icmp_ne (tgt := 79) ok d_Sk_bringDownThoseTogether_61 (by decide) (fun c25 => ?_) (fun c25 => ?_)
      · replace h := (if_pos c25).symm.trans h
        refine g_aload_n (i := 0) 1 ok d_Sk_bringDownThoseTogether_64 rfl rfl ?_
        refine g_aload_n (i := 3) 0 ok d_Sk_bringDownThoseTogether_65 rfl rfl ?_
        obtain ⟨s28, hc27, h⟩ := bnd_go h
        refine g_invV (rm2 := rm_Sk_bringDown) (As := [vR x20]) (rest := []) ok ht lay_0 rfl (c_Sk_bringDown X.1.2.1 (rf_self ht) hc27) cm_Sk_bringDown cv_Sk_bringDown tw_598 ⟨rfl, rfl⟩ ⟨le_t rfl, le_t rfl⟩ ⟨rfl, le_t rfl⟩ ⟨le_t rfl, le_t rfl⟩ d_Sk_bringDownThoseTogether_66 rfl (fun m26 => ?_)
        show G X s28 0 0 69 [(3, vR x20), (0, vR (some k)), (1, vI a1), (2, vI a2)] []
        refine g_aload_n (i := 0) 1 ok d_Sk_bringDownThoseTogether_69 rfl rfl ?_
        refine g_dup ok d_Sk_bringDownThoseTogether_70 rfl ?_
        refine g_geti (s0 := 0) (j := 13) (ci := 4) (C := RX4) (T := TX4) (N := 14) ok (rf_mono m26 ht) lay_0 rfl inX4 (by decide) rfl tw_95 rfl d_Sk_bringDownThoseTogether_71 ?_
        refine g_iconst (v := (1 : Int32)) ok d_Sk_bringDownThoseTogether_74 (by decide) ?_
        refine g_iadd ok d_Sk_bringDownThoseTogether_75 ?_
        refine g_puti (s0 := 0) (j := 13) (ci := 4) (C := RX4) (T := TX4) (N := 14) ok (rf_mono m26 ht) lay_0 rfl inX4 (by decide) rfl tw_95 rfl tyX4_ok nmX4 rfl (Or.inl rfl) d_Sk_bringDownThoseTogether_76 ?_
        obtain ⟨s29, e30⟩ : ∃ z, wi s28 k 13 ((s28.1 k 13) + (1 : Int32)) = z := ⟨_, rfl⟩
        replace h := lt_go h e30
        have m31 := mo_wi e30
        rw [e30]
        obtain ⟨x32, e33⟩ : ∃ z, a2 + (1 : Int32) = z := ⟨_, rfl⟩
        replace h := lt_go h e33
        refine g_iinc (i := 2) (v := x32) 3 [(2, vI x32), (3, vR x20), (0, vR (some k)), (1, vI a1)] ok d_Sk_bringDownThoseTogether_79 rfl (by rw [← e33]; rfl) (by decide) rfl ?_
        refine g_goto (tgt := 35) ok d_Sk_bringDownThoseTogether_82 (by decide) ?_
        refine g_sub [2, 3, 0] rfl ?_
        exact hrec x32 s29 (fun z hz => m31 z ((fun z hz => m26 z (mb z hz)) z hz)) _ h hk
      · replace h := (if_neg c25).symm.trans h
        obtain ⟨x34, e35⟩ : ∃ z, a2 + (1 : Int32) = z := ⟨_, rfl⟩
        replace h := lt_go h e35
        refine g_iinc (i := 2) (v := x34) 3 [(2, vI x34), (3, vR x20), (0, vR (some k)), (1, vI a1)] ok d_Sk_bringDownThoseTogether_79 rfl (by rw [← e35]; rfl) (by decide) rfl ?_
        refine g_goto (tgt := 35) ok d_Sk_bringDownThoseTogether_82 (by decide) ?_
        refine g_sub [2, 3, 0] rfl ?_
        exact hrec x34 s mb _ h hk
  · replace h := (if_neg c17).symm.trans h
    refine g_sub [0] rfl ?_
    cases h
    exact hexit s hk mb
theorem wx_l_Sk_bringDownThoseTogether_35 {X : CX} {KX : MS → Prop} {k : Nat} {a1 : Int32} {sb : MS} (ok : Ok X cX4_bringDownThoseTogether RX4 rm_Sk_bringDownThoseTogether 4 false) (hexit : ∀ (z : MS), KX z → (∀ q, dm sb q → dm z q) → G X z 0 0 85 [(0, vR (some k))] []) (htb : rf sb.2.2 0 (some k) = some k) : ∀ (n : Nat) (a2 : Int32) (s : MS), (∀ q, dm sb q → dm s q) → ∀ (res : MS), l_Sk_bringDownThoseTogether_35 k a1 n a2 s = some res → KX res → G X s 0 0 35 [(0, vR (some k)), (1, vI a1), (2, vI a2)] [] := by
  intro n
  induction n with
  | zero => intro _ s _ res h; cases h
  | succ n ih =>
    intro a2 s mb res h hk
    exact w_b_Sk_bringDownThoseTogether_35 ok hexit (fun v2 z hz y h2 hk2 => ih v2 z hz y h2 hk2) mb (rf_mono mb htb) h hk
theorem w_l_Sk_bringDownThoseTogether_35 {X : CX} {KX : MS → Prop} {k : Nat} {a1 : Int32} {sb : MS} (ok : Ok X cX4_bringDownThoseTogether RX4 rm_Sk_bringDownThoseTogether 4 false) (hexit : ∀ (z : MS), KX z → (∀ q, dm sb q → dm z q) → G X z 0 0 85 [(0, vR (some k))] []) (mb : ∀ q, dm sb q → dm sb q) (htb : rf sb.2.2 0 (some k) = some k) (n : Nat) (a2 : Int32) {res : MS} (h : l_Sk_bringDownThoseTogether_35 k a1 n a2 sb = some res) (hk : KX res) : G X sb 0 0 35 [(0, vR (some k)), (1, vI a1), (2, vI a2)] [] := wx_l_Sk_bringDownThoseTogether_35 ok hexit htb n a2 sb mb res h hk
set_option maxRecDepth 100000 in
set_option maxHeartbeats 4000000 in
theorem w_Sk_bringDownThoseTogether {X : CX} {KX : MS → Prop} {k : Nat} {s : MS} (ok : Ok X cX4_bringDownThoseTogether RX4 rm_Sk_bringDownThoseTogether 4 false) (hret : ∀ r : MS, KX r → Fin X none 0 0 false none r)   (ht : rf s.2.2 0 (some k) = some k) {res : MS} (h : f_Sk_bringDownThoseTogether k s = some res) (hk : KX res) : G X s 0 0 0 [(0, vR (some k))] [] := by
  unfold f_Sk_bringDownThoseTogether at h
  refine g_iconst (v := (0 : Int32)) ok d_Sk_bringDownThoseTogether_0 (by decide) ?_
  refine g_istore_n (i := 1) [(1, vI (0 : Int32)), (0, vR (some k))] ok d_Sk_bringDownThoseTogether_1 rfl (by decide) rfl ?_
  refine g_iconst (v := (0 : Int32)) ok d_Sk_bringDownThoseTogether_2 (by decide) ?_
  refine g_istore_n (i := 2) [(2, vI (0 : Int32)), (1, vI (0 : Int32)), (0, vR (some k))] ok d_Sk_bringDownThoseTogether_3 rfl (by decide) rfl ?_
  refine g_sub [2, 1, 0] rfl ?_
  obtain ⟨e14, hx, h⟩ := bnd_go h
  refine w_l_Sk_bringDownThoseTogether_4 (KX := fun y => y = e14) ok (fun y0 he => ?_) ht _ _ _ hx rfl
  cases he
  refine g_iconst (v := (0 : Int32)) ok d_Sk_bringDownThoseTogether_33 (by decide) ?_
  refine g_istore_n (i := 2) [(2, vI (0 : Int32)), (0, vR (some k)), (1, vI e14)] ok d_Sk_bringDownThoseTogether_34 rfl (by decide) rfl ?_
  refine g_sub [1, 2, 0] rfl ?_
  obtain ⟨s37, hx, h⟩ := bnd_go h
  refine w_l_Sk_bringDownThoseTogether_35 (KX := fun y => y = s37) ok (fun y0 he m36 => ?_) (fun _ hz => hz) ht _ _ hx rfl
  cases he
  cases h
  exact g_vret ok (hret _ hk) (by decide) (by decide) d_Sk_bringDownThoseTogether_85
theorem c_Sk_bringDownThoseTogether (l : Launch) {k : Nat} {s : MS} (ht : rf s.2.2 0 (some k) = some k) {z : MS} (h : f_Sk_bringDownThoseTogether k s = some z) : Ct l yX4_bringDownThoseTogether (.code yX4_bringDownThoseTogether cX4_bringDownThoseTogether 4 none) rm_Sk_bringDownThoseTogether 0 0 false [vR (some k)] s none z :=
  Ct.of rfl (by decide +kernel) ⟨rfl, le_t rfl⟩ (fun X ok fn _ hI hl => w_Sk_bringDownThoseTogether (KX := fun y => y = z) ok (fun y hy => by subst hy; exact fn) ht h rfl)
abbrev rm_Sk_landMachines : Room := { frames := 3, cells := 0, slots := 0, locals := 66 }
theorem cm_Sk_landMachines : cfM yX4_landMachines cX4_landMachines 6 none 0 := ⟨tw_613, tw_1, by decide, by decide, by decide +kernel⟩
theorem cv_Sk_landMachines : cfV yX4_landMachines := ⟨tw_612, ts_X4_landMachines⟩
theorem d_Sk_landMachines_0 : decode cX4_landMachines 0 = .ok (.aload_n 0, 1) := by decide +kernel
theorem d_Sk_landMachines_1 : decode cX4_landMachines 1 = .ok (.getfield 24, 3) := by decide +kernel
theorem d_Sk_landMachines_4 : decode cX4_landMachines 4 = .ok (.astore_n 1, 1) := by decide +kernel
theorem d_Sk_landMachines_5 : decode cX4_landMachines 5 = .ok (.aload_n 1, 1) := by decide +kernel
theorem d_Sk_landMachines_6 : decode cX4_landMachines 6 = .ok (.arraylength, 1) := by decide +kernel
theorem d_Sk_landMachines_7 : decode cX4_landMachines 7 = .ok (.istore_n 2, 1) := by decide +kernel
theorem d_Sk_landMachines_8 : decode cX4_landMachines 8 = .ok (.iconst 0, 1) := by decide +kernel
theorem d_Sk_landMachines_9 : decode cX4_landMachines 9 = .ok (.istore_n 3, 1) := by decide +kernel
theorem d_Sk_landMachines_10 : decode cX4_landMachines 10 = .ok (.iload_n 3, 1) := by decide +kernel
theorem d_Sk_landMachines_11 : decode cX4_landMachines 11 = .ok (.iload_n 2, 1) := by decide +kernel
theorem d_Sk_landMachines_12 : decode cX4_landMachines 12 = .ok (.if_icmp .ge 83, 3) := by decide +kernel
theorem d_Sk_landMachines_15 : decode cX4_landMachines 15 = .ok (.aload_n 1, 1) := by decide +kernel
theorem d_Sk_landMachines_16 : decode cX4_landMachines 16 = .ok (.iload_n 3, 1) := by decide +kernel
theorem d_Sk_landMachines_17 : decode cX4_landMachines 17 = .ok (.aaload, 1) := by decide +kernel
theorem d_Sk_landMachines_18 : decode cX4_landMachines 18 = .ok (.astore 4, 2) := by decide +kernel
theorem d_Sk_landMachines_20 : decode cX4_landMachines 20 = .ok (.aload_n 0, 1) := by decide +kernel
theorem d_Sk_landMachines_21 : decode cX4_landMachines 21 = .ok (.aload 4, 2) := by decide +kernel
theorem d_Sk_landMachines_23 : decode cX4_landMachines 23 = .ok (.invokevirtual 228, 3) := by decide +kernel
theorem d_Sk_landMachines_26 : decode cX4_landMachines 26 = .ok (.astore 5, 2) := by decide +kernel
theorem d_Sk_landMachines_28 : decode cX4_landMachines 28 = .ok (.aload 5, 2) := by decide +kernel
theorem d_Sk_landMachines_30 : decode cX4_landMachines 30 = .ok (.ifnull 28, 3) := by decide +kernel
theorem d_Sk_landMachines_33 : decode cX4_landMachines 33 = .ok (.aload 5, 2) := by decide +kernel
theorem d_Sk_landMachines_35 : decode cX4_landMachines 35 = .ok (.invokevirtual 256, 3) := by decide +kernel
theorem d_Sk_landMachines_38 : decode cX4_landMachines 38 = .ok (.aload_n 0, 1) := by decide +kernel
theorem d_Sk_landMachines_39 : decode cX4_landMachines 39 = .ok (.getfield 182, 3) := by decide +kernel
theorem d_Sk_landMachines_42 : decode cX4_landMachines 42 = .ok (.if_icmp .gt 16, 3) := by decide +kernel
theorem d_Sk_landMachines_45 : decode cX4_landMachines 45 = .ok (.aload_n 0, 1) := by decide +kernel
theorem d_Sk_landMachines_46 : decode cX4_landMachines 46 = .ok (.aload 5, 2) := by decide +kernel
theorem d_Sk_landMachines_48 : decode cX4_landMachines 48 = .ok (.iconst 2, 1) := by decide +kernel
theorem d_Sk_landMachines_49 : decode cX4_landMachines 49 = .ok (.invokevirtual 217, 3) := by decide +kernel
theorem d_Sk_landMachines_52 : decode cX4_landMachines 52 = .ok (.aload 4, 2) := by decide +kernel
theorem d_Sk_landMachines_54 : decode cX4_landMachines 54 = .ok (.iconst 0, 1) := by decide +kernel
theorem d_Sk_landMachines_55 : decode cX4_landMachines 55 = .ok (.putfield 163, 3) := by decide +kernel
theorem d_Sk_landMachines_58 : decode cX4_landMachines 58 = .ok (.aload 4, 2) := by decide +kernel
theorem d_Sk_landMachines_60 : decode cX4_landMachines 60 = .ok (.ifnull 29, 3) := by decide +kernel
theorem d_Sk_landMachines_63 : decode cX4_landMachines 63 = .ok (.aload 4, 2) := by decide +kernel
theorem d_Sk_landMachines_65 : decode cX4_landMachines 65 = .ok (.getfield 163, 3) := by decide +kernel
theorem d_Sk_landMachines_68 : decode cX4_landMachines 68 = .ok (.iconst 2, 1) := by decide +kernel
theorem d_Sk_landMachines_69 : decode cX4_landMachines 69 = .ok (.if_icmp .ne 20, 3) := by decide +kernel
theorem d_Sk_landMachines_72 : decode cX4_landMachines 72 = .ok (.aload 4, 2) := by decide +kernel
theorem d_Sk_landMachines_74 : decode cX4_landMachines 74 = .ok (.getfield 166, 3) := by decide +kernel
theorem d_Sk_landMachines_77 : decode cX4_landMachines 77 = .ok (.invokestatic 232, 3) := by decide +kernel
theorem d_Sk_landMachines_80 : decode cX4_landMachines 80 = .ok (.ifCond .eq 9, 3) := by decide +kernel
theorem d_Sk_landMachines_83 : decode cX4_landMachines 83 = .ok (.aload 4, 2) := by decide +kernel
theorem d_Sk_landMachines_85 : decode cX4_landMachines 85 = .ok (.iconst 0, 1) := by decide +kernel
theorem d_Sk_landMachines_86 : decode cX4_landMachines 86 = .ok (.putfield 163, 3) := by decide +kernel
theorem d_Sk_landMachines_89 : decode cX4_landMachines 89 = .ok (.iinc 3 1, 3) := by decide +kernel
theorem d_Sk_landMachines_92 : decode cX4_landMachines 92 = .ok (.goto (-82), 3) := by decide +kernel
theorem d_Sk_landMachines_95 : decode cX4_landMachines 95 = .ok (.return_, 1) := by decide +kernel
set_option maxRecDepth 100000 in
set_option maxHeartbeats 4000000 in
theorem w_j_Sk_landMachines_58 {X : CX} {KX : MS → Prop} {k : Nat} {a1 : Option Nat} {a2 : Int32} {a3 : Int32} {a4 : Option Nat} {s : MS} {rec : Int32 → MS → Option (MS)} {sb : MS} (ok : Ok X cX4_landMachines RX4 rm_Sk_landMachines 6 false) (hexit : ∀ (z : MS), KX z → (∀ q, dm sb q → dm z q) → G X z 0 0 95 [(0, vR (some k))] []) (hrec : ∀ (v3 : Int32) (z : MS), (∀ q, dm sb q → dm z q) → ∀ y, rec v3 z = some y → KX y → G X z 0 0 10 [(0, vR (some k)), (1, vR a1), (2, vI a2), (3, vI v3)] []) (mb : ∀ q, dm sb q → dm s q) (ht : rf s.2.2 0 (some k) = some k) {res : MS} (h : j_Sk_landMachines_58 k a1 a2 a3 a4 s rec = some res) (hk : KX res) : G X s 0 0 58 [(0, vR (some k)), (1, vR a1), (2, vI a2), (3, vI a3), (4, vR a4)] [] := by
  unfold j_Sk_landMachines_58 at h
  refine g_aload (i := 4) 4 ok d_Sk_landMachines_58 rfl ?_
  refine g_ifnull (tgt := 89) ok d_Sk_landMachines_60 (by decide) (fun c16 => ?_) (fun c16 => ?_)
  · replace h := (if_pos c16).symm.trans h
    obtain ⟨x17, e18⟩ : ∃ z, a3 + (1 : Int32) = z := ⟨_, rfl⟩
    replace h := lt_go h e18
    refine g_iinc (i := 3) (v := x17) 3 [(3, vI x17), (0, vR (some k)), (1, vR a1), (2, vI a2), (4, vR a4)] ok d_Sk_landMachines_89 rfl (by rw [← e18]; rfl) (by decide) rfl ?_
    refine g_goto (tgt := 10) ok d_Sk_landMachines_92 (by decide) ?_
    refine g_sub [1, 2, 3, 0] rfl ?_
    exact hrec x17 s mb _ h hk
  · replace h := (if_neg c16).symm.trans h
    refine g_aload (i := 4) 4 ok d_Sk_landMachines_63 rfl ?_
    obtain ⟨k19, hk20, h⟩ := bnd_go h
    refine g_getiN (s0 := 11) (j := 4) (ci := 1) (C := RX1) (T := TX1) (N := 7) ok hk20 lay_11 rfl inX1 (by decide) rfl tw_454 rfl d_Sk_landMachines_65 ?_
    refine g_iconst (v := (2 : Int32)) ok d_Sk_landMachines_68 (by decide) ?_
    refine g_icmp_ne (tgt := 89) ok d_Sk_landMachines_69 (by decide) (fun c21 => ?_) (fun c21 => ?_)
    · replace h := (if_pos c21).symm.trans h
      refine g_aload (i := 4) 4 ok d_Sk_landMachines_72 rfl ?_
      refine g_getiN (s0 := 11) (j := 3) (ci := 1) (C := RX1) (T := TX1) (N := 7) ok hk20 lay_11 rfl inX1 (by decide) rfl tw_452 rfl d_Sk_landMachines_74 ?_
      refine g_invS (rm2 := rm_Sk_isOnGround) (As := [vI (s.1 k19 3)]) (rest := []) ok (c_Sk_isOnGround X.1.2.1) cm_Sk_isOnGround cs_Sk_isOnGround tw_184 ⟨rfl, rfl⟩ ⟨le_t rfl, le_t rfl⟩ ⟨rfl, le_t rfl⟩ ⟨le_t rfl, le_t rfl⟩ d_Sk_landMachines_77 rfl (fun m22 => ?_)
      show G X s 0 0 80 [(0, vR (some k)), (1, vR a1), (2, vI a2), (3, vI a3), (4, vR a4)] [vI (f_Sk_isOnGround (s.1 k19 3))]
      refine g_if_eq (tgt := 89) ok d_Sk_landMachines_80 (by decide) (fun c23 => ?_) (fun c23 => ?_)
      · replace h := (if_pos c23).symm.trans h
        obtain ⟨x24, e25⟩ : ∃ z, a3 + (1 : Int32) = z := ⟨_, rfl⟩
        replace h := lt_go h e25
        refine g_iinc (i := 3) (v := x24) 3 [(3, vI x24), (0, vR (some k)), (1, vR a1), (2, vI a2), (4, vR a4)] ok d_Sk_landMachines_89 rfl (by rw [← e25]; rfl) (by decide) rfl ?_
        refine g_goto (tgt := 10) ok d_Sk_landMachines_92 (by decide) ?_
        refine g_sub [1, 2, 3, 0] rfl ?_
        exact hrec x24 s mb _ h hk
      · replace h := (if_neg c23).symm.trans h
        refine g_aload (i := 4) 4 ok d_Sk_landMachines_83 rfl ?_
        refine g_iconst (v := (0 : Int32)) ok d_Sk_landMachines_85 (by decide) ?_
        refine g_putiN (s0 := 11) (j := 4) (ci := 1) (C := RX1) (T := TX1) (N := 7) ok hk20 lay_11 rfl inX1 (by decide) rfl tw_454 rfl tyX1_ok nmX1 rfl (Or.inl rfl) d_Sk_landMachines_86 ?_
        obtain ⟨s26, e27⟩ : ∃ z, wi s k19 4 (0 : Int32) = z := ⟨_, rfl⟩
        replace h := lt_go h e27
        have m28 := mo_wi e27
        rw [e27]
        obtain ⟨x29, e30⟩ : ∃ z, a3 + (1 : Int32) = z := ⟨_, rfl⟩
        replace h := lt_go h e30
        refine g_iinc (i := 3) (v := x29) 3 [(3, vI x29), (0, vR (some k)), (1, vR a1), (2, vI a2), (4, vR a4)] ok d_Sk_landMachines_89 rfl (by rw [← e30]; rfl) (by decide) rfl ?_
        refine g_goto (tgt := 10) ok d_Sk_landMachines_92 (by decide) ?_
        refine g_sub [1, 2, 3, 0] rfl ?_
        exact hrec x29 s26 (fun z hz => m28 z (mb z hz)) _ h hk
    · replace h := (if_neg c21).symm.trans h
      obtain ⟨x31, e32⟩ : ∃ z, a3 + (1 : Int32) = z := ⟨_, rfl⟩
      replace h := lt_go h e32
      refine g_iinc (i := 3) (v := x31) 3 [(3, vI x31), (0, vR (some k)), (1, vR a1), (2, vI a2), (4, vR a4)] ok d_Sk_landMachines_89 rfl (by rw [← e32]; rfl) (by decide) rfl ?_
      refine g_goto (tgt := 10) ok d_Sk_landMachines_92 (by decide) ?_
      refine g_sub [1, 2, 3, 0] rfl ?_
      exact hrec x31 s mb _ h hk
set_option maxRecDepth 100000 in
set_option maxHeartbeats 4000000 in
theorem w_b_Sk_landMachines_10 {X : CX} {KX : MS → Prop} {k : Nat} {a1 : Option Nat} {a2 : Int32} {a3 : Int32} {s : MS} {rec : Int32 → MS → Option (MS)} {sb : MS} (ok : Ok X cX4_landMachines RX4 rm_Sk_landMachines 6 false) (hexit : ∀ (z : MS), KX z → (∀ q, dm sb q → dm z q) → G X z 0 0 95 [(0, vR (some k))] []) (hrec : ∀ (v3 : Int32) (z : MS), (∀ q, dm sb q → dm z q) → ∀ y, rec v3 z = some y → KX y → G X z 0 0 10 [(0, vR (some k)), (1, vR a1), (2, vI a2), (3, vI v3)] []) (mb : ∀ q, dm sb q → dm s q) (ht : rf s.2.2 0 (some k) = some k) {res : MS} (h : b_Sk_landMachines_10 k a1 a2 a3 s rec = some res) (hk : KX res) : G X s 0 0 10 [(0, vR (some k)), (1, vR a1), (2, vI a2), (3, vI a3)] [] := by
  unfold b_Sk_landMachines_10 at h
  refine g_iload_n (i := 3) 3 ok d_Sk_landMachines_10 rfl rfl ?_
  refine g_iload_n (i := 2) 2 ok d_Sk_landMachines_11 rfl rfl ?_
  refine g_icmp_ge (tgt := 95) ok d_Sk_landMachines_12 (by decide) (fun c7 => ?_) (fun c7 => ?_)
  · replace h := (if_pos c7).symm.trans h
    refine g_aload_n (i := 1) 1 ok d_Sk_landMachines_15 rfl rfl ?_
    refine g_iload_n (i := 3) 3 ok d_Sk_landMachines_16 rfl rfl ?_
    obtain ⟨k8, hk9, h⟩ := bnd_go h
    refine g_aald4 ok hk9 d_Sk_landMachines_17 ?_
    obtain ⟨x10, e11⟩ : ∃ z, (s.2.1 k8 a3.toNatClampNeg) = z := ⟨_, rfl⟩
    replace h := lt_go h e11
    rw [e11]
    refine g_astore (i := 4) [(4, vR x10), (0, vR (some k)), (1, vR a1), (2, vI a2), (3, vI a3)] ok d_Sk_landMachines_18 (by decide) rfl ?_
    refine g_aload_n (i := 0) 1 ok d_Sk_landMachines_20 rfl rfl ?_
    refine g_aload (i := 4) 0 ok d_Sk_landMachines_21 rfl ?_
    obtain ⟨x13, hc14, h⟩ := bnd_go h
    refine g_invV (rm2 := rm_Sk_flownBy) (As := [vR x10]) (rest := []) ok ht lay_0 rfl (c_Sk_flownBy X.1.2.1 (rf_self ht) hc14) cm_Sk_flownBy cv_Sk_flownBy tw_141 ⟨rfl, rfl⟩ ⟨le_t rfl, le_t rfl⟩ ⟨rfl, le_t rfl⟩ ⟨le_t rfl, le_t rfl⟩ d_Sk_landMachines_23 rfl (fun m12 => ?_)
    show G X s 0 0 26 [(4, vR x10), (0, vR (some k)), (1, vR a1), (2, vI a2), (3, vI a3)] [vR x13]
    refine g_astore (i := 5) [(5, vR x13), (4, vR x10), (0, vR (some k)), (1, vR a1), (2, vI a2), (3, vI a3)] ok d_Sk_landMachines_26 (by decide) rfl ?_
    refine g_aload (i := 5) 0 ok d_Sk_landMachines_28 rfl ?_
    refine g_ifnull (tgt := 58) ok d_Sk_landMachines_30 (by decide) (fun c15 => ?_) (fun c15 => ?_)
    · replace h := (if_pos c15).symm.trans h
      refine g_sub [2, 3, 4, 5, 1] rfl ?_
      exact w_j_Sk_landMachines_58 ok hexit hrec mb ht h hk
    · replace h := (if_neg c15).symm.trans h
      refine g_aload (i := 5) 0 ok d_Sk_landMachines_33 rfl ?_
      obtain ⟨k33, hk34, h⟩ := bnd_go h
      obtain ⟨x36, hc37, h⟩ := bnd_go h
      refine g_invVN (rm2 := rm_Pa_end) (As := []) (rest := []) ok hk34 lay_12 rfl (c_Pa_end X.1.2.1 (rf_self hk34) hc37) cm_Pa_end cv_Pa_end tw_614 ⟨rfl, rfl⟩ ⟨le_t rfl, le_t rfl⟩ ⟨rfl, le_t rfl⟩ ⟨le_t rfl, le_t rfl⟩ d_Sk_landMachines_35 rfl (fun m35 => ?_)
      show G X s 0 0 38 [(5, vR x13), (4, vR x10), (0, vR (some k)), (1, vR a1), (2, vI a2), (3, vI a3)] [vI x36]
      refine g_aload_n (i := 0) 2 ok d_Sk_landMachines_38 rfl rfl ?_
      refine g_geti (s0 := 0) (j := 10) (ci := 4) (C := RX4) (T := TX4) (N := 14) ok ht lay_0 rfl inX4 (by decide) rfl tw_92 rfl d_Sk_landMachines_39 ?_
      refine g_icmp_gt (tgt := 58) ok d_Sk_landMachines_42 (by decide) (fun c38 => ?_) (fun c38 => ?_)
      · replace h := (if_pos c38).symm.trans h
        refine g_sub [2, 3, 4, 5, 1] rfl ?_
        exact w_j_Sk_landMachines_58 ok hexit hrec mb ht h hk
      · replace h := (if_neg c38).symm.trans h
        refine g_aload_n (i := 0) 2 ok d_Sk_landMachines_45 rfl rfl ?_
        refine g_aload (i := 5) 0 ok d_Sk_landMachines_46 rfl ?_
        refine g_iconst (v := (2 : Int32)) ok d_Sk_landMachines_48 (by decide) ?_
        obtain ⟨s41, hc40, h⟩ := bnd_go h
        refine g_invV (rm2 := rm_Sk_finish) (As := [vR x13, vI (2 : Int32)]) (rest := []) ok ht lay_0 rfl (c_Sk_finish X.1.2.1 (rf_self ht) hc40) cm_Sk_finish cv_Sk_finish tw_411 ⟨rfl, rfl⟩ ⟨le_t rfl, le_t rfl⟩ ⟨rfl, le_t rfl⟩ ⟨le_t rfl, le_t rfl⟩ d_Sk_landMachines_49 rfl (fun m39 => ?_)
        show G X s41 0 0 52 [(5, vR x13), (4, vR x10), (0, vR (some k)), (1, vR a1), (2, vI a2), (3, vI a3)] []
        refine g_aload (i := 4) 1 ok d_Sk_landMachines_52 rfl ?_
        refine g_iconst (v := (0 : Int32)) ok d_Sk_landMachines_54 (by decide) ?_
        obtain ⟨k42, hk43, h⟩ := bnd_go h
        refine g_putiN (s0 := 11) (j := 4) (ci := 1) (C := RX1) (T := TX1) (N := 7) ok hk43 lay_11 rfl inX1 (by decide) rfl tw_454 rfl tyX1_ok nmX1 rfl (Or.inl rfl) d_Sk_landMachines_55 ?_
        obtain ⟨s44, e45⟩ : ∃ z, wi s41 k42 4 (0 : Int32) = z := ⟨_, rfl⟩
        replace h := lt_go h e45
        have m46 := mo_wi e45
        rw [e45]
        refine g_sub [2, 3, 4, 5, 1] rfl ?_
        exact w_j_Sk_landMachines_58 ok hexit hrec (fun z hz => m46 z ((fun z hz => m39 z (mb z hz)) z hz)) (rf_mono m46 (rf_mono m39 ht)) h hk
  · replace h := (if_neg c7).symm.trans h
    refine g_sub [0] rfl ?_
    cases h
    exact hexit s hk mb
theorem wx_l_Sk_landMachines_10 {X : CX} {KX : MS → Prop} {k : Nat} {a1 : Option Nat} {a2 : Int32} {sb : MS} (ok : Ok X cX4_landMachines RX4 rm_Sk_landMachines 6 false) (hexit : ∀ (z : MS), KX z → (∀ q, dm sb q → dm z q) → G X z 0 0 95 [(0, vR (some k))] []) (htb : rf sb.2.2 0 (some k) = some k) : ∀ (n : Nat) (a3 : Int32) (s : MS), (∀ q, dm sb q → dm s q) → ∀ (res : MS), l_Sk_landMachines_10 k a1 a2 n a3 s = some res → KX res → G X s 0 0 10 [(0, vR (some k)), (1, vR a1), (2, vI a2), (3, vI a3)] [] := by
  intro n
  induction n with
  | zero => intro _ s _ res h; cases h
  | succ n ih =>
    intro a3 s mb res h hk
    exact w_b_Sk_landMachines_10 ok hexit (fun v3 z hz y h2 hk2 => ih v3 z hz y h2 hk2) mb (rf_mono mb htb) h hk
theorem w_l_Sk_landMachines_10 {X : CX} {KX : MS → Prop} {k : Nat} {a1 : Option Nat} {a2 : Int32} {sb : MS} (ok : Ok X cX4_landMachines RX4 rm_Sk_landMachines 6 false) (hexit : ∀ (z : MS), KX z → (∀ q, dm sb q → dm z q) → G X z 0 0 95 [(0, vR (some k))] []) (mb : ∀ q, dm sb q → dm sb q) (htb : rf sb.2.2 0 (some k) = some k) (n : Nat) (a3 : Int32) {res : MS} (h : l_Sk_landMachines_10 k a1 a2 n a3 sb = some res) (hk : KX res) : G X sb 0 0 10 [(0, vR (some k)), (1, vR a1), (2, vI a2), (3, vI a3)] [] := wx_l_Sk_landMachines_10 ok hexit htb n a3 sb mb res h hk
set_option maxRecDepth 100000 in
set_option maxHeartbeats 4000000 in
theorem w_Sk_landMachines {X : CX} {KX : MS → Prop} {k : Nat} {s : MS} (ok : Ok X cX4_landMachines RX4 rm_Sk_landMachines 6 false) (hret : ∀ r : MS, KX r → Fin X none 0 0 false none r)   (ht : rf s.2.2 0 (some k) = some k) {res : MS} (h : f_Sk_landMachines k s = some res) (hk : KX res) : G X s 0 0 0 [(0, vR (some k))] [] := by
  unfold f_Sk_landMachines at h
  refine g_aload_n (i := 0) 0 ok d_Sk_landMachines_0 rfl rfl ?_
  refine g_getr (s0 := 0) (j := 2) (ci := 4) (C := RX4) (T := TX4) (N := 14) ok ht lay_0 rfl inX4 (by decide) rfl tw_84 rfl d_Sk_landMachines_1 ?_
  obtain ⟨x1, e2⟩ : ∃ z, (s.2.1 k 2) = z := ⟨_, rfl⟩
  replace h := lt_go h e2
  rw [e2]
  refine g_astore_n (i := 1) [(1, vR x1), (0, vR (some k))] ok d_Sk_landMachines_4 rfl (by decide) rfl ?_
  refine g_aload_n (i := 1) 0 ok d_Sk_landMachines_5 rfl rfl ?_
  obtain ⟨n3, hn4, h⟩ := bnd_go h
  refine g_alen ok hn4 (by decide) d_Sk_landMachines_6 ?_
  obtain ⟨x5, e6⟩ : ∃ z, (Int32.ofNat n3) = z := ⟨_, rfl⟩
  replace h := lt_go h e6
  rw [e6]
  refine g_istore_n (i := 2) [(2, vI x5), (1, vR x1), (0, vR (some k))] ok d_Sk_landMachines_7 rfl (by decide) rfl ?_
  refine g_iconst (v := (0 : Int32)) ok d_Sk_landMachines_8 (by decide) ?_
  refine g_istore_n (i := 3) [(3, vI (0 : Int32)), (2, vI x5), (1, vR x1), (0, vR (some k))] ok d_Sk_landMachines_9 rfl (by decide) rfl ?_
  refine g_sub [3, 2, 1, 0] rfl ?_
  obtain ⟨s48, hx, h⟩ := bnd_go h
  refine w_l_Sk_landMachines_10 (KX := fun y => y = s48) ok (fun y0 he m47 => ?_) (fun _ hz => hz) ht _ _ hx rfl
  cases he
  cases h
  exact g_vret ok (hret _ hk) (by decide) (by decide) d_Sk_landMachines_95
theorem c_Sk_landMachines (l : Launch) {k : Nat} {s : MS} (ht : rf s.2.2 0 (some k) = some k) {z : MS} (h : f_Sk_landMachines k s = some z) : Ct l yX4_landMachines (.code yX4_landMachines cX4_landMachines 6 none) rm_Sk_landMachines 0 0 false [vR (some k)] s none z :=
  Ct.of rfl (by decide +kernel) ⟨rfl, le_t rfl⟩ (fun X ok fn _ hI hl => w_Sk_landMachines (KX := fun y => y = z) ok (fun y hy => by subst hy; exact fn) ht h rfl)
abbrev rm_Sk_step : Room := { frames := 5, cells := 0, slots := 0, locals := 113 }
theorem cm_Sk_step : cfM yX4_step cX4_step 1 none 0 := ⟨tw_578, tw_1, by decide, by decide, by decide +kernel⟩
theorem cv_Sk_step : cfV yX4_step := ⟨tw_577, ts_X4_step⟩
theorem d_Sk_step_0 : decode cX4_step 0 = .ok (.aload_n 0, 1) := by decide +kernel
theorem d_Sk_step_1 : decode cX4_step 1 = .ok (.dup, 1) := by decide +kernel
theorem d_Sk_step_2 : decode cX4_step 2 = .ok (.getfield 182, 3) := by decide +kernel
theorem d_Sk_step_5 : decode cX4_step 5 = .ok (.iconst 1, 1) := by decide +kernel
theorem d_Sk_step_6 : decode cX4_step 6 = .ok (.iadd, 1) := by decide +kernel
theorem d_Sk_step_7 : decode cX4_step 7 = .ok (.putfield 182, 3) := by decide +kernel
theorem d_Sk_step_10 : decode cX4_step 10 = .ok (.aload_n 0, 1) := by decide +kernel
theorem d_Sk_step_11 : decode cX4_step 11 = .ok (.invokevirtual 361, 3) := by decide +kernel
theorem d_Sk_step_14 : decode cX4_step 14 = .ok (.aload_n 0, 1) := by decide +kernel
theorem d_Sk_step_15 : decode cX4_step 15 = .ok (.invokevirtual 364, 3) := by decide +kernel
theorem d_Sk_step_18 : decode cX4_step 18 = .ok (.aload_n 0, 1) := by decide +kernel
theorem d_Sk_step_19 : decode cX4_step 19 = .ok (.invokevirtual 367, 3) := by decide +kernel
theorem d_Sk_step_22 : decode cX4_step 22 = .ok (.aload_n 0, 1) := by decide +kernel
theorem d_Sk_step_23 : decode cX4_step 23 = .ok (.invokevirtual 370, 3) := by decide +kernel
theorem d_Sk_step_26 : decode cX4_step 26 = .ok (.aload_n 0, 1) := by decide +kernel
theorem d_Sk_step_27 : decode cX4_step 27 = .ok (.invokevirtual 373, 3) := by decide +kernel
theorem d_Sk_step_30 : decode cX4_step 30 = .ok (.return_, 1) := by decide +kernel
set_option maxRecDepth 100000 in
set_option maxHeartbeats 4000000 in
theorem w_Sk_step {X : CX} {KX : MS → Prop} {k : Nat} {s : MS} (ok : Ok X cX4_step RX4 rm_Sk_step 1 false) (hret : ∀ r : MS, KX r → Fin X none 0 0 false none r)   (ht : rf s.2.2 0 (some k) = some k) {res : MS} (h : f_Sk_step k s = some res) (hk : KX res) : G X s 0 0 0 [(0, vR (some k))] [] := by
  unfold f_Sk_step at h
  refine g_aload_n (i := 0) 0 ok d_Sk_step_0 rfl rfl ?_
  refine g_dup ok d_Sk_step_1 rfl ?_
  refine g_geti (s0 := 0) (j := 10) (ci := 4) (C := RX4) (T := TX4) (N := 14) ok ht lay_0 rfl inX4 (by decide) rfl tw_92 rfl d_Sk_step_2 ?_
  refine g_iconst (v := (1 : Int32)) ok d_Sk_step_5 (by decide) ?_
  refine g_iadd ok d_Sk_step_6 ?_
  refine g_puti (s0 := 0) (j := 10) (ci := 4) (C := RX4) (T := TX4) (N := 14) ok ht lay_0 rfl inX4 (by decide) rfl tw_92 rfl tyX4_ok nmX4 rfl (Or.inl rfl) d_Sk_step_7 ?_
  obtain ⟨s1, e2⟩ : ∃ z, wi s k 10 ((s.1 k 10) + (1 : Int32)) = z := ⟨_, rfl⟩
  replace h := lt_go h e2
  have m3 := mo_wi e2
  rw [e2]
  refine g_aload_n (i := 0) 0 ok d_Sk_step_10 rfl rfl ?_
  obtain ⟨s6, hc5, h⟩ := bnd_go h
  refine g_invV (rm2 := rm_Sk_chargeParked) (As := []) (rest := []) ok (rf_mono m3 ht) lay_0 rfl (c_Sk_chargeParked X.1.2.1 (rf_self (rf_mono m3 ht)) hc5) cm_Sk_chargeParked cv_Sk_chargeParked tw_579 ⟨rfl, rfl⟩ ⟨le_t rfl, le_t rfl⟩ ⟨rfl, le_t rfl⟩ ⟨le_t rfl, le_t rfl⟩ d_Sk_step_11 rfl (fun m4 => ?_)
  show G X s6 0 0 14 [(0, vR (some k))] []
  refine g_aload_n (i := 0) 0 ok d_Sk_step_14 rfl rfl ?_
  obtain ⟨s9, hc8, h⟩ := bnd_go h
  refine g_invV (rm2 := rm_Sk_beginPaths) (As := []) (rest := []) ok (rf_mono m4 (rf_mono m3 ht)) lay_0 rfl (c_Sk_beginPaths X.1.2.1 (rf_self (rf_mono m4 (rf_mono m3 ht))) hc8) cm_Sk_beginPaths cv_Sk_beginPaths tw_583 ⟨rfl, rfl⟩ ⟨le_t rfl, le_t rfl⟩ ⟨rfl, le_t rfl⟩ ⟨le_t rfl, le_t rfl⟩ d_Sk_step_15 rfl (fun m7 => ?_)
  show G X s9 0 0 18 [(0, vR (some k))] []
  refine g_aload_n (i := 0) 0 ok d_Sk_step_18 rfl rfl ?_
  obtain ⟨s12, hc11, h⟩ := bnd_go h
  refine g_invV (rm2 := rm_Sk_moveMachines) (As := []) (rest := []) ok (rf_mono m7 (rf_mono m4 (rf_mono m3 ht))) lay_0 rfl (c_Sk_moveMachines X.1.2.1 (rf_self (rf_mono m7 (rf_mono m4 (rf_mono m3 ht)))) hc11) cm_Sk_moveMachines cv_Sk_moveMachines tw_587 ⟨rfl, rfl⟩ ⟨le_t rfl, le_t rfl⟩ ⟨rfl, le_t rfl⟩ ⟨le_t rfl, le_t rfl⟩ d_Sk_step_19 rfl (fun m10 => ?_)
  show G X s12 0 0 22 [(0, vR (some k))] []
  refine g_aload_n (i := 0) 0 ok d_Sk_step_22 rfl rfl ?_
  obtain ⟨s15, hc14, h⟩ := bnd_go h
  refine g_invV (rm2 := rm_Sk_bringDownThoseTogether) (As := []) (rest := []) ok (rf_mono m10 (rf_mono m7 (rf_mono m4 (rf_mono m3 ht)))) lay_0 rfl (c_Sk_bringDownThoseTogether X.1.2.1 (rf_self (rf_mono m10 (rf_mono m7 (rf_mono m4 (rf_mono m3 ht))))) hc14) cm_Sk_bringDownThoseTogether cv_Sk_bringDownThoseTogether tw_602 ⟨rfl, rfl⟩ ⟨le_t rfl, le_t rfl⟩ ⟨rfl, le_t rfl⟩ ⟨le_t rfl, le_t rfl⟩ d_Sk_step_23 rfl (fun m13 => ?_)
  show G X s15 0 0 26 [(0, vR (some k))] []
  refine g_aload_n (i := 0) 0 ok d_Sk_step_26 rfl rfl ?_
  obtain ⟨s18, hc17, h⟩ := bnd_go h
  refine g_invV (rm2 := rm_Sk_landMachines) (As := []) (rest := []) ok (rf_mono m13 (rf_mono m10 (rf_mono m7 (rf_mono m4 (rf_mono m3 ht))))) lay_0 rfl (c_Sk_landMachines X.1.2.1 (rf_self (rf_mono m13 (rf_mono m10 (rf_mono m7 (rf_mono m4 (rf_mono m3 ht)))))) hc17) cm_Sk_landMachines cv_Sk_landMachines tw_610 ⟨rfl, rfl⟩ ⟨le_t rfl, le_t rfl⟩ ⟨rfl, le_t rfl⟩ ⟨le_t rfl, le_t rfl⟩ d_Sk_step_27 rfl (fun m16 => ?_)
  show G X s18 0 0 30 [(0, vR (some k))] []
  cases h
  exact g_vret ok (hret _ hk) (by decide) (by decide) d_Sk_step_30
theorem c_Sk_step (l : Launch) {k : Nat} {s : MS} (ht : rf s.2.2 0 (some k) = some k) {z : MS} (h : f_Sk_step k s = some z) : Ct l yX4_step (.code yX4_step cX4_step 1 none) rm_Sk_step 0 0 false [vR (some k)] s none z :=
  Ct.of rfl (by decide +kernel) ⟨rfl, le_t rfl⟩ (fun X ok fn _ hI hl => w_Sk_step (KX := fun y => y = z) ok (fun y hy => by subst hy; exact fn) ht h rfl)
abbrev rm_Sk_canBeHeld : Room := { frames := 5, cells := 0, slots := 0, locals := 116 }
theorem cm_Sk_canBeHeld : cfM yX4_canBeHeld cX4_canBeHeld 7 (some .boolean) 3 := ⟨tw_637, tw_1, by decide, by decide, by decide +kernel⟩
theorem cv_Sk_canBeHeld : cfV yX4_canBeHeld := ⟨tw_636, ts_X4_canBeHeld⟩
theorem d_Sk_canBeHeld_0 : decode cX4_canBeHeld 0 = .ok (.aload_n 1, 1) := by decide +kernel
theorem d_Sk_canBeHeld_1 : decode cX4_canBeHeld 1 = .ok (.getfield 172, 3) := by decide +kernel
theorem d_Sk_canBeHeld_4 : decode cX4_canBeHeld 4 = .ok (.iload_n 2, 1) := by decide +kernel
theorem d_Sk_canBeHeld_5 : decode cX4_canBeHeld 5 = .ok (.iadd, 1) := by decide +kernel
theorem d_Sk_canBeHeld_6 : decode cX4_canBeHeld 6 = .ok (.bipush 80, 2) := by decide +kernel
theorem d_Sk_canBeHeld_8 : decode cX4_canBeHeld 8 = .ok (.if_icmp .le 5, 3) := by decide +kernel
theorem d_Sk_canBeHeld_11 : decode cX4_canBeHeld 11 = .ok (.iconst 0, 1) := by decide +kernel
theorem d_Sk_canBeHeld_12 : decode cX4_canBeHeld 12 = .ok (.ireturn, 1) := by decide +kernel
theorem d_Sk_canBeHeld_13 : decode cX4_canBeHeld 13 = .ok (.aload_n 0, 1) := by decide +kernel
theorem d_Sk_canBeHeld_14 : decode cX4_canBeHeld 14 = .ok (.getfield 182, 3) := by decide +kernel
theorem d_Sk_canBeHeld_17 : decode cX4_canBeHeld 17 = .ok (.aload_n 1, 1) := by decide +kernel
theorem d_Sk_canBeHeld_18 : decode cX4_canBeHeld 18 = .ok (.getfield 195, 3) := by decide +kernel
theorem d_Sk_canBeHeld_21 : decode cX4_canBeHeld 21 = .ok (.isub, 1) := by decide +kernel
theorem d_Sk_canBeHeld_22 : decode cX4_canBeHeld 22 = .ok (.istore 4, 2) := by decide +kernel
theorem d_Sk_canBeHeld_24 : decode cX4_canBeHeld 24 = .ok (.aload_n 0, 1) := by decide +kernel
theorem d_Sk_canBeHeld_25 : decode cX4_canBeHeld 25 = .ok (.getfield 39, 3) := by decide +kernel
theorem d_Sk_canBeHeld_28 : decode cX4_canBeHeld 28 = .ok (.aload_n 1, 1) := by decide +kernel
theorem d_Sk_canBeHeld_29 : decode cX4_canBeHeld 29 = .ok (.getfield 189, 3) := by decide +kernel
theorem d_Sk_canBeHeld_32 : decode cX4_canBeHeld 32 = .ok (.putfield 189, 3) := by decide +kernel
theorem d_Sk_canBeHeld_35 : decode cX4_canBeHeld 35 = .ok (.aload_n 0, 1) := by decide +kernel
theorem d_Sk_canBeHeld_36 : decode cX4_canBeHeld 36 = .ok (.getfield 39, 3) := by decide +kernel
theorem d_Sk_canBeHeld_39 : decode cX4_canBeHeld 39 = .ok (.aload_n 1, 1) := by decide +kernel
theorem d_Sk_canBeHeld_40 : decode cX4_canBeHeld 40 = .ok (.getfield 195, 3) := by decide +kernel
theorem d_Sk_canBeHeld_43 : decode cX4_canBeHeld 43 = .ok (.putfield 195, 3) := by decide +kernel
theorem d_Sk_canBeHeld_46 : decode cX4_canBeHeld 46 = .ok (.aload_n 0, 1) := by decide +kernel
theorem d_Sk_canBeHeld_47 : decode cX4_canBeHeld 47 = .ok (.getfield 39, 3) := by decide +kernel
theorem d_Sk_canBeHeld_50 : decode cX4_canBeHeld 50 = .ok (.aload_n 1, 1) := by decide +kernel
theorem d_Sk_canBeHeld_51 : decode cX4_canBeHeld 51 = .ok (.getfield 172, 3) := by decide +kernel
theorem d_Sk_canBeHeld_54 : decode cX4_canBeHeld 54 = .ok (.iload_n 2, 1) := by decide +kernel
theorem d_Sk_canBeHeld_55 : decode cX4_canBeHeld 55 = .ok (.iadd, 1) := by decide +kernel
theorem d_Sk_canBeHeld_56 : decode cX4_canBeHeld 56 = .ok (.putfield 172, 3) := by decide +kernel
theorem d_Sk_canBeHeld_59 : decode cX4_canBeHeld 59 = .ok (.iconst 0, 1) := by decide +kernel
theorem d_Sk_canBeHeld_60 : decode cX4_canBeHeld 60 = .ok (.istore 5, 2) := by decide +kernel
theorem d_Sk_canBeHeld_62 : decode cX4_canBeHeld 62 = .ok (.iload 5, 2) := by decide +kernel
theorem d_Sk_canBeHeld_64 : decode cX4_canBeHeld 64 = .ok (.aload_n 0, 1) := by decide +kernel
theorem d_Sk_canBeHeld_65 : decode cX4_canBeHeld 65 = .ok (.getfield 39, 3) := by decide +kernel
theorem d_Sk_canBeHeld_68 : decode cX4_canBeHeld 68 = .ok (.getfield 172, 3) := by decide +kernel
theorem d_Sk_canBeHeld_71 : decode cX4_canBeHeld 71 = .ok (.if_icmp .gt 47, 3) := by decide +kernel
theorem d_Sk_canBeHeld_74 : decode cX4_canBeHeld 74 = .ok (.iload 5, 2) := by decide +kernel
theorem d_Sk_canBeHeld_76 : decode cX4_canBeHeld 76 = .ok (.iload 4, 2) := by decide +kernel
theorem d_Sk_canBeHeld_78 : decode cX4_canBeHeld 78 = .ok (.if_icmp .gt 8, 3) := by decide +kernel
theorem d_Sk_canBeHeld_81 : decode cX4_canBeHeld 81 = .ok (.iload 5, 2) := by decide +kernel
theorem d_Sk_canBeHeld_83 : decode cX4_canBeHeld 83 = .ok (.goto 12, 3) := by decide +kernel
theorem d_Sk_canBeHeld_86 : decode cX4_canBeHeld 86 = .ok (.iload 4, 2) := by decide +kernel
theorem d_Sk_canBeHeld_88 : decode cX4_canBeHeld 88 = .ok (.iload 5, 2) := by decide +kernel
theorem d_Sk_canBeHeld_90 : decode cX4_canBeHeld 90 = .ok (.iload_n 2, 1) := by decide +kernel
theorem d_Sk_canBeHeld_91 : decode cX4_canBeHeld 91 = .ok (.isub, 1) := by decide +kernel
theorem d_Sk_canBeHeld_92 : decode cX4_canBeHeld 92 = .ok (.invokestatic 350, 3) := by decide +kernel
theorem d_Sk_canBeHeld_95 : decode cX4_canBeHeld 95 = .ok (.istore 6, 2) := by decide +kernel
theorem d_Sk_canBeHeld_97 : decode cX4_canBeHeld 97 = .ok (.aload_n 0, 1) := by decide +kernel
theorem d_Sk_canBeHeld_98 : decode cX4_canBeHeld 98 = .ok (.getfield 39, 3) := by decide +kernel
theorem d_Sk_canBeHeld_101 : decode cX4_canBeHeld 101 = .ok (.iload 5, 2) := by decide +kernel
theorem d_Sk_canBeHeld_103 : decode cX4_canBeHeld 103 = .ok (.aload_n 1, 1) := by decide +kernel
theorem d_Sk_canBeHeld_104 : decode cX4_canBeHeld 104 = .ok (.iload 6, 2) := by decide +kernel
theorem d_Sk_canBeHeld_106 : decode cX4_canBeHeld 106 = .ok (.invokevirtual 175, 3) := by decide +kernel
theorem d_Sk_canBeHeld_109 : decode cX4_canBeHeld 109 = .ok (.invokevirtual 326, 3) := by decide +kernel
theorem d_Sk_canBeHeld_112 : decode cX4_canBeHeld 112 = .ok (.iinc 5 1, 3) := by decide +kernel
theorem d_Sk_canBeHeld_115 : decode cX4_canBeHeld 115 = .ok (.goto (-53), 3) := by decide +kernel
theorem d_Sk_canBeHeld_118 : decode cX4_canBeHeld 118 = .ok (.aload_n 0, 1) := by decide +kernel
theorem d_Sk_canBeHeld_119 : decode cX4_canBeHeld 119 = .ok (.aload_n 0, 1) := by decide +kernel
theorem d_Sk_canBeHeld_120 : decode cX4_canBeHeld 120 = .ok (.getfield 39, 3) := by decide +kernel
theorem d_Sk_canBeHeld_123 : decode cX4_canBeHeld 123 = .ok (.iload 4, 2) := by decide +kernel
theorem d_Sk_canBeHeld_125 : decode cX4_canBeHeld 125 = .ok (.iconst 1, 1) := by decide +kernel
theorem d_Sk_canBeHeld_126 : decode cX4_canBeHeld 126 = .ok (.iadd, 1) := by decide +kernel
theorem d_Sk_canBeHeld_127 : decode cX4_canBeHeld 127 = .ok (.invokevirtual 315, 3) := by decide +kernel
theorem d_Sk_canBeHeld_130 : decode cX4_canBeHeld 130 = .ok (.iconst (-1), 1) := by decide +kernel
theorem d_Sk_canBeHeld_131 : decode cX4_canBeHeld 131 = .ok (.if_icmp .ne 33, 3) := by decide +kernel
theorem d_Sk_canBeHeld_134 : decode cX4_canBeHeld 134 = .ok (.aload_n 0, 1) := by decide +kernel
theorem d_Sk_canBeHeld_135 : decode cX4_canBeHeld 135 = .ok (.aload_n 0, 1) := by decide +kernel
theorem d_Sk_canBeHeld_136 : decode cX4_canBeHeld 136 = .ok (.getfield 39, 3) := by decide +kernel
theorem d_Sk_canBeHeld_139 : decode cX4_canBeHeld 139 = .ok (.iload 4, 2) := by decide +kernel
theorem d_Sk_canBeHeld_141 : decode cX4_canBeHeld 141 = .ok (.iload_n 3, 1) := by decide +kernel
theorem d_Sk_canBeHeld_142 : decode cX4_canBeHeld 142 = .ok (.invokevirtual 311, 3) := by decide +kernel
theorem d_Sk_canBeHeld_145 : decode cX4_canBeHeld 145 = .ok (.iconst (-1), 1) := by decide +kernel
theorem d_Sk_canBeHeld_146 : decode cX4_canBeHeld 146 = .ok (.if_icmp .ne 18, 3) := by decide +kernel
theorem d_Sk_canBeHeld_149 : decode cX4_canBeHeld 149 = .ok (.aload_n 0, 1) := by decide +kernel
theorem d_Sk_canBeHeld_150 : decode cX4_canBeHeld 150 = .ok (.aload_n 0, 1) := by decide +kernel
theorem d_Sk_canBeHeld_151 : decode cX4_canBeHeld 151 = .ok (.getfield 39, 3) := by decide +kernel
theorem d_Sk_canBeHeld_154 : decode cX4_canBeHeld 154 = .ok (.invokevirtual 394, 3) := by decide +kernel
theorem d_Sk_canBeHeld_157 : decode cX4_canBeHeld 157 = .ok (.ifCond .ne 7, 3) := by decide +kernel
theorem d_Sk_canBeHeld_160 : decode cX4_canBeHeld 160 = .ok (.iconst 1, 1) := by decide +kernel
theorem d_Sk_canBeHeld_161 : decode cX4_canBeHeld 161 = .ok (.goto 4, 3) := by decide +kernel
theorem d_Sk_canBeHeld_164 : decode cX4_canBeHeld 164 = .ok (.iconst 0, 1) := by decide +kernel
theorem d_Sk_canBeHeld_165 : decode cX4_canBeHeld 165 = .ok (.ireturn, 1) := by decide +kernel
set_option maxRecDepth 100000 in
set_option maxHeartbeats 4000000 in
theorem w_j_Sk_canBeHeld_95 {X : CX} {KX : MS → Prop} {k : Nat} {a1 : Option Nat} {a2 : Int32} {a3 : Int32} {a4 : Int32} {a5 : Int32} {t0 : Int32} {s : MS} {rec : Int32 → MS → Option (MS)} {sb : MS} (ok : Ok X cX4_canBeHeld RX4 rm_Sk_canBeHeld 7 false) (hexit : ∀ (z : MS), KX z → (∀ q, dm sb q → dm z q) → G X z 0 0 118 [(0, vR (some k)), (3, vI a3), (4, vI a4)] []) (hrec : ∀ (v5 : Int32) (z : MS), (∀ q, dm sb q → dm z q) → ∀ y, rec v5 z = some y → KX y → G X z 0 0 62 [(0, vR (some k)), (1, vR a1), (2, vI a2), (3, vI a3), (4, vI a4), (5, vI v5)] []) (mb : ∀ q, dm sb q → dm s q) (ht : rf s.2.2 0 (some k) = some k) {res : MS} (h : j_Sk_canBeHeld_95 k a1 a2 a3 a4 a5 t0 s rec = some res) (hk : KX res) : G X s 0 0 95 [(0, vR (some k)), (1, vR a1), (2, vI a2), (3, vI a3), (4, vI a4), (5, vI a5)] [vI t0] := by
  unfold j_Sk_canBeHeld_95 at h
  refine g_istore (i := 6) [(6, vI t0), (0, vR (some k)), (1, vR a1), (2, vI a2), (3, vI a3), (4, vI a4), (5, vI a5)] ok d_Sk_canBeHeld_95 (by decide) rfl ?_
  refine g_aload_n (i := 0) 1 ok d_Sk_canBeHeld_97 rfl rfl ?_
  refine g_getr (s0 := 0) (j := 5) (ci := 4) (C := RX4) (T := TX4) (N := 14) ok ht lay_0 rfl inX4 (by decide) rfl tw_87 rfl d_Sk_canBeHeld_98 ?_
  refine g_iload (i := 5) 6 ok d_Sk_canBeHeld_101 rfl ?_
  refine g_aload_n (i := 1) 2 ok d_Sk_canBeHeld_103 rfl rfl ?_
  refine g_iload (i := 6) 0 ok d_Sk_canBeHeld_104 rfl ?_
  obtain ⟨k25, hk26, h⟩ := bnd_go h
  obtain ⟨x28, hc29, h⟩ := bnd_go h
  refine g_invVN (rm2 := rm_Pa_placeOf) (As := [vI t0]) (rest := [vI a5, vR (s.2.1 k 5)]) ok hk26 lay_12 rfl (c_Pa_placeOf X.1.2.1 (rf_self hk26) hc29) cm_Pa_placeOf cv_Pa_placeOf tw_410 ⟨rfl, rfl⟩ ⟨le_t rfl, le_t rfl⟩ ⟨rfl, le_t rfl⟩ ⟨le_t rfl, le_t rfl⟩ d_Sk_canBeHeld_106 rfl (fun m27 => ?_)
  show G X s 0 0 109 [(6, vI t0), (0, vR (some k)), (1, vR a1), (2, vI a2), (3, vI a3), (4, vI a4), (5, vI a5)] [vI x28, vI a5, vR (s.2.1 k 5)]
  obtain ⟨k30, hk31, h⟩ := bnd_go h
  obtain ⟨s34, hc33, h⟩ := bnd_go h
  refine g_invVN (rm2 := rm_Pa_setPlace) (As := [vI a5, vI x28]) (rest := []) ok hk31 lay_12 rfl (c_Pa_setPlace X.1.2.1 (rf_self hk31) hc33) cm_Pa_setPlace cv_Pa_setPlace tw_500 ⟨rfl, rfl⟩ ⟨le_t rfl, le_t rfl⟩ ⟨rfl, le_t rfl⟩ ⟨le_t rfl, le_t rfl⟩ d_Sk_canBeHeld_109 rfl (fun m32 => ?_)
  show G X s34 0 0 112 [(6, vI t0), (0, vR (some k)), (1, vR a1), (2, vI a2), (3, vI a3), (4, vI a4), (5, vI a5)] []
  obtain ⟨x35, e36⟩ : ∃ z, a5 + (1 : Int32) = z := ⟨_, rfl⟩
  replace h := lt_go h e36
  refine g_iinc (i := 5) (v := x35) 6 [(5, vI x35), (6, vI t0), (0, vR (some k)), (1, vR a1), (2, vI a2), (3, vI a3), (4, vI a4)] ok d_Sk_canBeHeld_112 rfl (by rw [← e36]; rfl) (by decide) rfl ?_
  refine g_goto (tgt := 62) ok d_Sk_canBeHeld_115 (by decide) ?_
  refine g_sub [2, 3, 4, 5, 6, 0] rfl ?_
  exact hrec x35 s34 (fun z hz => m32 z (mb z hz)) _ h hk
set_option maxRecDepth 100000 in
set_option maxHeartbeats 4000000 in
theorem w_b_Sk_canBeHeld_62 {X : CX} {KX : MS → Prop} {k : Nat} {a1 : Option Nat} {a2 : Int32} {a3 : Int32} {a4 : Int32} {a5 : Int32} {s : MS} {rec : Int32 → MS → Option (MS)} {sb : MS} (ok : Ok X cX4_canBeHeld RX4 rm_Sk_canBeHeld 7 false) (hexit : ∀ (z : MS), KX z → (∀ q, dm sb q → dm z q) → G X z 0 0 118 [(0, vR (some k)), (3, vI a3), (4, vI a4)] []) (hrec : ∀ (v5 : Int32) (z : MS), (∀ q, dm sb q → dm z q) → ∀ y, rec v5 z = some y → KX y → G X z 0 0 62 [(0, vR (some k)), (1, vR a1), (2, vI a2), (3, vI a3), (4, vI a4), (5, vI v5)] []) (mb : ∀ q, dm sb q → dm s q) (ht : rf s.2.2 0 (some k) = some k) {res : MS} (h : b_Sk_canBeHeld_62 k a1 a2 a3 a4 a5 s rec = some res) (hk : KX res) : G X s 0 0 62 [(0, vR (some k)), (1, vR a1), (2, vI a2), (3, vI a3), (4, vI a4), (5, vI a5)] [] := by
  unfold b_Sk_canBeHeld_62 at h
  refine g_iload (i := 5) 5 ok d_Sk_canBeHeld_62 rfl ?_
  refine g_aload_n (i := 0) 0 ok d_Sk_canBeHeld_64 rfl rfl ?_
  refine g_getr (s0 := 0) (j := 5) (ci := 4) (C := RX4) (T := TX4) (N := 14) ok ht lay_0 rfl inX4 (by decide) rfl tw_87 rfl d_Sk_canBeHeld_65 ?_
  obtain ⟨k21, hk22, h⟩ := bnd_go h
  refine g_getiN (s0 := 12) (j := 4) (ci := 2) (C := RX2) (T := TX2) (N := 7) ok hk22 lay_12 rfl inX2 (by decide) rfl tw_64 rfl d_Sk_canBeHeld_68 ?_
  refine g_icmp_gt (tgt := 118) ok d_Sk_canBeHeld_71 (by decide) (fun c23 => ?_) (fun c23 => ?_)
  · replace h := (if_pos c23).symm.trans h
    refine g_sub [0, 3, 4] rfl ?_
    cases h
    exact hexit s hk mb
  · replace h := (if_neg c23).symm.trans h
    refine g_iload (i := 5) 5 ok d_Sk_canBeHeld_74 rfl ?_
    refine g_iload (i := 4) 4 ok d_Sk_canBeHeld_76 rfl ?_
    refine g_icmp_gt (tgt := 86) ok d_Sk_canBeHeld_78 (by decide) (fun c24 => ?_) (fun c24 => ?_)
    · replace h := (if_pos c24).symm.trans h
      refine g_iload (i := 4) 4 ok d_Sk_canBeHeld_86 rfl ?_
      refine g_iload (i := 5) 5 ok d_Sk_canBeHeld_88 rfl ?_
      refine g_iload_n (i := 2) 2 ok d_Sk_canBeHeld_90 rfl rfl ?_
      refine g_isub ok d_Sk_canBeHeld_91 ?_
      refine g_mmax ok tw_638 tw_373 tw_11 tw_374 rfl ⟨le_t rfl, le_t rfl⟩ ⟨le_t rfl, le_t rfl⟩ d_Sk_canBeHeld_92 ?_
      exact w_j_Sk_canBeHeld_95 ok hexit hrec mb ht h hk
    · replace h := (if_neg c24).symm.trans h
      refine g_iload (i := 5) 5 ok d_Sk_canBeHeld_81 rfl ?_
      refine g_goto (tgt := 95) ok d_Sk_canBeHeld_83 (by decide) ?_
      exact w_j_Sk_canBeHeld_95 ok hexit hrec mb ht h hk
theorem wx_l_Sk_canBeHeld_62 {X : CX} {KX : MS → Prop} {k : Nat} {a1 : Option Nat} {a2 : Int32} {a3 : Int32} {a4 : Int32} {sb : MS} (ok : Ok X cX4_canBeHeld RX4 rm_Sk_canBeHeld 7 false) (hexit : ∀ (z : MS), KX z → (∀ q, dm sb q → dm z q) → G X z 0 0 118 [(0, vR (some k)), (3, vI a3), (4, vI a4)] []) (htb : rf sb.2.2 0 (some k) = some k) : ∀ (n : Nat) (a5 : Int32) (s : MS), (∀ q, dm sb q → dm s q) → ∀ (res : MS), l_Sk_canBeHeld_62 k a1 a2 a3 a4 n a5 s = some res → KX res → G X s 0 0 62 [(0, vR (some k)), (1, vR a1), (2, vI a2), (3, vI a3), (4, vI a4), (5, vI a5)] [] := by
  intro n
  induction n with
  | zero => intro _ s _ res h; cases h
  | succ n ih =>
    intro a5 s mb res h hk
    exact w_b_Sk_canBeHeld_62 ok hexit (fun v5 z hz y h2 hk2 => ih v5 z hz y h2 hk2) mb (rf_mono mb htb) h hk
theorem w_l_Sk_canBeHeld_62 {X : CX} {KX : MS → Prop} {k : Nat} {a1 : Option Nat} {a2 : Int32} {a3 : Int32} {a4 : Int32} {sb : MS} (ok : Ok X cX4_canBeHeld RX4 rm_Sk_canBeHeld 7 false) (hexit : ∀ (z : MS), KX z → (∀ q, dm sb q → dm z q) → G X z 0 0 118 [(0, vR (some k)), (3, vI a3), (4, vI a4)] []) (mb : ∀ q, dm sb q → dm sb q) (htb : rf sb.2.2 0 (some k) = some k) (n : Nat) (a5 : Int32) {res : MS} (h : l_Sk_canBeHeld_62 k a1 a2 a3 a4 n a5 sb = some res) (hk : KX res) : G X sb 0 0 62 [(0, vR (some k)), (1, vR a1), (2, vI a2), (3, vI a3), (4, vI a4), (5, vI a5)] [] := wx_l_Sk_canBeHeld_62 ok hexit htb n a5 sb mb res h hk
set_option maxRecDepth 100000 in
set_option maxHeartbeats 4000000 in
theorem w_Sk_canBeHeld {X : CX} {KX : Int32 × MS → Prop} {k : Nat} {a1 : Option Nat} {a2 : Int32} {a3 : Int32} {s : MS} (ok : Ok X cX4_canBeHeld RX4 rm_Sk_canBeHeld 7 false) (hret : ∀ r : Int32 × MS, KX r → Fin X (some .boolean) 0 0 false (some (vI r.1)) r.2)   (ht : rf s.2.2 0 (some k) = some k) {res : Int32 × MS} (h : f_Sk_canBeHeld k a1 a2 a3 s = some res) (hk : KX res) : G X s 0 0 0 [(0, vR (some k)), (1, vR a1), (2, vI a2), (3, vI a3)] [] := by
  unfold f_Sk_canBeHeld at h
  refine g_aload_n (i := 1) 1 ok d_Sk_canBeHeld_0 rfl rfl ?_
  obtain ⟨k1, hk2, h⟩ := bnd_go h
  refine g_getiN (s0 := 12) (j := 4) (ci := 2) (C := RX2) (T := TX2) (N := 7) ok hk2 lay_12 rfl inX2 (by decide) rfl tw_64 rfl d_Sk_canBeHeld_1 ?_
  refine g_iload_n (i := 2) 2 ok d_Sk_canBeHeld_4 rfl rfl ?_
  refine g_iadd ok d_Sk_canBeHeld_5 ?_
  refine g_bipush (v := (80 : Int32)) ok d_Sk_canBeHeld_6 (by decide) ?_
  refine g_icmp_le (tgt := 13) ok d_Sk_canBeHeld_8 (by decide) (fun c3 => ?_) (fun c3 => ?_)
  · replace h := (if_pos c3).symm.trans h
    refine g_iconst (v := (0 : Int32)) ok d_Sk_canBeHeld_11 (by decide) ?_
    cases h
    exact g_zret ok (hret _ hk) (Or.inl rfl) (by decide) (by decide) d_Sk_canBeHeld_12
  · replace h := (if_neg c3).symm.trans h
    refine g_aload_n (i := 0) 0 ok d_Sk_canBeHeld_13 rfl rfl ?_
    refine g_geti (s0 := 0) (j := 10) (ci := 4) (C := RX4) (T := TX4) (N := 14) ok ht lay_0 rfl inX4 (by decide) rfl tw_92 rfl d_Sk_canBeHeld_14 ?_
    refine g_aload_n (i := 1) 1 ok d_Sk_canBeHeld_17 rfl rfl ?_
    refine g_getiN (s0 := 12) (j := 3) (ci := 2) (C := RX2) (T := TX2) (N := 7) ok hk2 lay_12 rfl inX2 (by decide) rfl tw_62 rfl d_Sk_canBeHeld_18 ?_
    refine g_isub ok d_Sk_canBeHeld_21 ?_
    obtain ⟨x4, e5⟩ : ∃ z, ((s.1 k 10) - (s.1 k1 3)) = z := ⟨_, rfl⟩
    replace h := lt_go h e5
    rw [e5]
    refine g_istore (i := 4) [(4, vI x4), (0, vR (some k)), (1, vR a1), (2, vI a2), (3, vI a3)] ok d_Sk_canBeHeld_22 (by decide) rfl ?_
    refine g_aload_n (i := 0) 1 ok d_Sk_canBeHeld_24 rfl rfl ?_
    refine g_getr (s0 := 0) (j := 5) (ci := 4) (C := RX4) (T := TX4) (N := 14) ok ht lay_0 rfl inX4 (by decide) rfl tw_87 rfl d_Sk_canBeHeld_25 ?_
    refine g_aload_n (i := 1) 2 ok d_Sk_canBeHeld_28 rfl rfl ?_
    refine g_getiN (s0 := 12) (j := 1) (ci := 2) (C := RX2) (T := TX2) (N := 7) ok hk2 lay_12 rfl inX2 (by decide) rfl tw_59 rfl d_Sk_canBeHeld_29 ?_
    obtain ⟨k6, hk7, h⟩ := bnd_go h
    refine g_putiN (s0 := 12) (j := 1) (ci := 2) (C := RX2) (T := TX2) (N := 7) ok hk7 lay_12 rfl inX2 (by decide) rfl tw_59 rfl tyX2_ok nmX2 rfl (Or.inl rfl) d_Sk_canBeHeld_32 ?_
    obtain ⟨s8, e9⟩ : ∃ z, wi s k6 1 (s.1 k1 1) = z := ⟨_, rfl⟩
    replace h := lt_go h e9
    have m10 := mo_wi e9
    rw [e9]
    refine g_aload_n (i := 0) 1 ok d_Sk_canBeHeld_35 rfl rfl ?_
    refine g_getr (s0 := 0) (j := 5) (ci := 4) (C := RX4) (T := TX4) (N := 14) ok (rf_mono m10 ht) lay_0 rfl inX4 (by decide) rfl tw_87 rfl d_Sk_canBeHeld_36 ?_
    refine g_aload_n (i := 1) 2 ok d_Sk_canBeHeld_39 rfl rfl ?_
    refine g_getiN (s0 := 12) (j := 3) (ci := 2) (C := RX2) (T := TX2) (N := 7) ok (rf_mono m10 hk2) lay_12 rfl inX2 (by decide) rfl tw_62 rfl d_Sk_canBeHeld_40 ?_
    obtain ⟨k11, hk12, h⟩ := bnd_go h
    refine g_putiN (s0 := 12) (j := 3) (ci := 2) (C := RX2) (T := TX2) (N := 7) ok hk12 lay_12 rfl inX2 (by decide) rfl tw_62 rfl tyX2_ok nmX2 rfl (Or.inl rfl) d_Sk_canBeHeld_43 ?_
    obtain ⟨s13, e14⟩ : ∃ z, wi s8 k11 3 (s8.1 k1 3) = z := ⟨_, rfl⟩
    replace h := lt_go h e14
    have m15 := mo_wi e14
    rw [e14]
    refine g_aload_n (i := 0) 1 ok d_Sk_canBeHeld_46 rfl rfl ?_
    refine g_getr (s0 := 0) (j := 5) (ci := 4) (C := RX4) (T := TX4) (N := 14) ok (rf_mono m15 (rf_mono m10 ht)) lay_0 rfl inX4 (by decide) rfl tw_87 rfl d_Sk_canBeHeld_47 ?_
    refine g_aload_n (i := 1) 2 ok d_Sk_canBeHeld_50 rfl rfl ?_
    refine g_getiN (s0 := 12) (j := 4) (ci := 2) (C := RX2) (T := TX2) (N := 7) ok (rf_mono m15 (rf_mono m10 hk2)) lay_12 rfl inX2 (by decide) rfl tw_64 rfl d_Sk_canBeHeld_51 ?_
    refine g_iload_n (i := 2) 3 ok d_Sk_canBeHeld_54 rfl rfl ?_
    refine g_iadd ok d_Sk_canBeHeld_55 ?_
    obtain ⟨k16, hk17, h⟩ := bnd_go h
    refine g_putiN (s0 := 12) (j := 4) (ci := 2) (C := RX2) (T := TX2) (N := 7) ok hk17 lay_12 rfl inX2 (by decide) rfl tw_64 rfl tyX2_ok nmX2 rfl (Or.inl rfl) d_Sk_canBeHeld_56 ?_
    obtain ⟨s18, e19⟩ : ∃ z, wi s13 k16 4 ((s13.1 k1 4) + a2) = z := ⟨_, rfl⟩
    replace h := lt_go h e19
    have m20 := mo_wi e19
    rw [e19]
    refine g_iconst (v := (0 : Int32)) ok d_Sk_canBeHeld_59 (by decide) ?_
    refine g_istore (i := 5) [(5, vI (0 : Int32)), (4, vI x4), (0, vR (some k)), (1, vR a1), (2, vI a2), (3, vI a3)] ok d_Sk_canBeHeld_60 (by decide) rfl ?_
    refine g_sub [2, 3, 4, 5, 1, 0] rfl ?_
    obtain ⟨s38, hx, h⟩ := bnd_go h
    refine w_l_Sk_canBeHeld_62 (KX := fun y => y = s38) ok (fun y0 he m37 => ?_) (fun _ hz => hz) (rf_mono m20 (rf_mono m15 (rf_mono m10 ht))) _ _ hx rfl
    cases he
    refine g_aload_n (i := 0) 0 ok d_Sk_canBeHeld_118 rfl rfl ?_
    refine g_aload_n (i := 0) 0 ok d_Sk_canBeHeld_119 rfl rfl ?_
    refine g_getr (s0 := 0) (j := 5) (ci := 4) (C := RX4) (T := TX4) (N := 14) ok (rf_mono m37 (rf_mono m20 (rf_mono m15 (rf_mono m10 ht)))) lay_0 rfl inX4 (by decide) rfl tw_87 rfl d_Sk_canBeHeld_120 ?_
    refine g_iload (i := 4) 2 ok d_Sk_canBeHeld_123 rfl ?_
    refine g_iconst (v := (1 : Int32)) ok d_Sk_canBeHeld_125 (by decide) ?_
    refine g_iadd ok d_Sk_canBeHeld_126 ?_
    obtain ⟨x40, hc41, h⟩ := bnd_go h
    refine g_invV (rm2 := rm_Sk_roomHolding) (As := [vR (s38.2.1 k 5), vI (x4 + (1 : Int32))]) (rest := []) ok (rf_mono m37 (rf_mono m20 (rf_mono m15 (rf_mono m10 ht)))) lay_0 rfl (c_Sk_roomHolding X.1.2.1 (rf_self (rf_mono m37 (rf_mono m20 (rf_mono m15 (rf_mono m10 ht))))) hc41) cm_Sk_roomHolding cv_Sk_roomHolding tw_541 ⟨rfl, rfl⟩ ⟨le_t rfl, le_t rfl⟩ ⟨rfl, le_t rfl⟩ ⟨le_t rfl, le_t rfl⟩ d_Sk_canBeHeld_127 rfl (fun m39 => ?_)
    show G X s38 0 0 130 [(0, vR (some k)), (3, vI a3), (4, vI x4)] [vI x40]
    refine g_iconst (v := (-1 : Int32)) ok d_Sk_canBeHeld_130 (by decide) ?_
    refine g_icmp_ne (tgt := 164) ok d_Sk_canBeHeld_131 (by decide) (fun c42 => ?_) (fun c42 => ?_)
    · replace h := (if_pos c42).symm.trans h
      refine g_aload_n (i := 0) 0 ok d_Sk_canBeHeld_134 rfl rfl ?_
      refine g_aload_n (i := 0) 0 ok d_Sk_canBeHeld_135 rfl rfl ?_
      refine g_getr (s0 := 0) (j := 5) (ci := 4) (C := RX4) (T := TX4) (N := 14) ok (rf_mono m37 (rf_mono m20 (rf_mono m15 (rf_mono m10 ht)))) lay_0 rfl inX4 (by decide) rfl tw_87 rfl d_Sk_canBeHeld_136 ?_
      refine g_iload (i := 4) 2 ok d_Sk_canBeHeld_139 rfl ?_
      refine g_iload_n (i := 3) 1 ok d_Sk_canBeHeld_141 rfl rfl ?_
      obtain ⟨x44, hc45, h⟩ := bnd_go h
      refine g_invV (rm2 := rm_Sk_placeTooLow) (As := [vR (s38.2.1 k 5), vI x4, vI a3]) (rest := []) ok (rf_mono m37 (rf_mono m20 (rf_mono m15 (rf_mono m10 ht)))) lay_0 rfl (c_Sk_placeTooLow X.1.2.1 (rf_self (rf_mono m37 (rf_mono m20 (rf_mono m15 (rf_mono m10 ht))))) hc45) cm_Sk_placeTooLow cv_Sk_placeTooLow tw_519 ⟨rfl, rfl⟩ ⟨le_t rfl, le_t rfl⟩ ⟨rfl, le_t rfl⟩ ⟨le_t rfl, le_t rfl⟩ d_Sk_canBeHeld_142 rfl (fun m43 => ?_)
      show G X s38 0 0 145 [(0, vR (some k)), (3, vI a3), (4, vI x4)] [vI x44]
      refine g_iconst (v := (-1 : Int32)) ok d_Sk_canBeHeld_145 (by decide) ?_
      refine g_icmp_ne (tgt := 164) ok d_Sk_canBeHeld_146 (by decide) (fun c46 => ?_) (fun c46 => ?_)
      · replace h := (if_pos c46).symm.trans h
        refine g_aload_n (i := 0) 0 ok d_Sk_canBeHeld_149 rfl rfl ?_
        refine g_aload_n (i := 0) 0 ok d_Sk_canBeHeld_150 rfl rfl ?_
        refine g_getr (s0 := 0) (j := 5) (ci := 4) (C := RX4) (T := TX4) (N := 14) ok (rf_mono m37 (rf_mono m20 (rf_mono m15 (rf_mono m10 ht)))) lay_0 rfl inX4 (by decide) rfl tw_87 rfl d_Sk_canBeHeld_151 ?_
        obtain ⟨x48, hc49, h⟩ := bnd_go h
        refine g_invV (rm2 := rm_Sk_meetsAnyOther) (As := [vR (s38.2.1 k 5)]) (rest := []) ok (rf_mono m37 (rf_mono m20 (rf_mono m15 (rf_mono m10 ht)))) lay_0 rfl (c_Sk_meetsAnyOther X.1.2.1 (rf_self (rf_mono m37 (rf_mono m20 (rf_mono m15 (rf_mono m10 ht))))) hc49) cm_Sk_meetsAnyOther cv_Sk_meetsAnyOther tw_639 ⟨rfl, rfl⟩ ⟨le_t rfl, le_t rfl⟩ ⟨rfl, le_t rfl⟩ ⟨le_t rfl, le_t rfl⟩ d_Sk_canBeHeld_154 rfl (fun m47 => ?_)
        show G X s38 0 0 157 [(0, vR (some k)), (3, vI a3), (4, vI x4)] [vI x48]
        refine g_if_ne (tgt := 164) ok d_Sk_canBeHeld_157 (by decide) (fun c50 => ?_) (fun c50 => ?_)
        · replace h := (if_pos c50).symm.trans h
          refine g_iconst (v := (1 : Int32)) ok d_Sk_canBeHeld_160 (by decide) ?_
          refine g_goto (tgt := 165) ok d_Sk_canBeHeld_161 (by decide) ?_
          cases h
          exact g_zret ok (hret _ hk) (Or.inr rfl) (by decide) (by decide) d_Sk_canBeHeld_165
        · replace h := (if_neg c50).symm.trans h
          refine g_iconst (v := (0 : Int32)) ok d_Sk_canBeHeld_164 (by decide) ?_
          cases h
          exact g_zret ok (hret _ hk) (Or.inl rfl) (by decide) (by decide) d_Sk_canBeHeld_165
      · replace h := (if_neg c46).symm.trans h
        refine g_iconst (v := (0 : Int32)) ok d_Sk_canBeHeld_164 (by decide) ?_
        cases h
        exact g_zret ok (hret _ hk) (Or.inl rfl) (by decide) (by decide) d_Sk_canBeHeld_165
    · replace h := (if_neg c42).symm.trans h
      refine g_iconst (v := (0 : Int32)) ok d_Sk_canBeHeld_164 (by decide) ?_
      cases h
      exact g_zret ok (hret _ hk) (Or.inl rfl) (by decide) (by decide) d_Sk_canBeHeld_165
theorem c_Sk_canBeHeld (l : Launch) {k : Nat} {a1 : Option Nat} {a2 : Int32} {a3 : Int32} {s : MS} (ht : rf s.2.2 0 (some k) = some k) {r : Int32} {z : MS} (h : f_Sk_canBeHeld k a1 a2 a3 s = some (r, z)) : Ct l yX4_canBeHeld (.code yX4_canBeHeld cX4_canBeHeld 7 (some .boolean)) rm_Sk_canBeHeld 0 0 false [vR (some k), vR a1, vI a2, vI a3] s (some (vI r)) z :=
  Ct.of rfl (by decide +kernel) ⟨rfl, le_t rfl⟩ (fun X ok fn _ hI hl => w_Sk_canBeHeld (KX := fun y => y = (r, z)) ok (fun y hy => by subst hy; exact fn) ht h rfl)
abbrev rm_Sk_comesNear : Room := { frames := 2, cells := 0, slots := 0, locals := 44 }
theorem cm_Sk_comesNear : cfM yX4_comesNear cX4_comesNear 8 (some .boolean) 2 := ⟨tw_180, tw_1, by decide, by decide, by decide +kernel⟩
theorem cv_Sk_comesNear : cfV yX4_comesNear := ⟨tw_179, ts_X4_comesNear⟩
theorem d_Sk_comesNear_0 : decode cX4_comesNear 0 = .ok (.aload_n 2, 1) := by decide +kernel
theorem d_Sk_comesNear_1 : decode cX4_comesNear 1 = .ok (.getfield 166, 3) := by decide +kernel
theorem d_Sk_comesNear_4 : decode cX4_comesNear 4 = .ok (.istore_n 3, 1) := by decide +kernel
theorem d_Sk_comesNear_5 : decode cX4_comesNear 5 = .ok (.iload_n 3, 1) := by decide +kernel
theorem d_Sk_comesNear_6 : decode cX4_comesNear 6 = .ok (.aload_n 2, 1) := by decide +kernel
theorem d_Sk_comesNear_7 : decode cX4_comesNear 7 = .ok (.getfield 240, 3) := by decide +kernel
theorem d_Sk_comesNear_10 : decode cX4_comesNear 10 = .ok (.invokestatic 380, 3) := by decide +kernel
theorem d_Sk_comesNear_13 : decode cX4_comesNear 13 = .ok (.istore 4, 2) := by decide +kernel
theorem d_Sk_comesNear_15 : decode cX4_comesNear 15 = .ok (.aload_n 0, 1) := by decide +kernel
theorem d_Sk_comesNear_16 : decode cX4_comesNear 16 = .ok (.getfield 182, 3) := by decide +kernel
theorem d_Sk_comesNear_19 : decode cX4_comesNear 19 = .ok (.iconst 1, 1) := by decide +kernel
theorem d_Sk_comesNear_20 : decode cX4_comesNear 20 = .ok (.iadd, 1) := by decide +kernel
theorem d_Sk_comesNear_21 : decode cX4_comesNear 21 = .ok (.istore 5, 2) := by decide +kernel
theorem d_Sk_comesNear_23 : decode cX4_comesNear 23 = .ok (.iload 5, 2) := by decide +kernel
theorem d_Sk_comesNear_25 : decode cX4_comesNear 25 = .ok (.aload_n 0, 1) := by decide +kernel
theorem d_Sk_comesNear_26 : decode cX4_comesNear 26 = .ok (.getfield 182, 3) := by decide +kernel
theorem d_Sk_comesNear_29 : decode cX4_comesNear 29 = .ok (.bipush 10, 2) := by decide +kernel
theorem d_Sk_comesNear_31 : decode cX4_comesNear 31 = .ok (.iadd, 1) := by decide +kernel
theorem d_Sk_comesNear_32 : decode cX4_comesNear 32 = .ok (.if_icmp .gt 65, 3) := by decide +kernel
theorem d_Sk_comesNear_35 : decode cX4_comesNear 35 = .ok (.iload 4, 2) := by decide +kernel
theorem d_Sk_comesNear_37 : decode cX4_comesNear 37 = .ok (.aload_n 2, 1) := by decide +kernel
theorem d_Sk_comesNear_38 : decode cX4_comesNear 38 = .ok (.getfield 240, 3) := by decide +kernel
theorem d_Sk_comesNear_41 : decode cX4_comesNear 41 = .ok (.invokestatic 380, 3) := by decide +kernel
theorem d_Sk_comesNear_44 : decode cX4_comesNear 44 = .ok (.istore 6, 2) := by decide +kernel
theorem d_Sk_comesNear_46 : decode cX4_comesNear 46 = .ok (.aload_n 1, 1) := by decide +kernel
theorem d_Sk_comesNear_47 : decode cX4_comesNear 47 = .ok (.iload 5, 2) := by decide +kernel
theorem d_Sk_comesNear_49 : decode cX4_comesNear 49 = .ok (.invokevirtual 270, 3) := by decide +kernel
theorem d_Sk_comesNear_52 : decode cX4_comesNear 52 = .ok (.istore 7, 2) := by decide +kernel
theorem d_Sk_comesNear_54 : decode cX4_comesNear 54 = .ok (.iload 7, 2) := by decide +kernel
theorem d_Sk_comesNear_56 : decode cX4_comesNear 56 = .ok (.invokestatic 232, 3) := by decide +kernel
theorem d_Sk_comesNear_59 : decode cX4_comesNear 59 = .ok (.ifCond .ne 25, 3) := by decide +kernel
theorem d_Sk_comesNear_62 : decode cX4_comesNear 62 = .ok (.iload 7, 2) := by decide +kernel
theorem d_Sk_comesNear_64 : decode cX4_comesNear 64 = .ok (.iload_n 3, 1) := by decide +kernel
theorem d_Sk_comesNear_65 : decode cX4_comesNear 65 = .ok (.if_icmp .eq 17, 3) := by decide +kernel
theorem d_Sk_comesNear_68 : decode cX4_comesNear 68 = .ok (.iload 7, 2) := by decide +kernel
theorem d_Sk_comesNear_70 : decode cX4_comesNear 70 = .ok (.iload 4, 2) := by decide +kernel
theorem d_Sk_comesNear_72 : decode cX4_comesNear 72 = .ok (.if_icmp .eq 10, 3) := by decide +kernel
theorem d_Sk_comesNear_75 : decode cX4_comesNear 75 = .ok (.iload 7, 2) := by decide +kernel
theorem d_Sk_comesNear_77 : decode cX4_comesNear 77 = .ok (.iload 6, 2) := by decide +kernel
theorem d_Sk_comesNear_79 : decode cX4_comesNear 79 = .ok (.if_icmp .ne 5, 3) := by decide +kernel
theorem d_Sk_comesNear_82 : decode cX4_comesNear 82 = .ok (.iconst 1, 1) := by decide +kernel
theorem d_Sk_comesNear_83 : decode cX4_comesNear 83 = .ok (.ireturn, 1) := by decide +kernel
theorem d_Sk_comesNear_84 : decode cX4_comesNear 84 = .ok (.iload 4, 2) := by decide +kernel
theorem d_Sk_comesNear_86 : decode cX4_comesNear 86 = .ok (.istore_n 3, 1) := by decide +kernel
theorem d_Sk_comesNear_87 : decode cX4_comesNear 87 = .ok (.iload 6, 2) := by decide +kernel
theorem d_Sk_comesNear_89 : decode cX4_comesNear 89 = .ok (.istore 4, 2) := by decide +kernel
theorem d_Sk_comesNear_91 : decode cX4_comesNear 91 = .ok (.iinc 5 1, 3) := by decide +kernel
theorem d_Sk_comesNear_94 : decode cX4_comesNear 94 = .ok (.goto (-71), 3) := by decide +kernel
theorem d_Sk_comesNear_97 : decode cX4_comesNear 97 = .ok (.iconst 0, 1) := by decide +kernel
theorem d_Sk_comesNear_98 : decode cX4_comesNear 98 = .ok (.ireturn, 1) := by decide +kernel
set_option maxRecDepth 100000 in
set_option maxHeartbeats 4000000 in
theorem w_b_Sk_comesNear_23 {X : CX} {KX : (Int32) ⊕ (Unit) → Prop} {k : Nat} {a1 : Option Nat} {a2 : Option Nat} {a3 : Int32} {a4 : Int32} {a5 : Int32} {s : MS} {rec : Int32 → Int32 → Int32 → Option ((Int32) ⊕ (Unit))} (ok : Ok X cX4_comesNear RX4 rm_Sk_comesNear 8 false) (hret : ∀ r : Int32, KX (.inl r) → Fin X (some .boolean) 0 0 false (some (vI r)) s) (hexit : KX (.inr ()) → G X s 0 0 97 [(0, vR (some k))] []) (hrec : ∀ (v3 : Int32) (v4 : Int32) (v5 : Int32), ∀ y, rec v3 v4 v5 = some y → KX y → G X s 0 0 23 [(0, vR (some k)), (1, vR a1), (2, vR a2), (3, vI v3), (4, vI v4), (5, vI v5)] []) (ht : rf s.2.2 0 (some k) = some k) {res : (Int32) ⊕ (Unit)} (h : b_Sk_comesNear_23 k a1 a2 a3 a4 a5 s rec = some res) (hk : KX res) : G X s 0 0 23 [(0, vR (some k)), (1, vR a1), (2, vR a2), (3, vI a3), (4, vI a4), (5, vI a5)] [] := by
  unfold b_Sk_comesNear_23 at h
  refine g_iload (i := 5) 5 ok d_Sk_comesNear_23 rfl ?_
  refine g_aload_n (i := 0) 0 ok d_Sk_comesNear_25 rfl rfl ?_
  refine g_geti (s0 := 0) (j := 10) (ci := 4) (C := RX4) (T := TX4) (N := 14) ok ht lay_0 rfl inX4 (by decide) rfl tw_92 rfl d_Sk_comesNear_26 ?_
  refine g_bipush (v := (10 : Int32)) ok d_Sk_comesNear_29 (by decide) ?_
  refine g_iadd ok d_Sk_comesNear_31 ?_
  refine g_icmp_gt (tgt := 97) ok d_Sk_comesNear_32 (by decide) (fun c10 => ?_) (fun c10 => ?_)
  · replace h := (if_pos c10).symm.trans h
    refine g_sub [0] rfl ?_
    cases h
    exact hexit hk
  · replace h := (if_neg c10).symm.trans h
    refine g_iload (i := 4) 4 ok d_Sk_comesNear_35 rfl ?_
    refine g_aload_n (i := 2) 2 ok d_Sk_comesNear_37 rfl rfl ?_
    obtain ⟨k11, hk12, h⟩ := bnd_go h
    refine g_getiN (s0 := 11) (j := 6) (ci := 1) (C := RX1) (T := TX1) (N := 7) ok hk12 lay_11 rfl inX1 (by decide) rfl tw_458 rfl d_Sk_comesNear_38 ?_
    refine g_invS (rm2 := rm_Sk_homeward) (As := [vI a4, vI (s.1 k11 6)]) (rest := []) ok (c_Sk_homeward X.1.2.1) cm_Sk_homeward cs_Sk_homeward tw_181 ⟨rfl, rfl⟩ ⟨le_t rfl, le_t rfl⟩ ⟨rfl, le_t rfl⟩ ⟨le_t rfl, le_t rfl⟩ d_Sk_comesNear_41 rfl (fun m13 => ?_)
    show G X s 0 0 44 [(0, vR (some k)), (1, vR a1), (2, vR a2), (3, vI a3), (4, vI a4), (5, vI a5)] [vI (f_Sk_homeward a4 (s.1 k11 6))]
    obtain ⟨x14, e15⟩ : ∃ z, (f_Sk_homeward a4 (s.1 k11 6)) = z := ⟨_, rfl⟩
    replace h := lt_go h e15
    rw [e15]
    refine g_istore (i := 6) [(6, vI x14), (0, vR (some k)), (1, vR a1), (2, vR a2), (3, vI a3), (4, vI a4), (5, vI a5)] ok d_Sk_comesNear_44 (by decide) rfl ?_
    refine g_aload_n (i := 1) 2 ok d_Sk_comesNear_46 rfl rfl ?_
    refine g_iload (i := 5) 6 ok d_Sk_comesNear_47 rfl ?_
    obtain ⟨k16, hk17, h⟩ := bnd_go h
    obtain ⟨x19, hc20, h⟩ := bnd_go h
    refine g_invVN (rm2 := rm_Pa_placeWhen) (As := [vI a5]) (rest := []) ok hk17 lay_12 rfl (c_Pa_placeWhen X.1.2.1 (rf_self hk17) hc20) cm_Pa_placeWhen cv_Pa_placeWhen tw_156 ⟨rfl, rfl⟩ ⟨le_t rfl, le_t rfl⟩ ⟨rfl, le_t rfl⟩ ⟨le_t rfl, le_t rfl⟩ d_Sk_comesNear_49 rfl (fun m18 => ?_)
    show G X s 0 0 52 [(6, vI x14), (0, vR (some k)), (1, vR a1), (2, vR a2), (3, vI a3), (4, vI a4), (5, vI a5)] [vI x19]
    refine g_istore (i := 7) [(7, vI x19), (6, vI x14), (0, vR (some k)), (1, vR a1), (2, vR a2), (3, vI a3), (4, vI a4), (5, vI a5)] ok d_Sk_comesNear_52 (by decide) rfl ?_
    refine g_iload (i := 7) 0 ok d_Sk_comesNear_54 rfl ?_
    refine g_invS (rm2 := rm_Sk_isOnGround) (As := [vI x19]) (rest := []) ok (c_Sk_isOnGround X.1.2.1) cm_Sk_isOnGround cs_Sk_isOnGround tw_184 ⟨rfl, rfl⟩ ⟨le_t rfl, le_t rfl⟩ ⟨rfl, le_t rfl⟩ ⟨le_t rfl, le_t rfl⟩ d_Sk_comesNear_56 rfl (fun m21 => ?_)
    show G X s 0 0 59 [(7, vI x19), (6, vI x14), (0, vR (some k)), (1, vR a1), (2, vR a2), (3, vI a3), (4, vI a4), (5, vI a5)] [vI (f_Sk_isOnGround x19)]
    refine g_if_ne (tgt := 84) ok d_Sk_comesNear_59 (by decide) (fun c22 => ?_) (fun c22 => ?_)
    · replace h := (if_pos c22).symm.trans h
      refine g_iload (i := 7) 0 ok d_Sk_comesNear_62 rfl ?_
      refine g_iload_n (i := 3) 5 ok d_Sk_comesNear_64 rfl rfl ?_
      refine g_icmp_eq (tgt := 82) ok d_Sk_comesNear_65 (by decide) (fun c23 => ?_) (fun c23 => ?_)
      · replace h := (if_pos c23).symm.trans h
        refine g_iconst (v := (1 : Int32)) ok d_Sk_comesNear_82 (by decide) ?_
        cases h
        exact g_zret ok (hret _ hk) (Or.inr rfl) (by decide) (by decide) d_Sk_comesNear_83
      · replace h := (if_neg c23).symm.trans h
        refine g_iload (i := 7) 0 ok d_Sk_comesNear_68 rfl ?_
        refine g_iload (i := 4) 6 ok d_Sk_comesNear_70 rfl ?_
        refine g_icmp_eq (tgt := 82) ok d_Sk_comesNear_72 (by decide) (fun c24 => ?_) (fun c24 => ?_)
        · replace h := (if_pos c24).symm.trans h
          refine g_iconst (v := (1 : Int32)) ok d_Sk_comesNear_82 (by decide) ?_
          cases h
          exact g_zret ok (hret _ hk) (Or.inr rfl) (by decide) (by decide) d_Sk_comesNear_83
        · replace h := (if_neg c24).symm.trans h
          refine g_iload (i := 7) 0 ok d_Sk_comesNear_75 rfl ?_
          refine g_iload (i := 6) 1 ok d_Sk_comesNear_77 rfl ?_
          refine g_icmp_ne (tgt := 84) ok d_Sk_comesNear_79 (by decide) (fun c25 => ?_) (fun c25 => ?_)
          · replace h := (if_pos c25).symm.trans h
            refine g_iconst (v := (1 : Int32)) ok d_Sk_comesNear_82 (by decide) ?_
            cases h
            exact g_zret ok (hret _ hk) (Or.inr rfl) (by decide) (by decide) d_Sk_comesNear_83
          · replace h := (if_neg c25).symm.trans h
            refine g_iload (i := 4) 6 ok d_Sk_comesNear_84 rfl ?_
            refine g_istore_n (i := 3) [(3, vI a4), (7, vI x19), (6, vI x14), (0, vR (some k)), (1, vR a1), (2, vR a2), (4, vI a4), (5, vI a5)] ok d_Sk_comesNear_86 rfl (by decide) rfl ?_
            refine g_iload (i := 6) 2 ok d_Sk_comesNear_87 rfl ?_
            refine g_istore (i := 4) [(4, vI x14), (3, vI a4), (7, vI x19), (6, vI x14), (0, vR (some k)), (1, vR a1), (2, vR a2), (5, vI a5)] ok d_Sk_comesNear_89 (by decide) rfl ?_
            obtain ⟨x26, e27⟩ : ∃ z, a5 + (1 : Int32) = z := ⟨_, rfl⟩
            replace h := lt_go h e27
            refine g_iinc (i := 5) (v := x26) 7 [(5, vI x26), (4, vI x14), (3, vI a4), (7, vI x19), (6, vI x14), (0, vR (some k)), (1, vR a1), (2, vR a2)] ok d_Sk_comesNear_91 rfl (by rw [← e27]; rfl) (by decide) rfl ?_
            refine g_goto (tgt := 23) ok d_Sk_comesNear_94 (by decide) ?_
            refine g_sub [5, 6, 7, 2, 1, 0] rfl ?_
            exact hrec a4 x14 x26 _ h hk
    · replace h := (if_neg c22).symm.trans h
      refine g_iload (i := 4) 6 ok d_Sk_comesNear_84 rfl ?_
      refine g_istore_n (i := 3) [(3, vI a4), (7, vI x19), (6, vI x14), (0, vR (some k)), (1, vR a1), (2, vR a2), (4, vI a4), (5, vI a5)] ok d_Sk_comesNear_86 rfl (by decide) rfl ?_
      refine g_iload (i := 6) 2 ok d_Sk_comesNear_87 rfl ?_
      refine g_istore (i := 4) [(4, vI x14), (3, vI a4), (7, vI x19), (6, vI x14), (0, vR (some k)), (1, vR a1), (2, vR a2), (5, vI a5)] ok d_Sk_comesNear_89 (by decide) rfl ?_
      obtain ⟨x28, e29⟩ : ∃ z, a5 + (1 : Int32) = z := ⟨_, rfl⟩
      replace h := lt_go h e29
      refine g_iinc (i := 5) (v := x28) 7 [(5, vI x28), (4, vI x14), (3, vI a4), (7, vI x19), (6, vI x14), (0, vR (some k)), (1, vR a1), (2, vR a2)] ok d_Sk_comesNear_91 rfl (by rw [← e29]; rfl) (by decide) rfl ?_
      refine g_goto (tgt := 23) ok d_Sk_comesNear_94 (by decide) ?_
      refine g_sub [5, 6, 7, 2, 1, 0] rfl ?_
      exact hrec a4 x14 x28 _ h hk
theorem w_l_Sk_comesNear_23 {X : CX} {KX : (Int32) ⊕ (Unit) → Prop} {k : Nat} {a1 : Option Nat} {a2 : Option Nat} {s : MS} (ok : Ok X cX4_comesNear RX4 rm_Sk_comesNear 8 false) (hret : ∀ r : Int32, KX (.inl r) → Fin X (some .boolean) 0 0 false (some (vI r)) s) (hexit : KX (.inr ()) → G X s 0 0 97 [(0, vR (some k))] []) (ht : rf s.2.2 0 (some k) = some k) : ∀ (n : Nat) (a3 : Int32) (a4 : Int32) (a5 : Int32) {res : (Int32) ⊕ (Unit)}, l_Sk_comesNear_23 k a1 a2 s n a3 a4 a5 = some res → KX res → G X s 0 0 23 [(0, vR (some k)), (1, vR a1), (2, vR a2), (3, vI a3), (4, vI a4), (5, vI a5)] [] := by
  intro n
  induction n with
  | zero => intro _ _ _ res h; cases h
  | succ n ih =>
    intro a3 a4 a5 res h hk
    exact w_b_Sk_comesNear_23 ok hret hexit (fun v3 v4 v5 y h2 hk2 => ih v3 v4 v5 h2 hk2) ht h hk
set_option maxRecDepth 100000 in
set_option maxHeartbeats 4000000 in
theorem w_Sk_comesNear {X : CX} {KX : Int32 → Prop} {k : Nat} {a1 : Option Nat} {a2 : Option Nat} {s : MS} (ok : Ok X cX4_comesNear RX4 rm_Sk_comesNear 8 false) (hret : ∀ r : Int32, KX r → Fin X (some .boolean) 0 0 false (some (vI r)) s)   (ht : rf s.2.2 0 (some k) = some k) {res : Int32} (h : f_Sk_comesNear k a1 a2 s = some res) (hk : KX res) : G X s 0 0 0 [(0, vR (some k)), (1, vR a1), (2, vR a2)] [] := by
  unfold f_Sk_comesNear at h
  refine g_aload_n (i := 2) 2 ok d_Sk_comesNear_0 rfl rfl ?_
  obtain ⟨k1, hk2, h⟩ := bnd_go h
  refine g_getiN (s0 := 11) (j := 3) (ci := 1) (C := RX1) (T := TX1) (N := 7) ok hk2 lay_11 rfl inX1 (by decide) rfl tw_452 rfl d_Sk_comesNear_1 ?_
  obtain ⟨x3, e4⟩ : ∃ z, (s.1 k1 3) = z := ⟨_, rfl⟩
  replace h := lt_go h e4
  rw [e4]
  refine g_istore_n (i := 3) [(3, vI x3), (0, vR (some k)), (1, vR a1), (2, vR a2)] ok d_Sk_comesNear_4 rfl (by decide) rfl ?_
  refine g_iload_n (i := 3) 0 ok d_Sk_comesNear_5 rfl rfl ?_
  refine g_aload_n (i := 2) 3 ok d_Sk_comesNear_6 rfl rfl ?_
  refine g_getiN (s0 := 11) (j := 6) (ci := 1) (C := RX1) (T := TX1) (N := 7) ok hk2 lay_11 rfl inX1 (by decide) rfl tw_458 rfl d_Sk_comesNear_7 ?_
  refine g_invS (rm2 := rm_Sk_homeward) (As := [vI x3, vI (s.1 k1 6)]) (rest := []) ok (c_Sk_homeward X.1.2.1) cm_Sk_homeward cs_Sk_homeward tw_181 ⟨rfl, rfl⟩ ⟨le_t rfl, le_t rfl⟩ ⟨rfl, le_t rfl⟩ ⟨le_t rfl, le_t rfl⟩ d_Sk_comesNear_10 rfl (fun m5 => ?_)
  show G X s 0 0 13 [(3, vI x3), (0, vR (some k)), (1, vR a1), (2, vR a2)] [vI (f_Sk_homeward x3 (s.1 k1 6))]
  obtain ⟨x6, e7⟩ : ∃ z, (f_Sk_homeward x3 (s.1 k1 6)) = z := ⟨_, rfl⟩
  replace h := lt_go h e7
  rw [e7]
  refine g_istore (i := 4) [(4, vI x6), (3, vI x3), (0, vR (some k)), (1, vR a1), (2, vR a2)] ok d_Sk_comesNear_13 (by decide) rfl ?_
  refine g_aload_n (i := 0) 2 ok d_Sk_comesNear_15 rfl rfl ?_
  refine g_geti (s0 := 0) (j := 10) (ci := 4) (C := RX4) (T := TX4) (N := 14) ok ht lay_0 rfl inX4 (by decide) rfl tw_92 rfl d_Sk_comesNear_16 ?_
  refine g_iconst (v := (1 : Int32)) ok d_Sk_comesNear_19 (by decide) ?_
  refine g_iadd ok d_Sk_comesNear_20 ?_
  obtain ⟨x8, e9⟩ : ∃ z, ((s.1 k 10) + (1 : Int32)) = z := ⟨_, rfl⟩
  replace h := lt_go h e9
  rw [e9]
  refine g_istore (i := 5) [(5, vI x8), (4, vI x6), (3, vI x3), (0, vR (some k)), (1, vR a1), (2, vR a2)] ok d_Sk_comesNear_21 (by decide) rfl ?_
  refine g_sub [3, 4, 5, 2, 1, 0] rfl ?_
  rcases el0_go h with ⟨r, hx, h⟩ | ⟨hx, h⟩
  · refine w_l_Sk_comesNear_23 (KX := fun y => y = .inl r) ok (fun r2 he => ?_) (fun he => by cases he) ht _ _ _ _ hx rfl
    cases he
    cases h
    exact hret _ hk
  · refine w_l_Sk_comesNear_23 (KX := fun y => y = .inr ()) ok (fun r2 he => by cases he) (fun he => ?_) ht _ _ _ _ hx rfl
    cases he
    refine g_iconst (v := (0 : Int32)) ok d_Sk_comesNear_97 (by decide) ?_
    cases h
    exact g_zret ok (hret _ hk) (Or.inl rfl) (by decide) (by decide) d_Sk_comesNear_98
theorem c_Sk_comesNear (l : Launch) {k : Nat} {a1 : Option Nat} {a2 : Option Nat} {s : MS} (ht : rf s.2.2 0 (some k) = some k) {r : Int32} (h : f_Sk_comesNear k a1 a2 s = some r) : Ct l yX4_comesNear (.code yX4_comesNear cX4_comesNear 8 (some .boolean)) rm_Sk_comesNear 0 0 false [vR (some k), vR a1, vR a2] s (some (vI r)) s :=
  Ct.of rfl (by decide +kernel) ⟨rfl, le_t rfl⟩ (fun X ok fn _ hI hl => w_Sk_comesNear (KX := fun y => y = r) ok (fun y hy => by subst hy; exact fn) ht h rfl)
abbrev rm_Sk_comesNearLost : Room := { frames := 3, cells := 0, slots := 0, locals := 71 }
theorem cm_Sk_comesNearLost : cfM yX4_comesNearLost cX4_comesNearLost 6 (some .boolean) 1 := ⟨tw_176, tw_1, by decide, by decide, by decide +kernel⟩
theorem cv_Sk_comesNearLost : cfV yX4_comesNearLost := ⟨tw_175, ts_X4_comesNearLost⟩
theorem d_Sk_comesNearLost_0 : decode cX4_comesNearLost 0 = .ok (.aload_n 0, 1) := by decide +kernel
theorem d_Sk_comesNearLost_1 : decode cX4_comesNearLost 1 = .ok (.getfield 24, 3) := by decide +kernel
theorem d_Sk_comesNearLost_4 : decode cX4_comesNearLost 4 = .ok (.astore_n 2, 1) := by decide +kernel
theorem d_Sk_comesNearLost_5 : decode cX4_comesNearLost 5 = .ok (.aload_n 2, 1) := by decide +kernel
theorem d_Sk_comesNearLost_6 : decode cX4_comesNearLost 6 = .ok (.arraylength, 1) := by decide +kernel
theorem d_Sk_comesNearLost_7 : decode cX4_comesNearLost 7 = .ok (.istore_n 3, 1) := by decide +kernel
theorem d_Sk_comesNearLost_8 : decode cX4_comesNearLost 8 = .ok (.iconst 0, 1) := by decide +kernel
theorem d_Sk_comesNearLost_9 : decode cX4_comesNearLost 9 = .ok (.istore 4, 2) := by decide +kernel
theorem d_Sk_comesNearLost_11 : decode cX4_comesNearLost 11 = .ok (.iload 4, 2) := by decide +kernel
theorem d_Sk_comesNearLost_13 : decode cX4_comesNearLost 13 = .ok (.iload_n 3, 1) := by decide +kernel
theorem d_Sk_comesNearLost_14 : decode cX4_comesNearLost 14 = .ok (.if_icmp .ge 41, 3) := by decide +kernel
theorem d_Sk_comesNearLost_17 : decode cX4_comesNearLost 17 = .ok (.aload_n 2, 1) := by decide +kernel
theorem d_Sk_comesNearLost_18 : decode cX4_comesNearLost 18 = .ok (.iload 4, 2) := by decide +kernel
theorem d_Sk_comesNearLost_20 : decode cX4_comesNearLost 20 = .ok (.aaload, 1) := by decide +kernel
theorem d_Sk_comesNearLost_21 : decode cX4_comesNearLost 21 = .ok (.astore 5, 2) := by decide +kernel
theorem d_Sk_comesNearLost_23 : decode cX4_comesNearLost 23 = .ok (.aload 5, 2) := by decide +kernel
theorem d_Sk_comesNearLost_25 : decode cX4_comesNearLost 25 = .ok (.ifnull 24, 3) := by decide +kernel
theorem d_Sk_comesNearLost_28 : decode cX4_comesNearLost 28 = .ok (.aload 5, 2) := by decide +kernel
theorem d_Sk_comesNearLost_30 : decode cX4_comesNearLost 30 = .ok (.getfield 163, 3) := by decide +kernel
theorem d_Sk_comesNearLost_33 : decode cX4_comesNearLost 33 = .ok (.iconst 2, 1) := by decide +kernel
theorem d_Sk_comesNearLost_34 : decode cX4_comesNearLost 34 = .ok (.if_icmp .ne 15, 3) := by decide +kernel
theorem d_Sk_comesNearLost_37 : decode cX4_comesNearLost 37 = .ok (.aload_n 0, 1) := by decide +kernel
theorem d_Sk_comesNearLost_38 : decode cX4_comesNearLost 38 = .ok (.aload_n 1, 1) := by decide +kernel
theorem d_Sk_comesNearLost_39 : decode cX4_comesNearLost 39 = .ok (.aload 5, 2) := by decide +kernel
theorem d_Sk_comesNearLost_41 : decode cX4_comesNearLost 41 = .ok (.invokevirtual 397, 3) := by decide +kernel
theorem d_Sk_comesNearLost_44 : decode cX4_comesNearLost 44 = .ok (.ifCond .eq 5, 3) := by decide +kernel
theorem d_Sk_comesNearLost_47 : decode cX4_comesNearLost 47 = .ok (.iconst 1, 1) := by decide +kernel
theorem d_Sk_comesNearLost_48 : decode cX4_comesNearLost 48 = .ok (.ireturn, 1) := by decide +kernel
theorem d_Sk_comesNearLost_49 : decode cX4_comesNearLost 49 = .ok (.iinc 4 1, 3) := by decide +kernel
theorem d_Sk_comesNearLost_52 : decode cX4_comesNearLost 52 = .ok (.goto (-41), 3) := by decide +kernel
theorem d_Sk_comesNearLost_55 : decode cX4_comesNearLost 55 = .ok (.iconst 0, 1) := by decide +kernel
theorem d_Sk_comesNearLost_56 : decode cX4_comesNearLost 56 = .ok (.ireturn, 1) := by decide +kernel
set_option maxRecDepth 100000 in
set_option maxHeartbeats 4000000 in
theorem w_b_Sk_comesNearLost_11 {X : CX} {KX : (Int32) ⊕ (Unit) → Prop} {k : Nat} {a1 : Option Nat} {a2 : Option Nat} {a3 : Int32} {a4 : Int32} {s : MS} {rec : Int32 → Option ((Int32) ⊕ (Unit))} (ok : Ok X cX4_comesNearLost RX4 rm_Sk_comesNearLost 6 false) (hret : ∀ r : Int32, KX (.inl r) → Fin X (some .boolean) 0 0 false (some (vI r)) s) (hexit : KX (.inr ()) → G X s 0 0 55 [(0, vR (some k))] []) (hrec : ∀ (v4 : Int32), ∀ y, rec v4 = some y → KX y → G X s 0 0 11 [(0, vR (some k)), (1, vR a1), (2, vR a2), (3, vI a3), (4, vI v4)] []) (ht : rf s.2.2 0 (some k) = some k) {res : (Int32) ⊕ (Unit)} (h : b_Sk_comesNearLost_11 k a1 a2 a3 a4 s rec = some res) (hk : KX res) : G X s 0 0 11 [(0, vR (some k)), (1, vR a1), (2, vR a2), (3, vI a3), (4, vI a4)] [] := by
  unfold b_Sk_comesNearLost_11 at h
  refine g_iload (i := 4) 4 ok d_Sk_comesNearLost_11 rfl ?_
  refine g_iload_n (i := 3) 3 ok d_Sk_comesNearLost_13 rfl rfl ?_
  refine g_icmp_ge (tgt := 55) ok d_Sk_comesNearLost_14 (by decide) (fun c7 => ?_) (fun c7 => ?_)
  · replace h := (if_pos c7).symm.trans h
    refine g_aload_n (i := 2) 2 ok d_Sk_comesNearLost_17 rfl rfl ?_
    refine g_iload (i := 4) 4 ok d_Sk_comesNearLost_18 rfl ?_
    obtain ⟨k8, hk9, h⟩ := bnd_go h
    refine g_aald4 ok hk9 d_Sk_comesNearLost_20 ?_
    obtain ⟨x10, e11⟩ : ∃ z, (s.2.1 k8 a4.toNatClampNeg) = z := ⟨_, rfl⟩
    replace h := lt_go h e11
    rw [e11]
    refine g_astore (i := 5) [(5, vR x10), (0, vR (some k)), (1, vR a1), (2, vR a2), (3, vI a3), (4, vI a4)] ok d_Sk_comesNearLost_21 (by decide) rfl ?_
    refine g_aload (i := 5) 0 ok d_Sk_comesNearLost_23 rfl ?_
    refine g_ifnull (tgt := 49) ok d_Sk_comesNearLost_25 (by decide) (fun c12 => ?_) (fun c12 => ?_)
    · replace h := (if_pos c12).symm.trans h
      obtain ⟨x13, e14⟩ : ∃ z, a4 + (1 : Int32) = z := ⟨_, rfl⟩
      replace h := lt_go h e14
      refine g_iinc (i := 4) (v := x13) 5 [(4, vI x13), (5, vR x10), (0, vR (some k)), (1, vR a1), (2, vR a2), (3, vI a3)] ok d_Sk_comesNearLost_49 rfl (by rw [← e14]; rfl) (by decide) rfl ?_
      refine g_goto (tgt := 11) ok d_Sk_comesNearLost_52 (by decide) ?_
      refine g_sub [2, 3, 4, 5, 0] rfl ?_
      exact hrec x13 _ h hk
    · replace h := (if_neg c12).symm.trans h
      refine g_aload (i := 5) 0 ok d_Sk_comesNearLost_28 rfl ?_
      obtain ⟨k15, hk16, h⟩ := bnd_go h
      refine g_getiN (s0 := 11) (j := 4) (ci := 1) (C := RX1) (T := TX1) (N := 7) ok hk16 lay_11 rfl inX1 (by decide) rfl tw_454 rfl d_Sk_comesNearLost_30 ?_
      refine g_iconst (v := (2 : Int32)) ok d_Sk_comesNearLost_33 (by decide) ?_
      refine g_icmp_ne (tgt := 49) ok d_Sk_comesNearLost_34 (by decide) (fun c17 => ?_) (fun c17 => ?_)
      · replace h := (if_pos c17).symm.trans h
        refine g_aload_n (i := 0) 1 ok d_Sk_comesNearLost_37 rfl rfl ?_
        refine g_aload_n (i := 1) 2 ok d_Sk_comesNearLost_38 rfl rfl ?_
        refine g_aload (i := 5) 0 ok d_Sk_comesNearLost_39 rfl ?_
        obtain ⟨x19, hc20, h⟩ := bnd_go h
        refine g_invV (rm2 := rm_Sk_comesNear) (As := [vR a1, vR x10]) (rest := []) ok ht lay_0 rfl (c_Sk_comesNear X.1.2.1 (rf_self ht) hc20) cm_Sk_comesNear cv_Sk_comesNear tw_177 ⟨rfl, rfl⟩ ⟨le_t rfl, le_t rfl⟩ ⟨rfl, le_t rfl⟩ ⟨le_t rfl, le_t rfl⟩ d_Sk_comesNearLost_41 rfl (fun m18 => ?_)
        show G X s 0 0 44 [(5, vR x10), (0, vR (some k)), (1, vR a1), (2, vR a2), (3, vI a3), (4, vI a4)] [vI x19]
        refine g_if_eq (tgt := 49) ok d_Sk_comesNearLost_44 (by decide) (fun c21 => ?_) (fun c21 => ?_)
        · replace h := (if_pos c21).symm.trans h
          obtain ⟨x22, e23⟩ : ∃ z, a4 + (1 : Int32) = z := ⟨_, rfl⟩
          replace h := lt_go h e23
          refine g_iinc (i := 4) (v := x22) 5 [(4, vI x22), (5, vR x10), (0, vR (some k)), (1, vR a1), (2, vR a2), (3, vI a3)] ok d_Sk_comesNearLost_49 rfl (by rw [← e23]; rfl) (by decide) rfl ?_
          refine g_goto (tgt := 11) ok d_Sk_comesNearLost_52 (by decide) ?_
          refine g_sub [2, 3, 4, 5, 0] rfl ?_
          exact hrec x22 _ h hk
        · replace h := (if_neg c21).symm.trans h
          refine g_iconst (v := (1 : Int32)) ok d_Sk_comesNearLost_47 (by decide) ?_
          cases h
          exact g_zret ok (hret _ hk) (Or.inr rfl) (by decide) (by decide) d_Sk_comesNearLost_48
      · replace h := (if_neg c17).symm.trans h
        obtain ⟨x24, e25⟩ : ∃ z, a4 + (1 : Int32) = z := ⟨_, rfl⟩
        replace h := lt_go h e25
        refine g_iinc (i := 4) (v := x24) 5 [(4, vI x24), (5, vR x10), (0, vR (some k)), (1, vR a1), (2, vR a2), (3, vI a3)] ok d_Sk_comesNearLost_49 rfl (by rw [← e25]; rfl) (by decide) rfl ?_
        refine g_goto (tgt := 11) ok d_Sk_comesNearLost_52 (by decide) ?_
        refine g_sub [2, 3, 4, 5, 0] rfl ?_
        exact hrec x24 _ h hk
  · replace h := (if_neg c7).symm.trans h
    refine g_sub [0] rfl ?_
    cases h
    exact hexit hk
theorem w_l_Sk_comesNearLost_11 {X : CX} {KX : (Int32) ⊕ (Unit) → Prop} {k : Nat} {a1 : Option Nat} {a2 : Option Nat} {a3 : Int32} {s : MS} (ok : Ok X cX4_comesNearLost RX4 rm_Sk_comesNearLost 6 false) (hret : ∀ r : Int32, KX (.inl r) → Fin X (some .boolean) 0 0 false (some (vI r)) s) (hexit : KX (.inr ()) → G X s 0 0 55 [(0, vR (some k))] []) (ht : rf s.2.2 0 (some k) = some k) : ∀ (n : Nat) (a4 : Int32) {res : (Int32) ⊕ (Unit)}, l_Sk_comesNearLost_11 k a1 a2 a3 s n a4 = some res → KX res → G X s 0 0 11 [(0, vR (some k)), (1, vR a1), (2, vR a2), (3, vI a3), (4, vI a4)] [] := by
  intro n
  induction n with
  | zero => intro _ res h; cases h
  | succ n ih =>
    intro a4 res h hk
    exact w_b_Sk_comesNearLost_11 ok hret hexit (fun v4 y h2 hk2 => ih v4 h2 hk2) ht h hk
set_option maxRecDepth 100000 in
set_option maxHeartbeats 4000000 in
theorem w_Sk_comesNearLost {X : CX} {KX : Int32 → Prop} {k : Nat} {a1 : Option Nat} {s : MS} (ok : Ok X cX4_comesNearLost RX4 rm_Sk_comesNearLost 6 false) (hret : ∀ r : Int32, KX r → Fin X (some .boolean) 0 0 false (some (vI r)) s)   (ht : rf s.2.2 0 (some k) = some k) {res : Int32} (h : f_Sk_comesNearLost k a1 s = some res) (hk : KX res) : G X s 0 0 0 [(0, vR (some k)), (1, vR a1)] [] := by
  unfold f_Sk_comesNearLost at h
  refine g_aload_n (i := 0) 0 ok d_Sk_comesNearLost_0 rfl rfl ?_
  refine g_getr (s0 := 0) (j := 2) (ci := 4) (C := RX4) (T := TX4) (N := 14) ok ht lay_0 rfl inX4 (by decide) rfl tw_84 rfl d_Sk_comesNearLost_1 ?_
  obtain ⟨x1, e2⟩ : ∃ z, (s.2.1 k 2) = z := ⟨_, rfl⟩
  replace h := lt_go h e2
  rw [e2]
  refine g_astore_n (i := 2) [(2, vR x1), (0, vR (some k)), (1, vR a1)] ok d_Sk_comesNearLost_4 rfl (by decide) rfl ?_
  refine g_aload_n (i := 2) 0 ok d_Sk_comesNearLost_5 rfl rfl ?_
  obtain ⟨n3, hn4, h⟩ := bnd_go h
  refine g_alen ok hn4 (by decide) d_Sk_comesNearLost_6 ?_
  obtain ⟨x5, e6⟩ : ∃ z, (Int32.ofNat n3) = z := ⟨_, rfl⟩
  replace h := lt_go h e6
  rw [e6]
  refine g_istore_n (i := 3) [(3, vI x5), (2, vR x1), (0, vR (some k)), (1, vR a1)] ok d_Sk_comesNearLost_7 rfl (by decide) rfl ?_
  refine g_iconst (v := (0 : Int32)) ok d_Sk_comesNearLost_8 (by decide) ?_
  refine g_istore (i := 4) [(4, vI (0 : Int32)), (3, vI x5), (2, vR x1), (0, vR (some k)), (1, vR a1)] ok d_Sk_comesNearLost_9 (by decide) rfl ?_
  refine g_sub [3, 4, 2, 1, 0] rfl ?_
  rcases el0_go h with ⟨r, hx, h⟩ | ⟨hx, h⟩
  · refine w_l_Sk_comesNearLost_11 (KX := fun y => y = .inl r) ok (fun r2 he => ?_) (fun he => by cases he) ht _ _ hx rfl
    cases he
    cases h
    exact hret _ hk
  · refine w_l_Sk_comesNearLost_11 (KX := fun y => y = .inr ()) ok (fun r2 he => by cases he) (fun he => ?_) ht _ _ hx rfl
    cases he
    refine g_iconst (v := (0 : Int32)) ok d_Sk_comesNearLost_55 (by decide) ?_
    cases h
    exact g_zret ok (hret _ hk) (Or.inl rfl) (by decide) (by decide) d_Sk_comesNearLost_56
theorem c_Sk_comesNearLost (l : Launch) {k : Nat} {a1 : Option Nat} {s : MS} (ht : rf s.2.2 0 (some k) = some k) {r : Int32} (h : f_Sk_comesNearLost k a1 s = some r) : Ct l yX4_comesNearLost (.code yX4_comesNearLost cX4_comesNearLost 6 (some .boolean)) rm_Sk_comesNearLost 0 0 false [vR (some k), vR a1] s (some (vI r)) s :=
  Ct.of rfl (by decide +kernel) ⟨rfl, le_t rfl⟩ (fun X ok fn _ hI hl => w_Sk_comesNearLost (KX := fun y => y = r) ok (fun y hy => by subst hy; exact fn) ht h rfl)
abbrev rm_Sk_alerts : Room := { frames := 4, cells := 0, slots := 0, locals := 96 }
theorem cm_Sk_alerts : cfM yX4_alerts cX4_alerts 4 (some .int) 0 := ⟨tw_140, tw_1, by decide, by decide, by decide +kernel⟩
theorem cv_Sk_alerts : cfV yX4_alerts := ⟨tw_138, tw_139⟩
theorem d_Sk_alerts_0 : decode cX4_alerts 0 = .ok (.iconst 0, 1) := by decide +kernel
theorem d_Sk_alerts_1 : decode cX4_alerts 1 = .ok (.istore_n 1, 1) := by decide +kernel
theorem d_Sk_alerts_2 : decode cX4_alerts 2 = .ok (.iconst 0, 1) := by decide +kernel
theorem d_Sk_alerts_3 : decode cX4_alerts 3 = .ok (.istore_n 2, 1) := by decide +kernel
theorem d_Sk_alerts_4 : decode cX4_alerts 4 = .ok (.iload_n 2, 1) := by decide +kernel
theorem d_Sk_alerts_5 : decode cX4_alerts 5 = .ok (.aload_n 0, 1) := by decide +kernel
theorem d_Sk_alerts_6 : decode cX4_alerts 6 = .ok (.getfield 24, 3) := by decide +kernel
theorem d_Sk_alerts_9 : decode cX4_alerts 9 = .ok (.arraylength, 1) := by decide +kernel
theorem d_Sk_alerts_10 : decode cX4_alerts 10 = .ok (.if_icmp .ge 46, 3) := by decide +kernel
theorem d_Sk_alerts_13 : decode cX4_alerts 13 = .ok (.aload_n 0, 1) := by decide +kernel
theorem d_Sk_alerts_14 : decode cX4_alerts 14 = .ok (.aload_n 0, 1) := by decide +kernel
theorem d_Sk_alerts_15 : decode cX4_alerts 15 = .ok (.getfield 24, 3) := by decide +kernel
theorem d_Sk_alerts_18 : decode cX4_alerts 18 = .ok (.iload_n 2, 1) := by decide +kernel
theorem d_Sk_alerts_19 : decode cX4_alerts 19 = .ok (.aaload, 1) := by decide +kernel
theorem d_Sk_alerts_20 : decode cX4_alerts 20 = .ok (.invokevirtual 228, 3) := by decide +kernel
theorem d_Sk_alerts_23 : decode cX4_alerts 23 = .ok (.astore_n 3, 1) := by decide +kernel
theorem d_Sk_alerts_24 : decode cX4_alerts 24 = .ok (.aload_n 3, 1) := by decide +kernel
theorem d_Sk_alerts_25 : decode cX4_alerts 25 = .ok (.ifnull 25, 3) := by decide +kernel
theorem d_Sk_alerts_28 : decode cX4_alerts 28 = .ok (.aload_n 0, 1) := by decide +kernel
theorem d_Sk_alerts_29 : decode cX4_alerts 29 = .ok (.aload_n 3, 1) := by decide +kernel
theorem d_Sk_alerts_30 : decode cX4_alerts 30 = .ok (.invokevirtual 260, 3) := by decide +kernel
theorem d_Sk_alerts_33 : decode cX4_alerts 33 = .ok (.ifCond .ne 11, 3) := by decide +kernel
theorem d_Sk_alerts_36 : decode cX4_alerts 36 = .ok (.aload_n 0, 1) := by decide +kernel
theorem d_Sk_alerts_37 : decode cX4_alerts 37 = .ok (.aload_n 3, 1) := by decide +kernel
theorem d_Sk_alerts_38 : decode cX4_alerts 38 = .ok (.invokevirtual 264, 3) := by decide +kernel
theorem d_Sk_alerts_41 : decode cX4_alerts 41 = .ok (.ifCond .eq 9, 3) := by decide +kernel
theorem d_Sk_alerts_44 : decode cX4_alerts 44 = .ok (.iload_n 1, 1) := by decide +kernel
theorem d_Sk_alerts_45 : decode cX4_alerts 45 = .ok (.iconst 1, 1) := by decide +kernel
theorem d_Sk_alerts_46 : decode cX4_alerts 46 = .ok (.iload_n 2, 1) := by decide +kernel
theorem d_Sk_alerts_47 : decode cX4_alerts 47 = .ok (.ishl, 1) := by decide +kernel
theorem d_Sk_alerts_48 : decode cX4_alerts 48 = .ok (.ior, 1) := by decide +kernel
theorem d_Sk_alerts_49 : decode cX4_alerts 49 = .ok (.istore_n 1, 1) := by decide +kernel
theorem d_Sk_alerts_50 : decode cX4_alerts 50 = .ok (.iinc 2 1, 3) := by decide +kernel
theorem d_Sk_alerts_53 : decode cX4_alerts 53 = .ok (.goto (-49), 3) := by decide +kernel
theorem d_Sk_alerts_56 : decode cX4_alerts 56 = .ok (.iload_n 1, 1) := by decide +kernel
theorem d_Sk_alerts_57 : decode cX4_alerts 57 = .ok (.ireturn, 1) := by decide +kernel
set_option maxRecDepth 100000 in
set_option maxHeartbeats 4000000 in
theorem w_j_Sk_alerts_44 {X : CX} {KX : Int32 → Prop} {k : Nat} {a1 : Int32} {a2 : Int32} {s : MS} {rec : Int32 → Int32 → Option (Int32)} (ok : Ok X cX4_alerts RX4 rm_Sk_alerts 4 false) (hexit : ∀ (e1 : Int32), KX e1 → G X s 0 0 56 [(0, vR (some k)), (1, vI e1)] []) (hrec : ∀ (v1 : Int32) (v2 : Int32), ∀ y, rec v1 v2 = some y → KX y → G X s 0 0 4 [(0, vR (some k)), (1, vI v1), (2, vI v2)] []) (ht : rf s.2.2 0 (some k) = some k) {res : Int32} (h : j_Sk_alerts_44 k a1 a2 s rec = some res) (hk : KX res) : G X s 0 0 44 [(0, vR (some k)), (1, vI a1), (2, vI a2)] [] := by
  unfold j_Sk_alerts_44 at h
  refine g_iload_n (i := 1) 1 ok d_Sk_alerts_44 rfl rfl ?_
  refine g_iconst (v := (1 : Int32)) ok d_Sk_alerts_45 (by decide) ?_
  refine g_iload_n (i := 2) 2 ok d_Sk_alerts_46 rfl rfl ?_
  refine g_ishl ok d_Sk_alerts_47 ?_
  refine g_ior ok d_Sk_alerts_48 ?_
  obtain ⟨x22, e23⟩ : ∃ z, (a1 ||| ((1 : Int32) <<< (a2 &&& (31 : Int32)))) = z := ⟨_, rfl⟩
  replace h := lt_go h e23
  rw [e23]
  refine g_istore_n (i := 1) [(1, vI x22), (0, vR (some k)), (2, vI a2)] ok d_Sk_alerts_49 rfl (by decide) rfl ?_
  obtain ⟨x24, e25⟩ : ∃ z, a2 + (1 : Int32) = z := ⟨_, rfl⟩
  replace h := lt_go h e25
  refine g_iinc (i := 2) (v := x24) 2 [(2, vI x24), (1, vI x22), (0, vR (some k))] ok d_Sk_alerts_50 rfl (by rw [← e25]; rfl) (by decide) rfl ?_
  refine g_goto (tgt := 4) ok d_Sk_alerts_53 (by decide) ?_
  refine g_sub [2, 1, 0] rfl ?_
  exact hrec x22 x24 _ h hk
set_option maxRecDepth 100000 in
set_option maxHeartbeats 4000000 in
theorem w_b_Sk_alerts_4 {X : CX} {KX : Int32 → Prop} {k : Nat} {a1 : Int32} {a2 : Int32} {s : MS} {rec : Int32 → Int32 → Option (Int32)} (ok : Ok X cX4_alerts RX4 rm_Sk_alerts 4 false) (hexit : ∀ (e1 : Int32), KX e1 → G X s 0 0 56 [(0, vR (some k)), (1, vI e1)] []) (hrec : ∀ (v1 : Int32) (v2 : Int32), ∀ y, rec v1 v2 = some y → KX y → G X s 0 0 4 [(0, vR (some k)), (1, vI v1), (2, vI v2)] []) (ht : rf s.2.2 0 (some k) = some k) {res : Int32} (h : b_Sk_alerts_4 k a1 a2 s rec = some res) (hk : KX res) : G X s 0 0 4 [(0, vR (some k)), (1, vI a1), (2, vI a2)] [] := by
  unfold b_Sk_alerts_4 at h
  refine g_iload_n (i := 2) 2 ok d_Sk_alerts_4 rfl rfl ?_
  refine g_aload_n (i := 0) 0 ok d_Sk_alerts_5 rfl rfl ?_
  refine g_getr (s0 := 0) (j := 2) (ci := 4) (C := RX4) (T := TX4) (N := 14) ok ht lay_0 rfl inX4 (by decide) rfl tw_84 rfl d_Sk_alerts_6 ?_
  obtain ⟨n1, hn2, h⟩ := bnd_go h
  refine g_alen ok hn2 (by decide) d_Sk_alerts_9 ?_
  refine g_icmp_ge (tgt := 56) ok d_Sk_alerts_10 (by decide) (fun c3 => ?_) (fun c3 => ?_)
  · replace h := (if_pos c3).symm.trans h
    refine g_aload_n (i := 0) 0 ok d_Sk_alerts_13 rfl rfl ?_
    refine g_aload_n (i := 0) 0 ok d_Sk_alerts_14 rfl rfl ?_
    refine g_getr (s0 := 0) (j := 2) (ci := 4) (C := RX4) (T := TX4) (N := 14) ok ht lay_0 rfl inX4 (by decide) rfl tw_84 rfl d_Sk_alerts_15 ?_
    refine g_iload_n (i := 2) 2 ok d_Sk_alerts_18 rfl rfl ?_
    obtain ⟨k4, hk5, h⟩ := bnd_go h
    refine g_aald4 ok hk5 d_Sk_alerts_19 ?_
    obtain ⟨x7, hc8, h⟩ := bnd_go h
    refine g_invV (rm2 := rm_Sk_flownBy) (As := [vR (s.2.1 k4 a2.toNatClampNeg)]) (rest := []) ok ht lay_0 rfl (c_Sk_flownBy X.1.2.1 (rf_self ht) hc8) cm_Sk_flownBy cv_Sk_flownBy tw_141 ⟨rfl, rfl⟩ ⟨le_t rfl, le_t rfl⟩ ⟨rfl, le_t rfl⟩ ⟨le_t rfl, le_t rfl⟩ d_Sk_alerts_20 rfl (fun m6 => ?_)
    show G X s 0 0 23 [(0, vR (some k)), (1, vI a1), (2, vI a2)] [vR x7]
    refine g_astore_n (i := 3) [(3, vR x7), (0, vR (some k)), (1, vI a1), (2, vI a2)] ok d_Sk_alerts_23 rfl (by decide) rfl ?_
    refine g_aload_n (i := 3) 0 ok d_Sk_alerts_24 rfl rfl ?_
    refine g_ifnull (tgt := 50) ok d_Sk_alerts_25 (by decide) (fun c9 => ?_) (fun c9 => ?_)
    · replace h := (if_pos c9).symm.trans h
      obtain ⟨x10, e11⟩ : ∃ z, a2 + (1 : Int32) = z := ⟨_, rfl⟩
      replace h := lt_go h e11
      refine g_iinc (i := 2) (v := x10) 3 [(2, vI x10), (3, vR x7), (0, vR (some k)), (1, vI a1)] ok d_Sk_alerts_50 rfl (by rw [← e11]; rfl) (by decide) rfl ?_
      refine g_goto (tgt := 4) ok d_Sk_alerts_53 (by decide) ?_
      refine g_sub [2, 3, 0] rfl ?_
      exact hrec a1 x10 _ h hk
    · replace h := (if_neg c9).symm.trans h
      refine g_aload_n (i := 0) 1 ok d_Sk_alerts_28 rfl rfl ?_
      refine g_aload_n (i := 3) 0 ok d_Sk_alerts_29 rfl rfl ?_
      obtain ⟨x13, hc14, h⟩ := bnd_go h
      refine g_invV (rm2 := rm_Sk_comesIntoRoom) (As := [vR x7]) (rest := []) ok ht lay_0 rfl (c_Sk_comesIntoRoom X.1.2.1 (rf_self ht) hc14) cm_Sk_comesIntoRoom cv_Sk_comesIntoRoom tw_152 ⟨rfl, rfl⟩ ⟨le_t rfl, le_t rfl⟩ ⟨rfl, le_t rfl⟩ ⟨le_t rfl, le_t rfl⟩ d_Sk_alerts_30 rfl (fun m12 => ?_)
      show G X s 0 0 33 [(3, vR x7), (0, vR (some k)), (1, vI a1), (2, vI a2)] [vI x13]
      refine g_if_ne (tgt := 44) ok d_Sk_alerts_33 (by decide) (fun c15 => ?_) (fun c15 => ?_)
      · replace h := (if_pos c15).symm.trans h
        refine g_aload_n (i := 0) 1 ok d_Sk_alerts_36 rfl rfl ?_
        refine g_aload_n (i := 3) 0 ok d_Sk_alerts_37 rfl rfl ?_
        obtain ⟨x17, hc18, h⟩ := bnd_go h
        refine g_invV (rm2 := rm_Sk_comesNearLost) (As := [vR x7]) (rest := []) ok ht lay_0 rfl (c_Sk_comesNearLost X.1.2.1 (rf_self ht) hc18) cm_Sk_comesNearLost cv_Sk_comesNearLost tw_173 ⟨rfl, rfl⟩ ⟨le_t rfl, le_t rfl⟩ ⟨rfl, le_t rfl⟩ ⟨le_t rfl, le_t rfl⟩ d_Sk_alerts_38 rfl (fun m16 => ?_)
        show G X s 0 0 41 [(3, vR x7), (0, vR (some k)), (1, vI a1), (2, vI a2)] [vI x17]
        refine g_if_eq (tgt := 50) ok d_Sk_alerts_41 (by decide) (fun c19 => ?_) (fun c19 => ?_)
        · replace h := (if_pos c19).symm.trans h
          obtain ⟨x20, e21⟩ : ∃ z, a2 + (1 : Int32) = z := ⟨_, rfl⟩
          replace h := lt_go h e21
          refine g_iinc (i := 2) (v := x20) 3 [(2, vI x20), (3, vR x7), (0, vR (some k)), (1, vI a1)] ok d_Sk_alerts_50 rfl (by rw [← e21]; rfl) (by decide) rfl ?_
          refine g_goto (tgt := 4) ok d_Sk_alerts_53 (by decide) ?_
          refine g_sub [2, 3, 0] rfl ?_
          exact hrec a1 x20 _ h hk
        · replace h := (if_neg c19).symm.trans h
          refine g_sub [1, 2, 3] rfl ?_
          exact w_j_Sk_alerts_44 ok hexit hrec ht h hk
      · replace h := (if_neg c15).symm.trans h
        refine g_sub [1, 2, 3] rfl ?_
        exact w_j_Sk_alerts_44 ok hexit hrec ht h hk
  · replace h := (if_neg c3).symm.trans h
    refine g_sub [0, 1] rfl ?_
    cases h
    exact hexit a1 hk
theorem w_l_Sk_alerts_4 {X : CX} {KX : Int32 → Prop} {k : Nat} {s : MS} (ok : Ok X cX4_alerts RX4 rm_Sk_alerts 4 false) (hexit : ∀ (e1 : Int32), KX e1 → G X s 0 0 56 [(0, vR (some k)), (1, vI e1)] []) (ht : rf s.2.2 0 (some k) = some k) : ∀ (n : Nat) (a1 : Int32) (a2 : Int32) {res : Int32}, l_Sk_alerts_4 k s n a1 a2 = some res → KX res → G X s 0 0 4 [(0, vR (some k)), (1, vI a1), (2, vI a2)] [] := by
  intro n
  induction n with
  | zero => intro _ _ res h; cases h
  | succ n ih =>
    intro a1 a2 res h hk
    exact w_b_Sk_alerts_4 ok hexit (fun v1 v2 y h2 hk2 => ih v1 v2 h2 hk2) ht h hk
set_option maxRecDepth 100000 in
set_option maxHeartbeats 4000000 in
theorem w_Sk_alerts {X : CX} {KX : Int32 → Prop} {k : Nat} {s : MS} (ok : Ok X cX4_alerts RX4 rm_Sk_alerts 4 false) (hret : ∀ r : Int32, KX r → Fin X (some .int) 0 0 false (some (vI r)) s)   (ht : rf s.2.2 0 (some k) = some k) {res : Int32} (h : f_Sk_alerts k s = some res) (hk : KX res) : G X s 0 0 0 [(0, vR (some k))] [] := by
  unfold f_Sk_alerts at h
  refine g_iconst (v := (0 : Int32)) ok d_Sk_alerts_0 (by decide) ?_
  refine g_istore_n (i := 1) [(1, vI (0 : Int32)), (0, vR (some k))] ok d_Sk_alerts_1 rfl (by decide) rfl ?_
  refine g_iconst (v := (0 : Int32)) ok d_Sk_alerts_2 (by decide) ?_
  refine g_istore_n (i := 2) [(2, vI (0 : Int32)), (1, vI (0 : Int32)), (0, vR (some k))] ok d_Sk_alerts_3 rfl (by decide) rfl ?_
  refine g_sub [2, 1, 0] rfl ?_
  obtain ⟨e26, hx, h⟩ := bnd_go h
  refine w_l_Sk_alerts_4 (KX := fun y => y = e26) ok (fun y0 he => ?_) ht _ _ _ hx rfl
  cases he
  refine g_iload_n (i := 1) 1 ok d_Sk_alerts_56 rfl rfl ?_
  cases h
  exact g_iret ok (hret _ hk) (by decide) (by decide) d_Sk_alerts_57
theorem c_Sk_alerts (l : Launch) {k : Nat} {s : MS} (ht : rf s.2.2 0 (some k) = some k) {r : Int32} (h : f_Sk_alerts k s = some r) : Ct l yX4_alerts (.code yX4_alerts cX4_alerts 4 (some .int)) rm_Sk_alerts 0 0 false [vR (some k)] s (some (vI r)) s :=
  Ct.of rfl (by decide +kernel) ⟨rfl, le_t rfl⟩ (fun X ok fn _ hI hl => w_Sk_alerts (KX := fun y => y = r) ok (fun y hy => by subst hy; exact fn) ht h rfl)
abbrev rm_Sk_meetTimeByTime : Room := { frames := 2, cells := 0, slots := 0, locals := 42 }
theorem cm_Sk_meetTimeByTime : cfM yX4_meetTimeByTime cX4_meetTimeByTime 9 (some .boolean) 2 := ⟨tw_723, tw_1, by decide, by decide, by decide +kernel⟩
theorem cs_Sk_meetTimeByTime : cfS yX4_meetTimeByTime := tw_722
theorem d_Sk_meetTimeByTime_0 : decode cX4_meetTimeByTime 0 = .ok (.aload_n 0, 1) := by decide +kernel
theorem d_Sk_meetTimeByTime_1 : decode cX4_meetTimeByTime 1 = .ok (.getfield 195, 3) := by decide +kernel
theorem d_Sk_meetTimeByTime_4 : decode cX4_meetTimeByTime 4 = .ok (.aload_n 1, 1) := by decide +kernel
theorem d_Sk_meetTimeByTime_5 : decode cX4_meetTimeByTime 5 = .ok (.getfield 195, 3) := by decide +kernel
theorem d_Sk_meetTimeByTime_8 : decode cX4_meetTimeByTime 8 = .ok (.invokestatic 350, 3) := by decide +kernel
theorem d_Sk_meetTimeByTime_11 : decode cX4_meetTimeByTime 11 = .ok (.iconst 1, 1) := by decide +kernel
theorem d_Sk_meetTimeByTime_12 : decode cX4_meetTimeByTime 12 = .ok (.isub, 1) := by decide +kernel
theorem d_Sk_meetTimeByTime_13 : decode cX4_meetTimeByTime 13 = .ok (.istore_n 2, 1) := by decide +kernel
theorem d_Sk_meetTimeByTime_14 : decode cX4_meetTimeByTime 14 = .ok (.aload_n 0, 1) := by decide +kernel
theorem d_Sk_meetTimeByTime_15 : decode cX4_meetTimeByTime 15 = .ok (.invokevirtual 256, 3) := by decide +kernel
theorem d_Sk_meetTimeByTime_18 : decode cX4_meetTimeByTime 18 = .ok (.aload_n 1, 1) := by decide +kernel
theorem d_Sk_meetTimeByTime_19 : decode cX4_meetTimeByTime 19 = .ok (.invokevirtual 256, 3) := by decide +kernel
theorem d_Sk_meetTimeByTime_22 : decode cX4_meetTimeByTime 22 = .ok (.invokestatic 355, 3) := by decide +kernel
theorem d_Sk_meetTimeByTime_25 : decode cX4_meetTimeByTime 25 = .ok (.istore_n 3, 1) := by decide +kernel
theorem d_Sk_meetTimeByTime_26 : decode cX4_meetTimeByTime 26 = .ok (.iload_n 2, 1) := by decide +kernel
theorem d_Sk_meetTimeByTime_27 : decode cX4_meetTimeByTime 27 = .ok (.istore 4, 2) := by decide +kernel
theorem d_Sk_meetTimeByTime_29 : decode cX4_meetTimeByTime 29 = .ok (.iload 4, 2) := by decide +kernel
theorem d_Sk_meetTimeByTime_31 : decode cX4_meetTimeByTime 31 = .ok (.iload_n 3, 1) := by decide +kernel
theorem d_Sk_meetTimeByTime_32 : decode cX4_meetTimeByTime 32 = .ok (.if_icmp .gt 77, 3) := by decide +kernel
theorem d_Sk_meetTimeByTime_35 : decode cX4_meetTimeByTime 35 = .ok (.aload_n 0, 1) := by decide +kernel
theorem d_Sk_meetTimeByTime_36 : decode cX4_meetTimeByTime 36 = .ok (.iload 4, 2) := by decide +kernel
theorem d_Sk_meetTimeByTime_38 : decode cX4_meetTimeByTime 38 = .ok (.invokevirtual 270, 3) := by decide +kernel
theorem d_Sk_meetTimeByTime_41 : decode cX4_meetTimeByTime 41 = .ok (.istore 5, 2) := by decide +kernel
theorem d_Sk_meetTimeByTime_43 : decode cX4_meetTimeByTime 43 = .ok (.aload_n 0, 1) := by decide +kernel
theorem d_Sk_meetTimeByTime_44 : decode cX4_meetTimeByTime 44 = .ok (.iload 4, 2) := by decide +kernel
theorem d_Sk_meetTimeByTime_46 : decode cX4_meetTimeByTime 46 = .ok (.iconst 1, 1) := by decide +kernel
theorem d_Sk_meetTimeByTime_47 : decode cX4_meetTimeByTime 47 = .ok (.iadd, 1) := by decide +kernel
theorem d_Sk_meetTimeByTime_48 : decode cX4_meetTimeByTime 48 = .ok (.invokevirtual 270, 3) := by decide +kernel
theorem d_Sk_meetTimeByTime_51 : decode cX4_meetTimeByTime 51 = .ok (.istore 6, 2) := by decide +kernel
theorem d_Sk_meetTimeByTime_53 : decode cX4_meetTimeByTime 53 = .ok (.aload_n 1, 1) := by decide +kernel
theorem d_Sk_meetTimeByTime_54 : decode cX4_meetTimeByTime 54 = .ok (.iload 4, 2) := by decide +kernel
theorem d_Sk_meetTimeByTime_56 : decode cX4_meetTimeByTime 56 = .ok (.invokevirtual 270, 3) := by decide +kernel
theorem d_Sk_meetTimeByTime_59 : decode cX4_meetTimeByTime 59 = .ok (.istore 7, 2) := by decide +kernel
theorem d_Sk_meetTimeByTime_61 : decode cX4_meetTimeByTime 61 = .ok (.aload_n 1, 1) := by decide +kernel
theorem d_Sk_meetTimeByTime_62 : decode cX4_meetTimeByTime 62 = .ok (.iload 4, 2) := by decide +kernel
theorem d_Sk_meetTimeByTime_64 : decode cX4_meetTimeByTime 64 = .ok (.iconst 1, 1) := by decide +kernel
theorem d_Sk_meetTimeByTime_65 : decode cX4_meetTimeByTime 65 = .ok (.iadd, 1) := by decide +kernel
theorem d_Sk_meetTimeByTime_66 : decode cX4_meetTimeByTime 66 = .ok (.invokevirtual 270, 3) := by decide +kernel
theorem d_Sk_meetTimeByTime_69 : decode cX4_meetTimeByTime 69 = .ok (.istore 8, 2) := by decide +kernel
theorem d_Sk_meetTimeByTime_71 : decode cX4_meetTimeByTime 71 = .ok (.iload 5, 2) := by decide +kernel
theorem d_Sk_meetTimeByTime_73 : decode cX4_meetTimeByTime 73 = .ok (.iload 7, 2) := by decide +kernel
theorem d_Sk_meetTimeByTime_75 : decode cX4_meetTimeByTime 75 = .ok (.invokestatic 358, 3) := by decide +kernel
theorem d_Sk_meetTimeByTime_78 : decode cX4_meetTimeByTime 78 = .ok (.ifCond .ne 23, 3) := by decide +kernel
theorem d_Sk_meetTimeByTime_81 : decode cX4_meetTimeByTime 81 = .ok (.iload 5, 2) := by decide +kernel
theorem d_Sk_meetTimeByTime_83 : decode cX4_meetTimeByTime 83 = .ok (.iload 8, 2) := by decide +kernel
theorem d_Sk_meetTimeByTime_85 : decode cX4_meetTimeByTime 85 = .ok (.invokestatic 358, 3) := by decide +kernel
theorem d_Sk_meetTimeByTime_88 : decode cX4_meetTimeByTime 88 = .ok (.ifCond .ne 13, 3) := by decide +kernel
theorem d_Sk_meetTimeByTime_91 : decode cX4_meetTimeByTime 91 = .ok (.iload 6, 2) := by decide +kernel
theorem d_Sk_meetTimeByTime_93 : decode cX4_meetTimeByTime 93 = .ok (.iload 7, 2) := by decide +kernel
theorem d_Sk_meetTimeByTime_95 : decode cX4_meetTimeByTime 95 = .ok (.invokestatic 358, 3) := by decide +kernel
theorem d_Sk_meetTimeByTime_98 : decode cX4_meetTimeByTime 98 = .ok (.ifCond .eq 5, 3) := by decide +kernel
theorem d_Sk_meetTimeByTime_101 : decode cX4_meetTimeByTime 101 = .ok (.iconst 1, 1) := by decide +kernel
theorem d_Sk_meetTimeByTime_102 : decode cX4_meetTimeByTime 102 = .ok (.ireturn, 1) := by decide +kernel
theorem d_Sk_meetTimeByTime_103 : decode cX4_meetTimeByTime 103 = .ok (.iinc 4 1, 3) := by decide +kernel
theorem d_Sk_meetTimeByTime_106 : decode cX4_meetTimeByTime 106 = .ok (.goto (-77), 3) := by decide +kernel
theorem d_Sk_meetTimeByTime_109 : decode cX4_meetTimeByTime 109 = .ok (.iconst 0, 1) := by decide +kernel
theorem d_Sk_meetTimeByTime_110 : decode cX4_meetTimeByTime 110 = .ok (.ireturn, 1) := by decide +kernel
set_option maxRecDepth 100000 in
set_option maxHeartbeats 4000000 in
theorem w_b_Sk_meetTimeByTime_29 {X : CX} {KX : (Int32) ⊕ (Unit) → Prop} {a0 : Option Nat} {a1 : Option Nat} {a3 : Int32} {a4 : Int32} {s : MS} {rec : Int32 → Option ((Int32) ⊕ (Unit))} (ok : Ok X cX4_meetTimeByTime RX4 rm_Sk_meetTimeByTime 9 false) (hret : ∀ r : Int32, KX (.inl r) → Fin X (some .boolean) 0 0 false (some (vI r)) s) (hexit : KX (.inr ()) → G X s 0 0 109 [] []) (hrec : ∀ (v4 : Int32), ∀ y, rec v4 = some y → KX y → G X s 0 0 29 [(0, vR a0), (1, vR a1), (3, vI a3), (4, vI v4)] []) {res : (Int32) ⊕ (Unit)} (h : b_Sk_meetTimeByTime_29 a0 a1 a3 a4 s rec = some res) (hk : KX res) : G X s 0 0 29 [(0, vR a0), (1, vR a1), (3, vI a3), (4, vI a4)] [] := by
  unfold b_Sk_meetTimeByTime_29 at h
  refine g_iload (i := 4) 3 ok d_Sk_meetTimeByTime_29 rfl ?_
  refine g_iload_n (i := 3) 2 ok d_Sk_meetTimeByTime_31 rfl rfl ?_
  refine g_icmp_gt (tgt := 109) ok d_Sk_meetTimeByTime_32 (by decide) (fun c15 => ?_) (fun c15 => ?_)
  · replace h := (if_pos c15).symm.trans h
    refine g_sub [] rfl ?_
    cases h
    exact hexit hk
  · replace h := (if_neg c15).symm.trans h
    refine g_aload_n (i := 0) 0 ok d_Sk_meetTimeByTime_35 rfl rfl ?_
    refine g_iload (i := 4) 3 ok d_Sk_meetTimeByTime_36 rfl ?_
    obtain ⟨k16, hk17, h⟩ := bnd_go h
    obtain ⟨x19, hc20, h⟩ := bnd_go h
    refine g_invVN (rm2 := rm_Pa_placeWhen) (As := [vI a4]) (rest := []) ok hk17 lay_12 rfl (c_Pa_placeWhen X.1.2.1 (rf_self hk17) hc20) cm_Pa_placeWhen cv_Pa_placeWhen tw_156 ⟨rfl, rfl⟩ ⟨le_t rfl, le_t rfl⟩ ⟨rfl, le_t rfl⟩ ⟨le_t rfl, le_t rfl⟩ d_Sk_meetTimeByTime_38 rfl (fun m18 => ?_)
    show G X s 0 0 41 [(0, vR a0), (1, vR a1), (3, vI a3), (4, vI a4)] [vI x19]
    refine g_istore (i := 5) [(5, vI x19), (0, vR a0), (1, vR a1), (3, vI a3), (4, vI a4)] ok d_Sk_meetTimeByTime_41 (by decide) rfl ?_
    refine g_aload_n (i := 0) 1 ok d_Sk_meetTimeByTime_43 rfl rfl ?_
    refine g_iload (i := 4) 4 ok d_Sk_meetTimeByTime_44 rfl ?_
    refine g_iconst (v := (1 : Int32)) ok d_Sk_meetTimeByTime_46 (by decide) ?_
    refine g_iadd ok d_Sk_meetTimeByTime_47 ?_
    obtain ⟨x22, hc23, h⟩ := bnd_go h
    refine g_invVN (rm2 := rm_Pa_placeWhen) (As := [vI (a4 + (1 : Int32))]) (rest := []) ok hk17 lay_12 rfl (c_Pa_placeWhen X.1.2.1 (rf_self hk17) hc23) cm_Pa_placeWhen cv_Pa_placeWhen tw_156 ⟨rfl, rfl⟩ ⟨le_t rfl, le_t rfl⟩ ⟨rfl, le_t rfl⟩ ⟨le_t rfl, le_t rfl⟩ d_Sk_meetTimeByTime_48 rfl (fun m21 => ?_)
    show G X s 0 0 51 [(5, vI x19), (0, vR a0), (1, vR a1), (3, vI a3), (4, vI a4)] [vI x22]
    refine g_istore (i := 6) [(6, vI x22), (5, vI x19), (0, vR a0), (1, vR a1), (3, vI a3), (4, vI a4)] ok d_Sk_meetTimeByTime_51 (by decide) rfl ?_
    refine g_aload_n (i := 1) 3 ok d_Sk_meetTimeByTime_53 rfl rfl ?_
    refine g_iload (i := 4) 5 ok d_Sk_meetTimeByTime_54 rfl ?_
    obtain ⟨k24, hk25, h⟩ := bnd_go h
    obtain ⟨x27, hc28, h⟩ := bnd_go h
    refine g_invVN (rm2 := rm_Pa_placeWhen) (As := [vI a4]) (rest := []) ok hk25 lay_12 rfl (c_Pa_placeWhen X.1.2.1 (rf_self hk25) hc28) cm_Pa_placeWhen cv_Pa_placeWhen tw_156 ⟨rfl, rfl⟩ ⟨le_t rfl, le_t rfl⟩ ⟨rfl, le_t rfl⟩ ⟨le_t rfl, le_t rfl⟩ d_Sk_meetTimeByTime_56 rfl (fun m26 => ?_)
    show G X s 0 0 59 [(6, vI x22), (5, vI x19), (0, vR a0), (1, vR a1), (3, vI a3), (4, vI a4)] [vI x27]
    refine g_istore (i := 7) [(7, vI x27), (6, vI x22), (5, vI x19), (0, vR a0), (1, vR a1), (3, vI a3), (4, vI a4)] ok d_Sk_meetTimeByTime_59 (by decide) rfl ?_
    refine g_aload_n (i := 1) 4 ok d_Sk_meetTimeByTime_61 rfl rfl ?_
    refine g_iload (i := 4) 6 ok d_Sk_meetTimeByTime_62 rfl ?_
    refine g_iconst (v := (1 : Int32)) ok d_Sk_meetTimeByTime_64 (by decide) ?_
    refine g_iadd ok d_Sk_meetTimeByTime_65 ?_
    obtain ⟨x30, hc31, h⟩ := bnd_go h
    refine g_invVN (rm2 := rm_Pa_placeWhen) (As := [vI (a4 + (1 : Int32))]) (rest := []) ok hk25 lay_12 rfl (c_Pa_placeWhen X.1.2.1 (rf_self hk25) hc31) cm_Pa_placeWhen cv_Pa_placeWhen tw_156 ⟨rfl, rfl⟩ ⟨le_t rfl, le_t rfl⟩ ⟨rfl, le_t rfl⟩ ⟨le_t rfl, le_t rfl⟩ d_Sk_meetTimeByTime_66 rfl (fun m29 => ?_)
    show G X s 0 0 69 [(7, vI x27), (6, vI x22), (5, vI x19), (0, vR a0), (1, vR a1), (3, vI a3), (4, vI a4)] [vI x30]
    refine g_istore (i := 8) [(8, vI x30), (7, vI x27), (6, vI x22), (5, vI x19), (0, vR a0), (1, vR a1), (3, vI a3), (4, vI a4)] ok d_Sk_meetTimeByTime_69 (by decide) rfl ?_
    refine g_iload (i := 5) 3 ok d_Sk_meetTimeByTime_71 rfl ?_
    refine g_iload (i := 7) 1 ok d_Sk_meetTimeByTime_73 rfl ?_
    refine g_invS (rm2 := rm_Sk_isSameInAir) (As := [vI x19, vI x27]) (rest := []) ok (c_Sk_isSameInAir X.1.2.1) cm_Sk_isSameInAir cs_Sk_isSameInAir tw_725 ⟨rfl, rfl⟩ ⟨le_t rfl, le_t rfl⟩ ⟨rfl, le_t rfl⟩ ⟨le_t rfl, le_t rfl⟩ d_Sk_meetTimeByTime_75 rfl (fun m32 => ?_)
    show G X s 0 0 78 [(8, vI x30), (7, vI x27), (6, vI x22), (5, vI x19), (0, vR a0), (1, vR a1), (3, vI a3), (4, vI a4)] [vI (f_Sk_isSameInAir x19 x27)]
    refine g_if_ne (tgt := 101) ok d_Sk_meetTimeByTime_78 (by decide) (fun c33 => ?_) (fun c33 => ?_)
    · replace h := (if_pos c33).symm.trans h
      refine g_iload (i := 5) 3 ok d_Sk_meetTimeByTime_81 rfl ?_
      refine g_iload (i := 8) 0 ok d_Sk_meetTimeByTime_83 rfl ?_
      refine g_invS (rm2 := rm_Sk_isSameInAir) (As := [vI x19, vI x30]) (rest := []) ok (c_Sk_isSameInAir X.1.2.1) cm_Sk_isSameInAir cs_Sk_isSameInAir tw_725 ⟨rfl, rfl⟩ ⟨le_t rfl, le_t rfl⟩ ⟨rfl, le_t rfl⟩ ⟨le_t rfl, le_t rfl⟩ d_Sk_meetTimeByTime_85 rfl (fun m34 => ?_)
      show G X s 0 0 88 [(8, vI x30), (7, vI x27), (6, vI x22), (5, vI x19), (0, vR a0), (1, vR a1), (3, vI a3), (4, vI a4)] [vI (f_Sk_isSameInAir x19 x30)]
      refine g_if_ne (tgt := 101) ok d_Sk_meetTimeByTime_88 (by decide) (fun c35 => ?_) (fun c35 => ?_)
      · replace h := (if_pos c35).symm.trans h
        refine g_iload (i := 6) 2 ok d_Sk_meetTimeByTime_91 rfl ?_
        refine g_iload (i := 7) 1 ok d_Sk_meetTimeByTime_93 rfl ?_
        refine g_invS (rm2 := rm_Sk_isSameInAir) (As := [vI x22, vI x27]) (rest := []) ok (c_Sk_isSameInAir X.1.2.1) cm_Sk_isSameInAir cs_Sk_isSameInAir tw_725 ⟨rfl, rfl⟩ ⟨le_t rfl, le_t rfl⟩ ⟨rfl, le_t rfl⟩ ⟨le_t rfl, le_t rfl⟩ d_Sk_meetTimeByTime_95 rfl (fun m36 => ?_)
        show G X s 0 0 98 [(8, vI x30), (7, vI x27), (6, vI x22), (5, vI x19), (0, vR a0), (1, vR a1), (3, vI a3), (4, vI a4)] [vI (f_Sk_isSameInAir x22 x27)]
        refine g_if_eq (tgt := 103) ok d_Sk_meetTimeByTime_98 (by decide) (fun c37 => ?_) (fun c37 => ?_)
        · replace h := (if_pos c37).symm.trans h
          obtain ⟨x38, e39⟩ : ∃ z, a4 + (1 : Int32) = z := ⟨_, rfl⟩
          replace h := lt_go h e39
          refine g_iinc (i := 4) (v := x38) 7 [(4, vI x38), (8, vI x30), (7, vI x27), (6, vI x22), (5, vI x19), (0, vR a0), (1, vR a1), (3, vI a3)] ok d_Sk_meetTimeByTime_103 rfl (by rw [← e39]; rfl) (by decide) rfl ?_
          refine g_goto (tgt := 29) ok d_Sk_meetTimeByTime_106 (by decide) ?_
          refine g_sub [5, 6, 7, 0] rfl ?_
          exact hrec x38 _ h hk
        · replace h := (if_neg c37).symm.trans h
          refine g_iconst (v := (1 : Int32)) ok d_Sk_meetTimeByTime_101 (by decide) ?_
          cases h
          exact g_zret ok (hret _ hk) (Or.inr rfl) (by decide) (by decide) d_Sk_meetTimeByTime_102
      · replace h := (if_neg c35).symm.trans h
        refine g_iconst (v := (1 : Int32)) ok d_Sk_meetTimeByTime_101 (by decide) ?_
        cases h
        exact g_zret ok (hret _ hk) (Or.inr rfl) (by decide) (by decide) d_Sk_meetTimeByTime_102
    · replace h := (if_neg c33).symm.trans h
      refine g_iconst (v := (1 : Int32)) ok d_Sk_meetTimeByTime_101 (by decide) ?_
      cases h
      exact g_zret ok (hret _ hk) (Or.inr rfl) (by decide) (by decide) d_Sk_meetTimeByTime_102
theorem w_l_Sk_meetTimeByTime_29 {X : CX} {KX : (Int32) ⊕ (Unit) → Prop} {a0 : Option Nat} {a1 : Option Nat} {a3 : Int32} {s : MS} (ok : Ok X cX4_meetTimeByTime RX4 rm_Sk_meetTimeByTime 9 false) (hret : ∀ r : Int32, KX (.inl r) → Fin X (some .boolean) 0 0 false (some (vI r)) s) (hexit : KX (.inr ()) → G X s 0 0 109 [] []) : ∀ (n : Nat) (a4 : Int32) {res : (Int32) ⊕ (Unit)}, l_Sk_meetTimeByTime_29 a0 a1 a3 s n a4 = some res → KX res → G X s 0 0 29 [(0, vR a0), (1, vR a1), (3, vI a3), (4, vI a4)] [] := by
  intro n
  induction n with
  | zero => intro _ res h; cases h
  | succ n ih =>
    intro a4 res h hk
    exact w_b_Sk_meetTimeByTime_29 ok hret hexit (fun v4 y h2 hk2 => ih v4 h2 hk2) h hk
set_option maxRecDepth 100000 in
set_option maxHeartbeats 4000000 in
theorem w_Sk_meetTimeByTime {X : CX} {KX : Int32 → Prop} {a0 : Option Nat} {a1 : Option Nat} {s : MS} (ok : Ok X cX4_meetTimeByTime RX4 rm_Sk_meetTimeByTime 9 false) (hret : ∀ r : Int32, KX r → Fin X (some .boolean) 0 0 false (some (vI r)) s)    {res : Int32} (h : f_Sk_meetTimeByTime a0 a1 s = some res) (hk : KX res) : G X s 0 0 0 [(0, vR a0), (1, vR a1)] [] := by
  unfold f_Sk_meetTimeByTime at h
  refine g_aload_n (i := 0) 0 ok d_Sk_meetTimeByTime_0 rfl rfl ?_
  obtain ⟨k1, hk2, h⟩ := bnd_go h
  refine g_getiN (s0 := 12) (j := 3) (ci := 2) (C := RX2) (T := TX2) (N := 7) ok hk2 lay_12 rfl inX2 (by decide) rfl tw_62 rfl d_Sk_meetTimeByTime_1 ?_
  refine g_aload_n (i := 1) 1 ok d_Sk_meetTimeByTime_4 rfl rfl ?_
  obtain ⟨k3, hk4, h⟩ := bnd_go h
  refine g_getiN (s0 := 12) (j := 3) (ci := 2) (C := RX2) (T := TX2) (N := 7) ok hk4 lay_12 rfl inX2 (by decide) rfl tw_62 rfl d_Sk_meetTimeByTime_5 ?_
  refine g_mmax ok tw_638 tw_373 tw_11 tw_374 rfl ⟨le_t rfl, le_t rfl⟩ ⟨le_t rfl, le_t rfl⟩ d_Sk_meetTimeByTime_8 ?_
  refine g_iconst (v := (1 : Int32)) ok d_Sk_meetTimeByTime_11 (by decide) ?_
  refine g_isub ok d_Sk_meetTimeByTime_12 ?_
  obtain ⟨x5, e6⟩ : ∃ z, ((if (s.1 k1 3) < (s.1 k3 3) then (s.1 k3 3) else (s.1 k1 3)) - (1 : Int32)) = z := ⟨_, rfl⟩
  replace h := lt_go h e6
  rw [e6]
  refine g_istore_n (i := 2) [(2, vI x5), (0, vR a0), (1, vR a1)] ok d_Sk_meetTimeByTime_13 rfl (by decide) rfl ?_
  refine g_aload_n (i := 0) 1 ok d_Sk_meetTimeByTime_14 rfl rfl ?_
  obtain ⟨x8, hc9, h⟩ := bnd_go h
  refine g_invVN (rm2 := rm_Pa_end) (As := []) (rest := []) ok hk2 lay_12 rfl (c_Pa_end X.1.2.1 (rf_self hk2) hc9) cm_Pa_end cv_Pa_end tw_614 ⟨rfl, rfl⟩ ⟨le_t rfl, le_t rfl⟩ ⟨rfl, le_t rfl⟩ ⟨le_t rfl, le_t rfl⟩ d_Sk_meetTimeByTime_15 rfl (fun m7 => ?_)
  show G X s 0 0 18 [(2, vI x5), (0, vR a0), (1, vR a1)] [vI x8]
  refine g_aload_n (i := 1) 2 ok d_Sk_meetTimeByTime_18 rfl rfl ?_
  obtain ⟨x11, hc12, h⟩ := bnd_go h
  refine g_invVN (rm2 := rm_Pa_end) (As := []) (rest := [vI x8]) ok hk4 lay_12 rfl (c_Pa_end X.1.2.1 (rf_self hk4) hc12) cm_Pa_end cv_Pa_end tw_614 ⟨rfl, rfl⟩ ⟨le_t rfl, le_t rfl⟩ ⟨rfl, le_t rfl⟩ ⟨le_t rfl, le_t rfl⟩ d_Sk_meetTimeByTime_19 rfl (fun m10 => ?_)
  show G X s 0 0 22 [(2, vI x5), (0, vR a0), (1, vR a1)] [vI x11, vI x8]
  refine g_mmin ok tw_724 tw_370 tw_11 tw_371 rfl ⟨le_t rfl, le_t rfl⟩ ⟨le_t rfl, le_t rfl⟩ d_Sk_meetTimeByTime_22 ?_
  obtain ⟨x13, e14⟩ : ∃ z, (if x11 < x8 then x11 else x8) = z := ⟨_, rfl⟩
  replace h := lt_go h e14
  rw [e14]
  refine g_istore_n (i := 3) [(3, vI x13), (2, vI x5), (0, vR a0), (1, vR a1)] ok d_Sk_meetTimeByTime_25 rfl (by decide) rfl ?_
  refine g_iload_n (i := 2) 1 ok d_Sk_meetTimeByTime_26 rfl rfl ?_
  refine g_istore (i := 4) [(4, vI x5), (3, vI x13), (2, vI x5), (0, vR a0), (1, vR a1)] ok d_Sk_meetTimeByTime_27 (by decide) rfl ?_
  refine g_sub [3, 4, 1, 0] rfl ?_
  rcases el0_go h with ⟨r, hx, h⟩ | ⟨hx, h⟩
  · refine w_l_Sk_meetTimeByTime_29 (KX := fun y => y = .inl r) ok (fun r2 he => ?_) (fun he => by cases he)  _ _ hx rfl
    cases he
    cases h
    exact hret _ hk
  · refine w_l_Sk_meetTimeByTime_29 (KX := fun y => y = .inr ()) ok (fun r2 he => by cases he) (fun he => ?_)  _ _ hx rfl
    cases he
    refine g_iconst (v := (0 : Int32)) ok d_Sk_meetTimeByTime_109 (by decide) ?_
    cases h
    exact g_zret ok (hret _ hk) (Or.inl rfl) (by decide) (by decide) d_Sk_meetTimeByTime_110
theorem c_Sk_meetTimeByTime (l : Launch) {a0 : Option Nat} {a1 : Option Nat} {s : MS}  {r : Int32} (h : f_Sk_meetTimeByTime a0 a1 s = some r) : Ct l yX4_meetTimeByTime (.code yX4_meetTimeByTime cX4_meetTimeByTime 9 (some .boolean)) rm_Sk_meetTimeByTime 0 0 false [vR a0, vR a1] s (some (vI r)) s :=
  Ct.of rfl (by decide +kernel) ⟨rfl, le_t rfl⟩ (fun X ok fn _ hI hl => w_Sk_meetTimeByTime (KX := fun y => y = r) ok (fun y hy => by subst hy; exact fn) h rfl)
