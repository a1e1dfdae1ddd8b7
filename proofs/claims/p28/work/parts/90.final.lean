theorem st_tables {s : State} {args : Array Value} (hts : ∀ w ∈ lw_tbl, w.before args s = true) : ∀ w ∈ TT, w.before #[] s = true := fun w hw => okw_at (List.all_eq_true.mp TT_ok w hw) (State.WarmedH.refl s) (hts w (TT_in w hw))
theorem st_arr {s : State} {args : Array Value} {ty : FieldType} (h : (Cond.arrayClass ty).before args s = true) : ∃ c : ClassId, ArrOfT s c ty ∧ s.vm.findClass ("[" ++ ty.toString) = some c := by
  obtain ⟨c, k, comp, h1, h2, h3⟩ := Cond.arrayClass_spec (first := s) (o := none) (idx := []) h
  exact ⟨c, fun n z => ⟨fun q hq => (by cases hq), k, h2, comp, h3⟩, h1⟩
theorem st_over {s : State} {args : Array Value} {C : String} (h : (Cond.arrayOver (.object C)).before args s = true) : ∃ c : ClassId, ArrOfT s c (.object C) ∧ va_RA s c (.object C) := by
  obtain ⟨comp, c, k, h1, h2, h3, h4, h5⟩ := Cond.arrayOver_spec (first := s) (o := none) (idx := []) h
  exact ⟨c, fun n z => ⟨fun q hq => (by cases hq), k, h3, comp, h4⟩, k, comp, h3, h4, h1, h5⟩
theorem st_str {s : State} {args : Array Value} {own tx : String} {k : Nat} (h1 : (Cond.stringRef own k tx).before args s = true) (h2 : (Cond.exactly (.string own k) "java/lang/String").before args s = true) : ∃ a : Nat, vk_R own k tx a s := by
  obtain ⟨a, c, cell, kk, e, -⟩ := Cond.exactly_spec (first := s) (o := none) (idx := []) h2
  exact ⟨a, vk_R.of h1 e⟩
theorem st_flat {s : State} {args : Array Value} (h : (Jvm.Cond.and given_1 narrow_1).before args s = true) {w : Cond} (i : Nat) (hw : (flatC (Jvm.Cond.and given_1 narrow_1))[i]? = some w) : w.before args s = true := flat_of_before _ h _ (List.mem_of_getElem? hw)
theorem st_tb {s : State} {args : Array Value} (hts : ∀ w ∈ lw_tbl, w.before args s = true) {w : Cond} (i : Nat) (h : tables_1[i]? = some w) : w.before args s = true := hts w (List.mem_append_right _ (List.mem_of_getElem? h))
theorem st_strs {s : State} {args : Array Value} (hts : ∀ w ∈ lw_tbl, w.before args s = true) (hgv : (Jvm.Cond.and given_1 narrow_1).before args s = true) : ∀ q ∈ strl, ∃ a : Nat, vk_R q.1 q.2.1 q.2.2 a s := List.forall_mem_cons.mpr ⟨st_str (st_tb hts 244 (by decide +kernel)) (st_flat hgv 27 (by decide +kernel)), List.forall_mem_cons.mpr ⟨st_str (st_tb hts 280 (by decide +kernel)) (st_flat hgv 43 (by decide +kernel)), List.forall_mem_cons.mpr ⟨st_str (st_tb hts 300 (by decide +kernel)) (st_flat hgv 67 (by decide +kernel)), List.forall_mem_cons.mpr ⟨st_str (st_tb hts 325 (by decide +kernel)) (st_flat hgv 103 (by decide +kernel)), List.forall_mem_cons.mpr ⟨st_str (st_tb hts 337 (by decide +kernel)) (st_flat hgv 144 (by decide +kernel)), List.forall_mem_cons.mpr ⟨st_str (st_tb hts 354 (by decide +kernel)) (st_flat hgv 178 (by decide +kernel)), List.forall_mem_cons.mpr ⟨st_str (st_tb hts 363 (by decide +kernel)) (st_flat hgv 213 (by decide +kernel)), List.forall_mem_cons.mpr ⟨st_str (st_tb hts 364 (by decide +kernel)) (st_flat hgv 253 (by decide +kernel)), List.forall_mem_cons.mpr ⟨st_str (st_tb hts 430 (by decide +kernel)) (st_flat hgv 278 (by decide +kernel)), List.forall_mem_cons.mpr ⟨st_str (st_tb hts 431 (by decide +kernel)) (st_flat hgv 302 (by decide +kernel)), List.forall_mem_cons.mpr ⟨st_str (st_tb hts 439 (by decide +kernel)) (st_flat hgv 328 (by decide +kernel)), List.forall_mem_cons.mpr ⟨st_str (st_tb hts 440 (by decide +kernel)) (st_flat hgv 367 (by decide +kernel)), List.forall_mem_cons.mpr ⟨st_str (st_tb hts 481 (by decide +kernel)) (st_flat hgv 411 (by decide +kernel)), List.forall_mem_cons.mpr ⟨st_str (st_tb hts 482 (by decide +kernel)) (st_flat hgv 442 (by decide +kernel)), List.forall_mem_cons.mpr ⟨st_str (st_tb hts 483 (by decide +kernel)) (st_flat hgv 487 (by decide +kernel)), List.forall_mem_cons.mpr ⟨st_str (st_tb hts 573 (by decide +kernel)) (st_flat hgv 519 (by decide +kernel)), List.forall_mem_cons.mpr ⟨st_str (st_tb hts 574 (by decide +kernel)) (st_flat hgv 556 (by decide +kernel)), List.forall_mem_cons.mpr ⟨st_str (st_tb hts 625 (by decide +kernel)) (st_flat hgv 584 (by decide +kernel)), List.forall_mem_cons.mpr ⟨st_str (st_tb hts 643 (by decide +kernel)) (st_flat hgv 641 (by decide +kernel)), List.forall_mem_cons.mpr ⟨st_str (st_tb hts 656 (by decide +kernel)) (st_flat hgv 680 (by decide +kernel)), List.forall_mem_cons.mpr ⟨st_str (st_tb hts 664 (by decide +kernel)) (st_flat hgv 720 (by decide +kernel)), List.forall_mem_cons.mpr ⟨st_str (st_tb hts 738 (by decide +kernel)) (st_flat hgv 756 (by decide +kernel)), List.forall_mem_cons.mpr ⟨st_str (st_tb hts 739 (by decide +kernel)) (st_flat hgv 807 (by decide +kernel)), List.forall_mem_cons.mpr ⟨st_str (st_tb hts 747 (by decide +kernel)) (st_flat hgv 847 (by decide +kernel)), fun q hq => absurd hq List.not_mem_nil⟩⟩⟩⟩⟩⟩⟩⟩⟩⟩⟩⟩⟩⟩⟩⟩⟩⟩⟩⟩⟩⟩⟩⟩
theorem st_ncs {s : State} {args : Array Value} (hgv : (Jvm.Cond.and given_1 narrow_1).before args s = true) : ∀ q ∈ ncl, va_Nc q.1 q.2 s := List.forall_mem_cons.mpr ⟨va_Nc.of (st_flat hgv 24 (by decide +kernel)), List.forall_mem_cons.mpr ⟨va_Nc.of (st_flat hgv 9 (by decide +kernel)), List.forall_mem_cons.mpr ⟨va_Nc.of (st_flat hgv 17 (by decide +kernel)), List.forall_mem_cons.mpr ⟨va_Nc.of (st_flat hgv 10 (by decide +kernel)), List.forall_mem_cons.mpr ⟨va_Nc.of (st_flat hgv 16 (by decide +kernel)), List.forall_mem_cons.mpr ⟨va_Nc.of (st_flat hgv 23 (by decide +kernel)), fun q hq => absurd hq List.not_mem_nil⟩⟩⟩⟩⟩⟩
theorem st_SE {s : State} {args : Array Value} (hts : ∀ w ∈ lw_tbl, w.before args s = true) (hgv : (Jvm.Cond.and given_1 narrow_1).before args s = true) : SE (fun q : Nat => s.heap.size ≤ q) s :=
  ⟨st_strs hts hgv, vx_Zqof (st_tb hts 230 (by decide +kernel)) (st_tb hts 4 (by decide +kernel)) (st_flat hgv 4 (by decide +kernel)) (fun a ha => Nat.not_le.mpr ha), vx_Zqof (st_tb hts 232 (by decide +kernel)) (st_tb hts 4 (by decide +kernel)) (st_flat hgv 5 (by decide +kernel)) (fun a ha => Nat.not_le.mpr ha), st_ncs hgv⟩
set_option maxHeartbeats 4000000 in
set_option maxRecDepth 100000 in
theorem st_EV {s : State} {args : Array Value} (hts : ∀ w ∈ lw_tbl, w.before args s = true) : ∃ (D : va_G) (dA : Nat → ClassId), EV D dA s := by
  have hT := st_tables hts
  obtain ⟨c0, i0, hKn0⟩ := u_known (args := #[]) (C := RX0) (T := TX0) (N := 5) (n := 5) hT inX0 (hT _ tw_22)
  obtain ⟨c1, i1, hKn1⟩ := u_known (args := #[]) (C := RX1) (T := TX1) (N := 7) (n := 7) hT inX1 (hT _ tw_441)
  obtain ⟨c2, i2, hKn2⟩ := u_known (args := #[]) (C := RX2) (T := TX2) (N := 7) (n := 7) hT inX2 (hT _ tw_53)
  obtain ⟨c3, i3, hKn3⟩ := u_known (args := #[]) (C := RX3) (T := TX3) (N := 8) (n := 8) hT inX3 (hT _ tw_167)
  obtain ⟨c4, i4, hKn4⟩ := u_known (args := #[]) (C := RX4) (T := TX4) (N := 14) (n := 14) hT inX4 (hT _ tw_14)
  obtain ⟨b0, hb0, hn0⟩ := st_arr (hts _ (TT_in _ tw_46))
  have ho3 : (Cond.arrayOver (.object tAO3)).before args s = true := st_tb hts 48 (by decide +kernel)
  obtain ⟨b3, hb3, hn3⟩ := st_over ho3
  have ho4 : (Cond.arrayOver (.object tAO4)).before args s = true := st_tb hts 50 (by decide +kernel)
  obtain ⟨b4, hb4, hn4⟩ := st_over ho4
  have ho5 : (Cond.arrayOver (.object tAO5)).before args s = true := st_tb hts 52 (by decide +kernel)
  obtain ⟨b5, hb5, hn5⟩ := st_over ho5
  refine ⟨(fun k => if k = 0 then c0 else if k = 1 then c1 else if k = 2 then c2 else if k = 3 then c3 else c4, fun k => if k = 0 then i0 else if k = 1 then i1 else if k = 2 then i2 else if k = 3 then i3 else i4), fun k => if k = 0 then b0 else if k = 1 then b0 else if k = 2 then b0 else if k = 3 then b3 else if k = 4 then b4 else b5, ⟨hT, va_AO.of ho3, va_AO.of ho4, va_AO.of ho5⟩, fun k q hq => ?_, fun k q hq => ?_⟩
  · match k, hq with
    | 0, hq => cases hq; exact hKn0
    | 1, hq => cases hq; exact hKn1
    | 2, hq => cases hq; exact hKn2
    | 3, hq => cases hq; exact hKn3
    | 4, hq => cases hq; exact hKn4
    | k + 5, hq => simp [vwCl] at hq
  · match k, hq with
    | 0, hq => cases hq; exact ⟨hb0, hn0⟩
    | 1, hq => cases hq; exact ⟨hb0, hn0⟩
    | 2, hq => cases hq; exact ⟨hb0, hn0⟩
    | 3, hq => cases hq; exact ⟨hb3, hn3⟩
    | 4, hq => cases hq; exact ⟨hb4, hn4⟩
    | 5, hq => cases hq; exact ⟨hb5, hn5⟩
    | k + 6, hq => simp [tyl] at hq
set_option maxHeartbeats 4000000 in
/-- THE LAW, from its entry: the machine does what the law's function says, and that says 1 -/
theorem whole_start {p : Program} {e : Env} {s : State} {m : MethodId} {below : List Frame} {meth : Method} {c : Code} (l : Launch) (hflags : l.flags = flags0) {b L : Nat} {xs : Nat → Int32} (hL : L ≤ 260) (C0 : lw_At p s m meth c b L xs) : W p l e room_1 s m #[Value.ref b] below meth c s.heap [] 0 0 (lw_Z below #[Value.ref b] s) (entryFrame m ([Value.ref b] : List Value).toArray 19) := by
  obtain ⟨hx, hb, hr, hml, hown, hts, hX, hbl, hlocks, hgv⟩ := C0
  obtain ⟨D, dA, hE⟩ := st_EV hts
  have hst : l.stackTraces = false := by unfold Launch.stackTraces; rw [hflags]; decide +kernel
  have hG := w_La_law (X := ((p, l, e, room_1, s, m, #[Value.ref b], below, meth, c), D, dA, (fun q : Nat => s.heap.size ≤ q), lw_Z below #[Value.ref b] s, (fun _ => 0), m0, true, 19)) (KX := fun y => y = 1) (b := b) (L := L) (xs := xs) (s := m0)
    ⟨hx, hb, hown, rfl, hml, rfl, rfl, hE.1.at _, hE, fun _ h => h, hlocks⟩ ⟨hX, hbl, Nat.not_le.mpr hbl, st_SE hts hgv, hst, rfl, rfl, hr, rfl, rfl⟩ (fun _ e => e) (law_true hL) rfl
  rw [lg_entry_eq]
  have hl := lv_entry ([Value.ref b]) (n := 19) (Nat.le_of_ble_eq_true rfl)
  have hno : ∀ k, ¬ dm m0 k := fun k hk => absurd hk (Nat.not_lt_zero _)
  exact hG (fun _ => 0) s.heap [] _ ⟨fun k hk => absurd hk (hno k), fun j k hj => absurd hj (hno j), fun k j b hk => absurd hk (hno k)⟩ (fun h => by cases h) (fun k hk => absurd hk (hno k)) (fun k hk => absurd hk (hno k)) va_S.rf hl trivial (fun _ h => h)
set_option maxHeartbeats 4000000 in
theorem lw_walk (l : Launch) (hflags : l.flags = flags0) (b : Addr) (xs : List Int32) : MetFree l x (headSpec (Jvm.Cond.code x code maxLocals ret :: tables_1) room_1) (lw_P b xs) (fun _ _ _ _ _ => True) lw_Q := by
  refine MetFree.of_bodyS (code := code) (maxLocals := maxLocals) (ret := ret) (by decide) ?_ ?_
  · intro args s m h hn
    obtain ⟨meth, c, h1, h2, h3, h4, h5, h6, -, -⟩ := Cond.code_spec hn (atoms_spec (ws := Jvm.Cond.code x code maxLocals ret :: tables_1) h _ List.mem_cons_self)
    exact ⟨meth, c, h1, h2, h3, h4, h5, h6⟩
  · intro p e s m args below meth c s₁ B hml0 hP _
    obtain ⟨rfl, hx, hbd, hgv⟩ := hP
    obtain ⟨scr, harrAt, hlist, hof, hsmall⟩ := hx
    obtain ⟨hcb, hkn, -, -⟩ := State.arrayAt?_spec harrAt
    have hown : s.vm.findClass R_law = some m.cls := findClass_of_methodNamed B.named
    have hts0 : ∀ c ∈ (Jvm.Cond.code x code maxLocals ret :: tables_1), c.before #[Value.ref b] s = true := atoms_spec (ws := Jvm.Cond.code x code maxLocals ret :: tables_1) B.pre
    have hts : ∀ w ∈ lw_tbl, w.before #[Value.ref b] s = true := k2_hts_sels lw_privs (fun w hw => hts0 w (List.mem_cons_of_mem _ hw)) lw_privs_ok
    have hml : c.maxLocals = 19 := B.maxLocals_eq (hts0 _ List.mem_cons_self)
    have X₀ : Stand p l e room_1 s m #[Value.ref b] below meth c s₁ [] 0 0 := Stand.of_body B
    have hh0 : s₁.heap = s.heap := by rw [B.state]; rfl
    have hsz : scr.slots.size = xs.length := by rw [← Array.length_toList, hlist, List.length_map]
    have hval : ∀ j : Nat, j < xs.length → scr.slots[j]? = some (.int (xs.getD j 0)) := fun j hj => by
      rw [← Array.getElem?_toList, hlist]
      simp [hj]
    have hbl : b < s.heap.size := (Array.getElem?_eq_some_iff.mp hcb).1
    have hX : va_X b xs.length (fun j => xs.getD j 0) s s.heap := ⟨scr, hcb, hof, hkn, hsz, hval⟩
    have K : W p l e room_1 s m #[Value.ref b] below meth c s₁.heap [] 0 0 (lw_Z below #[Value.ref b] s) (entryFrame m ([Value.ref b] : List Value).toArray 19) := by
      rw [hh0]
      exact whole_start l hflags hbd ⟨B.exec, B.bytes, B.returns, hml, hown, hts, hX, hbl, B.notSynchronized, hgv⟩
    obtain ⟨t, a1, o, b1, b2, b3⟩ := K s₁ rfl X₀
    exact ⟨t, o, a1, b1, b2, b3⟩
theorem lw_pre_spec {args : Array Value} {s : State} (h : (Jvm.Cond.and given_1 narrow_1).before args s = true) (hr : rest_1_c.before args s = true) : ∃ (b : Addr) (xs : List Int32), lw_P b xs args s := by
  have hs := flat_of_before _ h
  have hq := flat_of_before _ hr
  have hc : (Cond.count 1).before args s = true := hs _ (by decide +kernel)
  have harr : (Cond.arrayOf (.arg 0) .int).before args s = true := hs _ (by decide +kernel)
  have hle : (Cond.le (.length (.arg 0)) (.int 260)).before args s = true := hs _ (by decide +kernel)
  have hlen : (Cond.isInt (.length (.arg 0))).before args s = true := hq _ (by decide +kernel)
  have hall : (Cond.all (.arg 0) (.isInt (.elem (.arg 0) (.index 0)))).before args s = true := hq _ (by decide +kernel)
  obtain ⟨b, xs, hb, hx⟩ := State.ints_of_pre rfl harr hlen hall
  have hsm : xs.length < 2 ^ 31 := hx.choose_spec.2.2.2
  have hev : (Term.length (.arg 0)).eval args s none [] s = some (.int xs.length.toInt32) := hx.length_eval hb
  have hv := Cond.le_ints hev (show (Term.int 260).eval args s none [] s = some (.int 260) from rfl)
  have hd : xs.length.toInt32 ≤ 260 := by
    simpa [Cond.before, Cond.holds, hv] using hle
  have hN : xs.length ≤ 260 := (Int32.ofNat_le_ofNat hsm (by decide)).mp (show Int32.ofNat xs.length ≤ Int32.ofNat 260 from hd)
  exact ⟨b, xs, Cond.one_arg hc (show args[0]? = some (.ref b) from hb), hx, hN, h⟩
theorem lw_comes (l : Launch) (hflags : l.flags = flags0) : Comes l x (Jvm.Cond.code x code maxLocals ret :: tables_1) room_1 (fun tb e args s => Calls_1 tb e args s ∧ rest_1 tb e args s ∧ Pre_1 tb e args s)
    (fun _ _ args s o t => lw_Q args s o t) := by
  intro p e ha hc hk s m args below hf hfit hheap happ hpre
  obtain ⟨b, xs, hP⟩ := lw_pre_spec hpre.2.2 hpre.2.1
  obtain ⟨k, o, h1, h2, h3, hQ⟩ := lw_walk l hflags b xs p e ha hc hk s m args below hf ((Spec.applies_iff_loose hf).mp happ).1 hP trivial
  exact ⟨k, o, h1, h2, h3, hQ⟩
theorem lw_frame {s t : State} {o : Outcome} {args : Array Value} (h : Framed s o t [] 600086 7301442) :
    Framed s o t (fieldLocs frame_1_writes args s ++ arrayLocs frame_1_arrays args s ++ staticLocs frame_1_statics s) 600086 7301442 := h
theorem lw_limb (L : Cond) (hL : ∀ (args : Array Value) (s t : State), L.after args s (.returned (some (.int 1))) t = true) :
    ArmFor flags0 classFile x code maxLocals ret World_1 tables_1 room_1 Calls_1 rest_1 Pre_1
      (fun tb e a s o t => postC L tb e a s o t ∧ Framed s o t (fieldLocs frame_1_writes a s ++ arrayLocs frame_1_arrays a s ++ staticLocs frame_1_statics s) 600086 7301442) := by
  intro l hflags _ _ p e ha hc hk s m args below hf hfit hheap happ hpre
  obtain ⟨k, o, h1, h2, h3, rfl, hF⟩ := lw_comes l hflags p e ha hc hk s m args below hf hfit hheap happ hpre
  exact ⟨k, _, h1, h2, h3, hL args s _, lw_frame hF⟩
theorem i_vc : Claimed_1_1 ∧ Claimed_1_2 := ⟨lw_limb limb_1_1 (fun args s t => by simp [limb_1_1, Cond.after, Cond.holds, Cond.value]), lw_limb limb_1_2 (fun args s t => Cond.after_iff.mpr (by
  first | (rw [show limb_1_2 = Cond.eq .result (.int 1) from rfl, Cond.eq_ints (x := 1) (y := 1) rfl rfl]; simp; done) | (simp [limb_1_2, Cond.value, Term.eval]; done)))⟩

