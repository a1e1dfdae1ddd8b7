/-! ===== FRAME 4: methods that throw, and their catching ===== -/
def SE (A : Nat → Prop) (U : State) : Prop := (∀ q ∈ strl, ∃ a : Nat, vk_R q.1 q.2.1 q.2.2 a U) ∧ vx_Zq Bundle.tN "UNASSIGNED_STACK" Bundle.steD A U U.heap ∧ vx_Zq Bundle.tN "SUPPRESSED_SENTINEL" Bundle.listD A U U.heap ∧ ∀ q ∈ ncl, va_Nc q.1 q.2 U
theorem SE.moved {A B : Nat → Prop} {s U : State} {locs : List Loc} (h : SE A s) (hS : va_S A s.heap U.heap locs) (hW : s.WarmedH U.vm) (hAB : ∀ q, B q → A q) : SE B U :=
  ⟨fun q hq => by obtain ⟨a, ha⟩ := h.1 q hq; exact ⟨a, vk_R.warm hW ha⟩, vx_Zq.moved hW.alike ((h.2.1.kept hS.2.1).narrow hAB), vx_Zq.moved hW.alike ((h.2.2.1.kept hS.2.1).narrow hAB), fun q hq => (h.2.2.2 q hq).moved hW.alike⟩
def pcx (D : va_G) (dA : Nat → ClassId) (ad : Nat → Nat) (σ : MS) (sz : Nat) (pa : List PV) : Array Value → State → Prop := va_Pc (pa.map (tv ad)) (fun U => U.heap.size = sz ∧ rp D dA ad σ U.heap ∧ EV D dA U ∧ SE (frA ad σ sz) U)
theorem pcx_blind {D : va_G} {dA : Nat → ClassId} {ad : Nat → Nat} {σ : MS} {sz : Nat} {pa : List PV} : FrameBlind (pcx D dA ad σ sz pa) := fun a U g mk h => ⟨h.1, h.2.1, h.2.2.1, h.2.2.2.1.moved (U := U.calling g mk a) (show U.WarmedH (U.calling g mk a).vm from State.WarmedH.refl U), h.2.2.2.2.moved (locs := []) (U := U.calling g mk a) (show va_S _ U.heap (U.calling g mk a).heap [] from va_S.rf) (show U.WarmedH (U.calling g mk a).vm from State.WarmedH.refl U) (fun _ h => h)⟩
def qcx (D : va_G) (dA : Nat → ClassId) (ad : Nat → Nat) (σ : MS) (sz : Nat) (al : Bool) (tc : Option String) (r : Option PV) (σ' : MS) : Array Value → State → Outcome → State → Prop := fun a st oc t => tc = none ∧ qcs D dA ad σ sz al r σ' a st oc t
def xcx (D : va_G) (dA : Nat → ClassId) (ad : Nat → Nat) (σ : MS) (sz : Nat) (al : Bool) (tc : Option String) (σ' : MS) : String → State → State → Prop := fun E st t =>
  tc = some E ∧ (∃ ad' : Nat → Nat, (al = false → ad' = ad) ∧ (∀ k, dm σ k → ad' k = ad k) ∧ rp D dA ad' σ' t.heap ∧ (∀ k, dm σ' k → frA ad σ sz (ad' k)) ∧ ∀ k, dm σ k → dm σ' k) ∧ va_F (frA ad σ sz) st t
def Cx (l : Launch) (y : MethodName) (cw : Cond) (rm : Room) (mc ms : Nat) (al : Bool) (pa : List PV) (σ : MS) (tc : Option String) (r : Option PV) (σ' : MS) : Prop :=
  ∀ (D : va_G) (dA : Nat → ClassId) (ad : Nat → Nat) (sz : Nat), vx_Met l y [cw] rm (pcx D dA ad σ sz pa) (qcx D dA ad σ sz al tc r σ') (xcx D dA ad σ sz al tc σ') mc ms (frA ad σ sz)
/-- a body's end that may throw -/
def Fix (X : CX) (ret : Option FieldType) (mc ms : Nat) (al : Bool) (tc : Option String) (r : Option PV) (σ' : MS) : Prop :=
  X.1.2.2.2.2.2.2.2.2.1.sig.returnType = ret ∧ X.2.2.2.1 = frA X.2.2.2.2.2.1 X.2.2.2.2.2.2.1 X.1.2.2.2.2.1.heap.size ∧
  X.2.2.2.2.1 = vx_MQ X.1.2.2.2.2.2.2.2.1 (qcx X.2.1 X.2.2.1 X.2.2.2.2.2.1 X.2.2.2.2.2.2.1 X.1.2.2.2.2.1.heap.size al tc r σ') (xcx X.2.1 X.2.2.1 X.2.2.2.2.2.1 X.2.2.2.2.2.2.1 X.1.2.2.2.2.1.heap.size al tc σ') X.1.2.2.2.2.2.2.1 X.1.2.2.2.2.1 mc ms (frA X.2.2.2.2.2.1 X.2.2.2.2.2.2.1 X.1.2.2.2.2.1.heap.size) ∧
  X.1.2.1.stackTraces = false ∧ SE X.2.2.2.1 X.1.2.2.2.2.1 ∧ (∀ z ∈ X.1.2.2.2.2.2.2.2.2.2.exceptionTable.toList, False)
section GR4
variable {X : CX} {cc : ByteArray} {own : String} {rm : Room} {nL : Nat} {al : Bool} {σ : MS} {ce sl pc : Nat} {lv : LV} {st : List PV}

theorem g_iretX {mc ms : Nat} {x : Int32} (ok : Ok X cc own rm nL al) (fn : Fix X (some .int) mc ms al none (some (vI x)) σ)  (hce : ce ≤ mc) (hsl : sl ≤ ms) (d : decode cc pc = .ok (.ireturn, 1)) : G X σ ce sl pc lv [vI x] := by
  obtain ⟨⟨p, l, e, R, s, m, args, below, meth, c⟩, D, dA, A, Q, ad0, σ0, al0, nL0⟩ := X
  obtain ⟨hx, hb, ho, rfl, hml, rfl, rfl, hts, hE, hA, hlk⟩ := ok
  obtain ⟨hret, hAe, hQ, -, -, -⟩ := fn
  dsimp only at hret hAe hQ
  subst hAe
  subst hQ
  intro ad H locs ls h1 h2 h3 h4 h5 h6 h7 h8
  refine W.widen hce hsl (vx_ret ?_)
  have post : ∀ (o : Outcome) (t : State), t.heap = H → o = .returned ((some (vI x)) |>.map (tv ad)) → qcx D dA ad0 σ0 s.heap.size al0 none (some (vI x)) σ (args) s o t := fun o t ht ho2 => ⟨rfl, ⟨ad, h2, h3, by rw [ht]; exact h1, h4, ho2, h8⟩, h5.F ht⟩
  exact W.iret hx hb hret (fun t ht _ => post _ t ht rfl) h5.2.2 d hlk

theorem g_zretX {mc ms : Nat} {x : Int32} (ok : Ok X cc own rm nL al) (fn : Fix X (some .boolean) mc ms al none (some (vI x)) σ) (hz : x = 0 ∨ x = 1) (hce : ce ≤ mc) (hsl : sl ≤ ms) (d : decode cc pc = .ok (.ireturn, 1)) : G X σ ce sl pc lv [vI x] := by
  obtain ⟨⟨p, l, e, R, s, m, args, below, meth, c⟩, D, dA, A, Q, ad0, σ0, al0, nL0⟩ := X
  obtain ⟨hx, hb, ho, rfl, hml, rfl, rfl, hts, hE, hA, hlk⟩ := ok
  obtain ⟨hret, hAe, hQ, -, -, -⟩ := fn
  dsimp only at hret hAe hQ
  subst hAe
  subst hQ
  intro ad H locs ls h1 h2 h3 h4 h5 h6 h7 h8
  refine W.widen hce hsl (vx_ret ?_)
  have post : ∀ (o : Outcome) (t : State), t.heap = H → o = .returned ((some (vI x)) |>.map (tv ad)) → qcx D dA ad0 σ0 s.heap.size al0 none (some (vI x)) σ (args) s o t := fun o t ht ho2 => ⟨rfl, ⟨ad, h2, h3, by rw [ht]; exact h1, h4, ho2, h8⟩, h5.F ht⟩
  exact W.zret hx hb hret (by rcases hz with hz | hz <;> rw [hz] <;> rfl) (fun t ht _ => post _ t ht rfl) h5.2.2 d hlk

theorem g_vretX {mc ms : Nat}  (ok : Ok X cc own rm nL al) (fn : Fix X none mc ms al none none σ)  (hce : ce ≤ mc) (hsl : sl ≤ ms) (d : decode cc pc = .ok (.return_, 1)) : G X σ ce sl pc lv [] := by
  obtain ⟨⟨p, l, e, R, s, m, args, below, meth, c⟩, D, dA, A, Q, ad0, σ0, al0, nL0⟩ := X
  obtain ⟨hx, hb, ho, rfl, hml, rfl, rfl, hts, hE, hA, hlk⟩ := ok
  obtain ⟨hret, hAe, hQ, -, -, -⟩ := fn
  dsimp only at hret hAe hQ
  subst hAe
  subst hQ
  intro ad H locs ls h1 h2 h3 h4 h5 h6 h7 h8
  refine W.widen hce hsl (vx_ret ?_)
  have post : ∀ (o : Outcome) (t : State), t.heap = H → o = .returned (none |>.map (tv ad)) → qcx D dA ad0 σ0 s.heap.size al0 none none σ (args) s o t := fun o t ht ho2 => ⟨rfl, ⟨ad, h2, h3, by rw [ht]; exact h1, h4, ho2, h8⟩, h5.F ht⟩
  exact W.vret hx hb hret (fun t ht _ => post _ t ht rfl) h5.2.2 d hlk

theorem g_throw {ret : Option FieldType} {mc ms ik is ic : Nat} {cls text : String} {names : List String} {r : Option PV} (ok : Ok X cc own rm nL al) (fn : Fix X ret mc ms al (some cls) r σ) (hcls : Bundle.fit cls = true) (hnames : ∀ n ∈ names, Bundle.fit n = true) (hw1 : (Cond.classLink own ik cls) ∈ TT) (hw2 : (Cond.initialized cls) ∈ TT) (hw3 : (own, is, text) ∈ strl) (hat : ∀ w ∈ vx_atS own ic cls names, w ∈ TT) (hgood : ∀ w ∈ Cond.classLink own ik cls :: Cond.initialized cls :: vx_atS own ic cls names, vx_ot w = true)
    (d0 : decode cc pc = .ok (.new ik, 3)) (d3 : decode cc (pc + 3) = .ok (.dup, 1)) (d4 : decode cc (pc + 4) = .ok (.ldc is, 2)) (d6 : decode cc (pc + 6) = .ok (.invokespecial ic, 3)) (d9 : decode cc (pc + 9) = .ok (.athrow, 1))
    (hR : names.length + 3 < rm.frames ∧ stz st + (13 * (names.length + 1) + 43) ≤ rm.locals) (hst : stw st = true) (hc : ce + 1 ≤ rm.cells ∧ sl + 6 ≤ rm.slots) (hce : ce + 1 ≤ mc) (hsl : sl + 6 ≤ ms) : G X σ ce sl pc lv st := by
  obtain ⟨⟨p, l, e, R, s, m, args, below, meth, c⟩, D, dA, A, Q, ad0, σ0, al0, nL0⟩ := X
  obtain ⟨hx, hb, ho, rfl, hml, rfl, rfl, hts, hE, hA, hlk⟩ := ok
  obtain ⟨hret, hAe, hQ, hlt, hSE, htab⟩ := fn
  dsimp only at hret hAe hQ hlt hSE htab
  subst hAe
  subst hQ
  intro ad H locs ls h1 h2 h3 h4 h5 h6 h7 h8
  obtain ⟨sa, hsa⟩ := hSE.1 _ hw3
  exact vx_throwS (A := frA ad0 σ0 s.heap.size) hx hb hlt ho hcls hnames (hts _ hw1) (hts _ hw2) hsa (fun w hw => hts _ (hat w hw)) hgood hSE.2.1 hSE.2.2.1 h5 (h6.1.trans hml.symm) d0 d3 d4 d6 d9 (fun z hz => (htab z hz).elim) hR.1 (by rw [stw_sum hst]; exact hR.2) hc.1 hc.2 hlk
    (fun t hva hsz hke => ⟨rfl, ⟨ad, h2, h3, h1.kept (fun k hk => hke _ (h1.lt hk)), h4, h8⟩, ⟨Nat.le_trans h5.1 hsz, fun q q1 q2 => (hke q (Nat.lt_of_lt_of_le q1 h5.1)).trans (h5.2.1 q q1 q2)⟩⟩) h5.2.2 hce hsl

theorem g_throwW {ret : Option FieldType} {mc ms ik is ic : Nat} {cls text : String} {names : List String} {r : Option PV} (ok : Ok X cc own rm nL al) (fn : Fix X ret mc ms al (some cls) r σ) (hcls : Bundle.fit cls = true) (hnames : ∀ n ∈ names, Bundle.fit n = true) (hw1 : (Cond.classLink own ik cls) ∈ TT) (hw2 : (Cond.initialized cls) ∈ TT) (hw3 : (own, is, text) ∈ strl) (hat : ∀ w ∈ vx_atS own ic cls names, w ∈ TT) (hgood : ∀ w ∈ Cond.classLink own ik cls :: Cond.initialized cls :: vx_atS own ic cls names, vx_ot w = true)
    (d0 : decode cc pc = .ok (.new ik, 3)) (d3 : decode cc (pc + 3) = .ok (.dup, 1)) (d4 : decode cc (pc + 4) = .ok (.ldc_w is, 3)) (d6 : decode cc (pc + 7) = .ok (.invokespecial ic, 3)) (d9 : decode cc (pc + 10) = .ok (.athrow, 1))
    (hR : names.length + 3 < rm.frames ∧ stz st + (13 * (names.length + 1) + 43) ≤ rm.locals) (hst : stw st = true) (hc : ce + 1 ≤ rm.cells ∧ sl + 6 ≤ rm.slots) (hce : ce + 1 ≤ mc) (hsl : sl + 6 ≤ ms) : G X σ ce sl pc lv st := by
  obtain ⟨⟨p, l, e, R, s, m, args, below, meth, c⟩, D, dA, A, Q, ad0, σ0, al0, nL0⟩ := X
  obtain ⟨hx, hb, ho, rfl, hml, rfl, rfl, hts, hE, hA, hlk⟩ := ok
  obtain ⟨hret, hAe, hQ, hlt, hSE, htab⟩ := fn
  dsimp only at hret hAe hQ hlt hSE htab
  subst hAe
  subst hQ
  intro ad H locs ls h1 h2 h3 h4 h5 h6 h7 h8
  obtain ⟨sa, hsa⟩ := hSE.1 _ hw3
  exact vx_throwSW (A := frA ad0 σ0 s.heap.size) hx hb hlt ho hcls hnames (hts _ hw1) (hts _ hw2) hsa (fun w hw => hts _ (hat w hw)) hgood hSE.2.1 hSE.2.2.1 h5 (h6.1.trans hml.symm) d0 d3 d4 d6 d9 (fun z hz => (htab z hz).elim) hR.1 (by rw [stw_sum hst]; exact hR.2) hc.1 hc.2 hlk
    (fun t hva hsz hke => ⟨rfl, ⟨ad, h2, h3, h1.kept (fun k hk => hke _ (h1.lt hk)), h4, h8⟩, ⟨Nat.le_trans h5.1 hsz, fun q q1 q2 => (hke q (Nat.lt_of_lt_of_le q1 h5.1)).trans (h5.2.1 q q1 q2)⟩⟩) h5.2.2 hce hsl

end GR4
theorem Cx.of {l : Launch} {y : MethodName} {cc : ByteArray} {maxL : Nat} {ret : Option FieldType} {rm : Room} {mc ms : Nat} {al : Bool} {pa : List PV} {σ σ' : MS} {tc : Option String} {r : Option PV} {own : String} (hl : l.stackTraces = false) (ho : y.cls = own) (hy : plainName y.cls = true) (hpa : stw pa = true ∧ stz pa ≤ maxL)
    (body : ∀ X : CX, Ok X cc own rm maxL al → Fix X ret mc ms al tc r σ' → X.2.2.2.2.2.2.1 = σ → X.1.2.1 = l → G X σ 0 0 0 (pln 0 pa) []) : Cx l y (.code y cc maxL ret) rm mc ms al pa σ tc r σ' := by
  intro D dA ad sz
  refine vx_ofW (ws := [.code y cc maxL ret]) (cc := cc) (maxL := maxL) (ret := ret) hy rfl ?_
  intro p e s m args below meth c s₁ B hml htab hv
  obtain ⟨rfl, hsz, hP, hE, hSE⟩ := hv
  subst hsz
  have hown : s.vm.findClass own = some m.cls := by rw [← ho]; exact findClass_of_methodNamed (x := y) B.named
  have hb := body ((p, l, e, rm, s, m, ((pa.map (tv ad)).toArray), below, meth, c), D, dA, frA ad σ s.heap.size, vx_MQ below (qcx D dA ad σ s.heap.size al tc r σ') (xcx D dA ad σ s.heap.size al tc σ') ((pa.map (tv ad)).toArray) s mc ms (frA ad σ s.heap.size), ad, σ, al, maxL)
    ⟨B.exec, B.bytes, hown, rfl, hml, rfl, rfl, hE.1.at _, hE, fun q h => Or.inr h, B.notSynchronized⟩ ⟨B.returns, rfl, rfl, hl, hSE, htab⟩ rfl rfl
  rw [lg_entry_eq]
  have hl := lv_entry (pa.map (tv ad)) (n := maxL) (by rw [sl_len pa hpa.1]; exact hpa.2)
  rw [pln_args 0 pa hpa.1] at hl
  exact hb ad s.heap [] _ hP (fun _ => rfl) (fun _ _ => rfl) (fun k hk => Or.inl ⟨k, hk, rfl⟩) va_S.rf hl (pln_all 0 pa hpa.1) (fun _ h => h)
/-! the law's own methods: a table of handlers; they return -/
theorem code_payW {y : MethodName} {bytes : ByteArray} {maxL : Nat} {ret : Option FieldType} {hh : List (Nat × Nat × Nat × Nat)} {s : State} {args : Array Value} (h : (Cond.codeWith y bytes maxL ret hh).before args s = true) : ∀ w ∈ [Cond.codeWith y bytes maxL ret hh], ∀ (a' : Array Value) (U : State), s.WarmedH U.vm → w.before a' U = true := fun w hw a' U hW => by
  rw [List.mem_singleton.mp hw]
  exact okw_at rfl hW h
def Cw (l : Launch) (y : MethodName) (cw : Cond) (rm : Room) (mc ms : Nat) (pa : List PV) (σ : MS) (r : Option PV) (σ' : MS) : Prop :=
  ∀ (D : va_G) (dA : Nat → ClassId) (ad : Nat → Nat) (sz : Nat), vx_Met l y [cw] rm (pcx D dA ad σ sz pa) (qcx D dA ad σ sz true none r σ') (xcx D dA ad σ sz true none σ') mc ms (frA ad σ sz)
def Fiw (X : CX) (hh : List (Nat × Nat × Nat × Nat)) (mc ms : Nat) (r : Option PV) (σ' : MS) : Prop :=
  X.1.2.2.2.2.2.2.2.2.1.sig.returnType = some .long ∧ X.2.2.2.1 = frA X.2.2.2.2.2.1 X.2.2.2.2.2.2.1 X.1.2.2.2.2.1.heap.size ∧
  X.2.2.2.2.1 = vx_MQ X.1.2.2.2.2.2.2.2.1 (qcx X.2.1 X.2.2.1 X.2.2.2.2.2.1 X.2.2.2.2.2.2.1 X.1.2.2.2.2.1.heap.size true none r σ') (xcx X.2.1 X.2.2.1 X.2.2.2.2.2.1 X.2.2.2.2.2.2.1 X.1.2.2.2.2.1.heap.size true none σ') X.1.2.2.2.2.2.2.1 X.1.2.2.2.2.1 mc ms (frA X.2.2.2.2.2.1 X.2.2.2.2.2.2.1 X.1.2.2.2.2.1.heap.size) ∧
  SE X.2.2.2.1 X.1.2.2.2.2.1 ∧ X.1.2.2.2.2.2.2.2.2.2.exceptionTable.toList = tableOf hh
theorem Cw.of {l : Launch} {y : MethodName} {cc : ByteArray} {maxL : Nat} {hh : List (Nat × Nat × Nat × Nat)} {rm : Room} {mc ms : Nat} {pa : List PV} {σ σ' : MS} {r : Option PV} {own : String} (ho : y.cls = own) (hy : plainName y.cls = true) (hpa : stw pa = true ∧ stz pa ≤ maxL) (hcw : (Cond.codeWith y cc maxL (some .long) hh) ∈ TT)
    (body : ∀ X : CX, Ok X cc own rm maxL true → Fiw X hh mc ms r σ' → X.2.2.2.2.2.2.1 = σ → X.1.2.1 = l → G X σ 0 0 0 (pln 0 pa) []) : Cw l y (.codeWith y cc maxL (some .long) hh) rm mc ms pa σ r σ' := by
  intro D dA ad sz
  refine vx_ofWH (ws := [.codeWith y cc maxL (some .long) hh]) (cc := cc) (maxL := maxL) (ret := some .long) (hh := hh) hy rfl ?_
  intro p e s m args below meth c s₁ B hml hv
  obtain ⟨rfl, hsz, hP, hE, hSE⟩ := hv
  subst hsz
  have hown : s.vm.findClass own = some m.cls := by rw [← ho]; exact findClass_of_methodNamed (x := y) B.named
  have htab := vx_table (x := y) B (hE.1.at ((pa.map (tv ad)).toArray) _ hcw)
  have hb := body ((p, l, e, rm, s, m, ((pa.map (tv ad)).toArray), below, meth, c), D, dA, frA ad σ s.heap.size, vx_MQ below (qcx D dA ad σ s.heap.size true none r σ') (xcx D dA ad σ s.heap.size true none σ') ((pa.map (tv ad)).toArray) s mc ms (frA ad σ s.heap.size), ad, σ, true, maxL)
    ⟨B.exec, B.bytes, hown, rfl, hml, rfl, rfl, hE.1.at _, hE, fun q h => Or.inr h, B.notSynchronized⟩ ⟨B.returns, rfl, rfl, hSE, htab⟩ rfl rfl
  rw [lg_entry_eq]
  have hl := lv_entry (pa.map (tv ad)) (n := maxL) (by rw [sl_len pa hpa.1]; exact hpa.2)
  rw [pln_args 0 pa hpa.1] at hl
  exact hb ad s.heap [] _ hP (fun _ => rfl) (fun _ _ => rfl) (fun k hk => Or.inl ⟨k, hk, rfl⟩) va_S.rf hl (pln_all 0 pa hpa.1) (fun _ h => h)
/-- which handler takes an exception -/
def hdl (own : String) (tab : List ExceptionTableEntry) (pc : Nat) (E : String) (h : Nat) : Prop := ∃ (pre : List ExceptionTableEntry) (z : ExceptionTableEntry) (suf : List ExceptionTableEntry) (name : String), tab = pre ++ z :: suf ∧ (∀ u ∈ pre, covers u pc = false ∨ (u.catchType ≠ 0 ∧ ∃ nm : String, (Cond.classLink own u.catchType nm) ∈ TT ∧ (E, nm) ∈ ncl)) ∧ covers z pc = true ∧ z.catchType ≠ 0 ∧ (Cond.classLink own z.catchType name) ∈ TT ∧ (Cond.castable E name) ∈ TT ∧ z.handlerPc = h
section GR5
variable {X : CX} {cc : ByteArray} {own : String} {rm : Room} {nL : Nat} {al : Bool} {σ : MS} {ce sl pc : Nat} {lv : LV} {st : List PV}
theorem g_lretW {mc ms : Nat} {hh : List (Nat × Nat × Nat × Nat)} {x : Int64} (ok : Ok X cc own rm nL true) (fn : Fiw X hh mc ms (some (vL x)) σ) (hce : ce ≤ mc) (hsl : sl ≤ ms) (d : decode cc pc = .ok (.lreturn, 1)) : G X σ ce sl pc lv [vL x] := by
  obtain ⟨⟨p, l, e, R, s, m, args, below, meth, c⟩, D, dA, A, Q, ad0, σ0, al0, nL0⟩ := X
  obtain ⟨hx, hb, ho, rfl, hml, rfl, rfl, hts, hE, hA, hlk⟩ := ok
  obtain ⟨hret, hAe, hQ, -, -⟩ := fn
  dsimp only at hret hAe hQ
  subst hAe
  subst hQ
  intro ad H locs ls h1 h2 h3 h4 h5 h6 h7 h8
  refine W.widen hce hsl (vx_ret ?_)
  exact W.lret hx hb hret (fun t ht _ => ⟨rfl, ⟨ad, (fun h => by cases h), h3, by rw [ht]; exact h1, h4, rfl, h8⟩, h5.F ht⟩) h5.2.2 d hlk
theorem gw_callX {p : Program} {l : Launch} {e : Env} {R : Room} {s : State} {m : MethodId} {args : Array Value} {below : List Frame} {meth : Method} {c : Code} {H : Heap} {locs : List Loc} {ce sl mc ms : Nat} {Q : State → Prop} {pc : Nat} {ls : Array Slot} {rest st0 : List Value} {a : Array Value} {A : Nat → Prop} {H0 : Heap}
    {D : va_G} {dA : Nat → ClassId} {ad : Nat → Nat} {σ σ' : MS} {al : Bool} {tc : Option String} {r : Option PV} (hr : vx_Run p l e R s m args below meth c H locs ce sl mc ms (F0 m pc ls st0) rest (qcx D dA ad σ H.size al tc r σ' a) (xcx D dA ad σ H.size al tc σ') (frA ad σ H.size)) (hS : va_S A H0 H locs) (hA : ∀ q, H0.size ≤ q → A q) (hd : ∀ k, dm σ k → A (ad k))
    (kk : tc = none → (∀ k, dm σ k → dm σ' k) → ∀ (ad' : Nat → Nat) (H1 : Heap) (locs1 : List Loc), (al = false → ad' = ad) → (∀ k, dm σ k → ad' k = ad k) → rp D dA ad' σ' H1 → (∀ k, dm σ' k → A (ad' k)) → va_S A H0 H1 locs1 → W p l e R s m args below meth c H1 locs1 (ce + mc) (sl + ms) Q (F0 m (pc + 3) ls ((r.map (tv ad')).toList ++ rest)))
    (kx : ∀ (E : String), tc = some E → (∀ k, dm σ k → dm σ' k) → ∀ (ce9 : Cell) (q9 : Addr) (ad' : Nat → Nat) (H1 : Heap) (locs1 : List Loc), (al = false → ad' = ad) → (∀ k, dm σ k → ad' k = ad k) → rp D dA ad' σ' H1 → (∀ k, dm σ' k → A (ad' k)) → va_S A H0 H1 locs1 → H1[q9]? = some ce9 → ce9.vm = .none → s.vm.findClass E = some ce9.cls → vx_W p l e R s m args below meth c H1 locs1 (ce + mc) (sl + ms) Q (F0 m pc ls rest) q9) : W p l e R s m args below meth c H locs ce sl Q (F0 m pc ls st0) := by
  intro T hT X
  have hfr : ∀ q, frA ad σ H.size q → A q := fun q h => by
    rcases h with ⟨k, hk, rfl⟩ | h
    · exact hd k hk
    · exact hA q (Nat.le_trans hS.1 h)
  rcases hr T hT X with ⟨v, st₀, t, T', L, h0, X', hL, e1, e2, ⟨htc, ⟨ad', g1, g2, g3, g4, g5, g6⟩, hF⟩, st⟩ | ⟨q, st₀, t, T', L, E, ce9, h0, X', hL, e1, e2, ⟨htc, ⟨ad', g1, g2, g3, g4, g6⟩, hF⟩, hce, hcv, hcl, st⟩
  · cases g5
    obtain ⟨k1, k2, k3⟩ := vx_keep h0 e1 hS (fun q _ h => hfr q h) hfr hL hF
    obtain ⟨t2, a1, b1⟩ := kk htc g6 ad' T'.heap (locs ++ L) g1 g2 (by rw [e1]; exact g3) (fun k hk => hfr _ (g4 k hk)) k3 T' rfl X'
    exact ⟨t2, st t2 a1, b1⟩
  · obtain ⟨k1, k2, k3⟩ := vx_keep h0 e1 hS (fun q _ h => hfr q h) hfr hL hF
    obtain ⟨t2, a1, b1⟩ := kx E htc g6 ce9 q ad' T'.heap (locs ++ L) g1 g2 (by rw [e1]; exact g3) (fun k hk => hfr _ (g4 k hk)) k3 (by rw [e1]; exact hce) hcv hcl T' rfl X'
    exact ⟨t2, st.trans a1, b1⟩
/-- the law's method calls one of the face, which returns or throws -/
theorem g_callX {y : MethodName} {bytes : ByteArray} {maxL mc ms mc2 ms2 ix : Nat} {ret : Option FieldType} {rm2 : Room} {As rest : List PV} {rv rq : Option PV} {σ' σq : MS} {tc : Option String} {al2 : Bool} {hh : List (Nat × Nat × Nat × Nat)} (ok : Ok X cc own rm nL true) (fn : Fiw X hh mc2 ms2 rq σq) {r0 : Option Nat} {k0 s0 : Nat} (hr : rf σ.2.2 s0 r0 = some k0) {ci N : Nat} {sg : List Bool} {T : u_T} (hl : lay s0 = .inl (ci, sg)) (hc : vwCl[ci]? = some (y.cls, T, N)) (hM : Cx X.1.2.1 y (.code y bytes maxL ret) rm2 mc ms al2 (vR (some k0) :: As) σ tc rv σ') (hcm : cfM y bytes maxL ret As.length) (hcf : cfV y) (hw : (Cond.methodLink own ix y) ∈ TT)
    (hrc : rm2.cells = mc ∧ rm2.slots = ms) (hR : rm2.frames + 1 ≤ rm.frames ∧ 8 + (maxL + 11) + rm2.locals ≤ rm.locals) (hst : stw rest = true ∧ stz rest ≤ 8) (hf : ce + mc ≤ rm.cells ∧ sl + ms ≤ rm.slots) (hrl : rokl σ lv) (hrs : roks σ rest) (d : decode cc pc = .ok (.invokevirtual ix, 3)) (hstk : As.reverse ++ vR r0 :: rest = st)
    (k : tc = none → (∀ k, dm σ k → dm σ' k) → G X σ' (ce + mc) (sl + ms) (pc + 3) lv (rv.toList ++ rest)) (kx : ∀ E, tc = some E → ∃ h : Nat, hdl own (tableOf hh) pc E h ∧ ∀ q9 : Nat, (∀ k, dm σ k → dm σ' k) → G X σ' (ce + mc) (sl + ms) h lv [vW (.ref q9)]) : G X σ ce sl pc lv st := by
  obtain ⟨⟨p, l, e, R, s, m, args, below, meth, c⟩, D, dA, A, Q, ad0, σ0, al0, nL0⟩ := X
  obtain ⟨hx, hb, ho, rfl, hml, rfl, rfl, hts, hE, hA, hlk⟩ := ok
  subst hstk
  obtain ⟨hret, hAe, hQ, hSE, htab⟩ := fn
  dsimp only at hret hAe hQ hSE htab
  intro ad H locs ls h1 h2 h3 h4 h5 h6 h7 h8
  obtain ⟨hm1, hm2, hm3, hm4, hm5⟩ := hcm
  obtain ⟨rfl, hk0, hdm⟩ := rf_spec hr
  subst hk0
  have hP := one_P (h1.1 k0 hdm)
  rw [en_o hl] at hP
  have hfr : ∀ q, frA ad σ H.size q → A q := fun q h => by
    rcases h with ⟨k, hk, rfl⟩ | h
    · exact h4 k hk
    · exact hA q (Nat.le_trans h5.1 h)
  have run := vx_runV (p := p) (l := l) (e := e) (R := R) (s := s) (m := m) (args := args) (below := below) (meth := meth) (c := c) (H := H) (locs := locs) (cells := ce) (slots := sl) (As := As.map (tv ad)) (rest := rest.map (tv ad)) (g := F0 m pc ls ((As.reverse ++ vR (some k0) :: rest).map (tv ad))) ⟨hx, hb, hml, ho, hts⟩ (hM D dA ad H.size) ⟨⟨hrc.1, hrc.2, hR.1, hR.2, code_pay (hts _ hm1), List.mem_singleton.mpr rfl, hts _ hm1, hts _ hm2, ⟨hm3, hm4⟩, cf_n hm5, hts _ hw⟩, hts _ hcf.1, hts _ hcf.2⟩ ⟨pcx_blind, va_recv hE.2 hP (ci := ci) (q0 := 0) hc rfl, fun U hU hW => ⟨by rw [List.map_cons]; rfl, by rw [hU], by rw [hU]; exact h1, hE.moved hW, hSE.moved (U := U) (locs := locs) (by rw [hU]; exact h5) hW hfr⟩⟩ rfl (List.length_map _) h6.1 (by show ((As.reverse ++ vR (some k0) :: rest).map (tv ad)) = _; rw [List.map_append, List.map_reverse]; rfl) (by rw [stw_sum hst.1]; show 2 * 0 + stz rest ≤ 8; rw [Nat.mul_zero, Nat.zero_add]; exact hst.2) d hf
  refine gw_callX run h5 hA h4 (fun htc hmo ad' H1 locs1 g1 g2 g3 g4 g5 => ?_) (fun E htc hmo ce9 q9 ad' H1 locs1 g1 g2 g3 g4 g5 g6 g7 g8 => ?_)
  · have hls := lvm_same g2 hrl
    have hss := st_same g2 hrs
    have kk := k htc hmo ad' H1 locs1 ls g3 (fun h => by cases h) (fun k hk => (g2 k (h8 k hk)).trans (h3 k hk)) g4 g5 (by rw [hls]; exact h6) h7 (fun k hk => hmo k (h8 k hk))
    rw [List.map_append, hss] at kk
    exact (show (rv.map (tv ad')).toList = rv.toList.map (tv ad') by cases rv <;> rfl) ▸ kk
  · have hls := lvm_same g2 hrl
    obtain ⟨h, ⟨pre, z, suf, name, t1, t2, t3, t4, t5, t6, t7⟩, kg⟩ := kx E htc
    have kk := kg q9 hmo ad' H1 locs1 ls g3 (fun h => by cases h) (fun k hk => (g2 k (h8 k hk)).trans (h3 k hk)) g4 g5 (by rw [hls]; exact h6) h7 (fun k hk => hmo k (h8 k hk))
    subst t7
    exact vx_catch ho pre z suf (htab.trans t1) (fun u hu => (t2 u hu).imp id (fun v => ⟨v.1, by obtain ⟨nm, v1, v2⟩ := v.2; exact ⟨nm, hts _ v1, hSE.2.2.2 _ v2⟩⟩)) t3 t4 (hts _ t5) (hts _ t6) g6 g7 g8 kk
/-- the law's body calls a method of its own that has a table -/
theorem g_callW {y : MethodName} {bytes : ByteArray} {maxL mc ms ix : Nat} {rm2 : Room} {As rest : List PV} {rv : Option PV} {σ' : MS} {hh : List (Nat × Nat × Nat × Nat)} (ok : Ok X cc own rm nL true) (hSE : SE X.2.2.2.1 X.1.2.2.2.2.1) (hM : Cw X.1.2.1 y (.codeWith y bytes maxL (some .long) hh) rm2 mc ms As σ rv σ') (hcm : (Cond.codeWith y bytes maxL (some .long) hh) ∈ TT ∧ (Cond.initialized y.cls) ∈ TT ∧ y.cls ≠ "java/lang/invoke/MethodHandle" ∧ y.cls ≠ "java/lang/invoke/VarHandle" ∧ (parseMethodDescriptor y.desc).map (fun d => d.parameters.length) = some As.length) (hcf : cfS y) (hw : (Cond.methodLink own ix y) ∈ TT)
    (hrc : rm2.cells = mc ∧ rm2.slots = ms) (hR : rm2.frames + 1 ≤ rm.frames ∧ 8 + (maxL + 11) + rm2.locals ≤ rm.locals) (hst : stw rest = true ∧ stz rest ≤ 8) (hf : ce + mc ≤ rm.cells ∧ sl + ms ≤ rm.slots) (hrl : rokl σ lv) (hrs : roks σ rest) (d : decode cc pc = .ok (.invokestatic ix, 3)) (hstk : As.reverse ++ rest = st)
    (k : (∀ k, dm σ k → dm σ' k) → G X σ' (ce + mc) (sl + ms) (pc + 3) lv (rv.toList ++ rest)) : G X σ ce sl pc lv st := by
  obtain ⟨⟨p, l, e, R, s, m, args, below, meth, c⟩, D, dA, A, Q, ad0, σ0, al0, nL0⟩ := X
  obtain ⟨hx, hb, ho, rfl, hml, rfl, rfl, hts, hE, hA, hlk⟩ := ok
  subst hstk
  intro ad H locs ls h1 h2 h3 h4 h5 h6 h7 h8
  obtain ⟨hm1, hm2, hm3, hm4, hm5⟩ := hcm
  have hfr : ∀ q, frA ad σ H.size q → A q := fun q h => by
    rcases h with ⟨k, hk, rfl⟩ | h
    · exact h4 k hk
    · exact hA q (Nat.le_trans h5.1 h)
  have run := vx_runSX (hh := hh) (p := p) (l := l) (e := e) (R := R) (s := s) (m := m) (args := args) (below := below) (meth := meth) (c := c) (H := H) (locs := locs) (cells := ce) (slots := sl) (As := As.map (tv ad)) (rest := rest.map (tv ad)) (g := F0 m pc ls ((As.reverse ++ rest).map (tv ad))) ⟨hx, hb, hml, ho, hts⟩ (hM D dA ad H.size) ⟨⟨hrc.1, hrc.2, hR.1, hR.2, code_payW (hts _ hm1), List.mem_singleton.mpr rfl⟩, hts _ hm1, hts _ hm2, ⟨hm3, hm4⟩, cf_n hm5, hts _ hw, hts _ hcf⟩ ⟨pcx_blind, fun U hU hW => ⟨rfl, by rw [hU], by rw [hU]; exact h1, hE.moved hW, hSE.moved (U := U) (locs := locs) (by rw [hU]; exact h5) hW hfr⟩⟩ rfl (List.length_map _) h6.1 (by show ((As.reverse ++ rest).map (tv ad)) = _; rw [List.map_append, List.map_reverse]) (by rw [stw_sum hst.1]; show 2 * 0 + stz rest ≤ 8; rw [Nat.mul_zero, Nat.zero_add]; exact hst.2) d hf
  refine gw_callX run h5 hA h4 (fun _ hmo ad' H1 locs1 g1 g2 g3 g4 g5 => ?_) (fun E htc => by cases htc)
  have hls := lvm_same g2 hrl
  have hss := st_same g2 hrs
  have kk := k hmo ad' H1 locs1 ls g3 (fun h => by cases h) (fun k hk => (g2 k (h8 k hk)).trans (h3 k hk)) g4 g5 (by rw [hls]; exact h6) h7 (fun k hk => hmo k (h8 k hk))
  rw [List.map_append, hss] at kk
  exact (show (rv.map (tv ad')).toList = rv.toList.map (tv ad') by cases rv <;> rfl) ▸ kk
/-- a method of the law's own without a table, that calls such with one -/
theorem g_callY {y : MethodName} {bytes : ByteArray} {maxL mc ms ix : Nat} {ret : Option FieldType} {rm2 : Room} {As rest : List PV} {rv : Option PV} {σ' : MS} (ok : Ok X cc own rm nL true) (hSE : SE X.2.2.2.1 X.1.2.2.2.2.1) (hM : Cx X.1.2.1 y (.code y bytes maxL ret) rm2 mc ms true As σ none rv σ') (hcm : cfM y bytes maxL ret As.length) (hcf : cfS y) (hw : (Cond.methodLink own ix y) ∈ TT)
    (hrc : rm2.cells = mc ∧ rm2.slots = ms) (hR : rm2.frames + 1 ≤ rm.frames ∧ 8 + (maxL + 11) + rm2.locals ≤ rm.locals) (hst : stw rest = true ∧ stz rest ≤ 8) (hf : ce + mc ≤ rm.cells ∧ sl + ms ≤ rm.slots) (hrl : rokl σ lv) (hrs : roks σ rest) (d : decode cc pc = .ok (.invokestatic ix, 3)) (hstk : As.reverse ++ rest = st)
    (k : (∀ k, dm σ k → dm σ' k) → G X σ' (ce + mc) (sl + ms) (pc + 3) lv (rv.toList ++ rest)) : G X σ ce sl pc lv st := by
  obtain ⟨⟨p, l, e, R, s, m, args, below, meth, c⟩, D, dA, A, Q, ad0, σ0, al0, nL0⟩ := X
  obtain ⟨hx, hb, ho, rfl, hml, rfl, rfl, hts, hE, hA, hlk⟩ := ok
  subst hstk
  intro ad H locs ls h1 h2 h3 h4 h5 h6 h7 h8
  obtain ⟨hm1, hm2, hm3, hm4, hm5⟩ := hcm
  have hfr : ∀ q, frA ad σ H.size q → A q := fun q h => by
    rcases h with ⟨k, hk, rfl⟩ | h
    · exact h4 k hk
    · exact hA q (Nat.le_trans h5.1 h)
  have run := vx_runS (p := p) (l := l) (e := e) (R := R) (s := s) (m := m) (args := args) (below := below) (meth := meth) (c := c) (H := H) (locs := locs) (cells := ce) (slots := sl) (As := As.map (tv ad)) (rest := rest.map (tv ad)) (g := F0 m pc ls ((As.reverse ++ rest).map (tv ad))) ⟨hx, hb, hml, ho, hts⟩ (hM D dA ad H.size) ⟨⟨hrc.1, hrc.2, hR.1, hR.2, code_pay (hts _ hm1), List.mem_singleton.mpr rfl, hts _ hm1, hts _ hm2, ⟨hm3, hm4⟩, cf_n hm5, hts _ hw⟩, hts _ hcf⟩ ⟨pcx_blind, fun U hU hW => ⟨rfl, by rw [hU], by rw [hU]; exact h1, hE.moved hW, hSE.moved (U := U) (locs := locs) (by rw [hU]; exact h5) hW hfr⟩⟩ rfl (List.length_map _) h6.1 (by show ((As.reverse ++ rest).map (tv ad)) = _; rw [List.map_append, List.map_reverse]) (by rw [stw_sum hst.1]; show 2 * 0 + stz rest ≤ 8; rw [Nat.mul_zero, Nat.zero_add]; exact hst.2) d hf
  refine gw_callX run h5 hA h4 (fun _ hmo ad' H1 locs1 g1 g2 g3 g4 g5 => ?_) (fun E htc => by cases htc)
  have hls := lvm_same g2 hrl
  have hss := st_same g2 hrs
  have kk := k hmo ad' H1 locs1 ls g3 (fun h => by cases h) (fun k hk => (g2 k (h8 k hk)).trans (h3 k hk)) g4 g5 (by rw [hls]; exact h6) h7 (fun k hk => hmo k (h8 k hk))
  rw [List.map_append, hss] at kk
  exact (show (rv.map (tv ad')).toList = rv.toList.map (tv ad') by cases rv <;> rfl) ▸ kk
/-- the script lies apart -/
def Sd (X : CX) (b L : Nat) (xs : Nat → Int32) : Prop := va_X b L xs X.1.2.2.2.2.1 X.1.2.2.2.2.1.heap ∧ b < X.1.2.2.2.2.1.heap.size ∧ ¬ X.2.2.2.1 b
def sc (L : Nat) (xs : Nat → Int32) (i : Int32) : Option Int32 := if ¬ (i < 0 ∨ L ≤ i.toNatClampNeg) then some (xs i.toNatClampNeg) else none
theorem g_sld {b L : Nat} {xs : Nat → Int32} {i x : Int32} (ok : Ok X cc own rm nL al) (ht : Sd X b L xs) (hx9 : sc L xs i = some x) (d : decode cc pc = .ok (.iaload, 1)) (k : G X σ ce sl (pc + 1) lv (vI x :: st)) : G X σ ce sl pc lv (vI i :: vW (.ref b) :: st) := by
  obtain ⟨⟨p, l, e, R, s, m, args, below, meth, c⟩, D, dA, A, Q, ad0, σ0, al0, nL0⟩ := X
  obtain ⟨hx, hb, ho, rfl, hml, rfl, rfl, hts, hE, hA, hlk⟩ := ok
  obtain ⟨hX, hbl, hbA⟩ := ht
  unfold sc at hx9
  by_cases hi : ¬ (i < 0 ∨ L ≤ i.toNatClampNeg)
  · rw [if_pos hi] at hx9
    cases hx9
    intro ad H locs ls h1 h2 h3 h4 h5 h6 h7 h8
    exact va_sld hx hb hX hbl hbA h5 hi d (k ad H locs ls h1 h2 h3 h4 h5 h6 h7 h8)
  · rw [if_neg hi] at hx9; cases hx9
theorem g_slen {b L : Nat} {xs : Nat → Int32} (ok : Ok X cc own rm nL al) (ht : Sd X b L xs) (d : decode cc pc = .ok (.arraylength, 1)) (k : G X σ ce sl (pc + 1) lv (vI (Int32.ofNat L) :: st)) : G X σ ce sl pc lv (vW (.ref b) :: st) := by
  obtain ⟨⟨p, l, e, R, s, m, args, below, meth, c⟩, D, dA, A, Q, ad0, σ0, al0, nL0⟩ := X
  obtain ⟨hx, hb, ho, rfl, hml, rfl, rfl, hts, hE, hA, hlk⟩ := ok
  obtain ⟨hX, hbl, hbA⟩ := ht
  intro ad H locs ls h1 h2 h3 h4 h5 h6 h7 h8
  exact va_slen hx hb hX hbl hbA h5 d (k ad H locs ls h1 h2 h3 h4 h5 h6 h7 h8)
def pcd (D : va_G) (dA : Nat → ClassId) (ad : Nat → Nat) (σ : MS) (sz : Nat) (pa : List PV) (b L : Nat) (xs : Nat → Int32) : Array Value → State → Prop := va_Pc (pa.map (tv ad)) (fun U => U.heap.size = sz ∧ rp D dA ad σ U.heap ∧ EV D dA U ∧ va_X b L xs U U.heap ∧ b < U.heap.size ∧ ¬ frA ad σ sz b)
theorem pcd_blind {D : va_G} {dA : Nat → ClassId} {ad : Nat → Nat} {σ : MS} {sz : Nat} {pa : List PV} {b L : Nat} {xs : Nat → Int32} : FrameBlind (pcd D dA ad σ sz pa b L xs) := fun a U g mk h => ⟨h.1, h.2.1, h.2.2.1, h.2.2.2.1.moved (U := U.calling g mk a) (show U.WarmedH (U.calling g mk a).vm from State.WarmedH.refl U), h.2.2.2.2.1.moved (U := U.calling g mk a) (State.WarmedH.refl U).alike, h.2.2.2.2.2⟩
def Cd (l : Launch) (y : MethodName) (cw : Cond) (rm : Room) (mc ms : Nat) (pa : List PV) (σ : MS) (r : Option PV) (b L : Nat) (xs : Nat → Int32) : Prop :=
  ∀ (D : va_G) (dA : Nat → ClassId) (ad : Nat → Nat) (sz : Nat), Met l y [cw] rm (pcd D dA ad σ sz pa b L xs) (qcs D dA ad σ sz false r σ) mc ms (frA ad σ sz)
theorem g_callD {y : MethodName} {bytes : ByteArray} {maxL mc ms ix : Nat} {ret : Option FieldType} {rm2 : Room} {As rest : List PV} {rv : Option PV} {b L : Nat} {xs : Nat → Int32} (ok : Ok X cc own rm nL al) (ht : Sd X b L xs) (hM : Cd X.1.2.1 y (.code y bytes maxL ret) rm2 mc ms As σ rv b L xs) (hcm : cfM y bytes maxL ret As.length) (hcf : cfS y) (hw : (Cond.methodLink own ix y) ∈ TT)
    (hrc : rm2.cells = mc ∧ rm2.slots = ms) (hR : rm2.frames + 1 ≤ rm.frames ∧ 8 + (maxL + 11) + rm2.locals ≤ rm.locals) (hst : stw rest = true ∧ stz rest ≤ 8) (hf : ce + mc ≤ rm.cells ∧ sl + ms ≤ rm.slots) (d : decode cc pc = .ok (.invokestatic ix, 3)) (hstk : As.reverse ++ rest = st)
    (k : G X σ (ce + mc) (sl + ms) (pc + 3) lv (rv.toList ++ rest)) : G X σ ce sl pc lv st := by
  obtain ⟨⟨p, l, e, R, s, m, args, below, meth, c⟩, D, dA, A, Q, ad0, σ0, al0, nL0⟩ := X
  obtain ⟨hx, hb, ho, rfl, hml, rfl, rfl, hts, hE, hA, hlk⟩ := ok
  subst hstk
  obtain ⟨hX, hbl, hbA⟩ := ht
  dsimp only at hX hbl hbA
  intro ad H locs ls h1 h2 h3 h4 h5 h6 h7 h8
  obtain ⟨hm1, hm2, hm3, hm4, hm5⟩ := hcm
  have hbs : b < H.size := Nat.lt_of_lt_of_le hbl h5.1
  have hbf : ¬ frA ad σ H.size b := fun h => by
    rcases h with ⟨k, hk, e⟩ | h
    · exact hbA (e ▸ h4 k hk)
    · omega
  have run := va_runS (p := p) (l := l) (e := e) (R := R) (s := s) (m := m) (args := args) (below := below) (meth := meth) (c := c) (H := H) (locs := locs) (cells := ce) (slots := sl) (As := As.map (tv ad)) (rest := rest.map (tv ad)) (g := F0 m pc ls ((As.reverse ++ rest).map (tv ad))) ⟨hx, hb, hml, ho, hts⟩ (hM D dA ad H.size) ⟨⟨hrc.1, hrc.2, hR.1, hR.2, code_pay (hts _ hm1), List.mem_singleton.mpr rfl, hts _ hm1, hts _ hm2, ⟨hm3, hm4⟩, cf_n hm5, hts _ hw⟩, hts _ hcf⟩ ⟨pcd_blind, fun U hU hW => ⟨rfl, by rw [hU], by rw [hU]; exact h1, hE.moved hW, by rw [hU]; exact (hX.kept (h5.2.1 b hbl hbA)).moved hW.alike, by rw [hU]; exact hbs, hbf⟩⟩ rfl (List.length_map _) h6.1 (by show ((As.reverse ++ rest).map (tv ad)) = _; rw [List.map_append, List.map_reverse]) (by rw [stw_sum hst.1]; show 2 * 0 + stz rest ≤ 8; rw [Nat.mul_zero, Nat.zero_add]; exact hst.2) d hf
  refine gw_call run h5 hA h4 (fun hmo ad' H1 locs1 g1 g2 g3 g4 g5 => ?_)
  have e9 := g1 rfl
  subst e9
  have kk := k ad' H1 locs1 ls g3 h2 h3 g4 g5 h6 h7 h8
  rw [List.map_append] at kk
  exact (show (rv.map (tv ad')).toList = rv.toList.map (tv ad') by cases rv <;> rfl) ▸ kk
end GR5
theorem Cd.of {l : Launch} {y : MethodName} {cc : ByteArray} {maxL : Nat} {ret : Option FieldType} {rm : Room} {mc ms : Nat} {pa : List PV} {σ : MS} {r : Option PV} {own : String} {b L : Nat} {xs : Nat → Int32} (ho : y.cls = own) (hy : plainName y.cls = true) (hpa : stw pa = true ∧ stz pa ≤ maxL)
    (body : ∀ X : CX, Ok X cc own rm maxL false → Fin X ret mc ms false r σ → Sd X b L xs → X.2.2.2.2.2.2.1 = σ → X.1.2.1 = l → G X σ 0 0 0 (pln 0 pa) []) : Cd l y (.code y cc maxL ret) rm mc ms pa σ r b L xs := by
  intro D dA ad sz
  refine Met.ofW (ws := [.code y cc maxL ret]) (cc := cc) (maxL := maxL) (ret := ret) hy rfl ?_
  intro p e s m args below meth c s₁ B hml hv
  obtain ⟨rfl, hsz, hP, hE, hX, hbl, hbA⟩ := hv
  subst hsz
  have hown : s.vm.findClass own = some m.cls := by rw [← ho]; exact findClass_of_methodNamed (x := y) B.named
  have hb := body ((p, l, e, rm, s, m, ((pa.map (tv ad)).toArray), below, meth, c), D, dA, frA ad σ s.heap.size, MQ below (qcs D dA ad σ s.heap.size false r σ) ((pa.map (tv ad)).toArray) s mc ms (frA ad σ s.heap.size), ad, σ, false, maxL)
    ⟨B.exec, B.bytes, hown, rfl, hml, rfl, rfl, hE.1.at _, hE, fun q h => Or.inr h, B.notSynchronized⟩ ⟨B.returns, rfl, rfl⟩ ⟨hX, hbl, hbA⟩ rfl rfl
  rw [lg_entry_eq]
  have hl := lv_entry (pa.map (tv ad)) (n := maxL) (by rw [sl_len pa hpa.1]; exact hpa.2)
  rw [pln_args 0 pa hpa.1] at hl
  exact hb ad s.heap [] _ hP (fun _ => rfl) (fun _ _ => rfl) (fun k hk => Or.inl ⟨k, hk, rfl⟩) va_S.rf hl (pln_all 0 pa hpa.1) (fun _ h => h)
