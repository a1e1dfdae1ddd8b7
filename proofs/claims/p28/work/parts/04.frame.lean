/-! ===== FRAME 3: arrays, making, calls, ends ===== -/
theorem ea_0 {dA : Nat → ClassId} {ad : Nat → Nat} {σ : MS} {k n : Nat} : ea dA ad σ k 0 n = .inl (dA 0, n, .inl (σ.1 k)) := rfl
theorem ea_1 {dA : Nat → ClassId} {ad : Nat → Nat} {σ : MS} {k n : Nat} : ea dA ad σ k 1 n = .inl (dA 1, n, .inl (σ.1 k)) := rfl
theorem ea_2 {dA : Nat → ClassId} {ad : Nat → Nat} {σ : MS} {k n : Nat} : ea dA ad σ k 2 n = .inl (dA 2, n, .inr (.inl (fun j => (σ.1 k j).toInt64))) := rfl
theorem ea_3 {dA : Nat → ClassId} {ad : Nat → Nat} {σ : MS} {k n : Nat} : ea dA ad σ k 3 n = .inl (dA 3, n, .inr (.inr (.inr (.inr (fun j => (σ.2.1 k j).map ad))))) := rfl
theorem ea_4 {dA : Nat → ClassId} {ad : Nat → Nat} {σ : MS} {k n : Nat} : ea dA ad σ k 4 n = .inl (dA 4, n, .inr (.inr (.inr (.inr (fun j => (σ.2.1 k j).map ad))))) := rfl
theorem ea_5 {dA : Nat → ClassId} {ad : Nat → Nat} {σ : MS} {k n : Nat} : ea dA ad σ k 5 n = .inl (dA 5, n, .inr (.inr (.inr (.inr (fun j => (σ.2.1 k j).map ad))))) := rfl
theorem one_P {D : va_G} {a : Nat} {e : va_E} {H : Heap} (h : va_at D vwCl (a, e) H) : va_P D vwCl [(a, e)] H := fun i q hq => by
  match i, hq with
  | 0, hq => cases hq; exact h
def rokl (σ : MS) : LV → Prop
  | [] => True
  | q :: t => rk σ q.2 ∧ rokl σ t
def roks (σ : MS) : List PV → Prop
  | [] => True
  | q :: t => rk σ q ∧ roks σ t
theorem tv_same {σ : MS} {ad ad' : Nat → Nat} (h : ∀ k, dm σ k → ad' k = ad k) {v : PV} (hv : rk σ v) : tv ad' v = tv ad v := by
  rcases v with x | r | x | v
  · rfl
  · cases r with
    | none => rfl
    | some k => show Value.ref _ = Value.ref _; rw [h k hv]
  · rfl
  · rfl
theorem lvm_same {σ : MS} {ad ad' : Nat → Nat} (h : ∀ k, dm σ k → ad' k = ad k) : ∀ {lv : LV}, rokl σ lv → lvm ad' lv = lvm ad lv
  | [], _ => rfl
  | q :: t, hv => by
    show (q.1, tv ad' q.2) :: lvm ad' t = (q.1, tv ad q.2) :: lvm ad t
    rw [tv_same h hv.1, lvm_same h hv.2]
theorem st_same {σ : MS} {ad ad' : Nat → Nat} (h : ∀ k, dm σ k → ad' k = ad k) : ∀ {st : List PV}, roks σ st → st.map (tv ad') = st.map (tv ad)
  | [], _ => rfl
  | q :: t, hv => by
    show tv ad' q :: t.map (tv ad') = tv ad q :: t.map (tv ad)
    rw [tv_same h hv.1, st_same h hv.2]
def stw (_ : List PV) : Bool := true
def stz : List PV → Nat
  | [] => 0
  | q :: t => (bif cat1 q then 1 else 2) + stz t
theorem stw_sum {ad : Nat → Nat} : ∀ {st : List PV}, stw st = true → ((st.map (tv ad)).map fun v => v.category).sum = stz st
  | [], _ => rfl
  | q :: t, h => by
    show (tv ad q).category + ((t.map (tv ad)).map fun v => v.category).sum = (bif cat1 q then 1 else 2) + stz t
    rw [tv_cat2, stw_sum (st := t) rfl]
/-- what a method may change; its start and end -/
def frA (ad : Nat → Nat) (σ : MS) (sz : Nat) : Nat → Prop := fun q => (∃ k, dm σ k ∧ ad k = q) ∨ sz ≤ q
def pcs (D : va_G) (dA : Nat → ClassId) (ad : Nat → Nat) (σ : MS) (sz : Nat) (pa : List PV) : Array Value → State → Prop := va_Pc (pa.map (tv ad)) (fun U => U.heap.size = sz ∧ rp D dA ad σ U.heap ∧ EV D dA U)
def qcs (D : va_G) (dA : Nat → ClassId) (ad : Nat → Nat) (σ : MS) (sz : Nat) (al : Bool) (r : Option PV) (σ' : MS) : Array Value → State → Outcome → State → Prop := fun _ st oc t =>
  (∃ ad' : Nat → Nat, (al = false → ad' = ad) ∧ (∀ k, dm σ k → ad' k = ad k) ∧ rp D dA ad' σ' t.heap ∧ (∀ k, dm σ' k → frA ad σ sz (ad' k)) ∧ oc = .returned (r.map (tv ad')) ∧ ∀ k, dm σ k → dm σ' k) ∧ va_F (frA ad σ sz) st t
def Ct (l : Launch) (y : MethodName) (cw : Cond) (rm : Room) (mc ms : Nat) (al : Bool) (pa : List PV) (σ : MS) (r : Option PV) (σ' : MS) : Prop :=
  ∀ (D : va_G) (dA : Nat → ClassId) (ad : Nat → Nat) (sz : Nat), Met l y [cw] rm (pcs D dA ad σ sz pa) (qcs D dA ad σ sz al r σ') mc ms (frA ad σ sz)
theorem pcs_blind {D : va_G} {dA : Nat → ClassId} {ad : Nat → Nat} {σ : MS} {sz : Nat} {pa : List PV} : FrameBlind (pcs D dA ad σ sz pa) := fun a U g mk h => ⟨h.1, h.2.1, h.2.2.1, h.2.2.2.moved (U := U.calling g mk a) (show U.WarmedH (U.calling g mk a).vm from State.WarmedH.refl U)⟩
theorem gw_call {p : Program} {l : Launch} {e : Env} {R : Room} {s : State} {m : MethodId} {args : Array Value} {below : List Frame} {meth : Method} {c : Code} {H : Heap} {locs : List Loc} {ce sl mc ms : Nat} {Q : State → Prop} {pc : Nat} {ls : Array Slot} {rest st0 : List Value} {a : Array Value} {A : Nat → Prop} {H0 : Heap}
    {D : va_G} {dA : Nat → ClassId} {ad : Nat → Nat} {σ σ' : MS} {al : Bool} {r : Option PV} (hr : va_Run p l e R s m args below meth c H locs ce sl mc ms (F0 m pc ls st0) rest (qcs D dA ad σ H.size al r σ' a) (frA ad σ H.size)) (hS : va_S A H0 H locs) (hA : ∀ q, H0.size ≤ q → A q) (hd : ∀ k, dm σ k → A (ad k))
    (kk : (∀ k, dm σ k → dm σ' k) → ∀ (ad' : Nat → Nat) (H1 : Heap) (locs1 : List Loc), (al = false → ad' = ad) → (∀ k, dm σ k → ad' k = ad k) → rp D dA ad' σ' H1 → (∀ k, dm σ' k → A (ad' k)) → va_S A H0 H1 locs1 → W p l e R s m args below meth c H1 locs1 (ce + mc) (sl + ms) Q (F0 m (pc + 3) ls ((r.map (tv ad')).toList ++ rest))) : W p l e R s m args below meth c H locs ce sl Q (F0 m pc ls st0) := by
  intro T hT X
  have hfr : ∀ q, frA ad σ H.size q → A q := fun q h => by
    rcases h with ⟨k, hk, rfl⟩ | h
    · exact hd k hk
    · exact hA q (Nat.le_trans hS.1 h)
  obtain ⟨v, st₀, t, T', L, h0, X', hL, e1, e2, ⟨⟨ad', g1, g2, g3, g4, g5, g6⟩, hz, hk⟩, st⟩ := hr T hT X
  cases g5
  rw [h0] at hz hk
  obtain ⟨t2, a1, b1⟩ := kk g6 ad' T'.heap (locs ++ L) g1 g2 (by rw [e1]; exact g3) (fun k hk => hfr _ (g4 k hk))
    ⟨Nat.le_trans hS.1 (by rw [e1]; exact hz), fun q h1 h2 => by rw [e1, hk q (Nat.lt_of_lt_of_le h1 hS.1) (fun z => h2 (hfr q z))]; exact hS.2.1 q h1 h2, fun q hq => by
      rcases List.mem_append.mp hq with h | h
      · exact hS.2.2 q h
      · exact hfr _ (hL q h)⟩ T' rfl X'
  exact ⟨t2, st t2 a1, b1⟩
section GR3
variable {X : CX} {cc : ByteArray} {own : String} {rm : Room} {nL : Nat} {al : Bool} {σ : MS} {ce sl pc : Nat} {lv : LV} {st : List PV}

theorem g_iald {r : Option Nat} {i : Int32} {k0 : Nat} (ok : Ok X cc own rm nL al) (hr : ra σ.2.2 0 r i = some k0) (d : decode cc pc = .ok (.iaload, 1)) (k : G X σ ce sl (pc + 1) lv (vI (σ.1 k0 i.toNatClampNeg) :: st)) : G X σ ce sl pc lv (vI i :: vR r :: st) := by
  obtain ⟨⟨p, l, e, R, s, m, args, below, meth, c⟩, D, dA, A, Q, ad0, σ0, al0, nL0⟩ := X
  obtain ⟨hx, hb, ho, rfl, hml, rfl, rfl, hts, hE, hA, hlk⟩ := ok
  intro ad H locs ls h1 h2 h3 h4 h5 h6 h7 h8
  obtain ⟨rfl, hdm, n, hl, hi⟩ := ra_spec hr
  have hP := one_P (h1.1 k0 hdm)
  rw [en_a hl, ea_0] at hP
  exact va_iald (f := σ.1 k0) hx hb hE.2 hP 0 0 rfl rfl hi d (k ad H locs ls h1 h2 h3 h4 h5 h6 h7 h8)

theorem g_aald3 {r : Option Nat} {i : Int32} {k0 : Nat} (ok : Ok X cc own rm nL al) (hr : ra σ.2.2 3 r i = some k0) (d : decode cc pc = .ok (.aaload, 1)) (k : G X σ ce sl (pc + 1) lv (vR (σ.2.1 k0 i.toNatClampNeg) :: st)) : G X σ ce sl pc lv (vI i :: vR r :: st) := by
  obtain ⟨⟨p, l, e, R, s, m, args, below, meth, c⟩, D, dA, A, Q, ad0, σ0, al0, nL0⟩ := X
  obtain ⟨hx, hb, ho, rfl, hml, rfl, rfl, hts, hE, hA, hlk⟩ := ok
  intro ad H locs ls h1 h2 h3 h4 h5 h6 h7 h8
  obtain ⟨rfl, hdm, n, hl, hi⟩ := ra_spec hr
  have hP := one_P (h1.1 k0 hdm)
  rw [en_a hl, ea_3] at hP
  exact va_aldq (f := fun j => (σ.2.1 k0 j).map ad) hx hb hE.2 hP 0 3 rfl rfl hi d (k ad H locs ls h1 h2 h3 h4 h5 h6 h7 h8)

theorem g_aald4 {r : Option Nat} {i : Int32} {k0 : Nat} (ok : Ok X cc own rm nL al) (hr : ra σ.2.2 4 r i = some k0) (d : decode cc pc = .ok (.aaload, 1)) (k : G X σ ce sl (pc + 1) lv (vR (σ.2.1 k0 i.toNatClampNeg) :: st)) : G X σ ce sl pc lv (vI i :: vR r :: st) := by
  obtain ⟨⟨p, l, e, R, s, m, args, below, meth, c⟩, D, dA, A, Q, ad0, σ0, al0, nL0⟩ := X
  obtain ⟨hx, hb, ho, rfl, hml, rfl, rfl, hts, hE, hA, hlk⟩ := ok
  intro ad H locs ls h1 h2 h3 h4 h5 h6 h7 h8
  obtain ⟨rfl, hdm, n, hl, hi⟩ := ra_spec hr
  have hP := one_P (h1.1 k0 hdm)
  rw [en_a hl, ea_4] at hP
  exact va_aldq (f := fun j => (σ.2.1 k0 j).map ad) hx hb hE.2 hP 0 4 rfl rfl hi d (k ad H locs ls h1 h2 h3 h4 h5 h6 h7 h8)

theorem g_aald5 {r : Option Nat} {i : Int32} {k0 : Nat} (ok : Ok X cc own rm nL al) (hr : ra σ.2.2 5 r i = some k0) (d : decode cc pc = .ok (.aaload, 1)) (k : G X σ ce sl (pc + 1) lv (vR (σ.2.1 k0 i.toNatClampNeg) :: st)) : G X σ ce sl pc lv (vI i :: vR r :: st) := by
  obtain ⟨⟨p, l, e, R, s, m, args, below, meth, c⟩, D, dA, A, Q, ad0, σ0, al0, nL0⟩ := X
  obtain ⟨hx, hb, ho, rfl, hml, rfl, rfl, hts, hE, hA, hlk⟩ := ok
  intro ad H locs ls h1 h2 h3 h4 h5 h6 h7 h8
  obtain ⟨rfl, hdm, n, hl, hi⟩ := ra_spec hr
  have hP := one_P (h1.1 k0 hdm)
  rw [en_a hl, ea_5] at hP
  exact va_aldq (f := fun j => (σ.2.1 k0 j).map ad) hx hb hE.2 hP 0 5 rfl rfl hi d (k ad H locs ls h1 h2 h3 h4 h5 h6 h7 h8)

theorem g_iast {r : Option Nat} {i : Int32} {k0 : Nat} {x : Int32} (ok : Ok X cc own rm nL al) (hr : ra σ.2.2 0 r i = some k0)  (d : decode cc pc = .ok (.iastore, 1)) (k : G X (wi σ k0 i.toNatClampNeg x) ce sl (pc + 1) lv st) : G X σ ce sl pc lv (vI x :: vI i :: vR r :: st) := by
  obtain ⟨⟨p, l, e, R, s, m, args, below, meth, c⟩, D, dA, A, Q, ad0, σ0, al0, nL0⟩ := X
  obtain ⟨hx, hb, ho, rfl, hml, rfl, rfl, hts, hE, hA, hlk⟩ := ok
  intro ad H locs ls h1 h2 h3 h4 h5 h6 h7 h8
  obtain ⟨rfl, hdm, n, hl, hi⟩ := ra_spec hr
  have hP := h1.1 k0 hdm
  rw [en_a hl, ea_0] at hP
  refine W.iast hx hb hP ((hE.2.2 0 _ rfl).1 n (fun j => .int (σ.1 k0 j))) (fun q => by cases q) (by show ¬ (i < 0 ∨ (arrV _ _ _).slots.size ≤ _); rw [arrV_size]; exact hi) rfl rfl d fun H1 e z oq => ?_
  refine k ad H1 _ ls (rp.put h1 hdm rfl (fun a ha j => ⟨by show (if a = k0 ∧ j = i.toNatClampNeg then x else _) = _; rw [if_neg (fun z => ha z.1)], rfl⟩) (fun j b hb => h1.2.2 k0 j b hdm hb) ?_ oq) h2 h3 h4 (h5.put z oq (h4 k0 hdm)) h6 h7 h8
  rw [en_a hl, ea_0]
  show H1[ad k0]? = some (vp_cell _ _)
  rw [e]
  rw [vp_cell_i, vp_cell_i, arrV_store]
  congr 2
  funext q
  by_cases hq : q = i.toNatClampNeg
  · subst hq
    simp [updV, wi]
  · simp [updV, wi, hq]

theorem g_aast3 {r : Option Nat} {i : Int32} {k0 : Nat} {x : Option Nat} (ok : Ok X cc own rm nL al) (hr : ra σ.2.2 3 r i = some k0) {x0 sx ci : Nat} {sgx : List Bool} {N : Nat} {T : u_T} (hx0 : rf σ.2.2 sx x = some x0) (hlx : lay sx = .inl (ci, sgx)) (hcx : vwCl[ci]? = some (tAO3, T, N)) (d : decode cc pc = .ok (.aastore, 1)) (k : G X (wr σ k0 i.toNatClampNeg x) ce sl (pc + 1) lv st) : G X σ ce sl pc lv (vR x :: vI i :: vR r :: st) := by
  obtain ⟨⟨p, l, e, R, s, m, args, below, meth, c⟩, D, dA, A, Q, ad0, σ0, al0, nL0⟩ := X
  obtain ⟨hx, hb, ho, rfl, hml, rfl, rfl, hts, hE, hA, hlk⟩ := ok
  intro ad H locs ls h1 h2 h3 h4 h5 h6 h7 h8
  obtain ⟨rfl, hdm, n, hl, hi⟩ := ra_spec hr
  have hP := h1.1 k0 hdm
  rw [en_a hl, ea_3] at hP
  obtain ⟨rfl, hsb, hdb⟩ := rf_spec hx0
  subst hsb
  have hd : ∀ b, some x0 = some b → dm σ b := fun b hb => by cases hb; exact hdb
  have hV := h1.1 x0 hdb
  rw [en_o hlx] at hV
  obtain ⟨r', hr', cellV, g1, g2, g3, -⟩ := hV
  have hcls := (hE.2.1 ci _ hcx).2
  obtain ⟨kA, comp, k1, k2, k3, -⟩ := (hE.2.2 3 _ rfl).2
  have hcomp : comp = D.1 ci := Option.some.inj (k3.symm.trans hcls.1)
  subst hcomp
  obtain ⟨kC, hkC, -⟩ := hcls.2
  refine W.aast hx hb hP (fun q h => by cases h) (fun h => by cases h) k1 k2 rfl hkC ⟨fun q => hi (Or.inl q), by show _ < (arrV _ _ _).slots.size; rw [arrV_size]; exact Nat.not_le.mp fun q => hi (Or.inr q)⟩ g1 (fun q h => by rw [g3] at h; cases h) (by rw [g2]; exact hkC) (by rw [g2]; exact va_assign hcls) rfl rfl d fun H1 e z oq => ?_
  refine k ad H1 _ ls (rp.put h1 hdm rfl (fun a ha j => ⟨rfl, by show (if a = k0 ∧ j = i.toNatClampNeg then some x0 else _) = _; rw [if_neg (fun z => ha z.1)]⟩) (fun j b hb => by
      have hb2 : (if k0 = k0 ∧ j = i.toNatClampNeg then some x0 else σ.2.1 k0 j) = some b := hb
      split at hb2
      next => exact hd b hb2
      next => exact h1.2.2 k0 j b hdm hb2) ?_ oq) h2 h3 h4 (h5.put z oq (h4 k0 hdm)) h6 h7 h8
  rw [en_a hl, ea_3]
  show H1[ad k0]? = some (vp_cell _ _)
  rw [e]
  rw [vp_cell_q, vp_cell_q, arrV_store]
  congr 2
  funext q
  by_cases hq : q = i.toNatClampNeg
  · subst hq
    simp [updV, wr, va_rf]
  · simp [updV, wr, va_rf, hq]

theorem g_aast4 {r : Option Nat} {i : Int32} {k0 : Nat} {x : Option Nat} (ok : Ok X cc own rm nL al) (hr : ra σ.2.2 4 r i = some k0) {x0 sx ci : Nat} {sgx : List Bool} {N : Nat} {T : u_T} (hx0 : rf σ.2.2 sx x = some x0) (hlx : lay sx = .inl (ci, sgx)) (hcx : vwCl[ci]? = some (tAO4, T, N)) (d : decode cc pc = .ok (.aastore, 1)) (k : G X (wr σ k0 i.toNatClampNeg x) ce sl (pc + 1) lv st) : G X σ ce sl pc lv (vR x :: vI i :: vR r :: st) := by
  obtain ⟨⟨p, l, e, R, s, m, args, below, meth, c⟩, D, dA, A, Q, ad0, σ0, al0, nL0⟩ := X
  obtain ⟨hx, hb, ho, rfl, hml, rfl, rfl, hts, hE, hA, hlk⟩ := ok
  intro ad H locs ls h1 h2 h3 h4 h5 h6 h7 h8
  obtain ⟨rfl, hdm, n, hl, hi⟩ := ra_spec hr
  have hP := h1.1 k0 hdm
  rw [en_a hl, ea_4] at hP
  obtain ⟨rfl, hsb, hdb⟩ := rf_spec hx0
  subst hsb
  have hd : ∀ b, some x0 = some b → dm σ b := fun b hb => by cases hb; exact hdb
  have hV := h1.1 x0 hdb
  rw [en_o hlx] at hV
  obtain ⟨r', hr', cellV, g1, g2, g3, -⟩ := hV
  have hcls := (hE.2.1 ci _ hcx).2
  obtain ⟨kA, comp, k1, k2, k3, -⟩ := (hE.2.2 4 _ rfl).2
  have hcomp : comp = D.1 ci := Option.some.inj (k3.symm.trans hcls.1)
  subst hcomp
  obtain ⟨kC, hkC, -⟩ := hcls.2
  refine W.aast hx hb hP (fun q h => by cases h) (fun h => by cases h) k1 k2 rfl hkC ⟨fun q => hi (Or.inl q), by show _ < (arrV _ _ _).slots.size; rw [arrV_size]; exact Nat.not_le.mp fun q => hi (Or.inr q)⟩ g1 (fun q h => by rw [g3] at h; cases h) (by rw [g2]; exact hkC) (by rw [g2]; exact va_assign hcls) rfl rfl d fun H1 e z oq => ?_
  refine k ad H1 _ ls (rp.put h1 hdm rfl (fun a ha j => ⟨rfl, by show (if a = k0 ∧ j = i.toNatClampNeg then some x0 else _) = _; rw [if_neg (fun z => ha z.1)]⟩) (fun j b hb => by
      have hb2 : (if k0 = k0 ∧ j = i.toNatClampNeg then some x0 else σ.2.1 k0 j) = some b := hb
      split at hb2
      next => exact hd b hb2
      next => exact h1.2.2 k0 j b hdm hb2) ?_ oq) h2 h3 h4 (h5.put z oq (h4 k0 hdm)) h6 h7 h8
  rw [en_a hl, ea_4]
  show H1[ad k0]? = some (vp_cell _ _)
  rw [e]
  rw [vp_cell_q, vp_cell_q, arrV_store]
  congr 2
  funext q
  by_cases hq : q = i.toNatClampNeg
  · subst hq
    simp [updV, wr, va_rf]
  · simp [updV, wr, va_rf, hq]

theorem g_aast5 {r : Option Nat} {i : Int32} {k0 : Nat} {x : Option Nat} (ok : Ok X cc own rm nL al) (hr : ra σ.2.2 5 r i = some k0) {x0 sx ci : Nat} {sgx : List Bool} {N : Nat} {T : u_T} (hx0 : rf σ.2.2 sx x = some x0) (hlx : lay sx = .inl (ci, sgx)) (hcx : vwCl[ci]? = some (tAO5, T, N)) (d : decode cc pc = .ok (.aastore, 1)) (k : G X (wr σ k0 i.toNatClampNeg x) ce sl (pc + 1) lv st) : G X σ ce sl pc lv (vR x :: vI i :: vR r :: st) := by
  obtain ⟨⟨p, l, e, R, s, m, args, below, meth, c⟩, D, dA, A, Q, ad0, σ0, al0, nL0⟩ := X
  obtain ⟨hx, hb, ho, rfl, hml, rfl, rfl, hts, hE, hA, hlk⟩ := ok
  intro ad H locs ls h1 h2 h3 h4 h5 h6 h7 h8
  obtain ⟨rfl, hdm, n, hl, hi⟩ := ra_spec hr
  have hP := h1.1 k0 hdm
  rw [en_a hl, ea_5] at hP
  obtain ⟨rfl, hsb, hdb⟩ := rf_spec hx0
  subst hsb
  have hd : ∀ b, some x0 = some b → dm σ b := fun b hb => by cases hb; exact hdb
  have hV := h1.1 x0 hdb
  rw [en_o hlx] at hV
  obtain ⟨r', hr', cellV, g1, g2, g3, -⟩ := hV
  have hcls := (hE.2.1 ci _ hcx).2
  obtain ⟨kA, comp, k1, k2, k3, -⟩ := (hE.2.2 5 _ rfl).2
  have hcomp : comp = D.1 ci := Option.some.inj (k3.symm.trans hcls.1)
  subst hcomp
  obtain ⟨kC, hkC, -⟩ := hcls.2
  refine W.aast hx hb hP (fun q h => by cases h) (fun h => by cases h) k1 k2 rfl hkC ⟨fun q => hi (Or.inl q), by show _ < (arrV _ _ _).slots.size; rw [arrV_size]; exact Nat.not_le.mp fun q => hi (Or.inr q)⟩ g1 (fun q h => by rw [g3] at h; cases h) (by rw [g2]; exact hkC) (by rw [g2]; exact va_assign hcls) rfl rfl d fun H1 e z oq => ?_
  refine k ad H1 _ ls (rp.put h1 hdm rfl (fun a ha j => ⟨rfl, by show (if a = k0 ∧ j = i.toNatClampNeg then some x0 else _) = _; rw [if_neg (fun z => ha z.1)]⟩) (fun j b hb => by
      have hb2 : (if k0 = k0 ∧ j = i.toNatClampNeg then some x0 else σ.2.1 k0 j) = some b := hb
      split at hb2
      next => exact hd b hb2
      next => exact h1.2.2 k0 j b hdm hb2) ?_ oq) h2 h3 h4 (h5.put z oq (h4 k0 hdm)) h6 h7 h8
  rw [en_a hl, ea_5]
  show H1[ad k0]? = some (vp_cell _ _)
  rw [e]
  rw [vp_cell_q, vp_cell_q, arrV_store]
  congr 2
  funext q
  by_cases hq : q = i.toNatClampNeg
  · subst hq
    simp [updV, wr, va_rf]
  · simp [updV, wr, va_rf, hq]

theorem g_alen {r : Option Nat} {n t : Nat} (ok : Ok X cc own rm nL al) (hr : rl σ.2.2 t r = some n) (ht : t < 6) (d : decode cc pc = .ok (.arraylength, 1)) (k : G X σ ce sl (pc + 1) lv (vI (Int32.ofNat n) :: st)) : G X σ ce sl pc lv (vR r :: st) := by
  obtain ⟨⟨p, l, e, R, s, m, args, below, meth, c⟩, D, dA, A, Q, ad0, σ0, al0, nL0⟩ := X
  obtain ⟨hx, hb, ho, rfl, hml, rfl, rfl, hts, hE, hA, hlk⟩ := ok
  intro ad H locs ls h1 h2 h3 h4 h5 h6 h7 h8
  obtain ⟨k0, rfl, hdm, hl⟩ := rl_spec hr
  have hP := one_P (h1.1 k0 hdm)
  rw [en_a hl] at hP
  rcases (show t = 0 ∨ t = 1 ∨ t = 2 ∨ t = 3 ∨ t = 4 ∨ t = 5 by omega) with rfl | rfl | rfl | rfl | rfl | rfl
  · rw [ea_0] at hP; exact va_alen hx hb hE.2 hP 0 0 rfl rfl rfl d (k ad H locs ls h1 h2 h3 h4 h5 h6 h7 h8)
  · rw [ea_1] at hP; exact va_alen hx hb hE.2 hP 0 1 rfl rfl rfl d (k ad H locs ls h1 h2 h3 h4 h5 h6 h7 h8)
  · rw [ea_2] at hP; exact va_alen hx hb hE.2 hP 0 2 rfl rfl rfl d (k ad H locs ls h1 h2 h3 h4 h5 h6 h7 h8)
  · rw [ea_3] at hP; exact va_alen hx hb hE.2 hP 0 3 rfl rfl rfl d (k ad H locs ls h1 h2 h3 h4 h5 h6 h7 h8)
  · rw [ea_4] at hP; exact va_alen hx hb hE.2 hP 0 4 rfl rfl rfl d (k ad H locs ls h1 h2 h3 h4 h5 h6 h7 h8)
  · rw [ea_5] at hP; exact va_alen hx hb hE.2 hP 0 5 rfl rfl rfl d (k ad H locs ls h1 h2 h3 h4 h5 h6 h7 h8)

theorem g_new {s0 ci N ix : Nat} {sg : List Bool} {C : String} {T : u_T} {ty : Nat → FieldType} (ok : Ok X cc own rm nL true) (hs : s0 < 64) (hl : lay s0 = .inl (ci, sg)) (hc : vwCl[ci]? = some (C, T, N)) (hin : ∀ w ∈ u_ws C T N, w ∈ TT) (hty : ∀ k, k < N → parseFieldDescriptor (T k).2.2.1 = some (ty k)) (hdf : ∀ j, j < N → sg[j]? = some false ∧ defaultValue (ty j) = .int 0 ∨ sg[j]? = some true ∧ defaultValue (ty j) = .null)
    (hw1 : (Cond.classLink own ix C) ∈ TT) (hw2 : (Cond.instantiable C N) ∈ TT) (hw3 : (Cond.initialized C) ∈ TT) (hrl : rokl σ lv) (hrs : roks σ st) (hce : ce + 1 ≤ rm.cells) (hsl : sl + N ≤ rm.slots) (d : decode cc pc = .ok (.new ix, 3)) (k : G X (nw σ s0) (ce + 1) (sl + N) (pc + 3) lv (vR (some (nid σ s0)) :: st)) : G X σ ce sl pc lv st := by
  obtain ⟨⟨p, l, e, R, s, m, args, below, meth, c⟩, D, dA, A, Q, ad0, σ0, al0, nL0⟩ := X
  obtain ⟨hx, hb, ho, rfl, hml, rfl, rfl, hts, hE, hA, hlk⟩ := ok
  intro ad H locs ls h1 h2 h3 h4 h5 h6 h7 h8
  have hKn := hE.2.1 ci _ hc
  refine W.newcK hx hb ho (hts _ hw1) (hts _ hw2) (hts _ hw3) rfl d hce hsl hKn.2.1 rfl fun H1 kC hkC e1 z1 o1 => ?_
  · have he : va_at D vwCl (H.size, en dA (upn ad (nid σ s0) H.size) (nw σ s0) (nid σ s0)) H1 := by
      rw [en_o (o := (ci, sg)) (by rw [nid_mod hs]; exact hl)]
      refine ⟨_, hc, (u_born ty hts hin hKn hkC e1 hty).to (fun j hj => ?_)⟩
      have e0 : (nw σ s0).1 (nid σ s0) j = 0 := by show (if nid σ s0 = nid σ s0 then _ else _) = _; rw [if_pos rfl]
      have e2 : (nw σ s0).2.1 (nid σ s0) j = none := by show (if nid σ s0 = nid σ s0 then _ else _) = _; rw [if_pos rfl]
      rcases hdf j hj with ⟨q1, q2⟩ | ⟨q1, q2⟩
      · rw [q2]
        show _ = (fl _ _ _ _ _).getD j .null
        rw [List.getD_eq_getElem?_getD, fl_at _ _ _ sg 0 j _ q1, Nat.zero_add, e0]; rfl
      · rw [q2]
        show _ = (fl _ _ _ _ _).getD j .null
        rw [List.getD_eq_getElem?_getD, fl_at _ _ _ sg 0 j _ q1, Nat.zero_add, e2]; rfl
    have hext : ∀ k, dm σ k → upn ad (nid σ s0) H.size k = ad k := fun k hk => by
      unfold upn
      rw [if_neg (fun e => nid_new hs (e ▸ hk))]
    have hls := lvm_same hext hrl
    have hss := st_same hext hrs
    have hself : upn ad (nid σ s0) H.size (nid σ s0) = H.size := by unfold upn; rw [if_pos rfl]
    have kk := k (upn ad (nid σ s0) H.size) H1 locs ls (rp.make h1 hs (Nat.le_refl _) he o1) (fun h => by cases h) (fun k hk => (hext k (h8 k hk)).trans (h3 k hk)) (fun k hk => ?_) ⟨Nat.le_trans h5.1 (by omega), fun q q1 q2 => (o1 q (Nat.lt_of_lt_of_le q1 h5.1)).trans (h5.2.1 q q1 q2), h5.2.2⟩ (by rw [hls]; exact h6) h7 (fun k hk => (dm_nw hs).mpr (Or.inl (h8 k hk)))
    · rw [List.map_cons, hss] at kk
      rw [show tv (upn ad (nid σ s0) H.size) (vR (some (nid σ s0))) = Value.ref H.size by show Value.ref _ = _; rw [hself]] at kk
      exact kk
    · rcases (dm_nw hs).mp hk with hk | hk
      · rw [hext k hk]; exact h4 k hk
      · rw [hk, hself]; exact hA _ h5.1

theorem g_newa0 {s0 n : Nat} {x : Int32} (ok : Ok X cc own rm nL true) (hs : s0 < 64) (hl : lay s0 = .inr (0, n)) (hn0 : ¬ x < 0) (hn : x.toNatClampNeg = n) (hn2 : n ≤ 65536)
    (hw1 : (Cond.arrayClass .int) ∈ TT) (hrl : rokl σ lv) (hrs : roks σ st) (hce : ce + 1 ≤ rm.cells) (hsl : sl + n ≤ rm.slots) (d : decode cc pc = .ok (.newarray .int, 2)) (k : G X (nw σ s0) (ce + 1) (sl + n) (pc + 2) lv (vR (some (nid σ s0)) :: st)) : G X σ ce sl pc lv (vI x :: st) := by
  obtain ⟨⟨p, l, e, R, s, m, args, below, meth, c⟩, D, dA, A, Q, ad0, σ0, al0, nL0⟩ := X
  obtain ⟨hx, hb, ho, rfl, hml, rfl, rfl, hts, hE, hA, hlk⟩ := ok
  intro ad H locs ls h1 h2 h3 h4 h5 h6 h7 h8
  refine va_newaK (atype := .int) hx hb (hts _ hw1) rfl d rfl hn0 hn (by show n * _ ≤ _; exact Nat.le_trans (Nat.mul_le_mul hn2 (show componentBytes _ ≤ 8 by decide)) (by decide)) hce hsl rfl fun H1 cA e1 z1 o1 hAr hNm => ?_
  · have hcA : cA = dA 0 := Option.some.inj (hNm.symm.trans (hE.2.2 0 _ rfl).2)
    subst hcA
    have he : va_at D vwCl (H.size, en dA (upn ad (nid σ s0) H.size) (nw σ s0) (nid σ s0)) H1 := by
      rw [en_a (q := (0, n)) (by rw [nid_mod hs]; exact hl), ea_0]
      have e0 : ∀ j, (nw σ s0).1 (nid σ s0) j = 0 := fun j => by show (if nid σ s0 = nid σ s0 then _ else _) = _; rw [if_pos rfl]
      show H1[H.size]? = some (vp_cell _ _)
      rw [e1]
      show some _ = some (vp_cell (dA 0) (n, .inl ((nw σ s0).1 (nid σ s0))))
      rw [vp_cell_i]
      congr 2
      funext j
      show _ = Value.int ((nw σ s0).1 (nid σ s0) j)
      rw [e0 j]; rfl
    have hext : ∀ k, dm σ k → upn ad (nid σ s0) H.size k = ad k := fun k hk => by
      unfold upn
      rw [if_neg (fun e => nid_new hs (e ▸ hk))]
    have hls := lvm_same hext hrl
    have hss := st_same hext hrs
    have hself : upn ad (nid σ s0) H.size (nid σ s0) = H.size := by unfold upn; rw [if_pos rfl]
    have kk := k (upn ad (nid σ s0) H.size) H1 locs ls (rp.make h1 hs (Nat.le_refl _) he o1) (fun h => by cases h) (fun k hk => (hext k (h8 k hk)).trans (h3 k hk)) (fun k hk => ?_) ⟨Nat.le_trans h5.1 (by omega), fun q q1 q2 => (o1 q (Nat.lt_of_lt_of_le q1 h5.1)).trans (h5.2.1 q q1 q2), h5.2.2⟩ (by rw [hls]; exact h6) h7 (fun k hk => (dm_nw hs).mpr (Or.inl (h8 k hk)))
    · rw [List.map_cons, hss] at kk
      rw [show tv (upn ad (nid σ s0) H.size) (vR (some (nid σ s0))) = Value.ref H.size by show Value.ref _ = _; rw [hself]] at kk
      exact kk
    · rcases (dm_nw hs).mp hk with hk | hk
      · rw [hext k hk]; exact h4 k hk
      · rw [hk, hself]; exact hA _ h5.1

theorem g_anew3 {s0 n ix : Nat} {x : Int32} (ok : Ok X cc own rm nL true) (hs : s0 < 64) (hl : lay s0 = .inr (3, n)) (hn0 : ¬ x < 0) (hn : x.toNatClampNeg = n) (hn2 : n ≤ 65536)
    (hw1 : (Cond.classLink own ix tAO3) ∈ TT) (hrl : rokl σ lv) (hrs : roks σ st) (hce : ce + 1 ≤ rm.cells) (hsl : sl + n ≤ rm.slots) (d : decode cc pc = .ok (.anewarray ix, 3)) (k : G X (nw σ s0) (ce + 1) (sl + n) (pc + 3) lv (vR (some (nid σ s0)) :: st)) : G X σ ce sl pc lv (vI x :: st) := by
  obtain ⟨⟨p, l, e, R, s, m, args, below, meth, c⟩, D, dA, A, Q, ad0, σ0, al0, nL0⟩ := X
  obtain ⟨hx, hb, ho, rfl, hml, rfl, rfl, hts, hE, hA, hlk⟩ := ok
  intro ad H locs ls h1 h2 h3 h4 h5 h6 h7 h8
  subst hn
  refine W.anew hx hb ho (hts _ hw1) (va_AO.use hE.1.2.1) rfl d rfl hn0 (by omega) hce hsl fun cA kA comp f1 f2 f3 f4 => ?_
  · have hcA : cA = dA 3 := by
      obtain ⟨_, _, _, _, _, q⟩ := (hE.2.2 3 _ rfl).2
      exact Option.some.inj (f1.symm.trans q)
    subst hcA
    generalize hH1 : H.push ({ cls := dA 3, slots := Array.replicate x.toNatClampNeg .null, vm := .none } : Cell) = H1
    have z1 : H1.size = H.size + 1 := by rw [← hH1, Array.size_push]
    have e1 : H1[H.size]? = some (arrV (dA 3) x.toNatClampNeg (fun _ => .null)) := by rw [← hH1, Array.getElem?_push_size, ← arrV_new]
    have o1 : ∀ q : Nat, q < H.size → H1[q]? = H[q]? := fun q hq => by rw [← hH1, Array.getElem?_push, if_neg (Nat.ne_of_lt hq)]
    have he : va_at D vwCl (H.size, en dA (upn ad (nid σ s0) H.size) (nw σ s0) (nid σ s0)) H1 := by
      rw [en_a (q := (3, x.toNatClampNeg)) (by rw [nid_mod hs]; exact hl), ea_3]
      have e0 : ∀ j, (nw σ s0).2.1 (nid σ s0) j = none := fun j => by show (if nid σ s0 = nid σ s0 then _ else _) = _; rw [if_pos rfl]
      show H1[H.size]? = some (vp_cell _ _)
      rw [e1]
      show some _ = some (vp_cell (dA 3) (x.toNatClampNeg, .inr (.inr (.inr (.inr (fun j => ((nw σ s0).2.1 (nid σ s0) j).map (upn ad (nid σ s0) H.size)))))))
      rw [vp_cell_q]
      congr 2
      funext j
      show _ = va_rf (((nw σ s0).2.1 (nid σ s0) j).map _)
      rw [e0 j]; rfl
    have hext : ∀ k, dm σ k → upn ad (nid σ s0) H.size k = ad k := fun k hk => by
      unfold upn
      rw [if_neg (fun e => nid_new hs (e ▸ hk))]
    have hls := lvm_same hext hrl
    have hss := st_same hext hrs
    have hself : upn ad (nid σ s0) H.size (nid σ s0) = H.size := by unfold upn; rw [if_pos rfl]
    have kk := k (upn ad (nid σ s0) H.size) H1 locs ls (rp.make h1 hs (Nat.le_refl _) he o1) (fun h => by cases h) (fun k hk => (hext k (h8 k hk)).trans (h3 k hk)) (fun k hk => ?_) ⟨Nat.le_trans h5.1 (by omega), fun q q1 q2 => (o1 q (Nat.lt_of_lt_of_le q1 h5.1)).trans (h5.2.1 q q1 q2), h5.2.2⟩ (by rw [hls]; exact h6) h7 (fun k hk => (dm_nw hs).mpr (Or.inl (h8 k hk)))
    · rw [List.map_cons, hss] at kk
      rw [show tv (upn ad (nid σ s0) H.size) (vR (some (nid σ s0))) = Value.ref H.size by show Value.ref _ = _; rw [hself]] at kk
      exact kk
    · rcases (dm_nw hs).mp hk with hk | hk
      · rw [hext k hk]; exact h4 k hk
      · rw [hk, hself]; exact hA _ h5.1

theorem g_anew4 {s0 n ix : Nat} {x : Int32} (ok : Ok X cc own rm nL true) (hs : s0 < 64) (hl : lay s0 = .inr (4, n)) (hn0 : ¬ x < 0) (hn : x.toNatClampNeg = n) (hn2 : n ≤ 65536)
    (hw1 : (Cond.classLink own ix tAO4) ∈ TT) (hrl : rokl σ lv) (hrs : roks σ st) (hce : ce + 1 ≤ rm.cells) (hsl : sl + n ≤ rm.slots) (d : decode cc pc = .ok (.anewarray ix, 3)) (k : G X (nw σ s0) (ce + 1) (sl + n) (pc + 3) lv (vR (some (nid σ s0)) :: st)) : G X σ ce sl pc lv (vI x :: st) := by
  obtain ⟨⟨p, l, e, R, s, m, args, below, meth, c⟩, D, dA, A, Q, ad0, σ0, al0, nL0⟩ := X
  obtain ⟨hx, hb, ho, rfl, hml, rfl, rfl, hts, hE, hA, hlk⟩ := ok
  intro ad H locs ls h1 h2 h3 h4 h5 h6 h7 h8
  subst hn
  refine W.anew hx hb ho (hts _ hw1) (va_AO.use hE.1.2.2.1) rfl d rfl hn0 (by omega) hce hsl fun cA kA comp f1 f2 f3 f4 => ?_
  · have hcA : cA = dA 4 := by
      obtain ⟨_, _, _, _, _, q⟩ := (hE.2.2 4 _ rfl).2
      exact Option.some.inj (f1.symm.trans q)
    subst hcA
    generalize hH1 : H.push ({ cls := dA 4, slots := Array.replicate x.toNatClampNeg .null, vm := .none } : Cell) = H1
    have z1 : H1.size = H.size + 1 := by rw [← hH1, Array.size_push]
    have e1 : H1[H.size]? = some (arrV (dA 4) x.toNatClampNeg (fun _ => .null)) := by rw [← hH1, Array.getElem?_push_size, ← arrV_new]
    have o1 : ∀ q : Nat, q < H.size → H1[q]? = H[q]? := fun q hq => by rw [← hH1, Array.getElem?_push, if_neg (Nat.ne_of_lt hq)]
    have he : va_at D vwCl (H.size, en dA (upn ad (nid σ s0) H.size) (nw σ s0) (nid σ s0)) H1 := by
      rw [en_a (q := (4, x.toNatClampNeg)) (by rw [nid_mod hs]; exact hl), ea_4]
      have e0 : ∀ j, (nw σ s0).2.1 (nid σ s0) j = none := fun j => by show (if nid σ s0 = nid σ s0 then _ else _) = _; rw [if_pos rfl]
      show H1[H.size]? = some (vp_cell _ _)
      rw [e1]
      show some _ = some (vp_cell (dA 4) (x.toNatClampNeg, .inr (.inr (.inr (.inr (fun j => ((nw σ s0).2.1 (nid σ s0) j).map (upn ad (nid σ s0) H.size)))))))
      rw [vp_cell_q]
      congr 2
      funext j
      show _ = va_rf (((nw σ s0).2.1 (nid σ s0) j).map _)
      rw [e0 j]; rfl
    have hext : ∀ k, dm σ k → upn ad (nid σ s0) H.size k = ad k := fun k hk => by
      unfold upn
      rw [if_neg (fun e => nid_new hs (e ▸ hk))]
    have hls := lvm_same hext hrl
    have hss := st_same hext hrs
    have hself : upn ad (nid σ s0) H.size (nid σ s0) = H.size := by unfold upn; rw [if_pos rfl]
    have kk := k (upn ad (nid σ s0) H.size) H1 locs ls (rp.make h1 hs (Nat.le_refl _) he o1) (fun h => by cases h) (fun k hk => (hext k (h8 k hk)).trans (h3 k hk)) (fun k hk => ?_) ⟨Nat.le_trans h5.1 (by omega), fun q q1 q2 => (o1 q (Nat.lt_of_lt_of_le q1 h5.1)).trans (h5.2.1 q q1 q2), h5.2.2⟩ (by rw [hls]; exact h6) h7 (fun k hk => (dm_nw hs).mpr (Or.inl (h8 k hk)))
    · rw [List.map_cons, hss] at kk
      rw [show tv (upn ad (nid σ s0) H.size) (vR (some (nid σ s0))) = Value.ref H.size by show Value.ref _ = _; rw [hself]] at kk
      exact kk
    · rcases (dm_nw hs).mp hk with hk | hk
      · rw [hext k hk]; exact h4 k hk
      · rw [hk, hself]; exact hA _ h5.1

theorem g_anew5 {s0 n ix : Nat} {x : Int32} (ok : Ok X cc own rm nL true) (hs : s0 < 64) (hl : lay s0 = .inr (5, n)) (hn0 : ¬ x < 0) (hn : x.toNatClampNeg = n) (hn2 : n ≤ 65536)
    (hw1 : (Cond.classLink own ix tAO5) ∈ TT) (hrl : rokl σ lv) (hrs : roks σ st) (hce : ce + 1 ≤ rm.cells) (hsl : sl + n ≤ rm.slots) (d : decode cc pc = .ok (.anewarray ix, 3)) (k : G X (nw σ s0) (ce + 1) (sl + n) (pc + 3) lv (vR (some (nid σ s0)) :: st)) : G X σ ce sl pc lv (vI x :: st) := by
  obtain ⟨⟨p, l, e, R, s, m, args, below, meth, c⟩, D, dA, A, Q, ad0, σ0, al0, nL0⟩ := X
  obtain ⟨hx, hb, ho, rfl, hml, rfl, rfl, hts, hE, hA, hlk⟩ := ok
  intro ad H locs ls h1 h2 h3 h4 h5 h6 h7 h8
  subst hn
  refine W.anew hx hb ho (hts _ hw1) (va_AO.use hE.1.2.2.2) rfl d rfl hn0 (by omega) hce hsl fun cA kA comp f1 f2 f3 f4 => ?_
  · have hcA : cA = dA 5 := by
      obtain ⟨_, _, _, _, _, q⟩ := (hE.2.2 5 _ rfl).2
      exact Option.some.inj (f1.symm.trans q)
    subst hcA
    generalize hH1 : H.push ({ cls := dA 5, slots := Array.replicate x.toNatClampNeg .null, vm := .none } : Cell) = H1
    have z1 : H1.size = H.size + 1 := by rw [← hH1, Array.size_push]
    have e1 : H1[H.size]? = some (arrV (dA 5) x.toNatClampNeg (fun _ => .null)) := by rw [← hH1, Array.getElem?_push_size, ← arrV_new]
    have o1 : ∀ q : Nat, q < H.size → H1[q]? = H[q]? := fun q hq => by rw [← hH1, Array.getElem?_push, if_neg (Nat.ne_of_lt hq)]
    have he : va_at D vwCl (H.size, en dA (upn ad (nid σ s0) H.size) (nw σ s0) (nid σ s0)) H1 := by
      rw [en_a (q := (5, x.toNatClampNeg)) (by rw [nid_mod hs]; exact hl), ea_5]
      have e0 : ∀ j, (nw σ s0).2.1 (nid σ s0) j = none := fun j => by show (if nid σ s0 = nid σ s0 then _ else _) = _; rw [if_pos rfl]
      show H1[H.size]? = some (vp_cell _ _)
      rw [e1]
      show some _ = some (vp_cell (dA 5) (x.toNatClampNeg, .inr (.inr (.inr (.inr (fun j => ((nw σ s0).2.1 (nid σ s0) j).map (upn ad (nid σ s0) H.size)))))))
      rw [vp_cell_q]
      congr 2
      funext j
      show _ = va_rf (((nw σ s0).2.1 (nid σ s0) j).map _)
      rw [e0 j]; rfl
    have hext : ∀ k, dm σ k → upn ad (nid σ s0) H.size k = ad k := fun k hk => by
      unfold upn
      rw [if_neg (fun e => nid_new hs (e ▸ hk))]
    have hls := lvm_same hext hrl
    have hss := st_same hext hrs
    have hself : upn ad (nid σ s0) H.size (nid σ s0) = H.size := by unfold upn; rw [if_pos rfl]
    have kk := k (upn ad (nid σ s0) H.size) H1 locs ls (rp.make h1 hs (Nat.le_refl _) he o1) (fun h => by cases h) (fun k hk => (hext k (h8 k hk)).trans (h3 k hk)) (fun k hk => ?_) ⟨Nat.le_trans h5.1 (by omega), fun q q1 q2 => (o1 q (Nat.lt_of_lt_of_le q1 h5.1)).trans (h5.2.1 q q1 q2), h5.2.2⟩ (by rw [hls]; exact h6) h7 (fun k hk => (dm_nw hs).mpr (Or.inl (h8 k hk)))
    · rw [List.map_cons, hss] at kk
      rw [show tv (upn ad (nid σ s0) H.size) (vR (some (nid σ s0))) = Value.ref H.size by show Value.ref _ = _; rw [hself]] at kk
      exact kk
    · rcases (dm_nw hs).mp hk with hk | hk
      · rw [hext k hk]; exact h4 k hk
      · rw [hk, hself]; exact hA _ h5.1

theorem g_objInit {r : Option Nat} {k0 s0 ix : Nat} (ok : Ok X cc own rm nL al) (hr : rf σ.2.2 s0 r = some k0) (hw1 : (Cond.methodLink own ix Lib.objectInit) ∈ TT) (hw2 : (Cond.instanceMethod Lib.objectInit) ∈ TT) (hw3 : (Cond.code Lib.objectInit ⟨#[0xb1]⟩ 1 none) ∈ TT) (hst : stw st = true) (hR : 1 ≤ rm.frames ∧ stz st + 12 ≤ rm.locals) (d : decode cc pc = .ok (.invokespecial ix, 3)) (k : G X σ ce sl (pc + 3) lv st) : G X σ ce sl pc lv (vR r :: st) := by
  obtain ⟨⟨p, l, e, R, s, m, args, below, meth, c⟩, D, dA, A, Q, ad0, σ0, al0, nL0⟩ := X
  obtain ⟨hx, hb, ho, rfl, hml, rfl, rfl, hts, hE, hA, hlk⟩ := ok
  intro ad H locs ls h1 h2 h3 h4 h5 h6 h7 h8
  obtain ⟨rfl, -, -⟩ := rf_spec hr
  exact W.objInit (g := F0 m pc ls (Value.ref (ad k0) :: st.map (tv ad))) hx hb ho (hts _ hw1) (hts _ hw2) (hts _ hw3) rfl (h6.1.trans hml.symm) rfl d hR.1 (by rw [stw_sum hst]; show 2 * 0 + stz st + 12 ≤ _; rw [Nat.mul_zero, Nat.zero_add]; exact hR.2) (k ad H locs ls h1 h2 h3 h4 h5 h6 h7 h8)

theorem g_mmax {x y : Int32} {ix : Nat} (ok : Ok X cc own rm nL al) (hw1 : (Cond.methodLink own ix Lib.Math.max.name) ∈ TT) (hw2 : (Cond.static Lib.Math.max.name) ∈ TT) (hw3 : (Cond.initialized "java/lang/Math") ∈ TT) (hw4 : (Cond.code Lib.Math.max.name Lib.Math.max.code 2 (some .int)) ∈ TT) (hst : stw st = true) (hR : 1 ≤ rm.frames ∧ stz st + 13 ≤ rm.locals) (hce : ce ≤ rm.cells ∧ sl ≤ rm.slots) (d : decode cc pc = .ok (.invokestatic ix, 3)) (k : G X σ ce sl (pc + 3) lv (vI (if x < y then y else x) :: st)) : G X σ ce sl pc lv (vI y :: vI x :: st) := by
  obtain ⟨⟨p, l, e, R, s, m, args, below, meth, c⟩, D, dA, A, Q, ad0, σ0, al0, nL0⟩ := X
  obtain ⟨hx, hb, ho, rfl, hml, rfl, rfl, hts, hE, hA, hlk⟩ := ok
  intro ad H locs ls h1 h2 h3 h4 h5 h6 h7 h8
  exact va_mmax hx hb (hml.trans h6.1.symm) ho (hts _ hw1) (hts _ hw2) (hts _ hw3) (hts _ hw4) hR.1 (by rw [stw_sum hst]; exact hR.2) hce.1 hce.2 d (k ad H locs ls h1 h2 h3 h4 h5 h6 h7 h8)

theorem g_mmin {x y : Int32} {ix : Nat} (ok : Ok X cc own rm nL al) (hw1 : (Cond.methodLink own ix Lib.Math.min.name) ∈ TT) (hw2 : (Cond.static Lib.Math.min.name) ∈ TT) (hw3 : (Cond.initialized "java/lang/Math") ∈ TT) (hw4 : (Cond.code Lib.Math.min.name Lib.Math.min.code 2 (some .int)) ∈ TT) (hst : stw st = true) (hR : 1 ≤ rm.frames ∧ stz st + 13 ≤ rm.locals) (hce : ce ≤ rm.cells ∧ sl ≤ rm.slots) (d : decode cc pc = .ok (.invokestatic ix, 3)) (k : G X σ ce sl (pc + 3) lv (vI (if y < x then y else x) :: st)) : G X σ ce sl pc lv (vI y :: vI x :: st) := by
  obtain ⟨⟨p, l, e, R, s, m, args, below, meth, c⟩, D, dA, A, Q, ad0, σ0, al0, nL0⟩ := X
  obtain ⟨hx, hb, ho, rfl, hml, rfl, rfl, hts, hE, hA, hlk⟩ := ok
  intro ad H locs ls h1 h2 h3 h4 h5 h6 h7 h8
  exact va_mmin hx hb (hml.trans h6.1.symm) ho (hts _ hw1) (hts _ hw2) (hts _ hw3) (hts _ hw4) hR.1 (by rw [stw_sum hst]; exact hR.2) hce.1 hce.2 d (k ad H locs ls h1 h2 h3 h4 h5 h6 h7 h8)

theorem g_mabs {x : Int32} {ix : Nat} (ok : Ok X cc own rm nL al) (hw1 : (Cond.methodLink own ix Lib.Math.abs.name) ∈ TT) (hw2 : (Cond.static Lib.Math.abs.name) ∈ TT) (hw3 : (Cond.initialized "java/lang/Math") ∈ TT) (hw4 : (Cond.code Lib.Math.abs.name Lib.Math.abs.code 1 (some .int)) ∈ TT) (hst : stw st = true) (hR : 1 ≤ rm.frames ∧ stz st + 13 ≤ rm.locals) (hce : ce ≤ rm.cells ∧ sl ≤ rm.slots) (d : decode cc pc = .ok (.invokestatic ix, 3)) (k : G X σ ce sl (pc + 3) lv (vI (if 0 ≤ x then x else 0 - x) :: st)) : G X σ ce sl pc lv (vI x :: st) := by
  obtain ⟨⟨p, l, e, R, s, m, args, below, meth, c⟩, D, dA, A, Q, ad0, σ0, al0, nL0⟩ := X
  obtain ⟨hx, hb, ho, rfl, hml, rfl, rfl, hts, hE, hA, hlk⟩ := ok
  intro ad H locs ls h1 h2 h3 h4 h5 h6 h7 h8
  exact va_mabs hx hb (hml.trans h6.1.symm) ho (hts _ hw1) (hts _ hw2) (hts _ hw3) (hts _ hw4) hR.1 (by rw [stw_sum hst]; exact hR.2) hce.1 hce.2 d (k ad H locs ls h1 h2 h3 h4 h5 h6 h7 h8)

/-- what the tables say of a callee -/
def cfM (y : MethodName) (bytes : ByteArray) (maxL : Nat) (ret : Option FieldType) (n : Nat) : Prop := (Cond.code y bytes maxL ret) ∈ TT ∧ (Cond.initialized y.cls) ∈ TT ∧ y.cls ≠ "java/lang/invoke/MethodHandle" ∧ y.cls ≠ "java/lang/invoke/VarHandle" ∧ (parseMethodDescriptor y.desc).map (fun d => d.parameters.length) = some n
def cfV (y : MethodName) : Prop := (Cond.instanceMethod y) ∈ TT ∧ (Cond.selects y.cls y y) ∈ TT
def cfS (y : MethodName) : Prop := (Cond.static y) ∈ TT
def cfI (y : MethodName) : Prop := y.name = "<init>" ∧ (Cond.instanceMethod y) ∈ TT
theorem cf_n {y : MethodName} {n : Nat} (h : (parseMethodDescriptor y.desc).map (fun d => d.parameters.length) = some n) : ∀ sig, parseMethodDescriptor y.desc = some sig → n = sig.parameters.length := fun sig q => by
  rw [q] at h
  exact (Option.some.inj h).symm
theorem code_pay {y : MethodName} {bytes : ByteArray} {maxL : Nat} {ret : Option FieldType} {s : State} {args : Array Value} (h : (Cond.code y bytes maxL ret).before args s = true) : ∀ w ∈ [Cond.code y bytes maxL ret], ∀ (a' : Array Value) (U : State), s.WarmedH U.vm → w.before a' U = true := fun w hw a' U hW => by
  rw [List.mem_singleton.mp hw]
  exact okw_at rfl hW h

theorem g_invV {y : MethodName} {bytes : ByteArray} {maxL mc ms ix : Nat} {ret : Option FieldType} {rm2 : Room} {As rest : List PV} {rv : Option PV} {σ' : MS} (ok : Ok X cc own rm nL al) {r0 : Option Nat} {k0 s0 : Nat} (hr : rf σ.2.2 s0 r0 = some k0) {ci N : Nat} {sg : List Bool} {T : u_T} (hl : lay s0 = .inl (ci, sg)) (hc : vwCl[ci]? = some (y.cls, T, N)) (hM : Ct X.1.2.1 y (.code y bytes maxL ret) rm2 mc ms false (vR (some k0) :: As) σ rv σ') (hcm : cfM y bytes maxL ret As.length) (hcf : cfV y) (hw : (Cond.methodLink own ix y) ∈ TT)
    (hrc : rm2.cells = mc ∧ rm2.slots = ms) (hR : rm2.frames + 1 ≤ rm.frames ∧ 8 + (maxL + 11) + rm2.locals ≤ rm.locals) (hst : stw rest = true ∧ stz rest ≤ 8) (hf : ce + mc ≤ rm.cells ∧ sl + ms ≤ rm.slots)  (d : decode cc pc = .ok (.invokevirtual ix, 3)) (hstk : As.reverse ++ vR r0 :: rest = st) (k : (∀ k, dm σ k → dm σ' k) → G X σ' (ce + mc) (sl + ms) (pc + 3) lv (rv.toList ++ rest)) : G X σ ce sl pc lv st := by
  obtain ⟨⟨p, l, e, R, s, m, args, below, meth, c⟩, D, dA, A, Q, ad0, σ0, al0, nL0⟩ := X
  obtain ⟨hx, hb, ho, rfl, hml, rfl, rfl, hts, hE, hA, hlk⟩ := ok
  subst hstk
  intro ad H locs ls h1 h2 h3 h4 h5 h6 h7 h8
  obtain ⟨hm1, hm2, hm3, hm4, hm5⟩ := hcm
  obtain ⟨rfl, hk0, hdm⟩ := rf_spec hr
  subst hk0
  have hP := one_P (h1.1 k0 hdm)
  rw [en_o hl] at hP
  have run := va_runV (p := p) (l := l) (e := e) (R := R) (s := s) (m := m) (args := args) (below := below) (meth := meth) (c := c) (H := H) (locs := locs) (cells := ce) (slots := sl) (As := As.map (tv ad)) (rest := rest.map (tv ad)) (g := F0 m pc ls ((As.reverse ++ vR (some k0) :: rest).map (tv ad))) ⟨hx, hb, hml, ho, hts⟩ (hM D dA ad H.size) ⟨⟨hrc.1, hrc.2, hR.1, hR.2, code_pay (hts _ hm1), List.mem_singleton.mpr rfl, hts _ hm1, hts _ hm2, ⟨hm3, hm4⟩, cf_n hm5, hts _ hw⟩, hts _ hcf.1, hts _ hcf.2⟩ ⟨pcs_blind, va_recv hE.2 hP (ci := ci) (q0 := 0) hc rfl, fun U hU hW => ⟨by rw [List.map_cons]; rfl, by rw [hU], by rw [hU]; exact h1, hE.moved hW⟩⟩ rfl (List.length_map _) h6.1 (by show ((As.reverse ++ vR (some k0) :: rest).map (tv ad)) = _; rw [List.map_append, List.map_reverse]; rfl) (by rw [stw_sum hst.1]; show 2 * 0 + stz rest ≤ 8; rw [Nat.mul_zero, Nat.zero_add]; exact hst.2) d hf
  refine gw_call run h5 hA h4 (fun hmo ad' H1 locs1 g1 g2 g3 g4 g5 => ?_)
  have e9 := g1 rfl
  subst e9
  have kk := k hmo ad' H1 locs1 ls g3 h2 h3 g4 g5 h6 h7 (fun k hk => hmo k (h8 k hk))
  rw [List.map_append] at kk
  exact (show (rv.map (tv ad')).toList = rv.toList.map (tv ad') by cases rv <;> rfl) ▸ kk

theorem g_invVA {y : MethodName} {bytes : ByteArray} {maxL mc ms ix : Nat} {ret : Option FieldType} {rm2 : Room} {As rest : List PV} {rv : Option PV} {σ' : MS} (ok : Ok X cc own rm nL true) {r0 : Option Nat} {k0 s0 : Nat} (hr : rf σ.2.2 s0 r0 = some k0) {ci N : Nat} {sg : List Bool} {T : u_T} (hl : lay s0 = .inl (ci, sg)) (hc : vwCl[ci]? = some (y.cls, T, N)) (hM : Ct X.1.2.1 y (.code y bytes maxL ret) rm2 mc ms true (vR (some k0) :: As) σ rv σ') (hcm : cfM y bytes maxL ret As.length) (hcf : cfV y) (hw : (Cond.methodLink own ix y) ∈ TT)
    (hrc : rm2.cells = mc ∧ rm2.slots = ms) (hR : rm2.frames + 1 ≤ rm.frames ∧ 8 + (maxL + 11) + rm2.locals ≤ rm.locals) (hst : stw rest = true ∧ stz rest ≤ 8) (hf : ce + mc ≤ rm.cells ∧ sl + ms ≤ rm.slots) (hrl : rokl σ lv) (hrs : roks σ rest) (d : decode cc pc = .ok (.invokevirtual ix, 3)) (hstk : As.reverse ++ vR r0 :: rest = st) (k : (∀ k, dm σ k → dm σ' k) → G X σ' (ce + mc) (sl + ms) (pc + 3) lv (rv.toList ++ rest)) : G X σ ce sl pc lv st := by
  obtain ⟨⟨p, l, e, R, s, m, args, below, meth, c⟩, D, dA, A, Q, ad0, σ0, al0, nL0⟩ := X
  obtain ⟨hx, hb, ho, rfl, hml, rfl, rfl, hts, hE, hA, hlk⟩ := ok
  subst hstk
  intro ad H locs ls h1 h2 h3 h4 h5 h6 h7 h8
  obtain ⟨hm1, hm2, hm3, hm4, hm5⟩ := hcm
  obtain ⟨rfl, hk0, hdm⟩ := rf_spec hr
  subst hk0
  have hP := one_P (h1.1 k0 hdm)
  rw [en_o hl] at hP
  have run := va_runV (p := p) (l := l) (e := e) (R := R) (s := s) (m := m) (args := args) (below := below) (meth := meth) (c := c) (H := H) (locs := locs) (cells := ce) (slots := sl) (As := As.map (tv ad)) (rest := rest.map (tv ad)) (g := F0 m pc ls ((As.reverse ++ vR (some k0) :: rest).map (tv ad))) ⟨hx, hb, hml, ho, hts⟩ (hM D dA ad H.size) ⟨⟨hrc.1, hrc.2, hR.1, hR.2, code_pay (hts _ hm1), List.mem_singleton.mpr rfl, hts _ hm1, hts _ hm2, ⟨hm3, hm4⟩, cf_n hm5, hts _ hw⟩, hts _ hcf.1, hts _ hcf.2⟩ ⟨pcs_blind, va_recv hE.2 hP (ci := ci) (q0 := 0) hc rfl, fun U hU hW => ⟨by rw [List.map_cons]; rfl, by rw [hU], by rw [hU]; exact h1, hE.moved hW⟩⟩ rfl (List.length_map _) h6.1 (by show ((As.reverse ++ vR (some k0) :: rest).map (tv ad)) = _; rw [List.map_append, List.map_reverse]; rfl) (by rw [stw_sum hst.1]; show 2 * 0 + stz rest ≤ 8; rw [Nat.mul_zero, Nat.zero_add]; exact hst.2) d hf
  refine gw_call run h5 hA h4 (fun hmo ad' H1 locs1 g1 g2 g3 g4 g5 => ?_)
  have hls := lvm_same g2 hrl
  have hss := st_same g2 hrs
  have kk := k hmo ad' H1 locs1 ls g3 (fun h => by cases h) (fun k hk => (g2 k (h8 k hk)).trans (h3 k hk)) g4 g5 (by rw [hls]; exact h6) h7 (fun k hk => hmo k (h8 k hk))
  rw [List.map_append, hss] at kk
  exact (show (rv.map (tv ad')).toList = rv.toList.map (tv ad') by cases rv <;> rfl) ▸ kk

theorem g_invVN {host : String} {y : MethodName} {bytes : ByteArray} {maxL mc ms ix : Nat} {ret : Option FieldType} {rm2 : Room} {As rest : List PV} {rv : Option PV} {σ' : MS} (ok : Ok X cc own rm nL al) {r0 : Option Nat} {k0 s0 : Nat} (hr : rf σ.2.2 s0 r0 = some k0) {ci N : Nat} {sg : List Bool} {T : u_T} (hl : lay s0 = .inl (ci, sg)) (hc : vwCl[ci]? = some (y.cls, T, N)) (hM : Ct X.1.2.1 y (.code y bytes maxL ret) rm2 mc ms false (vR (some k0) :: As) σ rv σ') (hcm : cfM y bytes maxL ret As.length) (hcf : cfV y) (hw : (Cond.methodLinkNest own ix y host) ∈ TT)
    (hrc : rm2.cells = mc ∧ rm2.slots = ms) (hR : rm2.frames + 1 ≤ rm.frames ∧ 8 + (maxL + 11) + rm2.locals ≤ rm.locals) (hst : stw rest = true ∧ stz rest ≤ 8) (hf : ce + mc ≤ rm.cells ∧ sl + ms ≤ rm.slots)  (d : decode cc pc = .ok (.invokevirtual ix, 3)) (hstk : As.reverse ++ vR r0 :: rest = st) (k : (∀ k, dm σ k → dm σ' k) → G X σ' (ce + mc) (sl + ms) (pc + 3) lv (rv.toList ++ rest)) : G X σ ce sl pc lv st := by
  obtain ⟨⟨p, l, e, R, s, m, args, below, meth, c⟩, D, dA, A, Q, ad0, σ0, al0, nL0⟩ := X
  obtain ⟨hx, hb, ho, rfl, hml, rfl, rfl, hts, hE, hA, hlk⟩ := ok
  subst hstk
  intro ad H locs ls h1 h2 h3 h4 h5 h6 h7 h8
  obtain ⟨hm1, hm2, hm3, hm4, hm5⟩ := hcm
  obtain ⟨rfl, hk0, hdm⟩ := rf_spec hr
  subst hk0
  have hP := one_P (h1.1 k0 hdm)
  rw [en_o hl] at hP
  have run := va_runVN (p := p) (l := l) (e := e) (R := R) (s := s) (m := m) (args := args) (below := below) (meth := meth) (c := c) (H := H) (locs := locs) (cells := ce) (slots := sl) (As := As.map (tv ad)) (rest := rest.map (tv ad)) (g := F0 m pc ls ((As.reverse ++ vR (some k0) :: rest).map (tv ad))) ⟨hx, hb, hml, ho, hts⟩ (hM D dA ad H.size) ⟨⟨⟨hrc.1, hrc.2, hR.1, hR.2, code_pay (hts _ hm1), List.mem_singleton.mpr rfl⟩, hts _ hm1, hts _ hm2, ⟨hm3, hm4⟩, cf_n hm5, hts _ hw⟩, hts _ hcf.1, hts _ hcf.2⟩ ⟨pcs_blind, va_recv hE.2 hP (ci := ci) (q0 := 0) hc rfl, fun U hU hW => ⟨by rw [List.map_cons]; rfl, by rw [hU], by rw [hU]; exact h1, hE.moved hW⟩⟩ rfl (List.length_map _) h6.1 (by show ((As.reverse ++ vR (some k0) :: rest).map (tv ad)) = _; rw [List.map_append, List.map_reverse]; rfl) (by rw [stw_sum hst.1]; show 2 * 0 + stz rest ≤ 8; rw [Nat.mul_zero, Nat.zero_add]; exact hst.2) d hf
  refine gw_call run h5 hA h4 (fun hmo ad' H1 locs1 g1 g2 g3 g4 g5 => ?_)
  have e9 := g1 rfl
  subst e9
  have kk := k hmo ad' H1 locs1 ls g3 h2 h3 g4 g5 h6 h7 (fun k hk => hmo k (h8 k hk))
  rw [List.map_append] at kk
  exact (show (rv.map (tv ad')).toList = rv.toList.map (tv ad') by cases rv <;> rfl) ▸ kk

theorem g_invVNA {host : String} {y : MethodName} {bytes : ByteArray} {maxL mc ms ix : Nat} {ret : Option FieldType} {rm2 : Room} {As rest : List PV} {rv : Option PV} {σ' : MS} (ok : Ok X cc own rm nL true) {r0 : Option Nat} {k0 s0 : Nat} (hr : rf σ.2.2 s0 r0 = some k0) {ci N : Nat} {sg : List Bool} {T : u_T} (hl : lay s0 = .inl (ci, sg)) (hc : vwCl[ci]? = some (y.cls, T, N)) (hM : Ct X.1.2.1 y (.code y bytes maxL ret) rm2 mc ms true (vR (some k0) :: As) σ rv σ') (hcm : cfM y bytes maxL ret As.length) (hcf : cfV y) (hw : (Cond.methodLinkNest own ix y host) ∈ TT)
    (hrc : rm2.cells = mc ∧ rm2.slots = ms) (hR : rm2.frames + 1 ≤ rm.frames ∧ 8 + (maxL + 11) + rm2.locals ≤ rm.locals) (hst : stw rest = true ∧ stz rest ≤ 8) (hf : ce + mc ≤ rm.cells ∧ sl + ms ≤ rm.slots) (hrl : rokl σ lv) (hrs : roks σ rest) (d : decode cc pc = .ok (.invokevirtual ix, 3)) (hstk : As.reverse ++ vR r0 :: rest = st) (k : (∀ k, dm σ k → dm σ' k) → G X σ' (ce + mc) (sl + ms) (pc + 3) lv (rv.toList ++ rest)) : G X σ ce sl pc lv st := by
  obtain ⟨⟨p, l, e, R, s, m, args, below, meth, c⟩, D, dA, A, Q, ad0, σ0, al0, nL0⟩ := X
  obtain ⟨hx, hb, ho, rfl, hml, rfl, rfl, hts, hE, hA, hlk⟩ := ok
  subst hstk
  intro ad H locs ls h1 h2 h3 h4 h5 h6 h7 h8
  obtain ⟨hm1, hm2, hm3, hm4, hm5⟩ := hcm
  obtain ⟨rfl, hk0, hdm⟩ := rf_spec hr
  subst hk0
  have hP := one_P (h1.1 k0 hdm)
  rw [en_o hl] at hP
  have run := va_runVN (p := p) (l := l) (e := e) (R := R) (s := s) (m := m) (args := args) (below := below) (meth := meth) (c := c) (H := H) (locs := locs) (cells := ce) (slots := sl) (As := As.map (tv ad)) (rest := rest.map (tv ad)) (g := F0 m pc ls ((As.reverse ++ vR (some k0) :: rest).map (tv ad))) ⟨hx, hb, hml, ho, hts⟩ (hM D dA ad H.size) ⟨⟨⟨hrc.1, hrc.2, hR.1, hR.2, code_pay (hts _ hm1), List.mem_singleton.mpr rfl⟩, hts _ hm1, hts _ hm2, ⟨hm3, hm4⟩, cf_n hm5, hts _ hw⟩, hts _ hcf.1, hts _ hcf.2⟩ ⟨pcs_blind, va_recv hE.2 hP (ci := ci) (q0 := 0) hc rfl, fun U hU hW => ⟨by rw [List.map_cons]; rfl, by rw [hU], by rw [hU]; exact h1, hE.moved hW⟩⟩ rfl (List.length_map _) h6.1 (by show ((As.reverse ++ vR (some k0) :: rest).map (tv ad)) = _; rw [List.map_append, List.map_reverse]; rfl) (by rw [stw_sum hst.1]; show 2 * 0 + stz rest ≤ 8; rw [Nat.mul_zero, Nat.zero_add]; exact hst.2) d hf
  refine gw_call run h5 hA h4 (fun hmo ad' H1 locs1 g1 g2 g3 g4 g5 => ?_)
  have hls := lvm_same g2 hrl
  have hss := st_same g2 hrs
  have kk := k hmo ad' H1 locs1 ls g3 (fun h => by cases h) (fun k hk => (g2 k (h8 k hk)).trans (h3 k hk)) g4 g5 (by rw [hls]; exact h6) h7 (fun k hk => hmo k (h8 k hk))
  rw [List.map_append, hss] at kk
  exact (show (rv.map (tv ad')).toList = rv.toList.map (tv ad') by cases rv <;> rfl) ▸ kk

theorem g_invS {y : MethodName} {bytes : ByteArray} {maxL mc ms ix : Nat} {ret : Option FieldType} {rm2 : Room} {As rest : List PV} {rv : Option PV} {σ' : MS} (ok : Ok X cc own rm nL al)   (hM : Ct X.1.2.1 y (.code y bytes maxL ret) rm2 mc ms false (As) σ rv σ') (hcm : cfM y bytes maxL ret As.length) (hcf : cfS y) (hw : (Cond.methodLink own ix y) ∈ TT)
    (hrc : rm2.cells = mc ∧ rm2.slots = ms) (hR : rm2.frames + 1 ≤ rm.frames ∧ 8 + (maxL + 11) + rm2.locals ≤ rm.locals) (hst : stw rest = true ∧ stz rest ≤ 8) (hf : ce + mc ≤ rm.cells ∧ sl + ms ≤ rm.slots)  (d : decode cc pc = .ok (.invokestatic ix, 3)) (hstk : As.reverse ++ rest = st) (k : (∀ k, dm σ k → dm σ' k) → G X σ' (ce + mc) (sl + ms) (pc + 3) lv (rv.toList ++ rest)) : G X σ ce sl pc lv st := by
  obtain ⟨⟨p, l, e, R, s, m, args, below, meth, c⟩, D, dA, A, Q, ad0, σ0, al0, nL0⟩ := X
  obtain ⟨hx, hb, ho, rfl, hml, rfl, rfl, hts, hE, hA, hlk⟩ := ok
  subst hstk
  intro ad H locs ls h1 h2 h3 h4 h5 h6 h7 h8
  obtain ⟨hm1, hm2, hm3, hm4, hm5⟩ := hcm
  have run := va_runS (p := p) (l := l) (e := e) (R := R) (s := s) (m := m) (args := args) (below := below) (meth := meth) (c := c) (H := H) (locs := locs) (cells := ce) (slots := sl) (As := As.map (tv ad)) (rest := rest.map (tv ad)) (g := F0 m pc ls ((As.reverse ++ rest).map (tv ad))) ⟨hx, hb, hml, ho, hts⟩ (hM D dA ad H.size) ⟨⟨hrc.1, hrc.2, hR.1, hR.2, code_pay (hts _ hm1), List.mem_singleton.mpr rfl, hts _ hm1, hts _ hm2, ⟨hm3, hm4⟩, cf_n hm5, hts _ hw⟩, hts _ hcf⟩ ⟨pcs_blind, fun U hU hW => ⟨rfl, by rw [hU], by rw [hU]; exact h1, hE.moved hW⟩⟩ rfl (List.length_map _) h6.1 (by show ((As.reverse ++ rest).map (tv ad)) = _; rw [List.map_append, List.map_reverse]) (by rw [stw_sum hst.1]; show 2 * 0 + stz rest ≤ 8; rw [Nat.mul_zero, Nat.zero_add]; exact hst.2) d hf
  refine gw_call run h5 hA h4 (fun hmo ad' H1 locs1 g1 g2 g3 g4 g5 => ?_)
  have e9 := g1 rfl
  subst e9
  have kk := k hmo ad' H1 locs1 ls g3 h2 h3 g4 g5 h6 h7 (fun k hk => hmo k (h8 k hk))
  rw [List.map_append] at kk
  exact (show (rv.map (tv ad')).toList = rv.toList.map (tv ad') by cases rv <;> rfl) ▸ kk

theorem g_invSA {y : MethodName} {bytes : ByteArray} {maxL mc ms ix : Nat} {ret : Option FieldType} {rm2 : Room} {As rest : List PV} {rv : Option PV} {σ' : MS} (ok : Ok X cc own rm nL true)   (hM : Ct X.1.2.1 y (.code y bytes maxL ret) rm2 mc ms true (As) σ rv σ') (hcm : cfM y bytes maxL ret As.length) (hcf : cfS y) (hw : (Cond.methodLink own ix y) ∈ TT)
    (hrc : rm2.cells = mc ∧ rm2.slots = ms) (hR : rm2.frames + 1 ≤ rm.frames ∧ 8 + (maxL + 11) + rm2.locals ≤ rm.locals) (hst : stw rest = true ∧ stz rest ≤ 8) (hf : ce + mc ≤ rm.cells ∧ sl + ms ≤ rm.slots) (hrl : rokl σ lv) (hrs : roks σ rest) (d : decode cc pc = .ok (.invokestatic ix, 3)) (hstk : As.reverse ++ rest = st) (k : (∀ k, dm σ k → dm σ' k) → G X σ' (ce + mc) (sl + ms) (pc + 3) lv (rv.toList ++ rest)) : G X σ ce sl pc lv st := by
  obtain ⟨⟨p, l, e, R, s, m, args, below, meth, c⟩, D, dA, A, Q, ad0, σ0, al0, nL0⟩ := X
  obtain ⟨hx, hb, ho, rfl, hml, rfl, rfl, hts, hE, hA, hlk⟩ := ok
  subst hstk
  intro ad H locs ls h1 h2 h3 h4 h5 h6 h7 h8
  obtain ⟨hm1, hm2, hm3, hm4, hm5⟩ := hcm
  have run := va_runS (p := p) (l := l) (e := e) (R := R) (s := s) (m := m) (args := args) (below := below) (meth := meth) (c := c) (H := H) (locs := locs) (cells := ce) (slots := sl) (As := As.map (tv ad)) (rest := rest.map (tv ad)) (g := F0 m pc ls ((As.reverse ++ rest).map (tv ad))) ⟨hx, hb, hml, ho, hts⟩ (hM D dA ad H.size) ⟨⟨hrc.1, hrc.2, hR.1, hR.2, code_pay (hts _ hm1), List.mem_singleton.mpr rfl, hts _ hm1, hts _ hm2, ⟨hm3, hm4⟩, cf_n hm5, hts _ hw⟩, hts _ hcf⟩ ⟨pcs_blind, fun U hU hW => ⟨rfl, by rw [hU], by rw [hU]; exact h1, hE.moved hW⟩⟩ rfl (List.length_map _) h6.1 (by show ((As.reverse ++ rest).map (tv ad)) = _; rw [List.map_append, List.map_reverse]) (by rw [stw_sum hst.1]; show 2 * 0 + stz rest ≤ 8; rw [Nat.mul_zero, Nat.zero_add]; exact hst.2) d hf
  refine gw_call run h5 hA h4 (fun hmo ad' H1 locs1 g1 g2 g3 g4 g5 => ?_)
  have hls := lvm_same g2 hrl
  have hss := st_same g2 hrs
  have kk := k hmo ad' H1 locs1 ls g3 (fun h => by cases h) (fun k hk => (g2 k (h8 k hk)).trans (h3 k hk)) g4 g5 (by rw [hls]; exact h6) h7 (fun k hk => hmo k (h8 k hk))
  rw [List.map_append, hss] at kk
  exact (show (rv.map (tv ad')).toList = rv.toList.map (tv ad') by cases rv <;> rfl) ▸ kk

theorem g_invSN {host : String} {y : MethodName} {bytes : ByteArray} {maxL mc ms ix : Nat} {ret : Option FieldType} {rm2 : Room} {As rest : List PV} {rv : Option PV} {σ' : MS} (ok : Ok X cc own rm nL al)   (hM : Ct X.1.2.1 y (.code y bytes maxL ret) rm2 mc ms false (As) σ rv σ') (hcm : cfM y bytes maxL ret As.length) (hcf : cfS y) (hw : (Cond.methodLinkNest own ix y host) ∈ TT)
    (hrc : rm2.cells = mc ∧ rm2.slots = ms) (hR : rm2.frames + 1 ≤ rm.frames ∧ 8 + (maxL + 11) + rm2.locals ≤ rm.locals) (hst : stw rest = true ∧ stz rest ≤ 8) (hf : ce + mc ≤ rm.cells ∧ sl + ms ≤ rm.slots)  (d : decode cc pc = .ok (.invokestatic ix, 3)) (hstk : As.reverse ++ rest = st) (k : (∀ k, dm σ k → dm σ' k) → G X σ' (ce + mc) (sl + ms) (pc + 3) lv (rv.toList ++ rest)) : G X σ ce sl pc lv st := by
  obtain ⟨⟨p, l, e, R, s, m, args, below, meth, c⟩, D, dA, A, Q, ad0, σ0, al0, nL0⟩ := X
  obtain ⟨hx, hb, ho, rfl, hml, rfl, rfl, hts, hE, hA, hlk⟩ := ok
  subst hstk
  intro ad H locs ls h1 h2 h3 h4 h5 h6 h7 h8
  obtain ⟨hm1, hm2, hm3, hm4, hm5⟩ := hcm
  have run := va_runSN (p := p) (l := l) (e := e) (R := R) (s := s) (m := m) (args := args) (below := below) (meth := meth) (c := c) (H := H) (locs := locs) (cells := ce) (slots := sl) (As := As.map (tv ad)) (rest := rest.map (tv ad)) (g := F0 m pc ls ((As.reverse ++ rest).map (tv ad))) ⟨hx, hb, hml, ho, hts⟩ (hM D dA ad H.size) ⟨⟨⟨hrc.1, hrc.2, hR.1, hR.2, code_pay (hts _ hm1), List.mem_singleton.mpr rfl⟩, hts _ hm1, hts _ hm2, ⟨hm3, hm4⟩, cf_n hm5, hts _ hw⟩, hts _ hcf, trivial⟩ ⟨pcs_blind, fun U hU hW => ⟨rfl, by rw [hU], by rw [hU]; exact h1, hE.moved hW⟩⟩ rfl (List.length_map _) h6.1 (by show ((As.reverse ++ rest).map (tv ad)) = _; rw [List.map_append, List.map_reverse]) (by rw [stw_sum hst.1]; show 2 * 0 + stz rest ≤ 8; rw [Nat.mul_zero, Nat.zero_add]; exact hst.2) d hf
  refine gw_call run h5 hA h4 (fun hmo ad' H1 locs1 g1 g2 g3 g4 g5 => ?_)
  have e9 := g1 rfl
  subst e9
  have kk := k hmo ad' H1 locs1 ls g3 h2 h3 g4 g5 h6 h7 (fun k hk => hmo k (h8 k hk))
  rw [List.map_append] at kk
  exact (show (rv.map (tv ad')).toList = rv.toList.map (tv ad') by cases rv <;> rfl) ▸ kk

theorem g_invSNA {host : String} {y : MethodName} {bytes : ByteArray} {maxL mc ms ix : Nat} {ret : Option FieldType} {rm2 : Room} {As rest : List PV} {rv : Option PV} {σ' : MS} (ok : Ok X cc own rm nL true)   (hM : Ct X.1.2.1 y (.code y bytes maxL ret) rm2 mc ms true (As) σ rv σ') (hcm : cfM y bytes maxL ret As.length) (hcf : cfS y) (hw : (Cond.methodLinkNest own ix y host) ∈ TT)
    (hrc : rm2.cells = mc ∧ rm2.slots = ms) (hR : rm2.frames + 1 ≤ rm.frames ∧ 8 + (maxL + 11) + rm2.locals ≤ rm.locals) (hst : stw rest = true ∧ stz rest ≤ 8) (hf : ce + mc ≤ rm.cells ∧ sl + ms ≤ rm.slots) (hrl : rokl σ lv) (hrs : roks σ rest) (d : decode cc pc = .ok (.invokestatic ix, 3)) (hstk : As.reverse ++ rest = st) (k : (∀ k, dm σ k → dm σ' k) → G X σ' (ce + mc) (sl + ms) (pc + 3) lv (rv.toList ++ rest)) : G X σ ce sl pc lv st := by
  obtain ⟨⟨p, l, e, R, s, m, args, below, meth, c⟩, D, dA, A, Q, ad0, σ0, al0, nL0⟩ := X
  obtain ⟨hx, hb, ho, rfl, hml, rfl, rfl, hts, hE, hA, hlk⟩ := ok
  subst hstk
  intro ad H locs ls h1 h2 h3 h4 h5 h6 h7 h8
  obtain ⟨hm1, hm2, hm3, hm4, hm5⟩ := hcm
  have run := va_runSN (p := p) (l := l) (e := e) (R := R) (s := s) (m := m) (args := args) (below := below) (meth := meth) (c := c) (H := H) (locs := locs) (cells := ce) (slots := sl) (As := As.map (tv ad)) (rest := rest.map (tv ad)) (g := F0 m pc ls ((As.reverse ++ rest).map (tv ad))) ⟨hx, hb, hml, ho, hts⟩ (hM D dA ad H.size) ⟨⟨⟨hrc.1, hrc.2, hR.1, hR.2, code_pay (hts _ hm1), List.mem_singleton.mpr rfl⟩, hts _ hm1, hts _ hm2, ⟨hm3, hm4⟩, cf_n hm5, hts _ hw⟩, hts _ hcf, trivial⟩ ⟨pcs_blind, fun U hU hW => ⟨rfl, by rw [hU], by rw [hU]; exact h1, hE.moved hW⟩⟩ rfl (List.length_map _) h6.1 (by show ((As.reverse ++ rest).map (tv ad)) = _; rw [List.map_append, List.map_reverse]) (by rw [stw_sum hst.1]; show 2 * 0 + stz rest ≤ 8; rw [Nat.mul_zero, Nat.zero_add]; exact hst.2) d hf
  refine gw_call run h5 hA h4 (fun hmo ad' H1 locs1 g1 g2 g3 g4 g5 => ?_)
  have hls := lvm_same g2 hrl
  have hss := st_same g2 hrs
  have kk := k hmo ad' H1 locs1 ls g3 (fun h => by cases h) (fun k hk => (g2 k (h8 k hk)).trans (h3 k hk)) g4 g5 (by rw [hls]; exact h6) h7 (fun k hk => hmo k (h8 k hk))
  rw [List.map_append, hss] at kk
  exact (show (rv.map (tv ad')).toList = rv.toList.map (tv ad') by cases rv <;> rfl) ▸ kk

theorem g_invI {y : MethodName} {bytes : ByteArray} {maxL mc ms ix : Nat}  {rm2 : Room} {As rest : List PV} {rv : Option PV} {σ' : MS} (ok : Ok X cc own rm nL al) {r0 : Option Nat} {k0 s0 : Nat} (hr : rf σ.2.2 s0 r0 = some k0)  (hM : Ct X.1.2.1 y (.code y bytes maxL none) rm2 mc ms false (vR (some k0) :: As) σ rv σ') (hcm : cfM y bytes maxL none As.length) (hcf : cfI y) (hw : (Cond.methodLink own ix y) ∈ TT)
    (hrc : rm2.cells = mc ∧ rm2.slots = ms) (hR : rm2.frames + 1 ≤ rm.frames ∧ 8 + (maxL + 11) + rm2.locals ≤ rm.locals) (hst : stw rest = true ∧ stz rest ≤ 8) (hf : ce + mc ≤ rm.cells ∧ sl + ms ≤ rm.slots)  (d : decode cc pc = .ok (.invokespecial ix, 3)) (hstk : As.reverse ++ vR r0 :: rest = st) (k : (∀ k, dm σ k → dm σ' k) → G X σ' (ce + mc) (sl + ms) (pc + 3) lv (rv.toList ++ rest)) : G X σ ce sl pc lv st := by
  obtain ⟨⟨p, l, e, R, s, m, args, below, meth, c⟩, D, dA, A, Q, ad0, σ0, al0, nL0⟩ := X
  obtain ⟨hx, hb, ho, rfl, hml, rfl, rfl, hts, hE, hA, hlk⟩ := ok
  subst hstk
  intro ad H locs ls h1 h2 h3 h4 h5 h6 h7 h8
  obtain ⟨hm1, hm2, hm3, hm4, hm5⟩ := hcm
  obtain ⟨rfl, hk0, hdm⟩ := rf_spec hr
  have run := va_runI (p := p) (l := l) (e := e) (R := R) (s := s) (m := m) (args := args) (below := below) (meth := meth) (c := c) (H := H) (locs := locs) (cells := ce) (slots := sl) (As := As.map (tv ad)) (rest := rest.map (tv ad)) (g := F0 m pc ls ((As.reverse ++ vR (some k0) :: rest).map (tv ad))) ⟨hx, hb, hml, ho, hts⟩ (hM D dA ad H.size) ⟨⟨hrc.1, hrc.2, hR.1, hR.2, code_pay (hts _ hm1), List.mem_singleton.mpr rfl, hts _ hm1, hts _ hm2, ⟨hm3, hm4⟩, cf_n hm5, hts _ hw⟩, hcf.1, hts _ hcf.2⟩ ⟨pcs_blind, fun U hU hW => ⟨by rw [List.map_cons]; rfl, by rw [hU], by rw [hU]; exact h1, hE.moved hW⟩⟩ rfl (List.length_map _) h6.1 (by show ((As.reverse ++ vR (some k0) :: rest).map (tv ad)) = _; rw [List.map_append, List.map_reverse]; rfl) (by rw [stw_sum hst.1]; show 2 * 0 + stz rest ≤ 8; rw [Nat.mul_zero, Nat.zero_add]; exact hst.2) d hf
  refine gw_call run h5 hA h4 (fun hmo ad' H1 locs1 g1 g2 g3 g4 g5 => ?_)
  have e9 := g1 rfl
  subst e9
  have kk := k hmo ad' H1 locs1 ls g3 h2 h3 g4 g5 h6 h7 (fun k hk => hmo k (h8 k hk))
  rw [List.map_append] at kk
  exact (show (rv.map (tv ad')).toList = rv.toList.map (tv ad') by cases rv <;> rfl) ▸ kk

theorem g_invIA {y : MethodName} {bytes : ByteArray} {maxL mc ms ix : Nat}  {rm2 : Room} {As rest : List PV} {rv : Option PV} {σ' : MS} (ok : Ok X cc own rm nL true) {r0 : Option Nat} {k0 s0 : Nat} (hr : rf σ.2.2 s0 r0 = some k0)  (hM : Ct X.1.2.1 y (.code y bytes maxL none) rm2 mc ms true (vR (some k0) :: As) σ rv σ') (hcm : cfM y bytes maxL none As.length) (hcf : cfI y) (hw : (Cond.methodLink own ix y) ∈ TT)
    (hrc : rm2.cells = mc ∧ rm2.slots = ms) (hR : rm2.frames + 1 ≤ rm.frames ∧ 8 + (maxL + 11) + rm2.locals ≤ rm.locals) (hst : stw rest = true ∧ stz rest ≤ 8) (hf : ce + mc ≤ rm.cells ∧ sl + ms ≤ rm.slots) (hrl : rokl σ lv) (hrs : roks σ rest) (d : decode cc pc = .ok (.invokespecial ix, 3)) (hstk : As.reverse ++ vR r0 :: rest = st) (k : (∀ k, dm σ k → dm σ' k) → G X σ' (ce + mc) (sl + ms) (pc + 3) lv (rv.toList ++ rest)) : G X σ ce sl pc lv st := by
  obtain ⟨⟨p, l, e, R, s, m, args, below, meth, c⟩, D, dA, A, Q, ad0, σ0, al0, nL0⟩ := X
  obtain ⟨hx, hb, ho, rfl, hml, rfl, rfl, hts, hE, hA, hlk⟩ := ok
  subst hstk
  intro ad H locs ls h1 h2 h3 h4 h5 h6 h7 h8
  obtain ⟨hm1, hm2, hm3, hm4, hm5⟩ := hcm
  obtain ⟨rfl, hk0, hdm⟩ := rf_spec hr
  have run := va_runI (p := p) (l := l) (e := e) (R := R) (s := s) (m := m) (args := args) (below := below) (meth := meth) (c := c) (H := H) (locs := locs) (cells := ce) (slots := sl) (As := As.map (tv ad)) (rest := rest.map (tv ad)) (g := F0 m pc ls ((As.reverse ++ vR (some k0) :: rest).map (tv ad))) ⟨hx, hb, hml, ho, hts⟩ (hM D dA ad H.size) ⟨⟨hrc.1, hrc.2, hR.1, hR.2, code_pay (hts _ hm1), List.mem_singleton.mpr rfl, hts _ hm1, hts _ hm2, ⟨hm3, hm4⟩, cf_n hm5, hts _ hw⟩, hcf.1, hts _ hcf.2⟩ ⟨pcs_blind, fun U hU hW => ⟨by rw [List.map_cons]; rfl, by rw [hU], by rw [hU]; exact h1, hE.moved hW⟩⟩ rfl (List.length_map _) h6.1 (by show ((As.reverse ++ vR (some k0) :: rest).map (tv ad)) = _; rw [List.map_append, List.map_reverse]; rfl) (by rw [stw_sum hst.1]; show 2 * 0 + stz rest ≤ 8; rw [Nat.mul_zero, Nat.zero_add]; exact hst.2) d hf
  refine gw_call run h5 hA h4 (fun hmo ad' H1 locs1 g1 g2 g3 g4 g5 => ?_)
  have hls := lvm_same g2 hrl
  have hss := st_same g2 hrs
  have kk := k hmo ad' H1 locs1 ls g3 (fun h => by cases h) (fun k hk => (g2 k (h8 k hk)).trans (h3 k hk)) g4 g5 (by rw [hls]; exact h6) h7 (fun k hk => hmo k (h8 k hk))
  rw [List.map_append, hss] at kk
  exact (show (rv.map (tv ad')).toList = rv.toList.map (tv ad') by cases rv <;> rfl) ▸ kk

theorem g_invIN {host : String} {y : MethodName} {bytes : ByteArray} {maxL mc ms ix : Nat}  {rm2 : Room} {As rest : List PV} {rv : Option PV} {σ' : MS} (ok : Ok X cc own rm nL al) {r0 : Option Nat} {k0 s0 : Nat} (hr : rf σ.2.2 s0 r0 = some k0)  (hM : Ct X.1.2.1 y (.code y bytes maxL none) rm2 mc ms false (vR (some k0) :: As) σ rv σ') (hcm : cfM y bytes maxL none As.length) (hcf : cfI y) (hw : (Cond.methodLinkNest own ix y host) ∈ TT)
    (hrc : rm2.cells = mc ∧ rm2.slots = ms) (hR : rm2.frames + 1 ≤ rm.frames ∧ 8 + (maxL + 11) + rm2.locals ≤ rm.locals) (hst : stw rest = true ∧ stz rest ≤ 8) (hf : ce + mc ≤ rm.cells ∧ sl + ms ≤ rm.slots)  (d : decode cc pc = .ok (.invokespecial ix, 3)) (hstk : As.reverse ++ vR r0 :: rest = st) (k : (∀ k, dm σ k → dm σ' k) → G X σ' (ce + mc) (sl + ms) (pc + 3) lv (rv.toList ++ rest)) : G X σ ce sl pc lv st := by
  obtain ⟨⟨p, l, e, R, s, m, args, below, meth, c⟩, D, dA, A, Q, ad0, σ0, al0, nL0⟩ := X
  obtain ⟨hx, hb, ho, rfl, hml, rfl, rfl, hts, hE, hA, hlk⟩ := ok
  subst hstk
  intro ad H locs ls h1 h2 h3 h4 h5 h6 h7 h8
  obtain ⟨hm1, hm2, hm3, hm4, hm5⟩ := hcm
  obtain ⟨rfl, hk0, hdm⟩ := rf_spec hr
  have run := va_runIN (p := p) (l := l) (e := e) (R := R) (s := s) (m := m) (args := args) (below := below) (meth := meth) (c := c) (H := H) (locs := locs) (cells := ce) (slots := sl) (As := As.map (tv ad)) (rest := rest.map (tv ad)) (g := F0 m pc ls ((As.reverse ++ vR (some k0) :: rest).map (tv ad))) ⟨hx, hb, hml, ho, hts⟩ (hM D dA ad H.size) ⟨⟨⟨hrc.1, hrc.2, hR.1, hR.2, code_pay (hts _ hm1), List.mem_singleton.mpr rfl⟩, hts _ hm1, hts _ hm2, ⟨hm3, hm4⟩, cf_n hm5, hts _ hw⟩, hcf.1, hts _ hcf.2⟩ ⟨pcs_blind, fun U hU hW => ⟨by rw [List.map_cons]; rfl, by rw [hU], by rw [hU]; exact h1, hE.moved hW⟩⟩ rfl (List.length_map _) h6.1 (by show ((As.reverse ++ vR (some k0) :: rest).map (tv ad)) = _; rw [List.map_append, List.map_reverse]; rfl) (by rw [stw_sum hst.1]; show 2 * 0 + stz rest ≤ 8; rw [Nat.mul_zero, Nat.zero_add]; exact hst.2) d hf
  refine gw_call run h5 hA h4 (fun hmo ad' H1 locs1 g1 g2 g3 g4 g5 => ?_)
  have e9 := g1 rfl
  subst e9
  have kk := k hmo ad' H1 locs1 ls g3 h2 h3 g4 g5 h6 h7 (fun k hk => hmo k (h8 k hk))
  rw [List.map_append] at kk
  exact (show (rv.map (tv ad')).toList = rv.toList.map (tv ad') by cases rv <;> rfl) ▸ kk

theorem g_invINA {host : String} {y : MethodName} {bytes : ByteArray} {maxL mc ms ix : Nat}  {rm2 : Room} {As rest : List PV} {rv : Option PV} {σ' : MS} (ok : Ok X cc own rm nL true) {r0 : Option Nat} {k0 s0 : Nat} (hr : rf σ.2.2 s0 r0 = some k0)  (hM : Ct X.1.2.1 y (.code y bytes maxL none) rm2 mc ms true (vR (some k0) :: As) σ rv σ') (hcm : cfM y bytes maxL none As.length) (hcf : cfI y) (hw : (Cond.methodLinkNest own ix y host) ∈ TT)
    (hrc : rm2.cells = mc ∧ rm2.slots = ms) (hR : rm2.frames + 1 ≤ rm.frames ∧ 8 + (maxL + 11) + rm2.locals ≤ rm.locals) (hst : stw rest = true ∧ stz rest ≤ 8) (hf : ce + mc ≤ rm.cells ∧ sl + ms ≤ rm.slots) (hrl : rokl σ lv) (hrs : roks σ rest) (d : decode cc pc = .ok (.invokespecial ix, 3)) (hstk : As.reverse ++ vR r0 :: rest = st) (k : (∀ k, dm σ k → dm σ' k) → G X σ' (ce + mc) (sl + ms) (pc + 3) lv (rv.toList ++ rest)) : G X σ ce sl pc lv st := by
  obtain ⟨⟨p, l, e, R, s, m, args, below, meth, c⟩, D, dA, A, Q, ad0, σ0, al0, nL0⟩ := X
  obtain ⟨hx, hb, ho, rfl, hml, rfl, rfl, hts, hE, hA, hlk⟩ := ok
  subst hstk
  intro ad H locs ls h1 h2 h3 h4 h5 h6 h7 h8
  obtain ⟨hm1, hm2, hm3, hm4, hm5⟩ := hcm
  obtain ⟨rfl, hk0, hdm⟩ := rf_spec hr
  have run := va_runIN (p := p) (l := l) (e := e) (R := R) (s := s) (m := m) (args := args) (below := below) (meth := meth) (c := c) (H := H) (locs := locs) (cells := ce) (slots := sl) (As := As.map (tv ad)) (rest := rest.map (tv ad)) (g := F0 m pc ls ((As.reverse ++ vR (some k0) :: rest).map (tv ad))) ⟨hx, hb, hml, ho, hts⟩ (hM D dA ad H.size) ⟨⟨⟨hrc.1, hrc.2, hR.1, hR.2, code_pay (hts _ hm1), List.mem_singleton.mpr rfl⟩, hts _ hm1, hts _ hm2, ⟨hm3, hm4⟩, cf_n hm5, hts _ hw⟩, hcf.1, hts _ hcf.2⟩ ⟨pcs_blind, fun U hU hW => ⟨by rw [List.map_cons]; rfl, by rw [hU], by rw [hU]; exact h1, hE.moved hW⟩⟩ rfl (List.length_map _) h6.1 (by show ((As.reverse ++ vR (some k0) :: rest).map (tv ad)) = _; rw [List.map_append, List.map_reverse]; rfl) (by rw [stw_sum hst.1]; show 2 * 0 + stz rest ≤ 8; rw [Nat.mul_zero, Nat.zero_add]; exact hst.2) d hf
  refine gw_call run h5 hA h4 (fun hmo ad' H1 locs1 g1 g2 g3 g4 g5 => ?_)
  have hls := lvm_same g2 hrl
  have hss := st_same g2 hrs
  have kk := k hmo ad' H1 locs1 ls g3 (fun h => by cases h) (fun k hk => (g2 k (h8 k hk)).trans (h3 k hk)) g4 g5 (by rw [hls]; exact h6) h7 (fun k hk => hmo k (h8 k hk))
  rw [List.map_append, hss] at kk
  exact (show (rv.map (tv ad')).toList = rv.toList.map (tv ad') by cases rv <;> rfl) ▸ kk

/-- a body's end -/
def Fin (X : CX) (ret : Option FieldType) (mc ms : Nat) (al : Bool) (r : Option PV) (σ' : MS) : Prop :=
  X.1.2.2.2.2.2.2.2.2.1.sig.returnType = ret ∧ X.2.2.2.1 = frA X.2.2.2.2.2.1 X.2.2.2.2.2.2.1 X.1.2.2.2.2.1.heap.size ∧
  X.2.2.2.2.1 = MQ X.1.2.2.2.2.2.2.2.1 (qcs X.2.1 X.2.2.1 X.2.2.2.2.2.1 X.2.2.2.2.2.2.1 X.1.2.2.2.2.1.heap.size al r σ') X.1.2.2.2.2.2.2.1 X.1.2.2.2.2.1 mc ms (frA X.2.2.2.2.2.1 X.2.2.2.2.2.2.1 X.1.2.2.2.2.1.heap.size)

theorem g_iret {mc ms : Nat} {x : Int32} (ok : Ok X cc own rm nL al) (fn : Fin X (some .int) mc ms al (some (vI x)) σ)  (hce : ce ≤ mc) (hsl : sl ≤ ms) (d : decode cc pc = .ok (.ireturn, 1)) : G X σ ce sl pc lv [vI x] := by
  obtain ⟨⟨p, l, e, R, s, m, args, below, meth, c⟩, D, dA, A, Q, ad0, σ0, al0, nL0⟩ := X
  obtain ⟨hx, hb, ho, rfl, hml, rfl, rfl, hts, hE, hA, hlk⟩ := ok
  obtain ⟨hret, hAe, hQ⟩ := fn
  dsimp only at hret hAe hQ
  subst hAe
  subst hQ
  intro ad H locs ls h1 h2 h3 h4 h5 h6 h7 h8
  refine W.widen hce hsl ?_
  have post : ∀ (o : Outcome) (t : State), t.heap = H → o = .returned ((some (vI x)) |>.map (tv ad)) → qcs D dA ad0 σ0 s.heap.size al0 (some (vI x)) σ (args) s o t := fun o t ht ho2 => ⟨⟨ad, h2, h3, by rw [ht]; exact h1, h4, ho2, h8⟩, h5.F ht⟩
  exact W.iret hx hb hret (fun t ht _ => post _ t ht rfl) h5.2.2 d hlk

theorem g_zret {mc ms : Nat} {x : Int32} (ok : Ok X cc own rm nL al) (fn : Fin X (some .boolean) mc ms al (some (vI x)) σ) (hz : x = 0 ∨ x = 1) (hce : ce ≤ mc) (hsl : sl ≤ ms) (d : decode cc pc = .ok (.ireturn, 1)) : G X σ ce sl pc lv [vI x] := by
  obtain ⟨⟨p, l, e, R, s, m, args, below, meth, c⟩, D, dA, A, Q, ad0, σ0, al0, nL0⟩ := X
  obtain ⟨hx, hb, ho, rfl, hml, rfl, rfl, hts, hE, hA, hlk⟩ := ok
  obtain ⟨hret, hAe, hQ⟩ := fn
  dsimp only at hret hAe hQ
  subst hAe
  subst hQ
  intro ad H locs ls h1 h2 h3 h4 h5 h6 h7 h8
  refine W.widen hce hsl ?_
  have post : ∀ (o : Outcome) (t : State), t.heap = H → o = .returned ((some (vI x)) |>.map (tv ad)) → qcs D dA ad0 σ0 s.heap.size al0 (some (vI x)) σ (args) s o t := fun o t ht ho2 => ⟨⟨ad, h2, h3, by rw [ht]; exact h1, h4, ho2, h8⟩, h5.F ht⟩
  exact W.zret hx hb hret (by rcases hz with hz | hz <;> rw [hz] <;> rfl) (fun t ht _ => post _ t ht rfl) h5.2.2 d hlk

theorem g_aret {mc ms : Nat} {x : Option Nat} {C : String} (ok : Ok X cc own rm nL al) (fn : Fin X (some (.object C)) mc ms al (some (vR x)) σ)  (hce : ce ≤ mc) (hsl : sl ≤ ms) (d : decode cc pc = .ok (.areturn, 1)) : G X σ ce sl pc lv [vR x] := by
  obtain ⟨⟨p, l, e, R, s, m, args, below, meth, c⟩, D, dA, A, Q, ad0, σ0, al0, nL0⟩ := X
  obtain ⟨hx, hb, ho, rfl, hml, rfl, rfl, hts, hE, hA, hlk⟩ := ok
  obtain ⟨hret, hAe, hQ⟩ := fn
  dsimp only at hret hAe hQ
  subst hAe
  subst hQ
  intro ad H locs ls h1 h2 h3 h4 h5 h6 h7 h8
  refine W.widen hce hsl ?_
  have post : ∀ (o : Outcome) (t : State), t.heap = H → o = .returned ((some (vR x)) |>.map (tv ad)) → qcs D dA ad0 σ0 s.heap.size al0 (some (vR x)) σ (args) s o t := fun o t ht ho2 => ⟨⟨ad, h2, h3, by rw [ht]; exact h1, h4, ho2, h8⟩, h5.F ht⟩
  exact W.aret (v := va_rf (x.map ad)) hx hb hret (Or.inl ⟨_, rfl⟩) (by cases x with | none => exact Or.inl rfl | some a => exact Or.inr ⟨_, rfl⟩) (fun t ht _ => post _ t ht rfl) h5.2.2 d hlk

theorem g_vret {mc ms : Nat}  (ok : Ok X cc own rm nL al) (fn : Fin X none mc ms al none σ)  (hce : ce ≤ mc) (hsl : sl ≤ ms) (d : decode cc pc = .ok (.return_, 1)) : G X σ ce sl pc lv [] := by
  obtain ⟨⟨p, l, e, R, s, m, args, below, meth, c⟩, D, dA, A, Q, ad0, σ0, al0, nL0⟩ := X
  obtain ⟨hx, hb, ho, rfl, hml, rfl, rfl, hts, hE, hA, hlk⟩ := ok
  obtain ⟨hret, hAe, hQ⟩ := fn
  dsimp only at hret hAe hQ
  subst hAe
  subst hQ
  intro ad H locs ls h1 h2 h3 h4 h5 h6 h7 h8
  refine W.widen hce hsl ?_
  have post : ∀ (o : Outcome) (t : State), t.heap = H → o = .returned (none |>.map (tv ad)) → qcs D dA ad0 σ0 s.heap.size al0 none σ (args) s o t := fun o t ht ho2 => ⟨⟨ad, h2, h3, by rw [ht]; exact h1, h4, ho2, h8⟩, h5.F ht⟩
  exact W.vret hx hb hret (fun t ht _ => post _ t ht rfl) h5.2.2 d hlk

end GR3
/-! a contract out of a walk -/
def pln : Nat → List PV → LV
  | _, [] => []
  | i, v :: vs => (i, v) :: pln (bif cat1 v then i + 1 else i + 2) vs
theorem pln_args {ad : Nat → Nat} : ∀ (i : Nat) (pa : List PV), stw pa = true → lv_args i (pa.map (tv ad)) = lvm ad (pln i pa)
  | i, [], _ => rfl
  | i, v :: vs, h => by
    show (i, tv ad v) :: lv_args (if (tv ad v).category = 2 then i + 2 else i + 1) (vs.map (tv ad)) = (i, tv ad v) :: lvm ad (pln (bif cat1 v then i + 1 else i + 2) vs)
    rw [tv_cat2]
    cases hc : cat1 v with
    | true => rw [show (if (bif true then 1 else 2) = 2 then i + 2 else i + 1) = i + 1 from rfl, pln_args (i + 1) vs rfl]; rfl
    | false => rw [show (if (bif false then 1 else 2) = 2 then i + 2 else i + 1) = i + 2 from rfl, pln_args (i + 2) vs rfl]; rfl
theorem pln_all (_ : Nat) (pa : List PV) (_ : stw pa = true) : True := trivial
theorem sl_len {ad : Nat → Nat} : ∀ (pa : List PV), stw pa = true → (lg_sl (pa.map (tv ad))).length = stz pa
  | [], _ => rfl
  | v :: vs, h => by
    have ih := sl_len (ad := ad) vs rfl
    unfold lg_sl at ih ⊢
    rw [List.map_cons, List.flatMap_cons, List.length_append, ih, tv_cat2]
    show _ = (bif cat1 v then 1 else 2) + stz vs
    cases hc : cat1 v <;> rfl
theorem Ct.of {l : Launch} {y : MethodName} {cc : ByteArray} {maxL : Nat} {ret : Option FieldType} {rm : Room} {mc ms : Nat} {al : Bool} {pa : List PV} {σ σ' : MS} {r : Option PV} {own : String} (ho : y.cls = own) (hy : plainName y.cls = true) (hpa : stw pa = true ∧ stz pa ≤ maxL)
    (body : ∀ X : CX, Ok X cc own rm maxL al → Fin X ret mc ms al r σ' → X.2.2.2.2.2.2.1 = σ → X.1.2.2.2.2.2.2.2.2.1.name = y.name → X.1.2.1 = l → G X σ 0 0 0 (pln 0 pa) []) : Ct l y (.code y cc maxL ret) rm mc ms al pa σ r σ' := by
  intro D dA ad sz
  refine Met.ofW (ws := [.code y cc maxL ret]) (cc := cc) (maxL := maxL) (ret := ret) hy rfl ?_
  intro p e s m args below meth c s₁ B hml hv
  obtain ⟨rfl, hsz, hP, hE⟩ := hv
  subst hsz
  have hown : s.vm.findClass own = some m.cls := by rw [← ho]; exact findClass_of_methodNamed (x := y) B.named
  have hb := body ((p, l, e, rm, s, m, ((pa.map (tv ad)).toArray), below, meth, c), D, dA, frA ad σ s.heap.size, MQ below (qcs D dA ad σ s.heap.size al r σ') ((pa.map (tv ad)).toArray) s mc ms (frA ad σ s.heap.size), ad, σ, al, maxL)
    ⟨B.exec, B.bytes, hown, rfl, hml, rfl, rfl, hE.1.at _, hE, fun q h => Or.inr h, B.notSynchronized⟩ ⟨B.returns, rfl, rfl⟩ rfl (name_of_methodNamed B.named B.method).1 rfl
  rw [lg_entry_eq]
  have hl := lv_entry (pa.map (tv ad)) (n := maxL) (by rw [sl_len pa hpa.1]; exact hpa.2)
  rw [pln_args 0 pa hpa.1] at hl
  exact hb ad s.heap [] _ hP (fun _ => rfl) (fun _ _ => rfl) (fun k hk => Or.inl ⟨k, hk, rfl⟩) va_S.rf hl (pln_all 0 pa hpa.1) (fun _ h => h)
