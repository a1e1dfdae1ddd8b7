theorem le_t {a b : Nat} (h : Nat.ble a b = true) : a ≤ b := Nat.le_of_ble_eq_true h
/-! ===== FRAME 1: a pure memory, and a walk over it ===== -/
abbrev MS : Type := (Nat → Nat → Int32) × (Nat → Nat → Option Nat) × (Nat → Nat)
abbrev PV : Type := Int32 ⊕ (Option Nat) ⊕ Int64 ⊕ Value
abbrev vI (x : Int32) : PV := .inl x
abbrev vR (r : Option Nat) : PV := .inr (.inl r)
abbrev vL (x : Int64) : PV := .inr (.inr (.inl x))
abbrev vW (v : Value) : PV := .inr (.inr (.inr v))
def tv (ad : Nat → Nat) : PV → Value
  | .inl x => .int x
  | .inr (.inl r) => va_rf (r.map ad)
  | .inr (.inr (.inl x)) => .long x
  | .inr (.inr (.inr v)) => v
def cat1 : PV → Bool
  | .inl _ => true
  | .inr (.inl _) => true
  | .inr (.inr (.inl _)) => false
  | .inr (.inr (.inr v)) => v.category == 1
theorem tv_cat {ad : Nat → Nat} {v : PV} (h : cat1 v = true) : (tv ad v).category = 1 := by
  rcases v with x | r | x | v
  · rfl
  · cases r <;> rfl
  · cases h
  · show v.category = 1
    simpa [cat1] using h
theorem tv_cat2 {ad : Nat → Nat} {v : PV} : (tv ad v).category = bif cat1 v then 1 else 2 := by
  rcases v with x | r | x | v
  · rfl
  · cases r <;> rfl
  · rfl
  · show v.category = bif v.category == 1 then 1 else 2
    cases v <;> rfl
abbrev LV : Type := List (Nat × PV)
def lvm (ad : Nat → Nat) (lv : LV) : List (Nat × Value) := lv.map (fun q => (q.1, tv ad q.2))
def lrm (i : Nat) : LV → LV
  | [] => []
  | q :: t => bif (Nat.beq q.1 i || (Nat.beq (q.1 + 1) i && !cat1 q.2)) then lrm i t else q :: lrm i t
/-- those that a long at i takes -/
def lrl (i : Nat) : LV → LV
  | [] => []
  | q :: t => bif (Nat.beq q.1 i || (Nat.beq q.1 (i + 1) || (Nat.beq (q.1 + 1) i && !cat1 q.2))) then lrl i t else q :: lrl i t
def lpk (lv : LV) (ks : List Nat) : LV := ks.filterMap (fun k => lv[k]?)
theorem lrm_mem {i : Nat} {q : Nat × PV} : ∀ {lv : LV}, q ∈ lrm i lv → q ∈ lv ∧ q.1 ≠ i ∧ ¬ (q.1 + 1 = i ∧ cat1 q.2 = false)
  | [], h => by cases h
  | p :: t, h => by
    unfold lrm at h
    cases hb : (Nat.beq p.1 i || (Nat.beq (p.1 + 1) i && !cat1 p.2)) with
    | true =>
      rw [hb] at h
      have := lrm_mem (lv := t) h
      exact ⟨List.mem_cons_of_mem _ this.1, this.2⟩
    | false =>
      rw [hb] at h
      rcases List.mem_cons.mp h with e | e
      · subst e
        refine ⟨List.mem_cons_self, fun z => ?_, fun z => ?_⟩
        · rw [z, Nat.beq_refl] at hb; cases hb
        · rw [z.1, z.2, Nat.beq_refl] at hb
          cases h9 : Nat.beq q.1 i <;> rw [h9] at hb <;> cases hb
      · have := lrm_mem (lv := t) e
        exact ⟨List.mem_cons_of_mem _ this.1, this.2⟩
theorem lrl_mem {i : Nat} {q : Nat × PV} : ∀ {lv : LV}, q ∈ lrl i lv → q ∈ lv ∧ q.1 ≠ i ∧ q.1 ≠ i + 1 ∧ ¬ (q.1 + 1 = i ∧ cat1 q.2 = false)
  | [], h => by cases h
  | p :: t, h => by
    unfold lrl at h
    cases hb : (Nat.beq p.1 i || (Nat.beq p.1 (i + 1) || (Nat.beq (p.1 + 1) i && !cat1 p.2))) with
    | true =>
      rw [hb] at h
      have := lrl_mem (lv := t) h
      exact ⟨List.mem_cons_of_mem _ this.1, this.2⟩
    | false =>
      rw [hb] at h
      rcases List.mem_cons.mp h with e | e
      · subst e
        refine ⟨List.mem_cons_self, fun z => ?_, fun z => ?_, fun z => ?_⟩
        · rw [z, Nat.beq_refl] at hb; cases hb
        · rw [z, Nat.beq_refl] at hb
          cases h9 : Nat.beq (i + 1) i <;> rw [h9] at hb <;> cases hb
        · rw [z.1, z.2, Nat.beq_refl] at hb
          cases h9 : Nat.beq q.1 i <;> cases h8 : Nat.beq q.1 (i + 1) <;> rw [h9, h8] at hb <;> cases hb
      · have := lrl_mem (lv := t) e
        exact ⟨List.mem_cons_of_mem _ this.1, this.2⟩
theorem lvm_at {ad : Nat → Nat} {lv : LV} {k i : Nat} {v : PV} (h : lv[k]? = some (i, v)) : (lvm ad lv)[k]? = some (i, tv ad v) := by
  unfold lvm; rw [List.getElem?_map, h]; rfl
/-- the cells of the pure memory: which are there, writing, making -/
def dm (σ : MS) (k : Nat) : Prop := k / 64 < σ.2.2 (k % 64)
def wi (σ : MS) (k j : Nat) (v : Int32) : MS := (fun a b => if a = k ∧ b = j then v else σ.1 a b, σ.2)
def wr (σ : MS) (k j : Nat) (r : Option Nat) : MS := (σ.1, fun a b => if a = k ∧ b = j then r else σ.2.1 a b, σ.2.2)
def nid (σ : MS) (s : Nat) : Nat := 64 * σ.2.2 s + s
def nw (σ : MS) (s : Nat) : MS := (fun a b => if a = nid σ s then 0 else σ.1 a b, fun a b => if a = nid σ s then none else σ.2.1 a b, fun t => if t = s then σ.2.2 s + 1 else σ.2.2 t)
def m0 : MS := (fun _ _ => 0, fun _ _ => none, fun _ => 0)
/-- a reference that is used: it isn't null, and of its kind -/
def rf (n : Nat → Nat) (s : Nat) : Option Nat → Option Nat
  | none => none
  | some k => if k % 64 = s ∧ k / 64 < n (k % 64) then some k else none
theorem rf_spec {σ : MS} {s k : Nat} {r : Option Nat} (h : rf σ.2.2 s r = some k) : r = some k ∧ k % 64 = s ∧ dm σ k := by
  cases r with
  | none => cases h
  | some a =>
    have h : (if a % 64 = s ∧ a / 64 < σ.2.2 (a % 64) then some a else none) = some k := h
    by_cases hc : a % 64 = s ∧ a / 64 < σ.2.2 (a % 64)
    · rw [if_pos hc] at h; cases h; exact ⟨rfl, hc.1, hc.2⟩
    · rw [if_neg hc] at h; cases h
/-- an array that is read or written at a place -/
def ra (n : Nat → Nat) (t : Nat) (r : Option Nat) (i : Int32) : Option Nat := match r with
  | none => none
  | some k => match lay (k % 64) with
    | .inl _ => none
    | .inr q => if (q.1 = t ∧ k / 64 < n (k % 64)) ∧ ¬ (i < 0 ∨ q.2 ≤ i.toNatClampNeg) then some k else none
theorem ra_spec {σ : MS} {t k : Nat} {r : Option Nat} {i : Int32} (h : ra σ.2.2 t r i = some k) : r = some k ∧ dm σ k ∧ ∃ n, lay (k % 64) = .inr (t, n) ∧ vp_in i n := by
  cases r with
  | none => cases h
  | some a =>
    unfold ra at h
    dsimp only at h
    split at h
    next => cases h
    next q hq =>
      split at h
      next hc =>
        cases h
        refine ⟨rfl, hc.1.2, q.2, ?_, hc.2⟩
        rw [hq, ← hc.1.1]
      next => cases h
/-- an array's length -/
def rl (n : Nat → Nat) (t : Nat) (r : Option Nat) : Option Nat := match r with
  | none => none
  | some k => match lay (k % 64) with
    | .inl _ => none
    | .inr q => if q.1 = t ∧ k / 64 < n (k % 64) then some q.2 else none
theorem rl_spec {σ : MS} {n t : Nat} {r : Option Nat} (h : rl σ.2.2 t r = some n) : ∃ k, r = some k ∧ dm σ k ∧ lay (k % 64) = .inr (t, n) := by
  cases r with
  | none => cases h
  | some a =>
    unfold rl at h
    dsimp only at h
    split at h
    next => cases h
    next q hq =>
      split at h
      next hc => cases h; exact ⟨a, rfl, hc.2, by rw [hq, ← hc.1]⟩
      next => cases h
/-- what a cell holds -/
def fl (ad : Nat → Nat) (σ : MS) (k : Nat) : List Bool → Nat → List Value
  | [], _ => []
  | b :: bs, j => (if b then va_rf ((σ.2.1 k j).map ad) else .int (σ.1 k j)) :: fl ad σ k bs (j + 1)
theorem fl_at (ad : Nat → Nat) (σ : MS) (k : Nat) : ∀ (sg : List Bool) (j i : Nat) (b : Bool), sg[i]? = some b → (fl ad σ k sg j)[i]? = some (if b then va_rf ((σ.2.1 k (j + i)).map ad) else .int (σ.1 k (j + i)))
  | [], j, i, b, h => by simp at h
  | c :: bs, j, 0, b, h => by simp at h; subst h; rfl
  | c :: bs, j, i + 1, b, h => by
    simp only [List.getElem?_cons_succ] at h
    show (fl ad σ k bs (j + 1))[i]? = _
    rw [fl_at ad σ k bs (j + 1) i b h, Nat.add_assoc, Nat.add_comm 1 i]
theorem fl_len (ad : Nat → Nat) (σ : MS) (k : Nat) : ∀ (sg : List Bool) (j : Nat), (fl ad σ k sg j).length = sg.length
  | [], j => rfl
  | c :: bs, j => by show (fl ad σ k bs (j + 1)).length + 1 = _; rw [fl_len ad σ k bs (j + 1)]; rfl
theorem fl_eq {ad ad' : Nat → Nat} {σ σ' : MS} {k : Nat} : ∀ (sg : List Bool) (j : Nat), (∀ (i : Nat) (b : Bool), sg[i]? = some b → (if b then va_rf ((σ.2.1 k (j + i)).map ad) else .int (σ.1 k (j + i))) = (if b then va_rf ((σ'.2.1 k (j + i)).map ad') else .int (σ'.1 k (j + i)))) → fl ad σ k sg j = fl ad' σ' k sg j
  | [], j, h => rfl
  | c :: bs, j, h => by
    show _ :: _ = _ :: _
    have e : fl ad σ k bs (j + 1) = fl ad' σ' k bs (j + 1) := fl_eq bs (j + 1) (fun i b hb => by
      have t := h (i + 1) b hb
      rw [show j + 1 + i = j + (i + 1) by omega]
      exact t)
    have t := h 0 c rfl
    rw [Nat.add_zero] at t
    rw [e, t]
theorem fl_set {ad : Nat → Nat} {σ σ' : MS} {k i : Nat} {v : Value} {sg : List Bool} {b : Bool} (hi : sg[i]? = some b) (hv : (if b then va_rf ((σ'.2.1 k i).map ad) else .int (σ'.1 k i)) = v) (ho : ∀ j, j ≠ i → σ'.1 k j = σ.1 k j ∧ σ'.2.1 k j = σ.2.1 k j) : (fl ad σ k sg 0).set i v = fl ad σ' k sg 0 := by
  apply List.ext_getElem?
  intro j
  by_cases hj : j = i
  · subst hj
    have hl : j < (fl ad σ k sg 0).length := by rw [fl_len]; exact (List.getElem?_eq_some_iff.mp hi).1
    rw [List.getElem?_set_self hl, fl_at ad σ' k sg 0 j b hi, Nat.zero_add, hv]
  · rw [List.getElem?_set_ne (Ne.symm hj)]
    cases hs : sg[j]? with
    | none =>
      have h1 : sg.length ≤ j := List.getElem?_eq_none_iff.mp hs
      rw [List.getElem?_eq_none_iff.mpr (by rw [fl_len]; exact h1), List.getElem?_eq_none_iff.mpr (by rw [fl_len]; exact h1)]
    | some c =>
      rw [fl_at ad σ k sg 0 j c hs, fl_at ad σ' k sg 0 j c hs, Nat.zero_add, (ho j hj).1, (ho j hj).2]
def ea (dA : Nat → ClassId) (ad : Nat → Nat) (σ : MS) (k t n : Nat) : va_E :=
  if t = 2 then .inl (dA 2, n, .inr (.inl (fun j => (σ.1 k j).toInt64)))
  else if t < 2 then .inl (dA t, n, .inl (σ.1 k))
  else .inl (dA t, n, .inr (.inr (.inr (.inr (fun j => (σ.2.1 k j).map ad)))))
def en (dA : Nat → ClassId) (ad : Nat → Nat) (σ : MS) (k : Nat) : va_E := match lay (k % 64) with
  | .inl o => .inr (o.1, fl ad σ k o.2 0)
  | .inr q => ea dA ad σ k q.1 q.2
theorem en_o {dA : Nat → ClassId} {ad : Nat → Nat} {σ : MS} {k : Nat} {o : Nat × List Bool} (h : lay (k % 64) = .inl o) : en dA ad σ k = .inr (o.1, fl ad σ k o.2 0) := by unfold en; rw [h]
theorem en_a {dA : Nat → ClassId} {ad : Nat → Nat} {σ : MS} {k : Nat} {q : Nat × Nat} (h : lay (k % 64) = .inr q) : en dA ad σ k = ea dA ad σ k q.1 q.2 := by unfold en; rw [h]
theorem en_eq {dA : Nat → ClassId} {ad ad' : Nat → Nat} {σ σ' : MS} {k : Nat} (h1 : ∀ j, σ.1 k j = σ'.1 k j) (h2 : ∀ j, (σ.2.1 k j).map ad = (σ'.2.1 k j).map ad') : en dA ad σ k = en dA ad' σ' k := by
  have e1 : σ.1 k = σ'.1 k := funext h1
  unfold en
  split
  · next o _ => rw [fl_eq (σ' := σ') (ad' := ad') o.2 0 (fun i b _ => by cases b <;> simp [h1, h2])]
  · next q _ => unfold ea; rw [e1]; simp [h2]
/-- the heap holds the memory, whose references lie in it -/
def rp (D : va_G) (dA : Nat → ClassId) (ad : Nat → Nat) (σ : MS) (H : Heap) : Prop :=
  (∀ k, dm σ k → va_at D vwCl (ad k, en dA ad σ k) H) ∧ (∀ j k, dm σ j → dm σ k → ad j = ad k → j = k) ∧ ∀ k j b, dm σ k → σ.2.1 k j = some b → dm σ b
theorem rp.lt {D : va_G} {dA : Nat → ClassId} {ad : Nat → Nat} {σ : MS} {H : Heap} (h : rp D dA ad σ H) {k : Nat} (hk : dm σ k) : ad k < H.size := (h.1 k hk).lt
theorem rp.kept {D : va_G} {dA : Nat → ClassId} {ad : Nat → Nat} {σ : MS} {H H1 : Heap} (h : rp D dA ad σ H) (hq : ∀ k, dm σ k → H1[ad k]? = H[ad k]?) : rp D dA ad σ H1 := ⟨fun k hk => (h.1 k hk).kept (hq k hk), h.2⟩
/-- one cell is written -/
theorem rp.put {D : va_G} {dA : Nat → ClassId} {ad : Nat → Nat} {σ σ' : MS} {H H1 : Heap} {k : Nat} (h : rp D dA ad σ H) (hk : dm σ k) (hn : σ'.2.2 = σ.2.2) (ho : ∀ a, a ≠ k → ∀ j, σ'.1 a j = σ.1 a j ∧ σ'.2.1 a j = σ.2.1 a j)
    (hr : ∀ j b, σ'.2.1 k j = some b → dm σ b) (he : va_at D vwCl (ad k, en dA ad σ' k) H1) (oq : ∀ q : Nat, q ≠ ad k → H1[q]? = H[q]?) : rp D dA ad σ' H1 := by
  have hd : ∀ a, dm σ' a ↔ dm σ a := fun a => by unfold dm; rw [hn]
  refine ⟨fun a ha => ?_, fun a b ha hb => h.2.1 a b ((hd a).mp ha) ((hd b).mp hb), fun a j b ha hb => (hd b).mpr ?_⟩
  · have ha := (hd a).mp ha
    by_cases e : a = k
    · subst e; exact he
    · rw [show en dA ad σ' a = en dA ad σ a from en_eq (fun j => (ho a e j).1) (fun j => by rw [(ho a e j).2])]
      exact (h.1 a ha).kept (oq _ (fun z => e (h.2.1 a k ha hk z)))
  · by_cases e : a = k
    · subst e; exact hr j b hb
    · rw [(ho a e j).2] at hb
      exact h.2.2 a j b ((hd a).mp ha) hb
def upn (ad : Nat → Nat) (k a : Nat) : Nat → Nat := fun i => if i = k then a else ad i
theorem nid_mod {σ : MS} {s : Nat} (hs : s < 64) : nid σ s % 64 = s := by unfold nid; omega
theorem nid_div {σ : MS} {s : Nat} (hs : s < 64) : nid σ s / 64 = σ.2.2 s := by unfold nid; omega
theorem nid_new {σ : MS} {s : Nat} (hs : s < 64) : ¬ dm σ (nid σ s) := by unfold dm; rw [nid_mod hs, nid_div hs]; omega
theorem dm_nw {σ : MS} {s : Nat} (hs : s < 64) {k : Nat} : dm (nw σ s) k ↔ dm σ k ∨ k = nid σ s := by
  show (k / 64 < (if k % 64 = s then σ.2.2 s + 1 else σ.2.2 (k % 64))) ↔ (k / 64 < σ.2.2 (k % 64) ∨ k = 64 * σ.2.2 s + s)
  by_cases h : k % 64 = s
  · rw [if_pos h, h]; omega
  · rw [if_neg h]; omega
/-- one cell is made -/
theorem rp.make {D : va_G} {dA : Nat → ClassId} {ad : Nat → Nat} {σ : MS} {H H1 : Heap} {s a : Nat} (h : rp D dA ad σ H) (hs : s < 64) (ha : H.size ≤ a)
    (he : va_at D vwCl (a, en dA (upn ad (nid σ s) a) (nw σ s) (nid σ s)) H1) (oq : ∀ q : Nat, q < H.size → H1[q]? = H[q]?) : rp D dA (upn ad (nid σ s) a) (nw σ s) H1 := by
  have hne : ∀ k, dm σ k → k ≠ nid σ s := fun k hk e => nid_new hs (e ▸ hk)
  have hu : ∀ k, dm σ k → upn ad (nid σ s) a k = ad k := fun k hk => by unfold upn; rw [if_neg (hne k hk)]
  have hself : upn ad (nid σ s) a (nid σ s) = a := by unfold upn; rw [if_pos rfl]
  have hlt : ∀ k, dm σ k → ad k < a := fun k hk => Nat.lt_of_lt_of_le (h.lt hk) ha
  refine ⟨fun k hk => ?_, fun j k hj hk e => ?_, fun k j b hk hb => (dm_nw hs).mpr ?_⟩
  · rcases (dm_nw hs).mp hk with hk | hk
    · rw [hu k hk]
      have e : en dA (upn ad (nid σ s) a) (nw σ s) k = en dA ad σ k := by
        refine en_eq (fun j => ?_) (fun j => ?_)
        · show (if k = nid σ s then _ else _) = _
          rw [if_neg (hne k hk)]
        · show Option.map _ (if k = nid σ s then _ else _) = _
          rw [if_neg (hne k hk)]
          cases hb : σ.2.1 k j with
          | none => rfl
          | some b => rw [Option.map_some, Option.map_some, hu b (h.2.2 k j b hk hb)]
      rw [e]
      exact (h.1 k hk).kept (oq _ (h.lt hk))
    · subst hk
      rw [hself]; exact he
  · rcases (dm_nw hs).mp hj with hj | hj <;> rcases (dm_nw hs).mp hk with hk | hk
    · rw [hu j hj, hu k hk] at e; exact h.2.1 j k hj hk e
    · subst hk; rw [hu j hj, hself] at e; exact absurd e (Nat.ne_of_lt (hlt j hj))
    · subst hj; rw [hu k hk, hself] at e; exact absurd e.symm (Nat.ne_of_lt (hlt k hk))
    · rw [hj, hk]
  · have hb2 : (if k = nid σ s then none else σ.2.1 k j) = some b := hb
    split at hb2
    next => cases hb2
    next hn =>
      rcases (dm_nw hs).mp hk with hk | hk
      · exact Or.inl (h.2.2 k j b hk hb2)
      · exact absurd hk hn
theorem okw_at {w : Cond} (h : okw w = true) {s U : State} {args a' : Array Value} (hW : s.WarmedH U.vm) (hb : w.before args s = true) : w.before a' U = true := by
  cases w <;> first
    | exact word_at hW (good_of_word h) hb
    | exact va_Nw.use rfl (va_Nw.warmF hW (va_Nw.of rfl hb))
    | exact va_Nw.use rfl (va_Nw.warmM hW (va_Nw.of rfl hb))
    | exact va_Nw.use rfl (va_Nw.warmC hW (va_Nw.of rfl hb))
    | exact va_Nw.use rfl (va_Nw.warmD hW (va_Nw.of rfl hb))
def TB (U : State) : Prop := (∀ w ∈ TT, w.before #[] U = true) ∧ va_AO tAO3 U ∧ va_AO tAO4 U ∧ va_AO tAO5 U
theorem TB.at {s : State} (h : TB s) (args : Array Value) : ∀ w ∈ TT, w.before args s = true := fun w hw => okw_at (List.all_eq_true.mp TT_ok w hw) (State.WarmedH.refl s) (h.1 w hw)
theorem TB.moved {s U : State} (h : TB s) (hW : s.WarmedH U.vm) : TB U := ⟨fun w hw => okw_at (List.all_eq_true.mp TT_ok w hw) hW (h.1 w hw), h.2.1.moved hW.alike, h.2.2.1.moved hW.alike, h.2.2.2.moved hW.alike⟩
def tyl (dA : Nat → ClassId) : List (ClassId × FieldType) := [(dA 0, .int), (dA 1, .int), (dA 2, .int), (dA 3, .object tAO3), (dA 4, .object tAO4), (dA 5, .object tAO5)]
def EV (D : va_G) (dA : Nat → ClassId) (U : State) : Prop := TB U ∧ va_K D vwCl (tyl dA) U
theorem EV.moved {D : va_G} {dA : Nat → ClassId} {s U : State} (h : EV D dA s) (hW : s.WarmedH U.vm) : EV D dA U := ⟨h.1.moved hW, va_K.moved hW.alike h.2⟩
/-! the extracted functions' own words -/
def bnd {α β : Type} (x : Option α) (f : α → Option β) : Option β := match x with
  | none => none
  | some a => f a
def bnd2 {α γ β : Type} (x : Option (α × γ)) (f : α → γ → Option β) : Option β := match x with
  | none => none
  | some a => f a.1 a.2
def bnd3 {α γ δ β : Type} (x : Option (α × γ × δ)) (f : α → γ → δ → Option β) : Option β := match x with
  | none => none
  | some a => f a.1 a.2.1 a.2.2
def bnd4 {α γ δ ε β : Type} (x : Option (α × γ × δ × ε)) (f : α → γ → δ → ε → Option β) : Option β := match x with
  | none => none
  | some a => f a.1 a.2.1 a.2.2.1 a.2.2.2
def bnd0 {β : Type} (x : Option Unit) (f : Option β) : Option β := match x with
  | none => none
  | some _ => f
def el0 {ρ β : Type} (x : Option (ρ ⊕ Unit)) (g : ρ → Option β) (f : Option β) : Option β := match x with
  | none => none
  | some (.inl r) => g r
  | some (.inr _) => f
def el1 {ρ α β : Type} (x : Option (ρ ⊕ α)) (g : ρ → Option β) (f : α → Option β) : Option β := match x with
  | none => none
  | some (.inl r) => g r
  | some (.inr a) => f a
def el2 {ρ α γ β : Type} (x : Option (ρ ⊕ (α × γ))) (g : ρ → Option β) (f : α → γ → Option β) : Option β := match x with
  | none => none
  | some (.inl r) => g r
  | some (.inr a) => f a.1 a.2
def el3 {ρ α γ δ β : Type} (x : Option (ρ ⊕ (α × γ × δ))) (g : ρ → Option β) (f : α → γ → δ → Option β) : Option β := match x with
  | none => none
  | some (.inl r) => g r
  | some (.inr a) => f a.1 a.2.1 a.2.2
def lt_ {α β : Type} (v : α) (f : α → β) : β := f v
def gd {β : Type} (p : Prop) [Decidable p] (x : Option β) : Option β := if p then x else none
theorem bnd_go {α β : Type} {x : Option α} {f : α → Option β} {y : β} (h : bnd x f = some y) : ∃ a, x = some a ∧ f a = some y := by
  cases x with
  | none => cases h
  | some a => exact ⟨a, rfl, h⟩
theorem bnd2_go {α γ β : Type} {x : Option (α × γ)} {f : α → γ → Option β} {y : β} (h : bnd2 x f = some y) : ∃ a b, x = some (a, b) ∧ f a b = some y := by
  cases x with
  | none => cases h
  | some a => exact ⟨a.1, a.2, rfl, h⟩
theorem bnd3_go {α γ δ β : Type} {x : Option (α × γ × δ)} {f : α → γ → δ → Option β} {y : β} (h : bnd3 x f = some y) : ∃ a b c, x = some (a, b, c) ∧ f a b c = some y := by
  cases x with
  | none => cases h
  | some a => exact ⟨a.1, a.2.1, a.2.2, rfl, h⟩
theorem bnd4_go {α γ δ ε β : Type} {x : Option (α × γ × δ × ε)} {f : α → γ → δ → ε → Option β} {y : β} (h : bnd4 x f = some y) : ∃ a b c d, x = some (a, b, c, d) ∧ f a b c d = some y := by
  cases x with
  | none => cases h
  | some a => exact ⟨a.1, a.2.1, a.2.2.1, a.2.2.2, rfl, h⟩
theorem bnd0_go {β : Type} {x : Option Unit} {f : Option β} {y : β} (h : bnd0 x f = some y) : x = some () ∧ f = some y := by
  cases x with
  | none => cases h
  | some a => exact ⟨rfl, h⟩
theorem el0_go {ρ β : Type} {x : Option (ρ ⊕ Unit)} {g : ρ → Option β} {f : Option β} {y : β} (h : el0 x g f = some y) : (∃ r, x = some (.inl r) ∧ g r = some y) ∨ (x = some (.inr ()) ∧ f = some y) := by
  cases x with
  | none => cases h
  | some a => cases a with
    | inl r => exact Or.inl ⟨r, rfl, h⟩
    | inr a => exact Or.inr ⟨rfl, h⟩
theorem el1_go {ρ α β : Type} {x : Option (ρ ⊕ α)} {g : ρ → Option β} {f : α → Option β} {y : β} (h : el1 x g f = some y) : (∃ r, x = some (.inl r) ∧ g r = some y) ∨ (∃ a, x = some (.inr a) ∧ f a = some y) := by
  cases x with
  | none => cases h
  | some a => cases a with
    | inl r => exact Or.inl ⟨r, rfl, h⟩
    | inr a => exact Or.inr ⟨a, rfl, h⟩
theorem el2_go {ρ α γ β : Type} {x : Option (ρ ⊕ (α × γ))} {g : ρ → Option β} {f : α → γ → Option β} {y : β} (h : el2 x g f = some y) : (∃ r, x = some (.inl r) ∧ g r = some y) ∨ (∃ a b, x = some (.inr (a, b)) ∧ f a b = some y) := by
  cases x with
  | none => cases h
  | some a => cases a with
    | inl r => exact Or.inl ⟨r, rfl, h⟩
    | inr a => exact Or.inr ⟨a.1, a.2, rfl, h⟩
theorem el3_go {ρ α γ δ β : Type} {x : Option (ρ ⊕ (α × γ × δ))} {g : ρ → Option β} {f : α → γ → δ → Option β} {y : β} (h : el3 x g f = some y) : (∃ r, x = some (.inl r) ∧ g r = some y) ∨ (∃ a b c, x = some (.inr (a, b, c)) ∧ f a b c = some y) := by
  cases x with
  | none => cases h
  | some a => cases a with
    | inl r => exact Or.inl ⟨r, rfl, h⟩
    | inr a => exact Or.inr ⟨a.1, a.2.1, a.2.2, rfl, h⟩
theorem lt_go {α β : Type} {v s : α} {f : α → β} {y : β} (h : lt_ v f = y) (e : v = s) : f s = y := e ▸ h
theorem gd_go {β : Type} {p : Prop} [Decidable p] {x : Option β} {y : β} (h : gd p x = some y) : p ∧ x = some y := by
  unfold gd at h
  by_cases hp : p
  · rw [if_pos hp] at h; exact ⟨hp, h⟩
  · rw [if_neg hp] at h; cases h
theorem rf_mono {s s1 : MS} (hm : ∀ k, dm s k → dm s1 k) {a k : Nat} {r : Option Nat} (h : rf s.2.2 a r = some k) : rf s1.2.2 a r = some k := by
  obtain ⟨rfl, h1, h2⟩ := rf_spec h
  have h3 : k % 64 = a ∧ k / 64 < s1.2.2 (k % 64) := ⟨h1, hm k h2⟩
  show (if k % 64 = a ∧ k / 64 < s1.2.2 (k % 64) then some k else none) = some k
  rw [if_pos h3]
theorem mo_wi {s s1 : MS} {k j : Nat} {v : Int32} (e : wi s k j v = s1) : ∀ a, dm s a → dm s1 a := fun a h => by rw [← e]; exact h
theorem mo_wr {s s1 : MS} {k j : Nat} {v : Option Nat} (e : wr s k j v = s1) : ∀ a, dm s a → dm s1 a := fun a h => by rw [← e]; exact h
theorem mo_nw {s s1 : MS} {t : Nat} (ht : t < 64) (e : nw s t = s1) : ∀ a, dm s a → dm s1 a := fun a h => by rw [← e]; exact (dm_nw ht).mpr (Or.inl h)
theorem rf_new {s s1 : MS} {t : Nat} (ht : t < 64) (e : nw s t = s1) : rf s1.2.2 t (some (nid s t)) = some (nid s t) := by
  have h3 : nid s t % 64 = t ∧ nid s t / 64 < s1.2.2 (nid s t % 64) := ⟨nid_mod ht, by rw [← e]; exact (dm_nw ht).mpr (Or.inr rfl)⟩
  show (if nid s t % 64 = t ∧ nid s t / 64 < s1.2.2 (nid s t % 64) then some (nid s t) else none) = some (nid s t)
  rw [if_pos h3]
theorem tab_out {x : Int32} {lo hi : Int} (h : ∀ z : Int, lo ≤ z → z ≤ hi → ¬ x = Int32.ofInt z) : x.toInt < lo ∨ hi < x.toInt := by
  by_cases q : x.toInt < lo
  · exact Or.inl q
  · by_cases q2 : hi < x.toInt
    · exact Or.inr q2
    · exact absurd (Int32.ofInt_toInt x).symm (h _ (by omega) (by omega))
def rk (σ : MS) : PV → Prop
  | .inr (.inl (some k)) => dm σ k
  | _ => True
theorem rf_dm {s : MS} {a k : Nat} {r : Option Nat} (h : rf s.2.2 a r = some k) : ∀ b, r = some b → dm s b := fun b hb => by
  obtain ⟨e, _, hd⟩ := rf_spec h
  rw [e] at hb
  cases hb
  exact hd
theorem rk_of {s : MS} {a k : Nat} {r : Option Nat} (h : rf s.2.2 a r = some k) : rk s (vR r) := by
  obtain ⟨rfl, _, hd⟩ := rf_spec h
  exact hd
theorem rf_self {s : MS} {a k : Nat} {r : Option Nat} (h : rf s.2.2 a r = some k) : rf s.2.2 a (some k) = some k := by
  obtain ⟨e, _, _⟩ := rf_spec h
  subst e; exact h
def tcode : Nat → Option String
  | 0 => none
  | 1 => some "java/lang/IndexOutOfBoundsException"
  | 2 => some "java/lang/IllegalArgumentException"
  | _ => some "java/lang/IllegalStateException"
theorem tcode_0 {t : Nat} (h : tcode t = none) : t = 0 := by
  match t, h with
  | 0, _ => rfl
  | 1, h => cases h
  | 2, h => cases h
  | t + 3, h => cases h
theorem tcode_n {t : Nat} {E : String} (h : tcode t = some E) : ¬ t = 0 := fun e => by rw [e] at h; cases h
theorem rk_rl {s : MS} {t n : Nat} {r : Option Nat} (h : rl s.2.2 t r = some n) : rk s (vR r) := by
  obtain ⟨k, rfl, hd, _⟩ := rl_spec h
  exact hd
/-! ===== FRAME 2: the walk's goal over the pure memory ===== -/
abbrev CX : Type := (Program × Launch × Env × Room × State × MethodId × Array Value × List Frame × Method × Code) × (va_G × (Nat → ClassId) × (Nat → Prop) × (State → Prop) × (Nat → Nat) × MS × Bool × Nat)
def G : CX → MS → Nat → Nat → Nat → LV → List PV → Prop
  | ((p, l, e, R, s, m, args, below, meth, c), D, dA, A, Q, ad0, σ0, al, nL), σ, ce, sl, pc, lv, st =>
    ∀ (ad : Nat → Nat) (H : Heap) (locs : List Loc) (ls : Array Slot), rp D dA ad σ H → (al = false → ad = ad0) → (∀ k, dm σ0 k → ad k = ad0 k) → (∀ k, dm σ k → A (ad k)) → va_S A s.heap H locs → lv_has ls nL (lvm ad lv) → True → (∀ k, dm σ0 k → dm σ k) →
      W p l e R s m args below meth c H locs ce sl Q (F0 m pc ls (st.map (tv ad)))
/-- what is fixed in a body -/
def Ok (X : CX) (cc : ByteArray) (own : String) (rm : Room) (nL : Nat) (al : Bool) : Prop :=
  X.1.1.tables.exec = Jvm.exec ∧ X.1.2.2.2.2.2.2.2.2.2.code = cc ∧ X.1.2.2.2.2.1.vm.findClass own = some X.1.2.2.2.2.2.1.cls ∧ X.1.2.2.2.1 = rm ∧ X.1.2.2.2.2.2.2.2.2.2.maxLocals = nL ∧
  X.2.2.2.2.2.2.2.2 = nL ∧ X.2.2.2.2.2.2.2.1 = al ∧ (∀ w ∈ TT, w.before X.1.2.2.2.2.2.2.1 X.1.2.2.2.2.1 = true) ∧ EV X.2.1 X.2.2.1 X.1.2.2.2.2.1 ∧ (∀ q, X.1.2.2.2.2.1.heap.size ≤ q → X.2.2.2.1 q) ∧ X.1.2.2.2.2.2.2.2.2.1.locks = false
theorem i32_lt {x y : Int32} (h : ¬ y ≤ x) : x < y := by
  rw [Int32.le_iff_toInt_le] at h
  rw [Int32.lt_iff_toInt_lt]
  omega
theorem i32_nlt {x y : Int32} (h : y ≤ x) : ¬ x < y := by
  rw [Int32.le_iff_toInt_le] at h
  rw [Int32.lt_iff_toInt_lt]
  omega
theorem lcmp_eq {x y : Int64} : lg_cmp x y = (if x = y then 0 else if y < x then 1 else -1) := by
  unfold lg_cmp
  by_cases h : x = y
  · subst h
    have : ¬ x < x := by rw [Int64.lt_iff_toInt_lt]; omega
    simp [this]
  · by_cases h2 : y < x
    · simp [h, h2]
    · simp [h, h2]
section GR
variable {X : CX} {cc : ByteArray} {own : String} {rm : Room} {nL : Nat} {al : Bool} {σ : MS} {ce sl pc : Nat} {lv : LV} {st : List PV}

theorem g_iconst {n : Int} {v : Int32} (ok : Ok X cc own rm nL al) (d : decode cc pc = .ok (.iconst n, 1)) (hv : Int32.ofInt n = v) (k : G X σ ce sl (pc + 1) lv (vI v :: st)) : G X σ ce sl pc lv st := by
  obtain ⟨⟨p, l, e, R, s, m, args, below, meth, c⟩, D, dA, A, Q, ad0, σ0, al0, nL0⟩ := X
  obtain ⟨hx, hb, ho, rfl, hml, rfl, rfl, hts, hE, hA, hlk⟩ := ok
  exact fun ad H locs ls h1 h2 h3 h4 h5 h6 h7 h8 => lv_iconst hx hb d hv (k ad H locs ls h1 h2 h3 h4 h5 h6 h7 h8)

theorem g_bipush {n : Int} {v : Int32} (ok : Ok X cc own rm nL al) (d : decode cc pc = .ok (.bipush n, 2)) (hv : (Int8.ofInt n).toInt32 = v) (k : G X σ ce sl (pc + 2) lv (vI v :: st)) : G X σ ce sl pc lv st := by
  obtain ⟨⟨p, l, e, R, s, m, args, below, meth, c⟩, D, dA, A, Q, ad0, σ0, al0, nL0⟩ := X
  obtain ⟨hx, hb, ho, rfl, hml, rfl, rfl, hts, hE, hA, hlk⟩ := ok
  exact fun ad H locs ls h1 h2 h3 h4 h5 h6 h7 h8 => lv_bipush hx hb d hv (k ad H locs ls h1 h2 h3 h4 h5 h6 h7 h8)

theorem g_sipush {n : Int} {v : Int32} (ok : Ok X cc own rm nL al) (d : decode cc pc = .ok (.sipush n, 3)) (hv : (Int16.ofInt n).toInt32 = v) (k : G X σ ce sl (pc + 3) lv (vI v :: st)) : G X σ ce sl pc lv st := by
  obtain ⟨⟨p, l, e, R, s, m, args, below, meth, c⟩, D, dA, A, Q, ad0, σ0, al0, nL0⟩ := X
  obtain ⟨hx, hb, ho, rfl, hml, rfl, rfl, hts, hE, hA, hlk⟩ := ok
  exact fun ad H locs ls h1 h2 h3 h4 h5 h6 h7 h8 => lv_sipush hx hb d hv (k ad H locs ls h1 h2 h3 h4 h5 h6 h7 h8)

theorem g_ldc {i : Nat} {v : Int32} (ok : Ok X cc own rm nL al) (d : decode cc pc = .ok (.ldc i, 2)) (hw : (Jvm.Cond.constant own i v) ∈ TT) (k : G X σ ce sl (pc + 2) lv (vI v :: st)) : G X σ ce sl pc lv st := by
  obtain ⟨⟨p, l, e, R, s, m, args, below, meth, c⟩, D, dA, A, Q, ad0, σ0, al0, nL0⟩ := X
  obtain ⟨hx, hb, ho, rfl, hml, rfl, rfl, hts, hE, hA, hlk⟩ := ok
  exact fun ad H locs ls h1 h2 h3 h4 h5 h6 h7 h8 => lv_ldc hx hb ho (hts _ hw) d (k ad H locs ls h1 h2 h3 h4 h5 h6 h7 h8)

theorem g_null  (ok : Ok X cc own rm nL al) (d : decode cc pc = .ok (.aconst_null, 1)) (k : G X σ ce sl (pc + 1) lv (vR none :: st)) : G X σ ce sl pc lv st := by
  obtain ⟨⟨p, l, e, R, s, m, args, below, meth, c⟩, D, dA, A, Q, ad0, σ0, al0, nL0⟩ := X
  obtain ⟨hx, hb, ho, rfl, hml, rfl, rfl, hts, hE, hA, hlk⟩ := ok
  exact fun ad H locs ls h1 h2 h3 h4 h5 h6 h7 h8 => lv_null hx hb d (k ad H locs ls h1 h2 h3 h4 h5 h6 h7 h8)

theorem g_iload_n {j : Fin 4} {i : Nat} {x : Int32} (q : Nat) (ok : Ok X cc own rm nL al) (d : decode cc pc = .ok (.iload_n j, 1)) (hi : (j : Nat) = i) (hl : lv[q]? = some (i, vI x)) (k : G X σ ce sl (pc + 1) lv (vI x :: st)) : G X σ ce sl pc lv st := by
  obtain ⟨⟨p, l, e, R, s, m, args, below, meth, c⟩, D, dA, A, Q, ad0, σ0, al0, nL0⟩ := X
  obtain ⟨hx, hb, ho, rfl, hml, rfl, rfl, hts, hE, hA, hlk⟩ := ok
  exact fun ad H locs ls h1 h2 h3 h4 h5 h6 h7 h8 => lv_iload_n hx hb d hi (lv_at h6 q (lvm_at hl)) (k ad H locs ls h1 h2 h3 h4 h5 h6 h7 h8)

theorem g_iload {i : Nat} {x : Int32} (q : Nat) (ok : Ok X cc own rm nL al) (d : decode cc pc = .ok (.iload i, 2)) (hl : lv[q]? = some (i, vI x)) (k : G X σ ce sl (pc + 2) lv (vI x :: st)) : G X σ ce sl pc lv st := by
  obtain ⟨⟨p, l, e, R, s, m, args, below, meth, c⟩, D, dA, A, Q, ad0, σ0, al0, nL0⟩ := X
  obtain ⟨hx, hb, ho, rfl, hml, rfl, rfl, hts, hE, hA, hlk⟩ := ok
  exact fun ad H locs ls h1 h2 h3 h4 h5 h6 h7 h8 => lv_iload hx hb d (lv_at h6 q (lvm_at hl)) (k ad H locs ls h1 h2 h3 h4 h5 h6 h7 h8)

theorem g_aload_n {j : Fin 4} {i : Nat} {x : Option Nat} (q : Nat) (ok : Ok X cc own rm nL al) (d : decode cc pc = .ok (.aload_n j, 1)) (hi : (j : Nat) = i) (hl : lv[q]? = some (i, vR x)) (k : G X σ ce sl (pc + 1) lv (vR x :: st)) : G X σ ce sl pc lv st := by
  obtain ⟨⟨p, l, e, R, s, m, args, below, meth, c⟩, D, dA, A, Q, ad0, σ0, al0, nL0⟩ := X
  obtain ⟨hx, hb, ho, rfl, hml, rfl, rfl, hts, hE, hA, hlk⟩ := ok
  intro ad H locs ls h1 h2 h3 h4 h5 h6 h7 h8
  have h := lv_at h6 q (lvm_at hl)
  have kk := k ad H locs ls h1 h2 h3 h4 h5 h6 h7 h8
  cases x with
  | none => exact lv_aload_nN hx hb d hi h kk
  | some a => exact lv_aload_n hx hb d hi h kk

theorem g_aload {i : Nat} {x : Option Nat} (q : Nat) (ok : Ok X cc own rm nL al) (d : decode cc pc = .ok (.aload i, 2)) (hl : lv[q]? = some (i, vR x)) (k : G X σ ce sl (pc + 2) lv (vR x :: st)) : G X σ ce sl pc lv st := by
  obtain ⟨⟨p, l, e, R, s, m, args, below, meth, c⟩, D, dA, A, Q, ad0, σ0, al0, nL0⟩ := X
  obtain ⟨hx, hb, ho, rfl, hml, rfl, rfl, hts, hE, hA, hlk⟩ := ok
  intro ad H locs ls h1 h2 h3 h4 h5 h6 h7 h8
  have h := lv_at h6 q (lvm_at hl)
  have kk := k ad H locs ls h1 h2 h3 h4 h5 h6 h7 h8
  cases x with
  | none => exact lv_aloadN hx hb d h kk
  | some a => exact lv_aload hx hb d h kk

theorem g_aloadw_n {j : Fin 4} {i a : Nat} (q : Nat) (ok : Ok X cc own rm nL al) (d : decode cc pc = .ok (.aload_n j, 1)) (hi : (j : Nat) = i) (hl : lv[q]? = some (i, vW (.ref a))) (k : G X σ ce sl (pc + 1) lv (vW (.ref a) :: st)) : G X σ ce sl pc lv st := by
  obtain ⟨⟨p, l, e, R, s, m, args, below, meth, c⟩, D, dA, A, Q, ad0, σ0, al0, nL0⟩ := X
  obtain ⟨hx, hb, ho, rfl, hml, rfl, rfl, hts, hE, hA, hlk⟩ := ok
  exact fun ad H locs ls h1 h2 h3 h4 h5 h6 h7 h8 => lv_aload_n hx hb d hi (lv_at h6 q (lvm_at hl)) (k ad H locs ls h1 h2 h3 h4 h5 h6 h7 h8)

theorem g_aloadw {i a : Nat} (q : Nat) (ok : Ok X cc own rm nL al) (d : decode cc pc = .ok (.aload i, 2)) (hl : lv[q]? = some (i, vW (.ref a))) (k : G X σ ce sl (pc + 2) lv (vW (.ref a) :: st)) : G X σ ce sl pc lv st := by
  obtain ⟨⟨p, l, e, R, s, m, args, below, meth, c⟩, D, dA, A, Q, ad0, σ0, al0, nL0⟩ := X
  obtain ⟨hx, hb, ho, rfl, hml, rfl, rfl, hts, hE, hA, hlk⟩ := ok
  exact fun ad H locs ls h1 h2 h3 h4 h5 h6 h7 h8 => lv_aload hx hb d (lv_at h6 q (lvm_at hl)) (k ad H locs ls h1 h2 h3 h4 h5 h6 h7 h8)

theorem lv_has_put {ad : Nat → Nat} {ls : Array Slot} {nL i : Nat} {v : PV} {lv lv' : LV} (_ : lv_has ls nL (lvm ad lv)) (_ : True) (hv : cat1 v = true) (hi : i < nL) (hl : (i, v) :: lrm i lv = lv') :
    ∃ l2 : List (Nat × Value), (i, tv ad v) :: (lvm ad lv).filter (fun q => !(q.1 == i) && !(q.1 + 1 == i && q.2.category == 2)) = l2 ∧ (∀ ls' : Array Slot, lv_has ls' nL l2 → lv_has ls' nL (lvm ad lv')) ∧ True := by
  refine ⟨_, rfl, fun ls' h' => ⟨h'.1, h'.2.1, fun q hq => h'.2.2 q ?_⟩, trivial⟩
  subst hl
  rcases List.mem_cons.mp hq with e | e
  · rw [e]; exact List.mem_cons_self
  · obtain ⟨a, ha, rfl⟩ := List.mem_map.mp e
    obtain ⟨ha, hne, h2⟩ := lrm_mem ha
    refine List.mem_cons_of_mem _ (List.mem_filter.mpr ⟨List.mem_map.mpr ⟨a, ha, rfl⟩, ?_⟩)
    have hc := tv_cat2 (ad := ad) (v := a.2)
    cases h1 : cat1 a.2 with
    | true => rw [h1] at hc; simp [hc, hne]
    | false => rw [h1] at hc; simp [hc, hne]; exact fun z => h2 ⟨z, h1⟩
theorem lv_has_putL {ad : Nat → Nat} {ls : Array Slot} {nL i : Nat} {x : Int64} {lv lv' : LV} (_ : lv_has ls nL (lvm ad lv)) (hl : (i, vL x) :: lrl i lv = lv') :
    ∃ l2 : List (Nat × Value), (i, Value.long x) :: (lvm ad lv).filter (fun q => !(q.1 == i) && (!(q.1 == i + 1) && !(q.1 + 1 == i && q.2.category == 2))) = l2 ∧ (∀ ls' : Array Slot, lv_has ls' nL l2 → lv_has ls' nL (lvm ad lv')) := by
  refine ⟨_, rfl, fun ls' h' => ⟨h'.1, h'.2.1, fun q hq => h'.2.2 q ?_⟩⟩
  subst hl
  rcases List.mem_cons.mp hq with e | e
  · rw [e]; exact List.mem_cons_self
  · obtain ⟨a, ha, rfl⟩ := List.mem_map.mp e
    obtain ⟨ha, hne, hne1, h2⟩ := lrl_mem ha
    refine List.mem_cons_of_mem _ (List.mem_filter.mpr ⟨List.mem_map.mpr ⟨a, ha, rfl⟩, ?_⟩)
    have hc := tv_cat2 (ad := ad) (v := a.2)
    cases h1 : cat1 a.2 with
    | true => rw [h1] at hc; simp [hc, hne, hne1]
    | false => rw [h1] at hc; simp [hc, hne, hne1]; exact fun z => h2 ⟨z, h1⟩

theorem g_lload_n {j : Fin 4} {i : Nat} {x : Int64} (q : Nat) (ok : Ok X cc own rm nL al) (d : decode cc pc = .ok (.lload_n j, 1)) (hi : (j : Nat) = i) (hl : lv[q]? = some (i, vL x)) (k : G X σ ce sl (pc + 1) lv (vL x :: st)) : G X σ ce sl pc lv st := by
  obtain ⟨⟨p, l, e, R, s, m, args, below, meth, c⟩, D, dA, A, Q, ad0, σ0, al0, nL0⟩ := X
  obtain ⟨hx, hb, ho, rfl, hml, rfl, rfl, hts, hE, hA, hlk⟩ := ok
  exact fun ad H locs ls h1 h2 h3 h4 h5 h6 h7 h8 => lv_lload_n hx hb d hi (lv_at h6 q (lvm_at hl)) (k ad H locs ls h1 h2 h3 h4 h5 h6 h7 h8)

theorem g_lload {i : Nat} {x : Int64} (q : Nat) (ok : Ok X cc own rm nL al) (d : decode cc pc = .ok (.lload i, 2)) (hl : lv[q]? = some (i, vL x)) (k : G X σ ce sl (pc + 2) lv (vL x :: st)) : G X σ ce sl pc lv st := by
  obtain ⟨⟨p, l, e, R, s, m, args, below, meth, c⟩, D, dA, A, Q, ad0, σ0, al0, nL0⟩ := X
  obtain ⟨hx, hb, ho, rfl, hml, rfl, rfl, hts, hE, hA, hlk⟩ := ok
  exact fun ad H locs ls h1 h2 h3 h4 h5 h6 h7 h8 => lv_lload hx hb d (lv_at h6 q (lvm_at hl)) (k ad H locs ls h1 h2 h3 h4 h5 h6 h7 h8)

theorem g_lstore_n {j : Fin 4} {i : Nat} {x : Int64} (lv' : LV) (ok : Ok X cc own rm nL al) (d : decode cc pc = .ok (.lstore_n j, 1)) (hi : (j : Nat) = i) (hn : i + 1 < nL) (hl : (i, vL x) :: lrl i lv = lv') (k : G X σ ce sl (pc + 1) lv' st) : G X σ ce sl pc lv (vL x :: st) := by
  obtain ⟨⟨p, l, e, R, s, m, args, below, meth, c⟩, D, dA, A, Q, ad0, σ0, al0, nL0⟩ := X
  obtain ⟨hx, hb, ho, rfl, hml, rfl, rfl, hts, hE, hA, hlk⟩ := ok
  intro ad H locs ls h1 h2 h3 h4 h5 h6 h7 h8
  obtain ⟨l2, e2, g2⟩ := lv_has_putL h6 hl
  exact lv_lstore_n hx hb d hi h6 hn e2 (fun ls' h' => k ad H locs ls' h1 h2 h3 h4 h5 (g2 ls' h') h7 h8)

theorem g_lstore {i : Nat} {x : Int64} (lv' : LV) (ok : Ok X cc own rm nL al) (d : decode cc pc = .ok (.lstore i, 2)) (hn : i + 1 < nL) (hl : (i, vL x) :: lrl i lv = lv') (k : G X σ ce sl (pc + 2) lv' st) : G X σ ce sl pc lv (vL x :: st) := by
  obtain ⟨⟨p, l, e, R, s, m, args, below, meth, c⟩, D, dA, A, Q, ad0, σ0, al0, nL0⟩ := X
  obtain ⟨hx, hb, ho, rfl, hml, rfl, rfl, hts, hE, hA, hlk⟩ := ok
  intro ad H locs ls h1 h2 h3 h4 h5 h6 h7 h8
  obtain ⟨l2, e2, g2⟩ := lv_has_putL h6 hl
  exact lv_lstore hx hb d h6 hn e2 (fun ls' h' => k ad H locs ls' h1 h2 h3 h4 h5 (g2 ls' h') h7 h8)

theorem g_istore_n {j : Fin 4} {i : Nat} {x : Int32} (lv' : LV) (ok : Ok X cc own rm nL al) (d : decode cc pc = .ok (.istore_n j, 1)) (hi : (j : Nat) = i) (hn : i < nL) (hl : (i, vI x) :: lrm i lv = lv') (k : G X σ ce sl (pc + 1) lv' st) : G X σ ce sl pc lv (vI x :: st) := by
  obtain ⟨⟨p, l, e, R, s, m, args, below, meth, c⟩, D, dA, A, Q, ad0, σ0, al0, nL0⟩ := X
  obtain ⟨hx, hb, ho, rfl, hml, rfl, rfl, hts, hE, hA, hlk⟩ := ok
  intro ad H locs ls h1 h2 h3 h4 h5 h6 h7 h8
  obtain ⟨l2, e2, g2, g3⟩ := lv_has_put h6 h7 rfl hn hl
  exact lv_istore_n hx hb d hi h6 hn e2 (fun ls' h' => k ad H locs ls' h1 h2 h3 h4 h5 (g2 ls' h') g3 h8)

theorem g_istore {i : Nat} {x : Int32} (lv' : LV) (ok : Ok X cc own rm nL al) (d : decode cc pc = .ok (.istore i, 2)) (hn : i < nL) (hl : (i, vI x) :: lrm i lv = lv') (k : G X σ ce sl (pc + 2) lv' st) : G X σ ce sl pc lv (vI x :: st) := by
  obtain ⟨⟨p, l, e, R, s, m, args, below, meth, c⟩, D, dA, A, Q, ad0, σ0, al0, nL0⟩ := X
  obtain ⟨hx, hb, ho, rfl, hml, rfl, rfl, hts, hE, hA, hlk⟩ := ok
  intro ad H locs ls h1 h2 h3 h4 h5 h6 h7 h8
  obtain ⟨l2, e2, g2, g3⟩ := lv_has_put h6 h7 rfl hn hl
  exact lv_istore hx hb d h6 hn e2 (fun ls' h' => k ad H locs ls' h1 h2 h3 h4 h5 (g2 ls' h') g3 h8)

theorem g_astore_n {j : Fin 4} {i : Nat} {x : Option Nat} (lv' : LV) (ok : Ok X cc own rm nL al) (d : decode cc pc = .ok (.astore_n j, 1)) (hi : (j : Nat) = i) (hn : i < nL) (hl : (i, vR x) :: lrm i lv = lv') (k : G X σ ce sl (pc + 1) lv' st) : G X σ ce sl pc lv (vR x :: st) := by
  obtain ⟨⟨p, l, e, R, s, m, args, below, meth, c⟩, D, dA, A, Q, ad0, σ0, al0, nL0⟩ := X
  obtain ⟨hx, hb, ho, rfl, hml, rfl, rfl, hts, hE, hA, hlk⟩ := ok
  intro ad H locs ls h1 h2 h3 h4 h5 h6 h7 h8
  obtain ⟨l2, e2, g2, g3⟩ := lv_has_put h6 h7 rfl hn hl
  cases x with
  | none => exact lv_astore_nN hx hb d hi h6 hn e2 (fun ls' h' => k ad H locs ls' h1 h2 h3 h4 h5 (g2 ls' h') g3 h8)
  | some a => exact lv_astore_n hx hb d hi h6 hn e2 (fun ls' h' => k ad H locs ls' h1 h2 h3 h4 h5 (g2 ls' h') g3 h8)

theorem g_astore {i : Nat} {x : Option Nat} (lv' : LV) (ok : Ok X cc own rm nL al) (d : decode cc pc = .ok (.astore i, 2)) (hn : i < nL) (hl : (i, vR x) :: lrm i lv = lv') (k : G X σ ce sl (pc + 2) lv' st) : G X σ ce sl pc lv (vR x :: st) := by
  obtain ⟨⟨p, l, e, R, s, m, args, below, meth, c⟩, D, dA, A, Q, ad0, σ0, al0, nL0⟩ := X
  obtain ⟨hx, hb, ho, rfl, hml, rfl, rfl, hts, hE, hA, hlk⟩ := ok
  intro ad H locs ls h1 h2 h3 h4 h5 h6 h7 h8
  obtain ⟨l2, e2, g2, g3⟩ := lv_has_put h6 h7 rfl hn hl
  cases x with
  | none => exact lv_astoreN hx hb d h6 hn e2 (fun ls' h' => k ad H locs ls' h1 h2 h3 h4 h5 (g2 ls' h') g3 h8)
  | some a => exact lv_astore hx hb d h6 hn e2 (fun ls' h' => k ad H locs ls' h1 h2 h3 h4 h5 (g2 ls' h') g3 h8)

theorem g_astorew_n {j : Fin 4} {i : Nat} {x : Nat} (lv' : LV) (ok : Ok X cc own rm nL al) (d : decode cc pc = .ok (.astore_n j, 1)) (hi : (j : Nat) = i) (hn : i < nL) (hl : (i, vW (.ref x)) :: lrm i lv = lv') (k : G X σ ce sl (pc + 1) lv' st) : G X σ ce sl pc lv (vW (.ref x) :: st) := by
  obtain ⟨⟨p, l, e, R, s, m, args, below, meth, c⟩, D, dA, A, Q, ad0, σ0, al0, nL0⟩ := X
  obtain ⟨hx, hb, ho, rfl, hml, rfl, rfl, hts, hE, hA, hlk⟩ := ok
  intro ad H locs ls h1 h2 h3 h4 h5 h6 h7 h8
  obtain ⟨l2, e2, g2, g3⟩ := lv_has_put h6 h7 rfl hn hl
  exact lv_astore_n hx hb d hi h6 hn e2 (fun ls' h' => k ad H locs ls' h1 h2 h3 h4 h5 (g2 ls' h') g3 h8)

theorem g_astorew {i : Nat} {x : Nat} (lv' : LV) (ok : Ok X cc own rm nL al) (d : decode cc pc = .ok (.astore i, 2)) (hn : i < nL) (hl : (i, vW (.ref x)) :: lrm i lv = lv') (k : G X σ ce sl (pc + 2) lv' st) : G X σ ce sl pc lv (vW (.ref x) :: st) := by
  obtain ⟨⟨p, l, e, R, s, m, args, below, meth, c⟩, D, dA, A, Q, ad0, σ0, al0, nL0⟩ := X
  obtain ⟨hx, hb, ho, rfl, hml, rfl, rfl, hts, hE, hA, hlk⟩ := ok
  intro ad H locs ls h1 h2 h3 h4 h5 h6 h7 h8
  obtain ⟨l2, e2, g2, g3⟩ := lv_has_put h6 h7 rfl hn hl
  exact lv_astore hx hb d h6 hn e2 (fun ls' h' => k ad H locs ls' h1 h2 h3 h4 h5 (g2 ls' h') g3 h8)

theorem g_iinc {i : Nat} {n : Int} {x v : Int32} (q : Nat) (lv' : LV) (ok : Ok X cc own rm nL al) (d : decode cc pc = .ok (.iinc i n, 3)) (hk : lv[q]? = some (i, vI x)) (hv : x + Int32.ofInt n = v) (hn : i < nL) (hl : (i, vI v) :: lrm i lv = lv') (k : G X σ ce sl (pc + 3) lv' st) : G X σ ce sl pc lv st := by
  obtain ⟨⟨p, l, e, R, s, m, args, below, meth, c⟩, D, dA, A, Q, ad0, σ0, al0, nL0⟩ := X
  obtain ⟨hx, hb, ho, rfl, hml, rfl, rfl, hts, hE, hA, hlk⟩ := ok
  intro ad H locs ls h1 h2 h3 h4 h5 h6 h7 h8
  obtain ⟨l2, e2, g2, g3⟩ := lv_has_put h6 h7 rfl hn hl
  exact lv_iinc hx hb d h6 (lvm_at (v := vI x) hk) hv hn e2 (fun ls' h' => k ad H locs ls' h1 h2 h3 h4 h5 (g2 ls' h') g3 h8)

theorem g_iadd {x y : Int32} (ok : Ok X cc own rm nL al) (d : decode cc pc = .ok (.iadd, 1)) (k : G X σ ce sl (pc + 1) lv (vI (x + y) :: st)) : G X σ ce sl pc lv (vI y :: vI x :: st) := by
  obtain ⟨⟨p, l, e, R, s, m, args, below, meth, c⟩, D, dA, A, Q, ad0, σ0, al0, nL0⟩ := X
  obtain ⟨hx, hb, ho, rfl, hml, rfl, rfl, hts, hE, hA, hlk⟩ := ok
  exact fun ad H locs ls h1 h2 h3 h4 h5 h6 h7 h8 => lv_iadd hx hb d (k ad H locs ls h1 h2 h3 h4 h5 h6 h7 h8)

theorem g_isub {x y : Int32} (ok : Ok X cc own rm nL al) (d : decode cc pc = .ok (.isub, 1)) (k : G X σ ce sl (pc + 1) lv (vI (x - y) :: st)) : G X σ ce sl pc lv (vI y :: vI x :: st) := by
  obtain ⟨⟨p, l, e, R, s, m, args, below, meth, c⟩, D, dA, A, Q, ad0, σ0, al0, nL0⟩ := X
  obtain ⟨hx, hb, ho, rfl, hml, rfl, rfl, hts, hE, hA, hlk⟩ := ok
  exact fun ad H locs ls h1 h2 h3 h4 h5 h6 h7 h8 => lv_isub hx hb d (k ad H locs ls h1 h2 h3 h4 h5 h6 h7 h8)

theorem g_imul {x y : Int32} (ok : Ok X cc own rm nL al) (d : decode cc pc = .ok (.imul, 1)) (k : G X σ ce sl (pc + 1) lv (vI (x * y) :: st)) : G X σ ce sl pc lv (vI y :: vI x :: st) := by
  obtain ⟨⟨p, l, e, R, s, m, args, below, meth, c⟩, D, dA, A, Q, ad0, σ0, al0, nL0⟩ := X
  obtain ⟨hx, hb, ho, rfl, hml, rfl, rfl, hts, hE, hA, hlk⟩ := ok
  exact fun ad H locs ls h1 h2 h3 h4 h5 h6 h7 h8 => lv_imul hx hb d (k ad H locs ls h1 h2 h3 h4 h5 h6 h7 h8)

theorem g_iand {x y : Int32} (ok : Ok X cc own rm nL al) (d : decode cc pc = .ok (.iand, 1)) (k : G X σ ce sl (pc + 1) lv (vI (x &&& y) :: st)) : G X σ ce sl pc lv (vI y :: vI x :: st) := by
  obtain ⟨⟨p, l, e, R, s, m, args, below, meth, c⟩, D, dA, A, Q, ad0, σ0, al0, nL0⟩ := X
  obtain ⟨hx, hb, ho, rfl, hml, rfl, rfl, hts, hE, hA, hlk⟩ := ok
  exact fun ad H locs ls h1 h2 h3 h4 h5 h6 h7 h8 => lv_iand hx hb d (k ad H locs ls h1 h2 h3 h4 h5 h6 h7 h8)

theorem g_ior {x y : Int32} (ok : Ok X cc own rm nL al) (d : decode cc pc = .ok (.ior, 1)) (k : G X σ ce sl (pc + 1) lv (vI (x ||| y) :: st)) : G X σ ce sl pc lv (vI y :: vI x :: st) := by
  obtain ⟨⟨p, l, e, R, s, m, args, below, meth, c⟩, D, dA, A, Q, ad0, σ0, al0, nL0⟩ := X
  obtain ⟨hx, hb, ho, rfl, hml, rfl, rfl, hts, hE, hA, hlk⟩ := ok
  exact fun ad H locs ls h1 h2 h3 h4 h5 h6 h7 h8 => lv_ior hx hb d (k ad H locs ls h1 h2 h3 h4 h5 h6 h7 h8)

theorem g_ixor {x y : Int32} (ok : Ok X cc own rm nL al) (d : decode cc pc = .ok (.ixor, 1)) (k : G X σ ce sl (pc + 1) lv (vI (x ^^^ y) :: st)) : G X σ ce sl pc lv (vI y :: vI x :: st) := by
  obtain ⟨⟨p, l, e, R, s, m, args, below, meth, c⟩, D, dA, A, Q, ad0, σ0, al0, nL0⟩ := X
  obtain ⟨hx, hb, ho, rfl, hml, rfl, rfl, hts, hE, hA, hlk⟩ := ok
  exact fun ad H locs ls h1 h2 h3 h4 h5 h6 h7 h8 => lv_ixor hx hb d (k ad H locs ls h1 h2 h3 h4 h5 h6 h7 h8)

theorem g_ishl {x y : Int32} (ok : Ok X cc own rm nL al) (d : decode cc pc = .ok (.ishl, 1)) (k : G X σ ce sl (pc + 1) lv (vI (x <<< (y &&& 31)) :: st)) : G X σ ce sl pc lv (vI y :: vI x :: st) := by
  obtain ⟨⟨p, l, e, R, s, m, args, below, meth, c⟩, D, dA, A, Q, ad0, σ0, al0, nL0⟩ := X
  obtain ⟨hx, hb, ho, rfl, hml, rfl, rfl, hts, hE, hA, hlk⟩ := ok
  exact fun ad H locs ls h1 h2 h3 h4 h5 h6 h7 h8 => lv_ishl hx hb d (k ad H locs ls h1 h2 h3 h4 h5 h6 h7 h8)

theorem g_ishr {x y : Int32} (ok : Ok X cc own rm nL al) (d : decode cc pc = .ok (.ishr, 1)) (k : G X σ ce sl (pc + 1) lv (vI (x >>> (y &&& 31)) :: st)) : G X σ ce sl pc lv (vI y :: vI x :: st) := by
  obtain ⟨⟨p, l, e, R, s, m, args, below, meth, c⟩, D, dA, A, Q, ad0, σ0, al0, nL0⟩ := X
  obtain ⟨hx, hb, ho, rfl, hml, rfl, rfl, hts, hE, hA, hlk⟩ := ok
  exact fun ad H locs ls h1 h2 h3 h4 h5 h6 h7 h8 => lv_ishr hx hb d (k ad H locs ls h1 h2 h3 h4 h5 h6 h7 h8)

theorem g_idiv {x y : Int32} (ok : Ok X cc own rm nL al) (d : decode cc pc = .ok (.idiv, 1)) (hne : ¬ y = 0) (k : G X σ ce sl (pc + 1) lv (vI (x / y) :: st)) : G X σ ce sl pc lv (vI y :: vI x :: st) := by
  obtain ⟨⟨p, l, e, R, s, m, args, below, meth, c⟩, D, dA, A, Q, ad0, σ0, al0, nL0⟩ := X
  obtain ⟨hx, hb, ho, rfl, hml, rfl, rfl, hts, hE, hA, hlk⟩ := ok
  exact fun ad H locs ls h1 h2 h3 h4 h5 h6 h7 h8 => lv_idiv hx hb d hne (k ad H locs ls h1 h2 h3 h4 h5 h6 h7 h8)

theorem g_irem {x y : Int32} (ok : Ok X cc own rm nL al) (d : decode cc pc = .ok (.irem, 1)) (hne : ¬ y = 0) (k : G X σ ce sl (pc + 1) lv (vI (x - x / y * y) :: st)) : G X σ ce sl pc lv (vI y :: vI x :: st) := by
  obtain ⟨⟨p, l, e, R, s, m, args, below, meth, c⟩, D, dA, A, Q, ad0, σ0, al0, nL0⟩ := X
  obtain ⟨hx, hb, ho, rfl, hml, rfl, rfl, hts, hE, hA, hlk⟩ := ok
  exact fun ad H locs ls h1 h2 h3 h4 h5 h6 h7 h8 => lv_irem hx hb d hne (k ad H locs ls h1 h2 h3 h4 h5 h6 h7 h8)

theorem g_ineg {x : Int32} (ok : Ok X cc own rm nL al) (d : decode cc pc = .ok (.ineg, 1)) (k : G X σ ce sl (pc + 1) lv (vI (-x) :: st)) : G X σ ce sl pc lv (vI x :: st) := by
  obtain ⟨⟨p, l, e, R, s, m, args, below, meth, c⟩, D, dA, A, Q, ad0, σ0, al0, nL0⟩ := X
  obtain ⟨hx, hb, ho, rfl, hml, rfl, rfl, hts, hE, hA, hlk⟩ := ok
  exact fun ad H locs ls h1 h2 h3 h4 h5 h6 h7 h8 => lv_ineg hx hb d (k ad H locs ls h1 h2 h3 h4 h5 h6 h7 h8)

theorem g_i2l {x : Int32} (ok : Ok X cc own rm nL al) (d : decode cc pc = .ok (.i2l, 1)) (k : G X σ ce sl (pc + 1) lv (vL x.toInt64 :: st)) : G X σ ce sl pc lv (vI x :: st) := by
  obtain ⟨⟨p, l, e, R, s, m, args, below, meth, c⟩, D, dA, A, Q, ad0, σ0, al0, nL0⟩ := X
  obtain ⟨hx, hb, ho, rfl, hml, rfl, rfl, hts, hE, hA, hlk⟩ := ok
  exact fun ad H locs ls h1 h2 h3 h4 h5 h6 h7 h8 => lv_i2l hx hb d rfl (k ad H locs ls h1 h2 h3 h4 h5 h6 h7 h8)

theorem g_l2i {x : Int64} (ok : Ok X cc own rm nL al) (d : decode cc pc = .ok (.l2i, 1)) (k : G X σ ce sl (pc + 1) lv (vI x.toInt32 :: st)) : G X σ ce sl pc lv (vL x :: st) := by
  obtain ⟨⟨p, l, e, R, s, m, args, below, meth, c⟩, D, dA, A, Q, ad0, σ0, al0, nL0⟩ := X
  obtain ⟨hx, hb, ho, rfl, hml, rfl, rfl, hts, hE, hA, hlk⟩ := ok
  exact fun ad H locs ls h1 h2 h3 h4 h5 h6 h7 h8 => lv_l2i hx hb d rfl (k ad H locs ls h1 h2 h3 h4 h5 h6 h7 h8)

theorem g_lconst {n : Fin 2} {v : Int64} (ok : Ok X cc own rm nL al) (d : decode cc pc = .ok (.lconst n, 1)) (hv : Int64.ofNat (n : Nat) = v) (k : G X σ ce sl (pc + 1) lv (vL v :: st)) : G X σ ce sl pc lv st := by
  obtain ⟨⟨p, l, e, R, s, m, args, below, meth, c⟩, D, dA, A, Q, ad0, σ0, al0, nL0⟩ := X
  obtain ⟨hx, hb, ho, rfl, hml, rfl, rfl, hts, hE, hA, hlk⟩ := ok
  exact fun ad H locs ls h1 h2 h3 h4 h5 h6 h7 h8 => lv_lconst hx hb d hv (k ad H locs ls h1 h2 h3 h4 h5 h6 h7 h8)

theorem g_ldc2 {i : Nat} {v : Int64} (ok : Ok X cc own rm nL al) (d : decode cc pc = .ok (.ldc2_w i, 3)) (hw : (Jvm.Cond.constantLong own i v) ∈ TT) (k : G X σ ce sl (pc + 3) lv (vL v :: st)) : G X σ ce sl pc lv st := by
  obtain ⟨⟨p, l, e, R, s, m, args, below, meth, c⟩, D, dA, A, Q, ad0, σ0, al0, nL0⟩ := X
  obtain ⟨hx, hb, ho, rfl, hml, rfl, rfl, hts, hE, hA, hlk⟩ := ok
  exact fun ad H locs ls h1 h2 h3 h4 h5 h6 h7 h8 => lv_ldc2 hx hb ho (hts _ hw) d (k ad H locs ls h1 h2 h3 h4 h5 h6 h7 h8)

theorem g_ladd {x y : Int64} (ok : Ok X cc own rm nL al) (d : decode cc pc = .ok (.ladd, 1)) (k : G X σ ce sl (pc + 1) lv (vL (x + y) :: st)) : G X σ ce sl pc lv (vL y :: vL x :: st) := by
  obtain ⟨⟨p, l, e, R, s, m, args, below, meth, c⟩, D, dA, A, Q, ad0, σ0, al0, nL0⟩ := X
  obtain ⟨hx, hb, ho, rfl, hml, rfl, rfl, hts, hE, hA, hlk⟩ := ok
  exact fun ad H locs ls h1 h2 h3 h4 h5 h6 h7 h8 => lv_ladd hx hb d (k ad H locs ls h1 h2 h3 h4 h5 h6 h7 h8)

theorem g_lmul {x y : Int64} (ok : Ok X cc own rm nL al) (d : decode cc pc = .ok (.lmul, 1)) (k : G X σ ce sl (pc + 1) lv (vL (x * y) :: st)) : G X σ ce sl pc lv (vL y :: vL x :: st) := by
  obtain ⟨⟨p, l, e, R, s, m, args, below, meth, c⟩, D, dA, A, Q, ad0, σ0, al0, nL0⟩ := X
  obtain ⟨hx, hb, ho, rfl, hml, rfl, rfl, hts, hE, hA, hlk⟩ := ok
  exact fun ad H locs ls h1 h2 h3 h4 h5 h6 h7 h8 => lv_lmul hx hb d (k ad H locs ls h1 h2 h3 h4 h5 h6 h7 h8)

theorem g_lcmp {x y : Int64} (ok : Ok X cc own rm nL al) (d : decode cc pc = .ok (.lcmp, 1)) (k : G X σ ce sl (pc + 1) lv (vI (if x = y then 0 else if y < x then 1 else -1) :: st)) : G X σ ce sl pc lv (vL y :: vL x :: st) := by
  obtain ⟨⟨p, l, e, R, s, m, args, below, meth, c⟩, D, dA, A, Q, ad0, σ0, al0, nL0⟩ := X
  obtain ⟨hx, hb, ho, rfl, hml, rfl, rfl, hts, hE, hA, hlk⟩ := ok
  exact fun ad H locs ls h1 h2 h3 h4 h5 h6 h7 h8 => W.lcmp hx hb d (lcmp_eq (x := x) (y := y) ▸ k ad H locs ls h1 h2 h3 h4 h5 h6 h7 h8)

theorem g_pop2 {x : Int64} (ok : Ok X cc own rm nL al) (d : decode cc pc = .ok (.pop2, 1)) (k : G X σ ce sl (pc + 1) lv st) : G X σ ce sl pc lv (vL x :: st) := by
  obtain ⟨⟨p, l, e, R, s, m, args, below, meth, c⟩, D, dA, A, Q, ad0, σ0, al0, nL0⟩ := X
  obtain ⟨hx, hb, ho, rfl, hml, rfl, rfl, hts, hE, hA, hlk⟩ := ok
  exact fun ad H locs ls h1 h2 h3 h4 h5 h6 h7 h8 => lv_pop2_2 hx hb d (va := .long x) rfl (k ad H locs ls h1 h2 h3 h4 h5 h6 h7 h8)

theorem g_dup {v : PV} (ok : Ok X cc own rm nL al) (d : decode cc pc = .ok (.dup, 1)) (hv : cat1 v = true) (k : G X σ ce sl (pc + 1) lv (v :: v :: st)) : G X σ ce sl pc lv (v :: st) := by
  obtain ⟨⟨p, l, e, R, s, m, args, below, meth, c⟩, D, dA, A, Q, ad0, σ0, al0, nL0⟩ := X
  obtain ⟨hx, hb, ho, rfl, hml, rfl, rfl, hts, hE, hA, hlk⟩ := ok
  exact fun ad H locs ls h1 h2 h3 h4 h5 h6 h7 h8 => lv_dup hx hb d (tv_cat hv) (k ad H locs ls h1 h2 h3 h4 h5 h6 h7 h8)

theorem g_dup2 {v u : PV} (ok : Ok X cc own rm nL al) (d : decode cc pc = .ok (.dup2, 1)) (hv : cat1 v = true) (hu : cat1 u = true) (k : G X σ ce sl (pc + 1) lv (v :: u :: v :: u :: st)) : G X σ ce sl pc lv (v :: u :: st) := by
  obtain ⟨⟨p, l, e, R, s, m, args, below, meth, c⟩, D, dA, A, Q, ad0, σ0, al0, nL0⟩ := X
  obtain ⟨hx, hb, ho, rfl, hml, rfl, rfl, hts, hE, hA, hlk⟩ := ok
  exact fun ad H locs ls h1 h2 h3 h4 h5 h6 h7 h8 => lv_dup2_11 hx hb d (tv_cat hv) (tv_cat hu) (k ad H locs ls h1 h2 h3 h4 h5 h6 h7 h8)

theorem g_pop {v : PV} (ok : Ok X cc own rm nL al) (d : decode cc pc = .ok (.pop, 1)) (hv : cat1 v = true) (k : G X σ ce sl (pc + 1) lv st) : G X σ ce sl pc lv (v :: st) := by
  obtain ⟨⟨p, l, e, R, s, m, args, below, meth, c⟩, D, dA, A, Q, ad0, σ0, al0, nL0⟩ := X
  obtain ⟨hx, hb, ho, rfl, hml, rfl, rfl, hts, hE, hA, hlk⟩ := ok
  exact fun ad H locs ls h1 h2 h3 h4 h5 h6 h7 h8 => lv_pop hx hb d (tv_cat hv) (k ad H locs ls h1 h2 h3 h4 h5 h6 h7 h8)

theorem g_goto {off : Int} {tgt : Nat} (ok : Ok X cc own rm nL al) (d : decode cc pc = .ok (.goto off, 3)) (ht : (pc : Int) + off = (tgt : Int)) (k : G X σ ce sl tgt lv st) : G X σ ce sl pc lv st := by
  obtain ⟨⟨p, l, e, R, s, m, args, below, meth, c⟩, D, dA, A, Q, ad0, σ0, al0, nL0⟩ := X
  obtain ⟨hx, hb, ho, rfl, hml, rfl, rfl, hts, hE, hA, hlk⟩ := ok
  exact fun ad H locs ls h1 h2 h3 h4 h5 h6 h7 h8 => lv_goto hx hb d ht (k ad H locs ls h1 h2 h3 h4 h5 h6 h7 h8)

theorem g_if_eq {x : Int32} {off : Int} {tgt : Nat} (ok : Ok X cc own rm nL al) (d : decode cc pc = .ok (.ifCond .eq off, 3)) (ht : (pc : Int) + off = (tgt : Int)) (kt : x = 0 → G X σ ce sl tgt lv st) (kf : ¬ x = 0 → G X σ ce sl (pc + 3) lv st) : G X σ ce sl pc lv (vI x :: st) := by
  obtain ⟨⟨p, l, e, R, s, m, args, below, meth, c⟩, D, dA, A, Q, ad0, σ0, al0, nL0⟩ := X
  obtain ⟨hx, hb, ho, rfl, hml, rfl, rfl, hts, hE, hA, hlk⟩ := ok
  exact fun ad H locs ls h1 h2 h3 h4 h5 h6 h7 h8 => lv_if_eq hx hb d ht (fun z => kt z ad H locs ls h1 h2 h3 h4 h5 h6 h7 h8) (fun z => kf z ad H locs ls h1 h2 h3 h4 h5 h6 h7 h8)

theorem g_if_ne {x : Int32} {off : Int} {tgt : Nat} (ok : Ok X cc own rm nL al) (d : decode cc pc = .ok (.ifCond .ne off, 3)) (ht : (pc : Int) + off = (tgt : Int)) (kt : x = 0 → G X σ ce sl (pc + 3) lv st) (kf : ¬ x = 0 → G X σ ce sl tgt lv st) : G X σ ce sl pc lv (vI x :: st) := by
  obtain ⟨⟨p, l, e, R, s, m, args, below, meth, c⟩, D, dA, A, Q, ad0, σ0, al0, nL0⟩ := X
  obtain ⟨hx, hb, ho, rfl, hml, rfl, rfl, hts, hE, hA, hlk⟩ := ok
  exact fun ad H locs ls h1 h2 h3 h4 h5 h6 h7 h8 => lv_if_ne hx hb d ht (fun z => kf z ad H locs ls h1 h2 h3 h4 h5 h6 h7 h8) (fun z => kt z ad H locs ls h1 h2 h3 h4 h5 h6 h7 h8)

theorem g_if_lt {x : Int32} {off : Int} {tgt : Nat} (ok : Ok X cc own rm nL al) (d : decode cc pc = .ok (.ifCond .lt off, 3)) (ht : (pc : Int) + off = (tgt : Int)) (kt : x < 0 → G X σ ce sl tgt lv st) (kf : ¬ x < 0 → G X σ ce sl (pc + 3) lv st) : G X σ ce sl pc lv (vI x :: st) := by
  obtain ⟨⟨p, l, e, R, s, m, args, below, meth, c⟩, D, dA, A, Q, ad0, σ0, al0, nL0⟩ := X
  obtain ⟨hx, hb, ho, rfl, hml, rfl, rfl, hts, hE, hA, hlk⟩ := ok
  exact fun ad H locs ls h1 h2 h3 h4 h5 h6 h7 h8 => lv_if_lt hx hb d ht (fun z => kt z ad H locs ls h1 h2 h3 h4 h5 h6 h7 h8) (fun z => kf z ad H locs ls h1 h2 h3 h4 h5 h6 h7 h8)

theorem g_if_ge {x : Int32} {off : Int} {tgt : Nat} (ok : Ok X cc own rm nL al) (d : decode cc pc = .ok (.ifCond .ge off, 3)) (ht : (pc : Int) + off = (tgt : Int)) (kt : x < 0 → G X σ ce sl (pc + 3) lv st) (kf : ¬ x < 0 → G X σ ce sl tgt lv st) : G X σ ce sl pc lv (vI x :: st) := by
  obtain ⟨⟨p, l, e, R, s, m, args, below, meth, c⟩, D, dA, A, Q, ad0, σ0, al0, nL0⟩ := X
  obtain ⟨hx, hb, ho, rfl, hml, rfl, rfl, hts, hE, hA, hlk⟩ := ok
  exact fun ad H locs ls h1 h2 h3 h4 h5 h6 h7 h8 => lv_if_ge hx hb d ht (fun z => kf (i32_nlt z) ad H locs ls h1 h2 h3 h4 h5 h6 h7 h8) (fun z => kt (i32_lt z) ad H locs ls h1 h2 h3 h4 h5 h6 h7 h8)

theorem g_if_gt {x : Int32} {off : Int} {tgt : Nat} (ok : Ok X cc own rm nL al) (d : decode cc pc = .ok (.ifCond .gt off, 3)) (ht : (pc : Int) + off = (tgt : Int)) (kt : 0 < x → G X σ ce sl tgt lv st) (kf : ¬ 0 < x → G X σ ce sl (pc + 3) lv st) : G X σ ce sl pc lv (vI x :: st) := by
  obtain ⟨⟨p, l, e, R, s, m, args, below, meth, c⟩, D, dA, A, Q, ad0, σ0, al0, nL0⟩ := X
  obtain ⟨hx, hb, ho, rfl, hml, rfl, rfl, hts, hE, hA, hlk⟩ := ok
  exact fun ad H locs ls h1 h2 h3 h4 h5 h6 h7 h8 => lv_if_gt hx hb d ht (fun z => kt z ad H locs ls h1 h2 h3 h4 h5 h6 h7 h8) (fun z => kf z ad H locs ls h1 h2 h3 h4 h5 h6 h7 h8)

theorem g_if_le {x : Int32} {off : Int} {tgt : Nat} (ok : Ok X cc own rm nL al) (d : decode cc pc = .ok (.ifCond .le off, 3)) (ht : (pc : Int) + off = (tgt : Int)) (kt : 0 < x → G X σ ce sl (pc + 3) lv st) (kf : ¬ 0 < x → G X σ ce sl tgt lv st) : G X σ ce sl pc lv (vI x :: st) := by
  obtain ⟨⟨p, l, e, R, s, m, args, below, meth, c⟩, D, dA, A, Q, ad0, σ0, al0, nL0⟩ := X
  obtain ⟨hx, hb, ho, rfl, hml, rfl, rfl, hts, hE, hA, hlk⟩ := ok
  exact fun ad H locs ls h1 h2 h3 h4 h5 h6 h7 h8 => lv_if_le hx hb d ht (fun z => kf (i32_nlt z) ad H locs ls h1 h2 h3 h4 h5 h6 h7 h8) (fun z => kt (i32_lt z) ad H locs ls h1 h2 h3 h4 h5 h6 h7 h8)

theorem g_icmp_eq {x y : Int32} {off : Int} {tgt : Nat} (ok : Ok X cc own rm nL al) (d : decode cc pc = .ok (.if_icmp .eq off, 3)) (ht : (pc : Int) + off = (tgt : Int)) (kt : x = y → G X σ ce sl tgt lv st) (kf : ¬ x = y → G X σ ce sl (pc + 3) lv st) : G X σ ce sl pc lv (vI y :: vI x :: st) := by
  obtain ⟨⟨p, l, e, R, s, m, args, below, meth, c⟩, D, dA, A, Q, ad0, σ0, al0, nL0⟩ := X
  obtain ⟨hx, hb, ho, rfl, hml, rfl, rfl, hts, hE, hA, hlk⟩ := ok
  exact fun ad H locs ls h1 h2 h3 h4 h5 h6 h7 h8 => lv_icmp_eq hx hb d ht (fun z => kt z ad H locs ls h1 h2 h3 h4 h5 h6 h7 h8) (fun z => kf z ad H locs ls h1 h2 h3 h4 h5 h6 h7 h8)

theorem g_icmp_ne {x y : Int32} {off : Int} {tgt : Nat} (ok : Ok X cc own rm nL al) (d : decode cc pc = .ok (.if_icmp .ne off, 3)) (ht : (pc : Int) + off = (tgt : Int)) (kt : x = y → G X σ ce sl (pc + 3) lv st) (kf : ¬ x = y → G X σ ce sl tgt lv st) : G X σ ce sl pc lv (vI y :: vI x :: st) := by
  obtain ⟨⟨p, l, e, R, s, m, args, below, meth, c⟩, D, dA, A, Q, ad0, σ0, al0, nL0⟩ := X
  obtain ⟨hx, hb, ho, rfl, hml, rfl, rfl, hts, hE, hA, hlk⟩ := ok
  exact fun ad H locs ls h1 h2 h3 h4 h5 h6 h7 h8 => lv_icmp_ne hx hb d ht (fun z => kf z ad H locs ls h1 h2 h3 h4 h5 h6 h7 h8) (fun z => kt z ad H locs ls h1 h2 h3 h4 h5 h6 h7 h8)

theorem g_icmp_lt {x y : Int32} {off : Int} {tgt : Nat} (ok : Ok X cc own rm nL al) (d : decode cc pc = .ok (.if_icmp .lt off, 3)) (ht : (pc : Int) + off = (tgt : Int)) (kt : x < y → G X σ ce sl tgt lv st) (kf : ¬ x < y → G X σ ce sl (pc + 3) lv st) : G X σ ce sl pc lv (vI y :: vI x :: st) := by
  obtain ⟨⟨p, l, e, R, s, m, args, below, meth, c⟩, D, dA, A, Q, ad0, σ0, al0, nL0⟩ := X
  obtain ⟨hx, hb, ho, rfl, hml, rfl, rfl, hts, hE, hA, hlk⟩ := ok
  exact fun ad H locs ls h1 h2 h3 h4 h5 h6 h7 h8 => lv_icmp_lt hx hb d ht (fun z => kt z ad H locs ls h1 h2 h3 h4 h5 h6 h7 h8) (fun z => kf z ad H locs ls h1 h2 h3 h4 h5 h6 h7 h8)

theorem g_icmp_ge {x y : Int32} {off : Int} {tgt : Nat} (ok : Ok X cc own rm nL al) (d : decode cc pc = .ok (.if_icmp .ge off, 3)) (ht : (pc : Int) + off = (tgt : Int)) (kt : x < y → G X σ ce sl (pc + 3) lv st) (kf : ¬ x < y → G X σ ce sl tgt lv st) : G X σ ce sl pc lv (vI y :: vI x :: st) := by
  obtain ⟨⟨p, l, e, R, s, m, args, below, meth, c⟩, D, dA, A, Q, ad0, σ0, al0, nL0⟩ := X
  obtain ⟨hx, hb, ho, rfl, hml, rfl, rfl, hts, hE, hA, hlk⟩ := ok
  exact fun ad H locs ls h1 h2 h3 h4 h5 h6 h7 h8 => lv_icmp_ge hx hb d ht (fun z => kf (i32_nlt z) ad H locs ls h1 h2 h3 h4 h5 h6 h7 h8) (fun z => kt (i32_lt z) ad H locs ls h1 h2 h3 h4 h5 h6 h7 h8)

theorem g_icmp_gt {x y : Int32} {off : Int} {tgt : Nat} (ok : Ok X cc own rm nL al) (d : decode cc pc = .ok (.if_icmp .gt off, 3)) (ht : (pc : Int) + off = (tgt : Int)) (kt : y < x → G X σ ce sl tgt lv st) (kf : ¬ y < x → G X σ ce sl (pc + 3) lv st) : G X σ ce sl pc lv (vI y :: vI x :: st) := by
  obtain ⟨⟨p, l, e, R, s, m, args, below, meth, c⟩, D, dA, A, Q, ad0, σ0, al0, nL0⟩ := X
  obtain ⟨hx, hb, ho, rfl, hml, rfl, rfl, hts, hE, hA, hlk⟩ := ok
  exact fun ad H locs ls h1 h2 h3 h4 h5 h6 h7 h8 => lv_icmp_gt hx hb d ht (fun z => kt z ad H locs ls h1 h2 h3 h4 h5 h6 h7 h8) (fun z => kf z ad H locs ls h1 h2 h3 h4 h5 h6 h7 h8)

theorem g_icmp_le {x y : Int32} {off : Int} {tgt : Nat} (ok : Ok X cc own rm nL al) (d : decode cc pc = .ok (.if_icmp .le off, 3)) (ht : (pc : Int) + off = (tgt : Int)) (kt : y < x → G X σ ce sl (pc + 3) lv st) (kf : ¬ y < x → G X σ ce sl tgt lv st) : G X σ ce sl pc lv (vI y :: vI x :: st) := by
  obtain ⟨⟨p, l, e, R, s, m, args, below, meth, c⟩, D, dA, A, Q, ad0, σ0, al0, nL0⟩ := X
  obtain ⟨hx, hb, ho, rfl, hml, rfl, rfl, hts, hE, hA, hlk⟩ := ok
  exact fun ad H locs ls h1 h2 h3 h4 h5 h6 h7 h8 => lv_icmp_le hx hb d ht (fun z => kf (i32_nlt z) ad H locs ls h1 h2 h3 h4 h5 h6 h7 h8) (fun z => kt (i32_lt z) ad H locs ls h1 h2 h3 h4 h5 h6 h7 h8)

theorem g_ifnull {r : Option Nat} {off : Int} {tgt : Nat} (ok : Ok X cc own rm nL al) (d : decode cc pc = .ok (.ifnull off, 3)) (ht : (pc : Int) + off = (tgt : Int)) (kt : r = none → G X σ ce sl tgt lv st) (kf : ¬ r = none → G X σ ce sl (pc + 3) lv st) : G X σ ce sl pc lv (vR r :: st) := by
  obtain ⟨⟨p, l, e, R, s, m, args, below, meth, c⟩, D, dA, A, Q, ad0, σ0, al0, nL0⟩ := X
  obtain ⟨hx, hb, ho, rfl, hml, rfl, rfl, hts, hE, hA, hlk⟩ := ok
  intro ad H locs ls h1 h2 h3 h4 h5 h6 h7 h8
  cases r with
  | none => exact lv_ifnullN hx hb d ht (kt rfl ad H locs ls h1 h2 h3 h4 h5 h6 h7 h8)
  | some a => exact lv_ifnull hx hb d (kf (fun z => by cases z) ad H locs ls h1 h2 h3 h4 h5 h6 h7 h8)

theorem g_ifnonnull {r : Option Nat} {off : Int} {tgt : Nat} (ok : Ok X cc own rm nL al) (d : decode cc pc = .ok (.ifnonnull off, 3)) (ht : (pc : Int) + off = (tgt : Int)) (kt : r = none → G X σ ce sl (pc + 3) lv st) (kf : ¬ r = none → G X σ ce sl tgt lv st) : G X σ ce sl pc lv (vR r :: st) := by
  obtain ⟨⟨p, l, e, R, s, m, args, below, meth, c⟩, D, dA, A, Q, ad0, σ0, al0, nL0⟩ := X
  obtain ⟨hx, hb, ho, rfl, hml, rfl, rfl, hts, hE, hA, hlk⟩ := ok
  intro ad H locs ls h1 h2 h3 h4 h5 h6 h7 h8
  cases r with
  | none => exact lv_ifnonnullN hx hb d (kt rfl ad H locs ls h1 h2 h3 h4 h5 h6 h7 h8)
  | some a => exact lv_ifnonnull hx hb d ht (kf (fun z => by cases z) ad H locs ls h1 h2 h3 h4 h5 h6 h7 h8)

theorem g_tabIn {dflt lo hi : Int} {offs : Array Int} {len : Nat} {x : Int32} {off : Int} {tgt : Nat} (ok : Ok X cc own rm nL al) (d : decode cc pc = .ok (.tableswitch dflt lo hi offs, len)) (h1 : ¬ x.toInt < lo) (h2 : ¬ hi < x.toInt) (h3 : offs[(x.toInt - lo).toNat]? = some off) (ht : (pc : Int) + off = (tgt : Int)) (k : G X σ ce sl tgt lv st) : G X σ ce sl pc lv (vI x :: st) := by
  obtain ⟨⟨p, l, e, R, s, m, args, below, meth, c⟩, D, dA, A, Q, ad0, σ0, al0, nL0⟩ := X
  obtain ⟨hx, hb, ho, rfl, hml, rfl, rfl, hts, hE, hA, hlk⟩ := ok
  exact fun ad H locs ls h1' h2' h3' h4' h5' h6' h7' h8' => lv_tableIn hx hb d h1 h2 h3 ht (k ad H locs ls h1' h2' h3' h4' h5' h6' h7' h8')

theorem g_tabOut {dflt lo hi : Int} {offs : Array Int} {len : Nat} {x : Int32} {tgt : Nat} (ok : Ok X cc own rm nL al) (d : decode cc pc = .ok (.tableswitch dflt lo hi offs, len)) (h : x.toInt < lo ∨ hi < x.toInt) (ht : (pc : Int) + dflt = (tgt : Int)) (k : G X σ ce sl tgt lv st) : G X σ ce sl pc lv (vI x :: st) := by
  obtain ⟨⟨p, l, e, R, s, m, args, below, meth, c⟩, D, dA, A, Q, ad0, σ0, al0, nL0⟩ := X
  obtain ⟨hx, hb, ho, rfl, hml, rfl, rfl, hts, hE, hA, hlk⟩ := ok
  exact fun ad H locs ls h1 h2 h3 h4 h5 h6 h7 h8 => lv_tableOut hx hb d h ht (k ad H locs ls h1 h2 h3 h4 h5 h6 h7 h8)

theorem g_sub (ks : List Nat) {lv' : LV} (hl : lpk lv ks = lv') (k : G X σ ce sl pc lv' st) : G X σ ce sl pc lv st := by
  obtain ⟨⟨p, l, e, R, s, m, args, below, meth, c⟩, D, dA, A, Q, ad0, σ0, al0, nL0⟩ := X
  refine fun ad H locs ls h1 h2 h3 h4 h5 h6 h7 h8 => k ad H locs ls h1 h2 h3 h4 h5 ⟨h6.1, h6.2.1, fun q hq => h6.2.2 q ?_⟩ trivial h8
  subst hl
  obtain ⟨a, ha, rfl⟩ := List.mem_map.mp hq
  obtain ⟨i, -, hi⟩ := List.mem_filterMap.mp ha
  exact List.mem_map.mpr ⟨a, List.mem_of_getElem? hi, rfl⟩

theorem g_widen {ce' sl' : Nat} (h1 : ce ≤ ce') (h2 : sl ≤ sl') (k : G X σ ce' sl' pc lv st) : G X σ ce sl pc lv st := by
  obtain ⟨⟨p, l, e, R, s, m, args, below, meth, c⟩, D, dA, A, Q, ad0, σ0, al0, nL0⟩ := X
  exact fun ad H locs ls a1 a2 a3 a4 a5 a6 a7 a8 => W.widen h1 h2 (k ad H locs ls a1 a2 a3 a4 a5 a6 a7 a8)

theorem g_geti {s0 j ci k0 : Nat} {sg : List Bool} {C ref : String} {T : u_T} {N ix : Nat} {r : Option Nat} (ok : Ok X cc own rm nL al) (hr : rf σ.2.2 s0 r = some k0) (hl : lay s0 = .inl (ci, sg)) (hc : vwCl[ci]? = some (C, T, N)) (hin : ∀ w ∈ u_ws C T N, w ∈ TT) (hj : j < N) (hs : sg[j]? = some false) (hw : (Cond.fieldLink own ix ref (T j).2.1 (T j).2.2.1) ∈ TT) (hR : (T j).1 = ref) (d : decode cc pc = .ok (.getfield ix, 3)) (k : G X σ ce sl (pc + 3) lv (vI (σ.1 k0 j) :: st)) : G X σ ce sl pc lv (vR r :: st) := by
  obtain ⟨⟨p, l, e, R, s, m, args, below, meth, c⟩, D, dA, A, Q, ad0, σ0, al0, nL0⟩ := X
  obtain ⟨hx, hb, ho, rfl, hml, rfl, rfl, hts, hE, hA, hlk⟩ := ok
  intro ad H locs ls h1 h2 h3 h4 h5 h6 h7 h8
  obtain ⟨rfl, hk0, hdm⟩ := rf_spec hr
  subst hk0
  have hP : va_P D vwCl [(ad k0, .inr (ci, fl ad σ k0 sg 0))] H := fun i q hq => by
    match i, hq with
    | 0, hq => cases hq; rw [← show en dA ad σ k0 = _ from en_o hl]; exact h1.1 k0 hdm
  refine va_get (D := D) (ci := ci) (v := .int (σ.1 k0 j)) (C := C) (T := T) (N := N) hx hb hts hin ho hE.2 hP 0 rfl hc j hj (hts _ hw) (fun x hx => by rw [← hR]; exact hx) ?_ d (k ad H locs ls h1 h2 h3 h4 h5 h6 h7 h8)
  rw [fl_at ad σ k0 sg 0 j false hs, Nat.zero_add]; rfl

theorem g_getr {s0 j ci k0 : Nat} {sg : List Bool} {C ref : String} {T : u_T} {N ix : Nat} {r : Option Nat} (ok : Ok X cc own rm nL al) (hr : rf σ.2.2 s0 r = some k0) (hl : lay s0 = .inl (ci, sg)) (hc : vwCl[ci]? = some (C, T, N)) (hin : ∀ w ∈ u_ws C T N, w ∈ TT) (hj : j < N) (hs : sg[j]? = some true) (hw : (Cond.fieldLink own ix ref (T j).2.1 (T j).2.2.1) ∈ TT) (hR : (T j).1 = ref) (d : decode cc pc = .ok (.getfield ix, 3)) (k : G X σ ce sl (pc + 3) lv (vR (σ.2.1 k0 j) :: st)) : G X σ ce sl pc lv (vR r :: st) := by
  obtain ⟨⟨p, l, e, R, s, m, args, below, meth, c⟩, D, dA, A, Q, ad0, σ0, al0, nL0⟩ := X
  obtain ⟨hx, hb, ho, rfl, hml, rfl, rfl, hts, hE, hA, hlk⟩ := ok
  intro ad H locs ls h1 h2 h3 h4 h5 h6 h7 h8
  obtain ⟨rfl, hk0, hdm⟩ := rf_spec hr
  subst hk0
  have hP : va_P D vwCl [(ad k0, .inr (ci, fl ad σ k0 sg 0))] H := fun i q hq => by
    match i, hq with
    | 0, hq => cases hq; rw [← show en dA ad σ k0 = _ from en_o hl]; exact h1.1 k0 hdm
  refine va_get (D := D) (ci := ci) (v := va_rf ((σ.2.1 k0 j).map ad)) (C := C) (T := T) (N := N) hx hb hts hin ho hE.2 hP 0 rfl hc j hj (hts _ hw) (fun x hx => by rw [← hR]; exact hx) ?_ d (k ad H locs ls h1 h2 h3 h4 h5 h6 h7 h8)
  rw [fl_at ad σ k0 sg 0 j true hs, Nat.zero_add]; rfl

theorem g_getiN {host : String} {s0 j ci k0 : Nat} {sg : List Bool} {C ref : String} {T : u_T} {N ix : Nat} {r : Option Nat} (ok : Ok X cc own rm nL al) (hr : rf σ.2.2 s0 r = some k0) (hl : lay s0 = .inl (ci, sg)) (hc : vwCl[ci]? = some (C, T, N)) (hin : ∀ w ∈ u_ws C T N, w ∈ TT) (hj : j < N) (hs : sg[j]? = some false) (hw : (Cond.fieldLinkNest own ix ref (T j).2.1 (T j).2.2.1 host) ∈ TT) (hR : (T j).1 = ref) (d : decode cc pc = .ok (.getfield ix, 3)) (k : G X σ ce sl (pc + 3) lv (vI (σ.1 k0 j) :: st)) : G X σ ce sl pc lv (vR r :: st) := by
  obtain ⟨⟨p, l, e, R, s, m, args, below, meth, c⟩, D, dA, A, Q, ad0, σ0, al0, nL0⟩ := X
  obtain ⟨hx, hb, ho, rfl, hml, rfl, rfl, hts, hE, hA, hlk⟩ := ok
  intro ad H locs ls h1 h2 h3 h4 h5 h6 h7 h8
  obtain ⟨rfl, hk0, hdm⟩ := rf_spec hr
  subst hk0
  have hP : va_P D vwCl [(ad k0, .inr (ci, fl ad σ k0 sg 0))] H := fun i q hq => by
    match i, hq with
    | 0, hq => cases hq; rw [← show en dA ad σ k0 = _ from en_o hl]; exact h1.1 k0 hdm
  refine va_getN (D := D) (ci := ci) (v := .int (σ.1 k0 j)) (C := C) (T := T) (N := N) hx hb hts hin ho hE.2 hP 0 rfl hc j hj (hts _ hw) (fun x hx => by rw [← hR]; exact hx) ?_ d (k ad H locs ls h1 h2 h3 h4 h5 h6 h7 h8)
  rw [fl_at ad σ k0 sg 0 j false hs, Nat.zero_add]; rfl

theorem g_getrN {host : String} {s0 j ci k0 : Nat} {sg : List Bool} {C ref : String} {T : u_T} {N ix : Nat} {r : Option Nat} (ok : Ok X cc own rm nL al) (hr : rf σ.2.2 s0 r = some k0) (hl : lay s0 = .inl (ci, sg)) (hc : vwCl[ci]? = some (C, T, N)) (hin : ∀ w ∈ u_ws C T N, w ∈ TT) (hj : j < N) (hs : sg[j]? = some true) (hw : (Cond.fieldLinkNest own ix ref (T j).2.1 (T j).2.2.1 host) ∈ TT) (hR : (T j).1 = ref) (d : decode cc pc = .ok (.getfield ix, 3)) (k : G X σ ce sl (pc + 3) lv (vR (σ.2.1 k0 j) :: st)) : G X σ ce sl pc lv (vR r :: st) := by
  obtain ⟨⟨p, l, e, R, s, m, args, below, meth, c⟩, D, dA, A, Q, ad0, σ0, al0, nL0⟩ := X
  obtain ⟨hx, hb, ho, rfl, hml, rfl, rfl, hts, hE, hA, hlk⟩ := ok
  intro ad H locs ls h1 h2 h3 h4 h5 h6 h7 h8
  obtain ⟨rfl, hk0, hdm⟩ := rf_spec hr
  subst hk0
  have hP : va_P D vwCl [(ad k0, .inr (ci, fl ad σ k0 sg 0))] H := fun i q hq => by
    match i, hq with
    | 0, hq => cases hq; rw [← show en dA ad σ k0 = _ from en_o hl]; exact h1.1 k0 hdm
  refine va_getN (D := D) (ci := ci) (v := va_rf ((σ.2.1 k0 j).map ad)) (C := C) (T := T) (N := N) hx hb hts hin ho hE.2 hP 0 rfl hc j hj (hts _ hw) (fun x hx => by rw [← hR]; exact hx) ?_ d (k ad H locs ls h1 h2 h3 h4 h5 h6 h7 h8)
  rw [fl_at ad σ k0 sg 0 j true hs, Nat.zero_add]; rfl

theorem gw_put {D : va_G} {p : Program} {l : Launch} {e : Env} {R : Room} {s : State} {m : MethodId} {args : Array Value} {below : List Frame} {meth : Method} {c : Code} {H : Heap} {locs : List Loc} {cells slots : Nat} {Q : State → Prop} {cc : ByteArray} {pc : Nat} {ls : Array Slot} {rest : List Value} {tys : List (ClassId × FieldType)} {a : Nat}
    (hexec : p.tables.exec = Jvm.exec) (hb : c.code = cc) {own ref C : String} {T : u_T} {N ci index : Nat} (hts : ∀ w ∈ TT, w.before args s = true) (hin : ∀ w ∈ u_ws C T N, w ∈ TT) (ty0 : Nat → FieldType) (hty : ∀ k, k < N → parseFieldDescriptor (T k).2.2.1 = some (ty0 k)) (hnm : ∀ a, a < N → ∀ b, b < N → a ≠ b → (T a).2.1 ≠ (T b).2.1) (hown : s.vm.findClass own = some m.cls) (hK : va_K D vwCl tys s) {fs : List Value} (hat : va_at D vwCl (a, .inr (ci, fs)) H) (hc : vwCl[ci]? = some (C, T, N)) (k : Nat) (hk : k < N)
    (hlink : (Cond.fieldLink own index ref (T k).2.1 (T k).2.2.1).before args s = true ∨ ∃ host, (Cond.fieldLinkNest own index ref (T k).2.1 (T k).2.2.1 host).before args s = true) (hR : (T k).1 = ref) (hfin : (T k).2.2.2 = false ∨ ((T k).2.2.2 = true ∧ meth.name = "<init>" ∧ (T k).1 = own ∧ (Cond.fieldLink own index ref (T k).2.1 (T k).2.2.1).before args s = true)) {v : Value} (hn : narrow (ty0 k) v = v) (hfit : fits (ty0 k) v = true) (hl : k < fs.length)
    (hdg : decode cc pc = .ok (.putfield index, 3)) (kk : ∀ (H1 : Heap) (j : Nat), va_at D vwCl (a, .inr (ci, fs.set k v)) H1 → H1.size = H.size → (∀ q : Nat, q ≠ a → H1[q]? = H[q]?) → W p l e R s m args below meth c H1 (locs ++ [⟨a, j⟩]) cells slots Q (F0 m (pc + 3) ls rest)) : W p l e R s m args below meth c H locs cells slots Q (F0 m pc ls (v :: .ref a :: rest)) := by
  have hap := va_apart (own := own) hts hin ty0 hty hnm hK hc
  obtain ⟨r, h1, cell, q1, q2, q3, q4⟩ := hat
  have hr : r = (C, T, N) := Option.some.inj (h1.symm.trans hc)
  subst hr
  obtain ⟨hS, hfc, kC, hkC, hkind⟩ := hK.1 ci _ hc
  obtain ⟨cf, kf, fi, f, hi, hsl⟩ := hS k hk
  have hlay := hts _ (hin _ (u_in_lay hk))
  have hst := (u_facts hfc hkC (u_lays hts hin hk) hi).1
  have fin : ∀ H' : Heap, H'[a]? = some (cell.setSlot f.slot v) → va_at D vwCl (a, .inr (ci, fs.set k v)) H' := fun H' e1 => by
    rw [hsl] at e1
    exact ⟨_, hc, t_OB.to (V := updV (vp_V fs) k v) ⟨_, e1, q2, q3, t_set q4 hap hk v⟩ (fun j _ => vp_updV_set hl v j)⟩
  have hi' : s.fieldFound? ref (T k).2.1 (T k).2.2.1 = some (cf, kf, fi, f) := by rw [← hR]; exact hi
  rcases hfin with hfin | ⟨hfin, hin2, hdecl, hlk⟩
  · unfold u_lay at hlay
    rw [if_neg (by rw [hfin]; decide)] at hlay
    have h6 := u_store hfc hkC hkind hlay hi (hty k hk) hn hfit
    rcases hlink with hlk | ⟨host, hlk⟩
    · exact W.putK hexec hb (f := f) ⟨hown, hlk, ⟨_, _, _, hi'⟩, hst⟩ (by rw [q2]; exact h6) q1 q3 (by rw [hsl]; exact k2_hasslot (q4 k hk)) rfl rfl hdg fun H' e1 e2 e3 => kk H' _ (fin H' e1) e2 e3
    · exact va_WputK hexec hb (f := f) hown hlk hi' hst (by rw [q2]; exact h6) q1 q3 (by rw [hsl]; exact k2_hasslot (q4 k hk)) rfl rfl hdg fun H' e1 e2 e3 => kk H' _ (fin H' e1) e2 e3
  · unfold u_lay at hlay
    rw [if_pos hfin] at hlay
    have hcf : m.cls = cf := by
      obtain ⟨_, _, c', _, _, _, -, -, hf', -, -, -, hown2, -⟩ := Cond.laysFinal_spec hlay
      have e1 : c' = cf := by have := hi.symm.trans hf'; simp at this; exact this.1.symm
      rw [hdecl] at hown2
      rw [← e1]; exact Option.some.inj (hown.symm.trans hown2)
    have h6 := u_fits hfc hkC hkind (Or.inr hlay) hi (hty k hk) hn hfit
    exact W.putFinK hexec hb hown hlk hi' hst hcf hin2 (by rw [q2]; exact h6) q1 q3 (by rw [hsl]; exact k2_hasslot (q4 k hk)) rfl rfl hdg fun H' e1 e2 e3 => kk H' _ (fin H' e1) e2 e3

theorem g_puti {s0 j ci k0 : Nat} {sg : List Bool} {C ref : String} {T : u_T} {N ix : Nat} {r : Option Nat} {x : Int32} {ty0 : Nat → FieldType} (ok : Ok X cc own rm nL al) (hr : rf σ.2.2 s0 r = some k0) (hl : lay s0 = .inl (ci, sg)) (hc : vwCl[ci]? = some (C, T, N)) (hin : ∀ w ∈ u_ws C T N, w ∈ TT) (hj : j < N) (hs : sg[j]? = some false) (hw : (Cond.fieldLink own ix ref (T j).2.1 (T j).2.2.1) ∈ TT) (hR : (T j).1 = ref) (hty : ∀ k, k < N → parseFieldDescriptor (T k).2.2.1 = some (ty0 k)) (hnm : ∀ a, a < N → ∀ b, b < N → a ≠ b → (T a).2.1 ≠ (T b).2.1) (hF : (T j).2.2.2 = false) (hT : ty0 j = .int ∨ (ty0 j = .boolean ∧ (x = 0 ∨ x = 1))) (d : decode cc pc = .ok (.putfield ix, 3)) (k : G X (wi σ k0 j x) ce sl (pc + 3) lv st) : G X σ ce sl pc lv (vI x :: vR r :: st) := by
  obtain ⟨⟨p, l, e, R, s, m, args, below, meth, c⟩, D, dA, A, Q, ad0, σ0, al0, nL0⟩ := X
  obtain ⟨hx, hb, ho, rfl, hml, rfl, rfl, hts, hE, hA, hlk⟩ := ok
  intro ad H locs ls h1 h2 h3 h4 h5 h6 h7 h8
  obtain ⟨rfl, hk0, hdm⟩ := rf_spec hr
  subst hk0
  have hat : va_at D vwCl (ad k0, .inr (ci, fl ad σ k0 sg 0)) H := by rw [← show en dA ad σ k0 = _ from en_o hl]; exact h1.1 k0 hdm
  have hn : narrow (ty0 j) (.int x) = .int x ∧ fits (ty0 j) (.int x) = true := by
    rcases hT with hT | ⟨hT, hx | hx⟩
    · rw [hT]; exact ⟨rfl, rfl⟩
    · rw [hT, hx]; exact ⟨rfl, rfl⟩
    · rw [hT, hx]; exact ⟨rfl, rfl⟩
  refine gw_put (D := D) (v := .int x) hx hb hts hin ty0 hty hnm ho hE.2 hat hc j hj (Or.inl (hts _ hw)) hR (Or.inl hF) hn.1 hn.2 (by rw [fl_len]; exact (List.getElem?_eq_some_iff.mp hs).1) d (fun H1 j1 e1 e2 e3 => ?_)
  rw [fl_set (σ := σ) (σ' := wi σ k0 j x) (ad := ad) (v := .int x) hs (by show (if false then _ else Value.int (if k0 = k0 ∧ j = j then x else σ.1 k0 j)) = _; rw [if_neg (by decide), if_pos ⟨rfl, rfl⟩]) (fun i hi => ⟨by show (if k0 = k0 ∧ i = j then x else _) = _; rw [if_neg (fun z => hi z.2)], rfl⟩), ← show en dA ad (wi σ k0 j x) k0 = _ from en_o hl] at e1
  exact k ad H1 _ ls (rp.put h1 hdm rfl (fun a ha i => ⟨by show (if a = k0 ∧ i = j then x else _) = _; rw [if_neg (fun z => ha z.1)], rfl⟩) (fun i b hb => h1.2.2 k0 i b hdm hb) e1 e3) h2 h3 h4 (h5.put e2 e3 (h4 k0 hdm)) h6 h7 h8

theorem g_putiN {host : String} {s0 j ci k0 : Nat} {sg : List Bool} {C ref : String} {T : u_T} {N ix : Nat} {r : Option Nat} {x : Int32} {ty0 : Nat → FieldType} (ok : Ok X cc own rm nL al) (hr : rf σ.2.2 s0 r = some k0) (hl : lay s0 = .inl (ci, sg)) (hc : vwCl[ci]? = some (C, T, N)) (hin : ∀ w ∈ u_ws C T N, w ∈ TT) (hj : j < N) (hs : sg[j]? = some false) (hw : (Cond.fieldLinkNest own ix ref (T j).2.1 (T j).2.2.1 host) ∈ TT) (hR : (T j).1 = ref) (hty : ∀ k, k < N → parseFieldDescriptor (T k).2.2.1 = some (ty0 k)) (hnm : ∀ a, a < N → ∀ b, b < N → a ≠ b → (T a).2.1 ≠ (T b).2.1) (hF : (T j).2.2.2 = false) (hT : ty0 j = .int ∨ (ty0 j = .boolean ∧ (x = 0 ∨ x = 1))) (d : decode cc pc = .ok (.putfield ix, 3)) (k : G X (wi σ k0 j x) ce sl (pc + 3) lv st) : G X σ ce sl pc lv (vI x :: vR r :: st) := by
  obtain ⟨⟨p, l, e, R, s, m, args, below, meth, c⟩, D, dA, A, Q, ad0, σ0, al0, nL0⟩ := X
  obtain ⟨hx, hb, ho, rfl, hml, rfl, rfl, hts, hE, hA, hlk⟩ := ok
  intro ad H locs ls h1 h2 h3 h4 h5 h6 h7 h8
  obtain ⟨rfl, hk0, hdm⟩ := rf_spec hr
  subst hk0
  have hat : va_at D vwCl (ad k0, .inr (ci, fl ad σ k0 sg 0)) H := by rw [← show en dA ad σ k0 = _ from en_o hl]; exact h1.1 k0 hdm
  have hn : narrow (ty0 j) (.int x) = .int x ∧ fits (ty0 j) (.int x) = true := by
    rcases hT with hT | ⟨hT, hx | hx⟩
    · rw [hT]; exact ⟨rfl, rfl⟩
    · rw [hT, hx]; exact ⟨rfl, rfl⟩
    · rw [hT, hx]; exact ⟨rfl, rfl⟩
  refine gw_put (D := D) (v := .int x) hx hb hts hin ty0 hty hnm ho hE.2 hat hc j hj (Or.inr ⟨host, hts _ hw⟩) hR (Or.inl hF) hn.1 hn.2 (by rw [fl_len]; exact (List.getElem?_eq_some_iff.mp hs).1) d (fun H1 j1 e1 e2 e3 => ?_)
  rw [fl_set (σ := σ) (σ' := wi σ k0 j x) (ad := ad) (v := .int x) hs (by show (if false then _ else Value.int (if k0 = k0 ∧ j = j then x else σ.1 k0 j)) = _; rw [if_neg (by decide), if_pos ⟨rfl, rfl⟩]) (fun i hi => ⟨by show (if k0 = k0 ∧ i = j then x else _) = _; rw [if_neg (fun z => hi z.2)], rfl⟩), ← show en dA ad (wi σ k0 j x) k0 = _ from en_o hl] at e1
  exact k ad H1 _ ls (rp.put h1 hdm rfl (fun a ha i => ⟨by show (if a = k0 ∧ i = j then x else _) = _; rw [if_neg (fun z => ha z.1)], rfl⟩) (fun i b hb => h1.2.2 k0 i b hdm hb) e1 e3) h2 h3 h4 (h5.put e2 e3 (h4 k0 hdm)) h6 h7 h8

theorem g_putiF {s0 j ci k0 : Nat} {sg : List Bool} {C ref : String} {T : u_T} {N ix : Nat} {r : Option Nat} {x : Int32} {ty0 : Nat → FieldType} (ok : Ok X cc own rm nL al) (hr : rf σ.2.2 s0 r = some k0) (hl : lay s0 = .inl (ci, sg)) (hc : vwCl[ci]? = some (C, T, N)) (hin : ∀ w ∈ u_ws C T N, w ∈ TT) (hj : j < N) (hs : sg[j]? = some false) (hw : (Cond.fieldLink own ix ref (T j).2.1 (T j).2.2.1) ∈ TT) (hR : (T j).1 = ref) (hty : ∀ k, k < N → parseFieldDescriptor (T k).2.2.1 = some (ty0 k)) (hnm : ∀ a, a < N → ∀ b, b < N → a ≠ b → (T a).2.1 ≠ (T b).2.1) (hF : (T j).2.2.2 = true) (hI : X.1.2.2.2.2.2.2.2.2.1.name = "<init>") (hO : (T j).1 = own) (hT : ty0 j = .int ∨ (ty0 j = .boolean ∧ (x = 0 ∨ x = 1))) (d : decode cc pc = .ok (.putfield ix, 3)) (k : G X (wi σ k0 j x) ce sl (pc + 3) lv st) : G X σ ce sl pc lv (vI x :: vR r :: st) := by
  obtain ⟨⟨p, l, e, R, s, m, args, below, meth, c⟩, D, dA, A, Q, ad0, σ0, al0, nL0⟩ := X
  obtain ⟨hx, hb, ho, rfl, hml, rfl, rfl, hts, hE, hA, hlk⟩ := ok
  intro ad H locs ls h1 h2 h3 h4 h5 h6 h7 h8
  obtain ⟨rfl, hk0, hdm⟩ := rf_spec hr
  subst hk0
  have hat : va_at D vwCl (ad k0, .inr (ci, fl ad σ k0 sg 0)) H := by rw [← show en dA ad σ k0 = _ from en_o hl]; exact h1.1 k0 hdm
  have hn : narrow (ty0 j) (.int x) = .int x ∧ fits (ty0 j) (.int x) = true := by
    rcases hT with hT | ⟨hT, hx | hx⟩
    · rw [hT]; exact ⟨rfl, rfl⟩
    · rw [hT, hx]; exact ⟨rfl, rfl⟩
    · rw [hT, hx]; exact ⟨rfl, rfl⟩
  refine gw_put (D := D) (v := .int x) hx hb hts hin ty0 hty hnm ho hE.2 hat hc j hj (Or.inl (hts _ hw)) hR (Or.inr ⟨hF, hI, hO, hts _ hw⟩) hn.1 hn.2 (by rw [fl_len]; exact (List.getElem?_eq_some_iff.mp hs).1) d (fun H1 j1 e1 e2 e3 => ?_)
  rw [fl_set (σ := σ) (σ' := wi σ k0 j x) (ad := ad) (v := .int x) hs (by show (if false then _ else Value.int (if k0 = k0 ∧ j = j then x else σ.1 k0 j)) = _; rw [if_neg (by decide), if_pos ⟨rfl, rfl⟩]) (fun i hi => ⟨by show (if k0 = k0 ∧ i = j then x else _) = _; rw [if_neg (fun z => hi z.2)], rfl⟩), ← show en dA ad (wi σ k0 j x) k0 = _ from en_o hl] at e1
  exact k ad H1 _ ls (rp.put h1 hdm rfl (fun a ha i => ⟨by show (if a = k0 ∧ i = j then x else _) = _; rw [if_neg (fun z => ha z.1)], rfl⟩) (fun i b hb => h1.2.2 k0 i b hdm hb) e1 e3) h2 h3 h4 (h5.put e2 e3 (h4 k0 hdm)) h6 h7 h8

theorem g_putr {s0 j ci k0 : Nat} {sg : List Bool} {C ref : String} {T : u_T} {N ix : Nat} {r : Option Nat} {x : Option Nat} {ty0 : Nat → FieldType} (ok : Ok X cc own rm nL al) (hr : rf σ.2.2 s0 r = some k0) (hl : lay s0 = .inl (ci, sg)) (hc : vwCl[ci]? = some (C, T, N)) (hin : ∀ w ∈ u_ws C T N, w ∈ TT) (hj : j < N) (hs : sg[j]? = some true) (hw : (Cond.fieldLink own ix ref (T j).2.1 (T j).2.2.1) ∈ TT) (hR : (T j).1 = ref) (hty : ∀ k, k < N → parseFieldDescriptor (T k).2.2.1 = some (ty0 k)) (hnm : ∀ a, a < N → ∀ b, b < N → a ≠ b → (T a).2.1 ≠ (T b).2.1) (hF : (T j).2.2.2 = false) (hT : (∃ n, ty0 j = .object n) ∨ ∃ t, ty0 j = .array t) (hd : ∀ b, x = some b → dm σ b) (d : decode cc pc = .ok (.putfield ix, 3)) (k : G X (wr σ k0 j x) ce sl (pc + 3) lv st) : G X σ ce sl pc lv (vR x :: vR r :: st) := by
  obtain ⟨⟨p, l, e, R, s, m, args, below, meth, c⟩, D, dA, A, Q, ad0, σ0, al0, nL0⟩ := X
  obtain ⟨hx, hb, ho, rfl, hml, rfl, rfl, hts, hE, hA, hlk⟩ := ok
  intro ad H locs ls h1 h2 h3 h4 h5 h6 h7 h8
  obtain ⟨rfl, hk0, hdm⟩ := rf_spec hr
  subst hk0
  have hat : va_at D vwCl (ad k0, .inr (ci, fl ad σ k0 sg 0)) H := by rw [← show en dA ad σ k0 = _ from en_o hl]; exact h1.1 k0 hdm
  have hn : narrow (ty0 j) (va_rf (x.map ad)) = va_rf (x.map ad) ∧ fits (ty0 j) (va_rf (x.map ad)) = true := by
    rcases hT with ⟨n, hT⟩ | ⟨t, hT⟩ <;> rw [hT] <;> cases x <;> exact ⟨rfl, rfl⟩
  refine gw_put (D := D) (v := va_rf (x.map ad)) hx hb hts hin ty0 hty hnm ho hE.2 hat hc j hj (Or.inl (hts _ hw)) hR (Or.inl hF) hn.1 hn.2 (by rw [fl_len]; exact (List.getElem?_eq_some_iff.mp hs).1) d (fun H1 j1 e1 e2 e3 => ?_)
  rw [fl_set (σ := σ) (σ' := wr σ k0 j x) (ad := ad) (v := va_rf (x.map ad)) hs (by show (if true then va_rf (Option.map ad (if k0 = k0 ∧ j = j then x else σ.2.1 k0 j)) else _) = _; rw [if_pos rfl, if_pos ⟨rfl, rfl⟩]) (fun i hi => ⟨rfl, by show (if k0 = k0 ∧ i = j then x else _) = _; rw [if_neg (fun z => hi z.2)]⟩), ← show en dA ad (wr σ k0 j x) k0 = _ from en_o hl] at e1
  exact k ad H1 _ ls (rp.put h1 hdm rfl (fun a ha i => ⟨rfl, by show (if a = k0 ∧ i = j then x else _) = _; rw [if_neg (fun z => ha z.1)]⟩) (fun i b hb => by
      have hb2 : (if k0 = k0 ∧ i = j then x else σ.2.1 k0 i) = some b := hb
      split at hb2
      next => exact hd b hb2
      next => exact h1.2.2 k0 i b hdm hb2) e1 e3) h2 h3 h4 (h5.put e2 e3 (h4 k0 hdm)) h6 h7 h8

theorem g_putrN {host : String} {s0 j ci k0 : Nat} {sg : List Bool} {C ref : String} {T : u_T} {N ix : Nat} {r : Option Nat} {x : Option Nat} {ty0 : Nat → FieldType} (ok : Ok X cc own rm nL al) (hr : rf σ.2.2 s0 r = some k0) (hl : lay s0 = .inl (ci, sg)) (hc : vwCl[ci]? = some (C, T, N)) (hin : ∀ w ∈ u_ws C T N, w ∈ TT) (hj : j < N) (hs : sg[j]? = some true) (hw : (Cond.fieldLinkNest own ix ref (T j).2.1 (T j).2.2.1 host) ∈ TT) (hR : (T j).1 = ref) (hty : ∀ k, k < N → parseFieldDescriptor (T k).2.2.1 = some (ty0 k)) (hnm : ∀ a, a < N → ∀ b, b < N → a ≠ b → (T a).2.1 ≠ (T b).2.1) (hF : (T j).2.2.2 = false) (hT : (∃ n, ty0 j = .object n) ∨ ∃ t, ty0 j = .array t) (hd : ∀ b, x = some b → dm σ b) (d : decode cc pc = .ok (.putfield ix, 3)) (k : G X (wr σ k0 j x) ce sl (pc + 3) lv st) : G X σ ce sl pc lv (vR x :: vR r :: st) := by
  obtain ⟨⟨p, l, e, R, s, m, args, below, meth, c⟩, D, dA, A, Q, ad0, σ0, al0, nL0⟩ := X
  obtain ⟨hx, hb, ho, rfl, hml, rfl, rfl, hts, hE, hA, hlk⟩ := ok
  intro ad H locs ls h1 h2 h3 h4 h5 h6 h7 h8
  obtain ⟨rfl, hk0, hdm⟩ := rf_spec hr
  subst hk0
  have hat : va_at D vwCl (ad k0, .inr (ci, fl ad σ k0 sg 0)) H := by rw [← show en dA ad σ k0 = _ from en_o hl]; exact h1.1 k0 hdm
  have hn : narrow (ty0 j) (va_rf (x.map ad)) = va_rf (x.map ad) ∧ fits (ty0 j) (va_rf (x.map ad)) = true := by
    rcases hT with ⟨n, hT⟩ | ⟨t, hT⟩ <;> rw [hT] <;> cases x <;> exact ⟨rfl, rfl⟩
  refine gw_put (D := D) (v := va_rf (x.map ad)) hx hb hts hin ty0 hty hnm ho hE.2 hat hc j hj (Or.inr ⟨host, hts _ hw⟩) hR (Or.inl hF) hn.1 hn.2 (by rw [fl_len]; exact (List.getElem?_eq_some_iff.mp hs).1) d (fun H1 j1 e1 e2 e3 => ?_)
  rw [fl_set (σ := σ) (σ' := wr σ k0 j x) (ad := ad) (v := va_rf (x.map ad)) hs (by show (if true then va_rf (Option.map ad (if k0 = k0 ∧ j = j then x else σ.2.1 k0 j)) else _) = _; rw [if_pos rfl, if_pos ⟨rfl, rfl⟩]) (fun i hi => ⟨rfl, by show (if k0 = k0 ∧ i = j then x else _) = _; rw [if_neg (fun z => hi z.2)]⟩), ← show en dA ad (wr σ k0 j x) k0 = _ from en_o hl] at e1
  exact k ad H1 _ ls (rp.put h1 hdm rfl (fun a ha i => ⟨rfl, by show (if a = k0 ∧ i = j then x else _) = _; rw [if_neg (fun z => ha z.1)]⟩) (fun i b hb => by
      have hb2 : (if k0 = k0 ∧ i = j then x else σ.2.1 k0 i) = some b := hb
      split at hb2
      next => exact hd b hb2
      next => exact h1.2.2 k0 i b hdm hb2) e1 e3) h2 h3 h4 (h5.put e2 e3 (h4 k0 hdm)) h6 h7 h8

theorem g_putrF {s0 j ci k0 : Nat} {sg : List Bool} {C ref : String} {T : u_T} {N ix : Nat} {r : Option Nat} {x : Option Nat} {ty0 : Nat → FieldType} (ok : Ok X cc own rm nL al) (hr : rf σ.2.2 s0 r = some k0) (hl : lay s0 = .inl (ci, sg)) (hc : vwCl[ci]? = some (C, T, N)) (hin : ∀ w ∈ u_ws C T N, w ∈ TT) (hj : j < N) (hs : sg[j]? = some true) (hw : (Cond.fieldLink own ix ref (T j).2.1 (T j).2.2.1) ∈ TT) (hR : (T j).1 = ref) (hty : ∀ k, k < N → parseFieldDescriptor (T k).2.2.1 = some (ty0 k)) (hnm : ∀ a, a < N → ∀ b, b < N → a ≠ b → (T a).2.1 ≠ (T b).2.1) (hF : (T j).2.2.2 = true) (hI : X.1.2.2.2.2.2.2.2.2.1.name = "<init>") (hO : (T j).1 = own) (hT : (∃ n, ty0 j = .object n) ∨ ∃ t, ty0 j = .array t) (hd : ∀ b, x = some b → dm σ b) (d : decode cc pc = .ok (.putfield ix, 3)) (k : G X (wr σ k0 j x) ce sl (pc + 3) lv st) : G X σ ce sl pc lv (vR x :: vR r :: st) := by
  obtain ⟨⟨p, l, e, R, s, m, args, below, meth, c⟩, D, dA, A, Q, ad0, σ0, al0, nL0⟩ := X
  obtain ⟨hx, hb, ho, rfl, hml, rfl, rfl, hts, hE, hA, hlk⟩ := ok
  intro ad H locs ls h1 h2 h3 h4 h5 h6 h7 h8
  obtain ⟨rfl, hk0, hdm⟩ := rf_spec hr
  subst hk0
  have hat : va_at D vwCl (ad k0, .inr (ci, fl ad σ k0 sg 0)) H := by rw [← show en dA ad σ k0 = _ from en_o hl]; exact h1.1 k0 hdm
  have hn : narrow (ty0 j) (va_rf (x.map ad)) = va_rf (x.map ad) ∧ fits (ty0 j) (va_rf (x.map ad)) = true := by
    rcases hT with ⟨n, hT⟩ | ⟨t, hT⟩ <;> rw [hT] <;> cases x <;> exact ⟨rfl, rfl⟩
  refine gw_put (D := D) (v := va_rf (x.map ad)) hx hb hts hin ty0 hty hnm ho hE.2 hat hc j hj (Or.inl (hts _ hw)) hR (Or.inr ⟨hF, hI, hO, hts _ hw⟩) hn.1 hn.2 (by rw [fl_len]; exact (List.getElem?_eq_some_iff.mp hs).1) d (fun H1 j1 e1 e2 e3 => ?_)
  rw [fl_set (σ := σ) (σ' := wr σ k0 j x) (ad := ad) (v := va_rf (x.map ad)) hs (by show (if true then va_rf (Option.map ad (if k0 = k0 ∧ j = j then x else σ.2.1 k0 j)) else _) = _; rw [if_pos rfl, if_pos ⟨rfl, rfl⟩]) (fun i hi => ⟨rfl, by show (if k0 = k0 ∧ i = j then x else _) = _; rw [if_neg (fun z => hi z.2)]⟩), ← show en dA ad (wr σ k0 j x) k0 = _ from en_o hl] at e1
  exact k ad H1 _ ls (rp.put h1 hdm rfl (fun a ha i => ⟨rfl, by show (if a = k0 ∧ i = j then x else _) = _; rw [if_neg (fun z => ha z.1)]⟩) (fun i b hb => by
      have hb2 : (if k0 = k0 ∧ i = j then x else σ.2.1 k0 i) = some b := hb
      split at hb2
      next => exact hd b hb2
      next => exact h1.2.2 k0 i b hdm hb2) e1 e3) h2 h3 h4 (h5.put e2 e3 (h4 k0 hdm)) h6 h7 h8

end GR