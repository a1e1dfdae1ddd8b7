/-! what is made anew: rooms, machines, paths -/
def zr (a : AT) (t : Nat) (m : Int) : AT := fun t' j' m' => if t' = t ∧ m' = m then 0 else a t' j' m'
def sr (r : Nat → Nat → Option Nat) (k j : Nat) (v : Option Nat) : Nat → Nat → Option Nat := fun k' j' => if k' = k ∧ j' = j then v else r k' j'
def clr (r : Nat → Nat → Option Nat) (k : Nat) : Nat → Nat → Option Nat := fun k' j' => if k' = k then none else r k' j'
def sn (n : Nat → Nat) (t : Nat) : Nat → Nat := fun t' => if t' = t then n t + 1 else n t'
section MK
variable {a : AT} {r : Nat → Nat → Option Nat} {n : Nat → Nat} {nr nm np : Int}
theorem wr_e (k j : Nat) (v : Option Nat) : wr (VV a r n) k j v = VV a (sr r k j v) n := rfl
theorem nid_e {t : Nat} {m : Int} (h : n t = m.toNat) : nid (VV a r n) t = kk t m := by
  show 64 * n t + t = 64 * m.toNat + t
  rw [h]
theorem nw_e {t : Nat} {m : Int} (ht : t < 64) (h0 : 0 ≤ m) (h : n t = m.toNat) : nw (VV a r n) t = VV (zr a t m) (clr r (kk t m)) (sn n t) := by
  have e : nid (VV a r n) t = kk t m := nid_e h
  unfold nw
  rw [e]
  refine Prod.ext ?_ rfl
  funext k j
  show (if k = kk t m then (0 : Int32) else iz (a (k % 64) (j : Int) ((k / 64 : Nat) : Int))) = iz (zr a t m (k % 64) (j : Int) ((k / 64 : Nat) : Int))
  unfold zr kk
  by_cases c : k = 64 * m.toNat + t
  · rw [if_pos c, if_pos ⟨by omega, by omega⟩]; rfl
  · rw [if_neg c, if_neg (fun q => c (by omega))]
theorem zr_e (t : Nat) (m : Int) (t' : Nat) (j' m' : Int) : zr a t m t' j' m' = if t' = t ∧ m' = m then 0 else a t' j' m' := rfl
theorem zr_t {t t' : Nat} {m : Int} (h : t' ≠ t) : zr a t m t' = a t' := by
  funext j' m'
  simp only [zr_e, h, false_and, ↓reduceIte]
theorem sn_t {t t' : Nat} (h : t' ≠ t) : sn n t t' = n t' := if_neg h
theorem sn_s (t : Nat) : sn n t t = n t + 1 := if_pos rfl
theorem kk_l {t : Nat} {m : Int} (h : t < 64) {k : Nat} (hk : k < 64) (hne : k ≠ t) : k ≠ kk t m := by unfold kk; omega
theorem clr_l {t : Nat} {m : Int} (h : t < 64) {k : Nat} (hk : k < 64) (hne : k ≠ t) (j : Nat) : clr r (kk t m) k j = r k j := if_neg (kk_l h hk hne)
theorem Sh_m (h : Sh r n nr nm np) (hm : nm < 10) : Sh (sr (clr r (kk 11 nm)) 7 nm.toNat (some (kk 11 nm))) (sn n 11) nr (nm + 1) np := by
  have hb := h.b
  have lit : ∀ k j : Nat, k < 64 → k ≠ 11 → k ≠ 7 → sr (clr r (kk 11 nm)) 7 nm.toNat (some (kk 11 nm)) k j = r k j := fun k j h1 h2 h3 => by
    unfold sr; rw [if_neg (fun q => h3 q.1), clr_l (by omega) h1 h2]
  refine ⟨?b, ?n1, ?n10, ?n11, ?n12, ?n13, ?_⟩
  case b => omega
  case n1 => intro k hk; rw [sn_t (by omega)]; exact h.n1 k hk
  case n10 => rw [sn_t (by omega)]; exact h.n10
  case n11 => rw [sn_s, h.n11]; omega
  case n12 => rw [sn_t (by omega)]; exact h.n12
  case n13 => rw [sn_t (by omega)]; exact h.n13
  simp (disch := omega) only [lit, h.r0_0, h.r0_1, h.r0_2, h.r0_3, h.r0_4, h.r0_5, h.r1_0, h.r1_1, h.r1_2, h.r1_3, true_and, true_and]
  refine ⟨h.r6, ?_, h.r8, ?_⟩
  · intro i i1 i2
    unfold sr
    by_cases c : i = nm
    · subst c; rw [if_pos ⟨rfl, rfl⟩, if_pos (by omega)]
    · rw [if_neg (by omega), clr_l (by omega) (by omega) (by omega), h.r7 i i1 i2]
      by_cases c2 : i < nm
      · rw [if_pos c2, if_pos (by omega)]
      · rw [if_neg c2, if_neg (by omega)]
  · intro i i1 i2
    unfold sr clr
    rw [if_neg (by unfold kk; omega), if_neg (by unfold kk; omega)]
    exact h.r12 i i1 i2
theorem Sh_r (h : Sh r n nr nm np) (hm : nr < 10) : Sh (sr (clr r (kk 10 nr)) 6 nr.toNat (some (kk 10 nr))) (sn n 10) (nr + 1) nm np := by
  have hb := h.b
  have lit : ∀ k j : Nat, k < 64 → k ≠ 10 → k ≠ 6 → sr (clr r (kk 10 nr)) 6 nr.toNat (some (kk 10 nr)) k j = r k j := fun k j h1 h2 h3 => by
    unfold sr; rw [if_neg (fun q => h3 q.1), clr_l (by omega) h1 h2]
  refine ⟨?b, ?n1, ?n10, ?n11, ?n12, ?n13, ?_⟩
  case b => omega
  case n1 => intro k hk; rw [sn_t (by omega)]; exact h.n1 k hk
  case n10 => rw [sn_s, h.n10]; omega
  case n11 => rw [sn_t (by omega)]; exact h.n11
  case n12 => rw [sn_t (by omega)]; exact h.n12
  case n13 => rw [sn_t (by omega)]; exact h.n13
  simp (disch := omega) only [lit, h.r0_0, h.r0_1, h.r0_2, h.r0_3, h.r0_4, h.r0_5, h.r1_0, h.r1_1, h.r1_2, h.r1_3, true_and, true_and]
  refine ⟨?_, h.r7, h.r8, ?_⟩
  · intro i i1 i2
    unfold sr
    by_cases c : i = nr
    · subst c; rw [if_pos ⟨rfl, rfl⟩, if_pos (by omega)]
    · rw [if_neg (by omega), clr_l (by omega) (by omega) (by omega), h.r6 i i1 i2]
      by_cases c2 : i < nr
      · rw [if_pos c2, if_pos (by omega)]
      · rw [if_neg c2, if_neg (by omega)]
  · intro i i1 i2
    unfold sr clr
    rw [if_neg (by unfold kk; omega), if_neg (by unfold kk; omega)]
    exact h.r12 i i1 i2
/-- the references and counts behind a path that is accepted -/
def rP (r : Nat → Nat → Option Nat) (np : Int) : Nat → Nat → Option Nat :=
  sr (sr (clr (clr (sr r 8 np.toNat (some (kk 12 np))) (kk 12 (np + 1))) (kk 13 (np + 1))) (kk 12 (np + 1)) 0 (some (kk 13 (np + 1)))) 0 5 (some (kk 12 (np + 1)))
def nP (n : Nat → Nat) : Nat → Nat := sn (sn n 12) 13
theorem Sh_p (h : Sh r n nr nm np) (hm : np < 40) : Sh (rP r np) (nP n) nr nm (np + 1) := by
  have hb := h.b
  have lit : ∀ k j : Nat, k < 64 → k ≠ 12 → k ≠ 13 → ¬ (k = 0 ∧ j = 5) → k ≠ 8 → rP r np k j = r k j := fun k j h1 h2 h3 h4 h5 => by
    unfold rP sr
    rw [if_neg h4, if_neg (fun q => kk_l (by omega) h1 h2 q.1), clr_l (by omega) h1 h3, clr_l (by omega) h1 h2, if_neg (fun q => h5 q.1)]
  refine ⟨?b, ?n1, ?n10, ?n11, ?n12, ?n13, ?_⟩
  case b => omega
  case n1 => intro k hk; unfold nP; rw [sn_t (by omega), sn_t (by omega)]; exact h.n1 k hk
  case n10 => unfold nP; rw [sn_t (by omega), sn_t (by omega)]; exact h.n10
  case n11 => unfold nP; rw [sn_t (by omega), sn_t (by omega)]; exact h.n11
  case n12 => unfold nP; rw [sn_t (by omega), sn_s, h.n12]; omega
  case n13 => unfold nP; rw [sn_s, sn_t (by omega), h.n13]; omega
  have e5 : rP r np 0 5 = some (kk 12 (np + 1)) := by unfold rP sr; rw [if_pos ⟨rfl, rfl⟩]
  simp (disch := omega) only [lit, e5, h.r0_0, h.r0_1, h.r0_2, h.r0_3, h.r0_4, h.r1_0, h.r1_1, h.r1_2, h.r1_3, true_and, true_and]
  refine ⟨h.r6, h.r7, ?_, ?_⟩
  · intro i i1 i2
    unfold rP sr
    rw [if_neg (by omega), if_neg (fun q => absurd q.1 (kk_l (by omega) (by omega) (by omega))), clr_l (by omega) (by omega) (by omega), clr_l (by omega) (by omega) (by omega)]
    by_cases c : i = np
    · subst c; rw [if_pos ⟨rfl, rfl⟩, if_pos (by omega)]
    · rw [if_neg (by omega), h.r8 i i1 i2]
      by_cases c2 : i < np
      · rw [if_pos c2, if_pos (by omega)]
      · rw [if_neg c2, if_neg (by omega)]
  · intro i i1 i2
    unfold rP sr
    rw [if_neg (by unfold kk; omega)]
    by_cases c : i = np + 1
    · subst c; rw [if_pos ⟨rfl, rfl⟩]
    · rw [if_neg (by unfold kk; omega)]
      unfold clr
      rw [if_neg (by unfold kk; omega), if_neg (by unfold kk; omega)]
      show (if kk 12 i = 8 ∧ 0 = np.toNat then some (kk 12 np) else r (kk 12 i) 0) = _
      rw [if_neg (by unfold kk; omega)]
      exact h.r12 i i1 (by omega)
end MK
