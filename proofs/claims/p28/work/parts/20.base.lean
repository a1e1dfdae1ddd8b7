/-! THE MATHEMATICS, 1: ints as whole numbers, the memory as a table of whole numbers, loops. -/
def iz (z : Int) : Int32 := Int32.ofInt z
theorem iz_add (a b : Int) : iz a + iz b = iz (a + b) := (Int32.ofInt_add a b).symm
theorem iz_sub (a b : Int) : iz a - iz b = iz (a - b) := (Int32.ofInt_sub a b).symm
theorem iz_mul (a b : Int) : iz a * iz b = iz (a * b) := (Int32.ofInt_mul a b).symm
theorem iz_neg (a : Int) : - iz a = iz (-a) := (Int32.ofInt_neg a).symm
theorem iz_nat (n : Nat) : Int32.ofNat n = iz (n : Int) := Int32.ofInt_eq_ofNat.symm
theorem iz_to {z : Int} (h1 : -2147483648 ≤ z) (h2 : z ≤ 2147483647) : (iz z).toInt = z := Int32.toInt_ofInt_of_le h1 (by omega)
theorem iz_self (v : Int32) : iz v.toInt = v := Int32.ofInt_toInt v
theorem iz_ex (v : Int32) : ∃ z : Int, v = iz z ∧ -2147483648 ≤ z ∧ z ≤ 2147483647 := ⟨v.toInt, (iz_self v).symm, v.le_toInt, by have := v.toInt_lt; omega⟩
theorem iz_lt {a b : Int} (h1 : -2147483648 ≤ a) (h2 : a ≤ 2147483647) (h3 : -2147483648 ≤ b) (h4 : b ≤ 2147483647) : (iz a < iz b) = (a < b) := by
  rw [Int32.lt_iff_toInt_lt, iz_to h1 h2, iz_to h3 h4]
theorem iz_le {a b : Int} (h1 : -2147483648 ≤ a) (h2 : a ≤ 2147483647) (h3 : -2147483648 ≤ b) (h4 : b ≤ 2147483647) : (iz a ≤ iz b) = (a ≤ b) := by
  rw [Int32.le_iff_toInt_le, iz_to h1 h2, iz_to h3 h4]
theorem iz_eq {a b : Int} (h1 : -2147483648 ≤ a) (h2 : a ≤ 2147483647) (h3 : -2147483648 ≤ b) (h4 : b ≤ 2147483647) : (iz a = iz b) = (a = b) := by
  rw [← Int32.toInt_inj, iz_to h1 h2, iz_to h3 h4]
theorem iz_div {a b : Int} (h1 : 0 ≤ a) (h2 : a ≤ 2147483647) (h3 : 0 ≤ b) (h4 : b ≤ 2147483647) : iz a / iz b = iz (a / b) := by
  have := Int32.ofInt_tdiv (a := a) (b := b) (by rw [Int32.toInt_minValue]; omega) (by rw [Int32.toInt_maxValue]; omega) (by rw [Int32.toInt_minValue]; omega) (by rw [Int32.toInt_maxValue]; omega)
  rw [Int.tdiv_eq_ediv_of_nonneg h1] at this
  exact this.symm
theorem iz_c {z : Int} (h1 : 0 ≤ z) (h2 : z ≤ 2147483647) : (((iz z).toNatClampNeg : Nat) : Int) = z := by
  have : (iz z).toNatClampNeg = z.toNat := Int32.toNatClampNeg_ofInt_of_le (by omega) (by omega)
  rw [this]; omega
theorem iz_n {z : Int} (h1 : 0 ≤ z) (h2 : z ≤ 2147483647) : (iz z).toNatClampNeg = z.toNat := Int32.toNatClampNeg_ofInt_of_le (by omega) (by omega)
theorem iz_ite {c : Prop} [Decidable c] (a b : Int) : (if c then iz a else iz b) = iz (if c then a else b) := by split <;> rfl
theorem md10 (a : Int) : a - a / 10 * 10 = a % 10 := by omega
theorem md100 (a : Int) : a - a / 100 * 100 = a % 100 := by omega
theorem z_0 : (0 : Int32) = iz 0 := iz_nat 0
theorem z_1 : (1 : Int32) = iz 1 := iz_nat 1
theorem z_2 : (2 : Int32) = iz 2 := iz_nat 2
theorem z_3 : (3 : Int32) = iz 3 := iz_nat 3
theorem z_4 : (4 : Int32) = iz 4 := iz_nat 4
theorem z_5 : (5 : Int32) = iz 5 := iz_nat 5
theorem z_6 : (6 : Int32) = iz 6 := iz_nat 6
theorem z_7 : (7 : Int32) = iz 7 := iz_nat 7
theorem z_8 : (8 : Int32) = iz 8 := iz_nat 8
theorem z_9 : (9 : Int32) = iz 9 := iz_nat 9
theorem z_10 : (10 : Int32) = iz 10 := iz_nat 10
theorem z_11 : (11 : Int32) = iz 11 := iz_nat 11
theorem z_12 : (12 : Int32) = iz 12 := iz_nat 12
theorem z_13 : (13 : Int32) = iz 13 := iz_nat 13
theorem z_14 : (14 : Int32) = iz 14 := iz_nat 14
theorem z_15 : (15 : Int32) = iz 15 := iz_nat 15
theorem z_16 : (16 : Int32) = iz 16 := iz_nat 16
theorem z_17 : (17 : Int32) = iz 17 := iz_nat 17
theorem z_18 : (18 : Int32) = iz 18 := iz_nat 18
theorem z_19 : (19 : Int32) = iz 19 := iz_nat 19
theorem z_20 : (20 : Int32) = iz 20 := iz_nat 20
theorem z_21 : (21 : Int32) = iz 21 := iz_nat 21
theorem z_22 : (22 : Int32) = iz 22 := iz_nat 22
theorem z_23 : (23 : Int32) = iz 23 := iz_nat 23
theorem z_24 : (24 : Int32) = iz 24 := iz_nat 24
theorem z_27 : (27 : Int32) = iz 27 := iz_nat 27
theorem z_30 : (30 : Int32) = iz 30 := iz_nat 30
theorem z_31 : (31 : Int32) = iz 31 := iz_nat 31
theorem z_37 : (37 : Int32) = iz 37 := iz_nat 37
theorem z_40 : (40 : Int32) = iz 40 := iz_nat 40
theorem z_50 : (50 : Int32) = iz 50 := iz_nat 50
theorem z_51 : (51 : Int32) = iz 51 := iz_nat 51
theorem z_64 : (64 : Int32) = iz 64 := iz_nat 64
theorem z_80 : (80 : Int32) = iz 80 := iz_nat 80
theorem z_81 : (81 : Int32) = iz 81 := iz_nat 81
theorem z_96 : (96 : Int32) = iz 96 := iz_nat 96
theorem z_99 : (99 : Int32) = iz 99 := iz_nat 99
theorem z_100 : (100 : Int32) = iz 100 := iz_nat 100
theorem z_128 : (128 : Int32) = iz 128 := iz_nat 128
theorem z_161 : (161 : Int32) = iz 161 := iz_nat 161
theorem z_200 : (200 : Int32) = iz 200 := iz_nat 200
theorem z_201 : (201 : Int32) = iz 201 := iz_nat 201
theorem z_256 : (256 : Int32) = iz 256 := iz_nat 256
theorem z_400 : (400 : Int32) = iz 400 := iz_nat 400
theorem z_2048 : (2048 : Int32) = iz 2048 := iz_nat 2048
theorem z_3240 : (3240 : Int32) = iz 3240 := iz_nat 3240
theorem z_11819 : (11819 : Int32) = iz 11819 := iz_nat 11819
theorem z_16384 : (16384 : Int32) = iz 16384 := iz_nat 16384
theorem z_20000 : (20000 : Int32) = iz 20000 := iz_nat 20000
theorem z_100000 : (100000 : Int32) = iz 100000 := iz_nat 100000
theorem z_15595891 : (15595891 : Int32) = iz 15595891 := iz_nat 15595891
theorem z_2147483647 : (2147483647 : Int32) = iz 2147483647 := iz_nat 2147483647
/-! longs -/
def jz (z : Int) : Int64 := Int64.ofInt z
theorem jz_add (a b : Int) : jz a + jz b = jz (a + b) := (Int64.ofInt_add a b).symm
theorem jz_mul (a b : Int) : jz a * jz b = jz (a * b) := (Int64.ofInt_mul a b).symm
theorem jz_neg (a : Int) : - jz a = jz (-a) := (Int64.ofInt_neg a).symm
theorem jz_to {z : Int} (h1 : -9223372036854775808 ≤ z) (h2 : z ≤ 9223372036854775807) : (jz z).toInt = z := Int64.toInt_ofInt_of_le h1 (by omega)
theorem jz_lt {a b : Int} (h1 : -9223372036854775808 ≤ a) (h2 : a ≤ 9223372036854775807) (h3 : -9223372036854775808 ≤ b) (h4 : b ≤ 9223372036854775807) : (jz a < jz b) = (a < b) := by
  rw [Int64.lt_iff_toInt_lt, jz_to h1 h2, jz_to h3 h4]
theorem jz_eq {a b : Int} (h1 : -9223372036854775808 ≤ a) (h2 : a ≤ 9223372036854775807) (h3 : -9223372036854775808 ≤ b) (h4 : b ≤ 9223372036854775807) : (jz a = jz b) = (a = b) := by
  rw [← Int64.toInt_inj, jz_to h1 h2, jz_to h3 h4]
theorem jz_i {z : Int} (h1 : -2147483648 ≤ z) (h2 : z ≤ 2147483647) : (iz z).toInt64 = jz z := by
  rw [← Int64.toInt_inj, Int32.toInt_toInt64, iz_to h1 h2, jz_to (by omega) (by omega)]
theorem jz_l {z : Int} (h1 : -2147483648 ≤ z) (h2 : z ≤ 2147483647) : (jz z).toInt32 = iz z := by
  rw [← jz_i h1 h2, Int32.toInt32_toInt64]
theorem jz_cmp {a b : Int} (h1 : -9223372036854775808 ≤ a) (h2 : a ≤ 9223372036854775807) (h3 : -9223372036854775808 ≤ b) (h4 : b ≤ 9223372036854775807) : (if jz a = jz b then iz 0 else if jz b < jz a then iz 1 else iz (-1)) = iz (if a = b then 0 else if b < a then 1 else -1) := by
  simp only [jz_eq h1 h2 h3 h4, jz_lt h3 h4 h1 h2, iz_ite]
theorem cmp_0 {a b : Int} : ((if a = b then 0 else if b < a then 1 else -1 : Int) = 0) = (a = b) := by
  apply propext; split
  · simp [*]
  · split <;> simp [*]
theorem cmp_l {a b : Int} : ((if a = b then 0 else if b < a then 1 else -1 : Int) < 0) = (a < b) := by
  apply propext; split
  · omega
  · split <;> omega
theorem cmp_g {a b : Int} : (0 < (if a = b then 0 else if b < a then 1 else -1 : Int)) = (b < a) := by
  apply propext; split
  · omega
  · split <;> omega
theorem cmp_b {a b : Int} : -1 ≤ (if a = b then 0 else if b < a then 1 else -1 : Int) ∧ (if a = b then 0 else if b < a then 1 else -1 : Int) ≤ 1 := by
  split
  · omega
  · split <;> omega
theorem y_0 : (0 : Int64) = jz 0 := rfl
theorem y_1 : (1 : Int64) = jz 1 := rfl
theorem y_2 : (2 : Int64) = jz 2 := rfl
theorem y_3 : (3 : Int64) = jz 3 := rfl
theorem y_40 : (40 : Int64) = jz 40 := rfl
theorem y_100 : (100 : Int64) = jz 100 := rfl
theorem y_m1 : (-1 : Int64) = jz (-1) := rfl
theorem y_m6 : (-6 : Int64) = jz (-6) := rfl
theorem y_x1 : (-9000000000000000001 : Int64) = jz (-9000000000000000001) := rfl
theorem y_x2 : (-9000000000000000002 : Int64) = jz (-9000000000000000002) := rfl
theorem y_x3 : (-9000000000000000003 : Int64) = jz (-9000000000000000003) := rfl
theorem z_m1 : (-1 : Int32) = iz (-1) := rfl
noncomputable def cb (p : Prop) : Int := @ite Int p (Classical.propDecidable p) 1 0
theorem cb_t {p : Prop} (h : p) : cb p = 1 := if_pos h
theorem cb_f {p : Prop} (h : ¬ p) : cb p = 0 := if_neg h
theorem cb_01 (p : Prop) : cb p = 0 ∨ cb p = 1 := (Classical.em p).elim (fun h => .inr (cb_t h)) (fun h => .inl (cb_f h))
theorem cb_0 (p : Prop) : (cb p = 0) = ¬ p := propext ⟨fun h hp => (by rw [cb_t hp] at h; cases h), cb_f⟩
theorem cb_1 (p : Prop) : (cb p = 1) = p := propext ⟨fun h => Classical.byContradiction fun hp => (by rw [cb_f hp] at h; cases h), cb_t⟩
theorem izcb_0 (p : Prop) : (iz (cb p) = iz 0) = ¬ p := by
  rw [iz_eq (by rcases cb_01 p with h | h <;> omega) (by rcases cb_01 p with h | h <;> omega) (by omega) (by omega), cb_0]
theorem izcb_1 (p : Prop) : (iz (cb p) = iz 1) = p := by
  rw [iz_eq (by rcases cb_01 p with h | h <;> omega) (by rcases cb_01 p with h | h <;> omega) (by omega) (by omega), cb_1]
theorem cb_c {p q : Prop} (h : p ↔ q) : cb p = cb q := by rw [propext h]
theorem np_p (p : Prop) : (¬ p ∨ p) = True := propext ⟨fun _ => trivial, fun _ => (Classical.em p).symm⟩
theorem cb_ite {c : Prop} [Decidable c] (p q : Prop) : (if c then iz (cb p) else iz (cb q)) = iz (cb (if c then p else q)) := by split <;> rfl
theorem lt__e {α β : Type} (v : α) (f : α → β) : lt_ v f = f v := of_eq_true (eq_true rfl)
theorem bnd_e {α β : Type} (a : α) (f : α → Option β) : bnd (some a) f = f a := of_eq_true (eq_true rfl)
theorem bnd2_e {α γ β : Type} (a : α) (b : γ) (f : α → γ → Option β) : bnd2 (some (a, b)) f = f a b := of_eq_true (eq_true rfl)
theorem bnd3_e {α γ δ β : Type} (a : α) (b : γ) (c : δ) (f : α → γ → δ → Option β) : bnd3 (some (a, b, c)) f = f a b c := of_eq_true (eq_true rfl)
theorem el0_l {ρ β : Type} (v : ρ) (g : ρ → Option β) (f : Option β) : el0 (some (.inl v)) g f = g v := of_eq_true (eq_true rfl)
theorem el0_r {ρ β : Type} (g : ρ → Option β) (f : Option β) : el0 (some (.inr ())) g f = f := of_eq_true (eq_true rfl)
theorem el1_l {ρ α β : Type} (v : ρ) (g : ρ → Option β) (f : α → Option β) : el1 (some (.inl v)) g f = g v := of_eq_true (eq_true rfl)
theorem el1_r {ρ α β : Type} (a : α) (g : ρ → Option β) (f : α → Option β) : el1 (some (.inr a)) g f = f a := of_eq_true (eq_true rfl)
theorem el2_l {ρ α γ β : Type} (v : ρ) (g : ρ → Option β) (f : α → γ → Option β) : el2 (some (.inl v)) g f = g v := of_eq_true (eq_true rfl)
theorem el2_r {ρ α γ β : Type} (a : α) (b : γ) (g : ρ → Option β) (f : α → γ → Option β) : el2 (some (.inr (a, b))) g f = f a b := of_eq_true (eq_true rfl)
theorem gd_e {β : Type} {p : Prop} [Decidable p] (h : p) (v : Option β) : gd p v = v := if_pos h
abbrev AT : Type := Nat → Int → Int → Int
def VV (a : AT) (r : Nat → Nat → Option Nat) (n : Nat → Nat) : MS := (fun k j => iz (a (k % 64) (j : Int) ((k / 64 : Nat) : Int)), r, n)
def kk (t : Nat) (m : Int) : Nat := 64 * m.toNat + t
def up (a : AT) (t : Nat) (j m v : Int) : AT := fun t' j' m' => if t' = t ∧ j' = j ∧ m' = m then v else a t' j' m'
theorem up_e (a : AT) (t : Nat) (j m v : Int) (t' : Nat) (j' m' : Int) : up a t j m v t' j' m' = if t' = t ∧ j' = j ∧ m' = m then v else a t' j' m' := rfl
theorem VV_r (a : AT) (r : Nat → Nat → Option Nat) (n : Nat → Nat) : (VV a r n).2.1 = r := rfl
theorem VV_n (a : AT) (r : Nat → Nat → Option Nat) (n : Nat → Nat) : (VV a r n).2.2 = n := rfl
theorem VV_ex (s : MS) : ∃ a, s = VV a s.2.1 s.2.2 := by
  refine ⟨fun t j m => (s.1 (64 * m.toNat + t) j.toNat).toInt, ?_⟩
  refine Prod.ext ?_ rfl
  funext k j
  show s.1 k j = iz _
  rw [iz_self]
  have h1 : 64 * ((k / 64 : Nat) : Int).toNat + k % 64 = k := by omega
  rw [h1]
  rfl
theorem V_k {a : AT} {r : Nat → Nat → Option Nat} {n : Nat → Nat} {t : Nat} {m : Int} (j : Nat) (h1 : t < 64) (h2 : 0 ≤ m) : (VV a r n).1 (kk t m) j = iz (a t (j : Int) m) := by
  show iz (a ((64 * m.toNat + t) % 64) (j : Int) (((64 * m.toNat + t) / 64 : Nat) : Int)) = _
  have e1 : (64 * m.toNat + t) % 64 = t := by omega
  have e2 : (((64 * m.toNat + t) / 64 : Nat) : Int) = m := by omega
  rw [e1, e2]
theorem W_k {a : AT} {r : Nat → Nat → Option Nat} {n : Nat → Nat} {t : Nat} {m : Int} (j : Nat) (v : Int) (h1 : t < 64) (h2 : 0 ≤ m) : wi (VV a r n) (kk t m) j (iz v) = VV (up a t (j : Int) m v) r n := by
  refine Prod.ext ?_ rfl
  funext k' j'
  show (if k' = 64 * m.toNat + t ∧ j' = j then iz v else iz (a (k' % 64) (j' : Int) ((k' / 64 : Nat) : Int))) = iz (up a t (j : Int) m v (k' % 64) (j' : Int) ((k' / 64 : Nat) : Int))
  unfold up
  by_cases h : k' = 64 * m.toNat + t ∧ j' = j
  · rw [if_pos h, if_pos ⟨by omega, by omega, by omega⟩]
  · rw [if_neg h, if_neg (fun q => h ⟨by omega, by omega⟩)]
theorem kk_m {t : Nat} (m : Int) (h1 : t < 64) : kk t m % 64 = t := by unfold kk; omega
theorem kk_d {t : Nat} (m : Int) (h1 : t < 64) : kk t m / 64 = m.toNat := by unfold kk; omega
theorem kk_z (t : Nat) : kk t 0 = t := by unfold kk; omega
theorem kk_inj {t u : Nat} {m q : Int} (h1 : t < 64) (h2 : u < 64) (h3 : 0 ≤ m) (h4 : 0 ≤ q) : (kk t m = kk u q) = (t = u ∧ m = q) := by
  unfold kk; apply propext; constructor
  · intro h; omega
  · intro h; obtain ⟨e1, e2⟩ := h; rw [e1, e2]
/-- a loop with a counter that goes up: an invariant, and where it ends -/
theorem lpQ {σ β : Type} {L : Nat → Int → σ → Option β} {Q : Int → σ → Prop} {R : β → Prop} {hi : Int}
    (step : ∀ n i s, i < hi → Q i s → (∃ s', Q (i + 1) s' ∧ L (n + 1) i s = L n (i + 1) s') ∨ (∃ b, L (n + 1) i s = some b ∧ R b))
    (fin : ∀ n s, Q hi s → ∃ b, L (n + 1) hi s = some b ∧ R b) : ∀ (n : Nat) (i : Int) (s : σ), i ≤ hi → hi < i + n → Q i s → ∃ b, L n i s = some b ∧ R b := by
  intro n
  induction n with
  | zero => intro i s h1 h2 _; exfalso; omega
  | succ n ih =>
    intro i s h1 h2 hq
    by_cases he : i = hi
    · subst he; exact fin n s hq
    · rcases step n i s (by omega) hq with ⟨s', hq', e⟩ | h
      · rw [e]; exact ih (i + 1) s' (by omega) (by omega) hq'
      · exact h
/-- a search that ends at the first place where p holds -/
theorem lpS {ρ : Type} {L : Nat → Int → Option (ρ ⊕ Unit)} {p : Int → Prop} {g : Int → ρ} {hi : Int}
    {lo : Int} (st : ∀ (n : Nat) (i : Int), lo ≤ i → i < hi → (p i → L (n + 1) i = some (.inl (g i))) ∧ (¬ p i → L (n + 1) i = L n (i + 1)))
    (fin : ∀ n : Nat, L (n + 1) hi = some (.inr ())) (n : Nat) (h1 : lo ≤ hi) (h2 : hi < lo + n) :
    (∃ i, lo ≤ i ∧ i < hi ∧ p i ∧ (∀ j, lo ≤ j → j < i → ¬ p j) ∧ L n lo = some (.inl (g i))) ∨ ((∀ j, lo ≤ j → j < hi → ¬ p j) ∧ L n lo = some (.inr ())) := by
  have := lpQ (L := fun n i (_ : Unit) => L n i) (Q := fun i _ => lo ≤ i ∧ ∀ j, lo ≤ j → j < i → ¬ p j) (hi := hi)
    (R := fun b => (∃ i, lo ≤ i ∧ i < hi ∧ p i ∧ (∀ j, lo ≤ j → j < i → ¬ p j) ∧ b = .inl (g i)) ∨ ((∀ j, lo ≤ j → j < hi → ¬ p j) ∧ b = .inr ()))
    (fun n i _ hi' hq => by
      by_cases hp : p i
      · exact Or.inr ⟨_, (st n i hq.1 hi').1 hp, Or.inl ⟨i, hq.1, hi', hp, hq.2, rfl⟩⟩
      · refine Or.inl ⟨(), ⟨by omega, fun j h3 h4 => ?_⟩, (st n i hq.1 hi').2 hp⟩
        by_cases hj : j = i
        · rw [hj]; exact hp
        · exact hq.2 j h3 (by omega))
    (fun n _ hq => ⟨_, fin n, Or.inr ⟨hq.2, rfl⟩⟩) n lo () h1 h2 ⟨Int.le_refl _, fun j h3 h4 => by omega⟩
  obtain ⟨b, hb, hr⟩ := this
  rcases hr with ⟨i, h3, h4, h5, h6, h7⟩ | ⟨h3, h4⟩
  · exact Or.inl ⟨i, h3, h4, h5, h6, by rw [← h7]; exact hb⟩
  · exact Or.inr ⟨h3, by rw [← h4]; exact hb⟩
/-- a search for one place: 1 or the end -/
theorem lpB {L : Nat → Int → Option (Int32 ⊕ Unit)} {p : Int → Prop} {hi lo : Int} (st : ∀ (n : Nat) (i : Int), lo ≤ i → i < hi → (p i → L (n + 1) i = some (.inl (iz 1))) ∧ (¬ p i → L (n + 1) i = L n (i + 1)))
    (fin : ∀ n : Nat, L (n + 1) hi = some (.inr ())) (n : Nat) (h1 : lo ≤ hi) (h2 : hi < lo + n) : el0 (L n lo) some (some (iz 0)) = some (iz (cb (∃ i, lo ≤ i ∧ i < hi ∧ p i))) := by
  rcases lpS (g := fun _ => iz 1) st fin n h1 h2 with ⟨i, h3, h4, h5, h6, h7⟩ | ⟨h3, h4⟩
  · rw [h7, cb_t ⟨i, h3, h4, h5⟩]; rfl
  · rw [h4, cb_f (fun ⟨i, a, b, c⟩ => h3 i a b c)]; rfl
/-- the first place in [lo, hi) where p holds; -1 without one -/
noncomputable def fst_ (lo hi : Int) (p : Int → Prop) : Int := @dite Int (∃ i, lo ≤ i ∧ i < hi ∧ p i ∧ ∀ j, lo ≤ j → j < i → ¬ p j) (Classical.propDecidable _) (fun h => Classical.choose h) (fun _ => -1)
theorem fst_i {lo hi i : Int} {p : Int → Prop} (h1 : lo ≤ i) (h2 : i < hi) (h3 : p i) (h4 : ∀ j, lo ≤ j → j < i → ¬ p j) : fst_ lo hi p = i := by
  have he : ∃ i, lo ≤ i ∧ i < hi ∧ p i ∧ ∀ j, lo ≤ j → j < i → ¬ p j := ⟨i, h1, h2, h3, h4⟩
  unfold fst_
  rw [dif_pos he]
  obtain ⟨a1, a2, a3, a4⟩ := Classical.choose_spec he
  have b1 : ¬ Classical.choose he < i := fun h => h4 _ a1 h a3
  have b2 : ¬ i < Classical.choose he := fun h => a4 _ h1 h h3
  omega
theorem fst_n {lo hi : Int} {p : Int → Prop} (h : ∀ j, lo ≤ j → j < hi → ¬ p j) : fst_ lo hi p = -1 := by
  unfold fst_
  rw [dif_neg (fun ⟨i, a, b, c, _⟩ => h i a b c)]
theorem fst_cases (lo hi : Int) (p : Int → Prop) : (lo ≤ fst_ lo hi p ∧ fst_ lo hi p < hi ∧ p (fst_ lo hi p) ∧ ∀ j, lo ≤ j → j < fst_ lo hi p → ¬ p j) ∨ (fst_ lo hi p = -1 ∧ ∀ j, lo ≤ j → j < hi → ¬ p j) := by
  by_cases he : ∃ i, lo ≤ i ∧ i < hi ∧ p i ∧ ∀ j, lo ≤ j → j < i → ¬ p j
  · obtain ⟨i, h1, h2, h3, h4⟩ := he
    rw [fst_i h1 h2 h3 h4]; exact Or.inl ⟨h1, h2, h3, h4⟩
  · right
    have key : ∀ (k : Nat) (j : Int), lo ≤ j → j < hi → j < lo + k → ¬ p j := by
      intro k
      induction k with
      | zero => intro j h1 h2 h3; exfalso; omega
      | succ k ih => intro j h1 h2 h3 hp; exact he ⟨j, h1, h2, hp, fun q a b => ih q a (by omega) (by omega)⟩
    have hn : ∀ j, lo ≤ j → j < hi → ¬ p j := fun j h1 h2 => key ((j - lo).toNat + 1) j h1 h2 (by omega)
    exact ⟨fst_n hn, hn⟩
theorem lpF {L : Nat → Int → Option (Int32 ⊕ Unit)} {p : Int → Prop} {hi lo : Int} (st : ∀ (n : Nat) (i : Int), lo ≤ i → i < hi → (p i → L (n + 1) i = some (.inl (iz i))) ∧ (¬ p i → L (n + 1) i = L n (i + 1)))
    (fin : ∀ n : Nat, L (n + 1) hi = some (.inr ())) (n : Nat) (h1 : lo ≤ hi) (h2 : hi < lo + n) : el0 (L n lo) some (some (iz (-1))) = some (iz (fst_ lo hi p)) := by
  rcases lpS (g := fun i => iz i) st fin n h1 h2 with ⟨i, h3, h4, h5, h6, h7⟩ | ⟨h3, h4⟩
  · rw [h7, fst_i h3 h4 h5 h6]; rfl
  · rw [h4, fst_n h3]; rfl
/-- how many places in [0, k) hold -/
noncomputable def cnt (p : Int → Prop) : Nat → Int
  | 0 => 0
  | k + 1 => cnt p k + cb (p k)
theorem cnt_s (p : Int → Prop) {i : Int} (h : 0 ≤ i) : cnt p (i + 1).toNat = cnt p i.toNat + cb (p i) := by
  have e : (i + 1).toNat = i.toNat + 1 := by omega
  rw [e]
  show cnt p i.toNat + cb (p (i.toNat : Int)) = _
  have e2 : ((i.toNat : Nat) : Int) = i := by omega
  rw [e2]
/-- which cells there are, and what refers to what -/
def Sh (r : Nat → Nat → Option Nat) (n : Nat → Nat) (nr nm np : Int) : Prop :=
  ((0 ≤ nr ∧ nr ≤ 10) ∧ (0 ≤ nm ∧ nm ≤ 10) ∧ (0 ≤ np ∧ np ≤ 40)) ∧
  (∀ k, k < 10 ∨ k = 50 ∨ k = 51 → n k = 1) ∧
  (n 10 = nr.toNat) ∧
  (n 11 = nm.toNat) ∧
  (n 12 = np.toNat + 1) ∧
  (n 13 = np.toNat + 1) ∧
  (r 0 0 = some 1) ∧
  (r 0 1 = some 6) ∧
  (r 0 2 = some 7) ∧
  (r 0 3 = some 8) ∧
  (r 0 4 = some 9) ∧
  (r 0 5 = some (kk 12 np)) ∧
  (r 1 0 = some 2) ∧
  (r 1 1 = some 3) ∧
  (r 1 2 = some 4) ∧
  (r 1 3 = some 5) ∧
  (∀ i : Int, 0 ≤ i → i < 10 → r 6 i.toNat = if i < nr then some (kk 10 i) else none) ∧
  (∀ i : Int, 0 ≤ i → i < 10 → r 7 i.toNat = if i < nm then some (kk 11 i) else none) ∧
  (∀ i : Int, 0 ≤ i → i < 40 → r 8 i.toNat = if i < np then some (kk 12 i) else none) ∧
  (∀ i : Int, 0 ≤ i → i ≤ np → r (kk 12 i) 0 = some (kk 13 i))
section SH
variable {r : Nat → Nat → Option Nat} {n : Nat → Nat} {nr nm np : Int}
theorem Sh.b (h : Sh r n nr nm np) : (0 ≤ nr ∧ nr ≤ 10) ∧ (0 ≤ nm ∧ nm ≤ 10) ∧ (0 ≤ np ∧ np ≤ 40) := h.1
theorem Sh.n1 (h : Sh r n nr nm np) : ∀ k, k < 10 ∨ k = 50 ∨ k = 51 → n k = 1 := h.2.1
theorem Sh.n10 (h : Sh r n nr nm np) : n 10 = nr.toNat := h.2.2.1
theorem Sh.n11 (h : Sh r n nr nm np) : n 11 = nm.toNat := h.2.2.2.1
theorem Sh.n12 (h : Sh r n nr nm np) : n 12 = np.toNat + 1 := h.2.2.2.2.1
theorem Sh.n13 (h : Sh r n nr nm np) : n 13 = np.toNat + 1 := h.2.2.2.2.2.1
theorem Sh.r0_0 (h : Sh r n nr nm np) : r 0 0 = some 1 := h.2.2.2.2.2.2.1
theorem Sh.r0_1 (h : Sh r n nr nm np) : r 0 1 = some 6 := h.2.2.2.2.2.2.2.1
theorem Sh.r0_2 (h : Sh r n nr nm np) : r 0 2 = some 7 := h.2.2.2.2.2.2.2.2.1
theorem Sh.r0_3 (h : Sh r n nr nm np) : r 0 3 = some 8 := h.2.2.2.2.2.2.2.2.2.1
theorem Sh.r0_4 (h : Sh r n nr nm np) : r 0 4 = some 9 := h.2.2.2.2.2.2.2.2.2.2.1
theorem Sh.r0_5 (h : Sh r n nr nm np) : r 0 5 = some (kk 12 np) := h.2.2.2.2.2.2.2.2.2.2.2.1
theorem Sh.r1_0 (h : Sh r n nr nm np) : r 1 0 = some 2 := h.2.2.2.2.2.2.2.2.2.2.2.2.1
theorem Sh.r1_1 (h : Sh r n nr nm np) : r 1 1 = some 3 := h.2.2.2.2.2.2.2.2.2.2.2.2.2.1
theorem Sh.r1_2 (h : Sh r n nr nm np) : r 1 2 = some 4 := h.2.2.2.2.2.2.2.2.2.2.2.2.2.2.1
theorem Sh.r1_3 (h : Sh r n nr nm np) : r 1 3 = some 5 := h.2.2.2.2.2.2.2.2.2.2.2.2.2.2.2.1
theorem Sh.r6 (h : Sh r n nr nm np) : ∀ i : Int, 0 ≤ i → i < 10 → r 6 i.toNat = if i < nr then some (kk 10 i) else none := h.2.2.2.2.2.2.2.2.2.2.2.2.2.2.2.2.1
theorem Sh.r7 (h : Sh r n nr nm np) : ∀ i : Int, 0 ≤ i → i < 10 → r 7 i.toNat = if i < nm then some (kk 11 i) else none := h.2.2.2.2.2.2.2.2.2.2.2.2.2.2.2.2.2.1
theorem Sh.r8 (h : Sh r n nr nm np) : ∀ i : Int, 0 ≤ i → i < 40 → r 8 i.toNat = if i < np then some (kk 12 i) else none := h.2.2.2.2.2.2.2.2.2.2.2.2.2.2.2.2.2.2.1
theorem Sh.r12 (h : Sh r n nr nm np) : ∀ i : Int, 0 ≤ i → i ≤ np → r (kk 12 i) 0 = some (kk 13 i) := h.2.2.2.2.2.2.2.2.2.2.2.2.2.2.2.2.2.2.2
theorem rf_0 (h : Sh r n nr nm np) : rf n 0 (some 0) = some 0 := by
  show (if 0 % 64 = 0 ∧ 0 / 64 < n (0 % 64) then some 0 else none) = some 0
  rw [show 0 % 64 = 0 from rfl, h.n1 0 (by omega)]; rfl
theorem rf_1 (h : Sh r n nr nm np) : rf n 1 (some 1) = some 1 := by
  show (if 1 % 64 = 1 ∧ 1 / 64 < n (1 % 64) then some 1 else none) = some 1
  rw [show 1 % 64 = 1 from rfl, h.n1 1 (by omega)]; rfl
theorem rf_10 (h : Sh r n nr nm np) {i : Int} (h1 : 0 ≤ i) (h2 : i < nr) : rf n 10 (some (kk 10 i)) = some (kk 10 i) := by
  show (if kk 10 i % 64 = 10 ∧ kk 10 i / 64 < n (kk 10 i % 64) then some (kk 10 i) else none) = _
  rw [kk_m i (by omega), kk_d i (by omega), h.n10]
  exact if_pos ⟨rfl, by omega⟩
theorem rf_11 (h : Sh r n nr nm np) {i : Int} (h1 : 0 ≤ i) (h2 : i < nm) : rf n 11 (some (kk 11 i)) = some (kk 11 i) := by
  show (if kk 11 i % 64 = 11 ∧ kk 11 i / 64 < n (kk 11 i % 64) then some (kk 11 i) else none) = _
  rw [kk_m i (by omega), kk_d i (by omega), h.n11]
  exact if_pos ⟨rfl, by omega⟩
theorem rf_12 (h : Sh r n nr nm np) {i : Int} (h1 : 0 ≤ i) (h2 : i ≤ np) : rf n 12 (some (kk 12 i)) = some (kk 12 i) := by
  show (if kk 12 i % 64 = 12 ∧ kk 12 i / 64 < n (kk 12 i % 64) then some (kk 12 i) else none) = _
  rw [kk_m i (by omega), kk_d i (by omega), h.n12]
  exact if_pos ⟨rfl, by omega⟩
theorem rl_2 (h : Sh r n nr nm np) : rl n 0 (some 2) = some 100 := by
  show (if 0 = 0 ∧ 2 / 64 < n (2 % 64) then some 100 else none) = some 100
  rw [show 2 % 64 = 2 from rfl, h.n1 2 (by omega)]; rfl
theorem ra_2 (h : Sh r n nr nm np) {z : Int} (h1 : 0 ≤ z) (h2 : z < 100) : ra n 0 (some 2) (iz z) = some 2 := by
  show (if (0 = 0 ∧ 2 / 64 < n (2 % 64)) ∧ ¬ (iz z < 0 ∨ 100 ≤ (iz z).toNatClampNeg) then some 2 else none) = some 2
  rw [show 2 % 64 = 2 from rfl, h.n1 2 (by omega), iz_n (by omega) (by omega)]
  exact if_pos ⟨⟨rfl, by omega⟩, by rw [z_0, iz_lt (by omega) (by omega) (by omega) (by omega)]; omega⟩
theorem rl_3 (h : Sh r n nr nm np) : rl n 0 (some 3) = some 8 := by
  show (if 0 = 0 ∧ 3 / 64 < n (3 % 64) then some 8 else none) = some 8
  rw [show 3 % 64 = 3 from rfl, h.n1 3 (by omega)]; rfl
theorem ra_3 (h : Sh r n nr nm np) {z : Int} (h1 : 0 ≤ z) (h2 : z < 8) : ra n 0 (some 3) (iz z) = some 3 := by
  show (if (0 = 0 ∧ 3 / 64 < n (3 % 64)) ∧ ¬ (iz z < 0 ∨ 8 ≤ (iz z).toNatClampNeg) then some 3 else none) = some 3
  rw [show 3 % 64 = 3 from rfl, h.n1 3 (by omega), iz_n (by omega) (by omega)]
  exact if_pos ⟨⟨rfl, by omega⟩, by rw [z_0, iz_lt (by omega) (by omega) (by omega) (by omega)]; omega⟩
theorem rl_4 (h : Sh r n nr nm np) : rl n 0 (some 4) = some 5 := by
  show (if 0 = 0 ∧ 4 / 64 < n (4 % 64) then some 5 else none) = some 5
  rw [show 4 % 64 = 4 from rfl, h.n1 4 (by omega)]; rfl
theorem ra_4 (h : Sh r n nr nm np) {z : Int} (h1 : 0 ≤ z) (h2 : z < 5) : ra n 0 (some 4) (iz z) = some 4 := by
  show (if (0 = 0 ∧ 4 / 64 < n (4 % 64)) ∧ ¬ (iz z < 0 ∨ 5 ≤ (iz z).toNatClampNeg) then some 4 else none) = some 4
  rw [show 4 % 64 = 4 from rfl, h.n1 4 (by omega), iz_n (by omega) (by omega)]
  exact if_pos ⟨⟨rfl, by omega⟩, by rw [z_0, iz_lt (by omega) (by omega) (by omega) (by omega)]; omega⟩
theorem rl_5 (h : Sh r n nr nm np) : rl n 0 (some 5) = some 5 := by
  show (if 0 = 0 ∧ 5 / 64 < n (5 % 64) then some 5 else none) = some 5
  rw [show 5 % 64 = 5 from rfl, h.n1 5 (by omega)]; rfl
theorem ra_5 (h : Sh r n nr nm np) {z : Int} (h1 : 0 ≤ z) (h2 : z < 5) : ra n 0 (some 5) (iz z) = some 5 := by
  show (if (0 = 0 ∧ 5 / 64 < n (5 % 64)) ∧ ¬ (iz z < 0 ∨ 5 ≤ (iz z).toNatClampNeg) then some 5 else none) = some 5
  rw [show 5 % 64 = 5 from rfl, h.n1 5 (by omega), iz_n (by omega) (by omega)]
  exact if_pos ⟨⟨rfl, by omega⟩, by rw [z_0, iz_lt (by omega) (by omega) (by omega) (by omega)]; omega⟩
theorem rl_6 (h : Sh r n nr nm np) : rl n 3 (some 6) = some 10 := by
  show (if 3 = 3 ∧ 6 / 64 < n (6 % 64) then some 10 else none) = some 10
  rw [show 6 % 64 = 6 from rfl, h.n1 6 (by omega)]; rfl
theorem ra_6 (h : Sh r n nr nm np) {z : Int} (h1 : 0 ≤ z) (h2 : z < 10) : ra n 3 (some 6) (iz z) = some 6 := by
  show (if (3 = 3 ∧ 6 / 64 < n (6 % 64)) ∧ ¬ (iz z < 0 ∨ 10 ≤ (iz z).toNatClampNeg) then some 6 else none) = some 6
  rw [show 6 % 64 = 6 from rfl, h.n1 6 (by omega), iz_n (by omega) (by omega)]
  exact if_pos ⟨⟨rfl, by omega⟩, by rw [z_0, iz_lt (by omega) (by omega) (by omega) (by omega)]; omega⟩
theorem rl_7 (h : Sh r n nr nm np) : rl n 4 (some 7) = some 10 := by
  show (if 4 = 4 ∧ 7 / 64 < n (7 % 64) then some 10 else none) = some 10
  rw [show 7 % 64 = 7 from rfl, h.n1 7 (by omega)]; rfl
theorem ra_7 (h : Sh r n nr nm np) {z : Int} (h1 : 0 ≤ z) (h2 : z < 10) : ra n 4 (some 7) (iz z) = some 7 := by
  show (if (4 = 4 ∧ 7 / 64 < n (7 % 64)) ∧ ¬ (iz z < 0 ∨ 10 ≤ (iz z).toNatClampNeg) then some 7 else none) = some 7
  rw [show 7 % 64 = 7 from rfl, h.n1 7 (by omega), iz_n (by omega) (by omega)]
  exact if_pos ⟨⟨rfl, by omega⟩, by rw [z_0, iz_lt (by omega) (by omega) (by omega) (by omega)]; omega⟩
theorem rl_8 (h : Sh r n nr nm np) : rl n 5 (some 8) = some 40 := by
  show (if 5 = 5 ∧ 8 / 64 < n (8 % 64) then some 40 else none) = some 40
  rw [show 8 % 64 = 8 from rfl, h.n1 8 (by omega)]; rfl
theorem ra_8 (h : Sh r n nr nm np) {z : Int} (h1 : 0 ≤ z) (h2 : z < 40) : ra n 5 (some 8) (iz z) = some 8 := by
  show (if (5 = 5 ∧ 8 / 64 < n (8 % 64)) ∧ ¬ (iz z < 0 ∨ 40 ≤ (iz z).toNatClampNeg) then some 8 else none) = some 8
  rw [show 8 % 64 = 8 from rfl, h.n1 8 (by omega), iz_n (by omega) (by omega)]
  exact if_pos ⟨⟨rfl, by omega⟩, by rw [z_0, iz_lt (by omega) (by omega) (by omega) (by omega)]; omega⟩
theorem rl_9 (h : Sh r n nr nm np) : rl n 0 (some 9) = some 40 := by
  show (if 0 = 0 ∧ 9 / 64 < n (9 % 64) then some 40 else none) = some 40
  rw [show 9 % 64 = 9 from rfl, h.n1 9 (by omega)]; rfl
theorem ra_9 (h : Sh r n nr nm np) {z : Int} (h1 : 0 ≤ z) (h2 : z < 40) : ra n 0 (some 9) (iz z) = some 9 := by
  show (if (0 = 0 ∧ 9 / 64 < n (9 % 64)) ∧ ¬ (iz z < 0 ∨ 40 ≤ (iz z).toNatClampNeg) then some 9 else none) = some 9
  rw [show 9 % 64 = 9 from rfl, h.n1 9 (by omega), iz_n (by omega) (by omega)]
  exact if_pos ⟨⟨rfl, by omega⟩, by rw [z_0, iz_lt (by omega) (by omega) (by omega) (by omega)]; omega⟩
theorem rl_50 (h : Sh r n nr nm np) : rl n 0 (some 50) = some 4 := by
  show (if 0 = 0 ∧ 50 / 64 < n (50 % 64) then some 4 else none) = some 4
  rw [show 50 % 64 = 50 from rfl, h.n1 50 (by omega)]; rfl
theorem ra_50 (h : Sh r n nr nm np) {z : Int} (h1 : 0 ≤ z) (h2 : z < 4) : ra n 0 (some 50) (iz z) = some 50 := by
  show (if (0 = 0 ∧ 50 / 64 < n (50 % 64)) ∧ ¬ (iz z < 0 ∨ 4 ≤ (iz z).toNatClampNeg) then some 50 else none) = some 50
  rw [show 50 % 64 = 50 from rfl, h.n1 50 (by omega), iz_n (by omega) (by omega)]
  exact if_pos ⟨⟨rfl, by omega⟩, by rw [z_0, iz_lt (by omega) (by omega) (by omega) (by omega)]; omega⟩
theorem rl_51 (h : Sh r n nr nm np) : rl n 0 (some 51) = some 10 := by
  show (if 0 = 0 ∧ 51 / 64 < n (51 % 64) then some 10 else none) = some 10
  rw [show 51 % 64 = 51 from rfl, h.n1 51 (by omega)]; rfl
theorem ra_51 (h : Sh r n nr nm np) {z : Int} (h1 : 0 ≤ z) (h2 : z < 10) : ra n 0 (some 51) (iz z) = some 51 := by
  show (if (0 = 0 ∧ 51 / 64 < n (51 % 64)) ∧ ¬ (iz z < 0 ∨ 10 ≤ (iz z).toNatClampNeg) then some 51 else none) = some 51
  rw [show 51 % 64 = 51 from rfl, h.n1 51 (by omega), iz_n (by omega) (by omega)]
  exact if_pos ⟨⟨rfl, by omega⟩, by rw [z_0, iz_lt (by omega) (by omega) (by omega) (by omega)]; omega⟩
theorem rl_13 (h : Sh r n nr nm np) {i : Int} (h1 : 0 ≤ i) (h2 : i ≤ np) : rl n 0 (some (kk 13 i)) = some 81 := by
  show (match lay (kk 13 i % 64) with | .inl _ => none | .inr q => if q.1 = 0 ∧ kk 13 i / 64 < n (kk 13 i % 64) then some q.2 else none) = some 81
  rw [kk_m i (by omega), kk_d i (by omega), h.n13]
  exact if_pos ⟨rfl, by omega⟩
theorem ra_13 (h : Sh r n nr nm np) {i z : Int} (h1 : 0 ≤ i) (h2 : i ≤ np) (h3 : 0 ≤ z) (h4 : z < 81) : ra n 0 (some (kk 13 i)) (iz z) = some (kk 13 i) := by
  show (match lay (kk 13 i % 64) with | .inl _ => none | .inr q => if (q.1 = 0 ∧ kk 13 i / 64 < n (kk 13 i % 64)) ∧ ¬ (iz z < 0 ∨ q.2 ≤ (iz z).toNatClampNeg) then some (kk 13 i) else none) = _
  rw [kk_m i (by omega), kk_d i (by omega), h.n13, iz_n (by omega) (by omega)]
  exact if_pos ⟨⟨rfl, by omega⟩, by show ¬ (iz z < 0 ∨ 81 ≤ z.toNat); rw [z_0, iz_lt (by omega) (by omega) (by omega) (by omega)]; omega⟩
theorem r6_i (h : Sh r n nr nm np) {i : Int} (h1 : 0 ≤ i) (h2 : i < nr) : r 6 (iz i).toNatClampNeg = some (kk 10 i) := by
  have hb := h.b
  rw [iz_n (by omega) (by omega), h.r6 i h1 (by omega), if_pos h2]
theorem r6_o (h : Sh r n nr nm np) {i : Int} (h1 : nr ≤ i) (h2 : i < 10) : r 6 (iz i).toNatClampNeg = none := by
  have hb := h.b
  rw [iz_n (by omega) (by omega), h.r6 i (by omega) h2, if_neg (by omega)]
theorem r7_i (h : Sh r n nr nm np) {i : Int} (h1 : 0 ≤ i) (h2 : i < nm) : r 7 (iz i).toNatClampNeg = some (kk 11 i) := by
  have hb := h.b
  rw [iz_n (by omega) (by omega), h.r7 i h1 (by omega), if_pos h2]
theorem r7_o (h : Sh r n nr nm np) {i : Int} (h1 : nm ≤ i) (h2 : i < 10) : r 7 (iz i).toNatClampNeg = none := by
  have hb := h.b
  rw [iz_n (by omega) (by omega), h.r7 i (by omega) h2, if_neg (by omega)]
theorem r8_i (h : Sh r n nr nm np) {i : Int} (h1 : 0 ≤ i) (h2 : i < np) : r 8 (iz i).toNatClampNeg = some (kk 12 i) := by
  have hb := h.b
  rw [iz_n (by omega) (by omega), h.r8 i h1 (by omega), if_pos h2]
theorem r8_o (h : Sh r n nr nm np) {i : Int} (h1 : np ≤ i) (h2 : i < 40) : r 8 (iz i).toNatClampNeg = none := by
  have hb := h.b
  rw [iz_n (by omega) (by omega), h.r8 i (by omega) h2, if_neg (by omega)]
end SH
section VL
variable {a : AT} {r : Nat → Nat → Option Nat} {n : Nat → Nat}
theorem V_0 (j : Nat) : (VV a r n).1 0 j = iz (a 0 (j : Int) 0) := rfl
theorem W_0 (j : Nat) (v : Int) : wi (VV a r n) 0 j (iz v) = VV (up a 0 (j : Int) 0 v) r n := W_k (t := 0) (m := 0) j v (by omega) (by omega)
theorem V_1 (j : Nat) : (VV a r n).1 1 j = iz (a 1 (j : Int) 0) := rfl
theorem W_1 (j : Nat) (v : Int) : wi (VV a r n) 1 j (iz v) = VV (up a 1 (j : Int) 0 v) r n := W_k (t := 1) (m := 0) j v (by omega) (by omega)
theorem V_2 (j : Nat) : (VV a r n).1 2 j = iz (a 2 (j : Int) 0) := rfl
theorem W_2 (j : Nat) (v : Int) : wi (VV a r n) 2 j (iz v) = VV (up a 2 (j : Int) 0 v) r n := W_k (t := 2) (m := 0) j v (by omega) (by omega)
theorem V_3 (j : Nat) : (VV a r n).1 3 j = iz (a 3 (j : Int) 0) := rfl
theorem W_3 (j : Nat) (v : Int) : wi (VV a r n) 3 j (iz v) = VV (up a 3 (j : Int) 0 v) r n := W_k (t := 3) (m := 0) j v (by omega) (by omega)
theorem V_4 (j : Nat) : (VV a r n).1 4 j = iz (a 4 (j : Int) 0) := rfl
theorem W_4 (j : Nat) (v : Int) : wi (VV a r n) 4 j (iz v) = VV (up a 4 (j : Int) 0 v) r n := W_k (t := 4) (m := 0) j v (by omega) (by omega)
theorem V_5 (j : Nat) : (VV a r n).1 5 j = iz (a 5 (j : Int) 0) := rfl
theorem W_5 (j : Nat) (v : Int) : wi (VV a r n) 5 j (iz v) = VV (up a 5 (j : Int) 0 v) r n := W_k (t := 5) (m := 0) j v (by omega) (by omega)
theorem V_6 (j : Nat) : (VV a r n).1 6 j = iz (a 6 (j : Int) 0) := rfl
theorem W_6 (j : Nat) (v : Int) : wi (VV a r n) 6 j (iz v) = VV (up a 6 (j : Int) 0 v) r n := W_k (t := 6) (m := 0) j v (by omega) (by omega)
theorem V_7 (j : Nat) : (VV a r n).1 7 j = iz (a 7 (j : Int) 0) := rfl
theorem W_7 (j : Nat) (v : Int) : wi (VV a r n) 7 j (iz v) = VV (up a 7 (j : Int) 0 v) r n := W_k (t := 7) (m := 0) j v (by omega) (by omega)
theorem V_8 (j : Nat) : (VV a r n).1 8 j = iz (a 8 (j : Int) 0) := rfl
theorem W_8 (j : Nat) (v : Int) : wi (VV a r n) 8 j (iz v) = VV (up a 8 (j : Int) 0 v) r n := W_k (t := 8) (m := 0) j v (by omega) (by omega)
theorem V_9 (j : Nat) : (VV a r n).1 9 j = iz (a 9 (j : Int) 0) := rfl
theorem W_9 (j : Nat) (v : Int) : wi (VV a r n) 9 j (iz v) = VV (up a 9 (j : Int) 0 v) r n := W_k (t := 9) (m := 0) j v (by omega) (by omega)
theorem V_50 (j : Nat) : (VV a r n).1 50 j = iz (a 50 (j : Int) 0) := rfl
theorem W_50 (j : Nat) (v : Int) : wi (VV a r n) 50 j (iz v) = VV (up a 50 (j : Int) 0 v) r n := W_k (t := 50) (m := 0) j v (by omega) (by omega)
theorem V_51 (j : Nat) : (VV a r n).1 51 j = iz (a 51 (j : Int) 0) := rfl
theorem W_51 (j : Nat) (v : Int) : wi (VV a r n) 51 j (iz v) = VV (up a 51 (j : Int) 0 v) r n := W_k (t := 51) (m := 0) j v (by omega) (by omega)
end VL
