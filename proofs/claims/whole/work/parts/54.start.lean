/-! the start -/
theorem nid_0 {a : AT} {r : Nat → Nat → Option Nat} {n : Nat → Nat} {t : Nat} (h : n t = 0) : nid (VV a r n) t = t := by
  show 64 * n t + t = t
  rw [h]; omega
theorem nw_0 {a : AT} {r : Nat → Nat → Option Nat} {n : Nat → Nat} {t : Nat} (ht : t < 64) (h : n t = 0) : nw (VV a r n) t = VV (zr a t 0) (clr r t) (sn n t) := by
  have := nw_e (a := a) (r := r) (n := n) (t := t) (m := 0) ht (by omega) h
  rw [kk_z] at this
  exact this
def az : AT := fun _ _ _ => 0
def rz : Nat → Nat → Option Nat := fun _ _ => none
def nz : Nat → Nat := fun _ => 0
theorem zr_z (t : Nat) (m : Int) : zr az t m = az := by
  funext t' j' m'
  unfold zr az
  split <;> rfl
theorem zr_u {a : AT} {t t' : Nat} {j m v m' : Int} (h : t ≠ t') : zr (up a t j m v) t' m' = up (zr a t' m') t j m v := by
  funext t1 j1 m1
  show (if t1 = t' ∧ m1 = m' then 0 else (if t1 = t ∧ j1 = j ∧ m1 = m then v else a t1 j1 m1)) = (if t1 = t ∧ j1 = j ∧ m1 = m then v else (if t1 = t' ∧ m1 = m' then 0 else a t1 j1 m1))
  by_cases c : t1 = t' ∧ m1 = m'
  · rw [if_pos c, if_neg (by omega), if_pos c]
  · rw [if_neg c, if_neg c]
theorem m0_e : m0 = VV az rz nz := by
  refine Prod.ext ?_ rfl
  funext k j
  exact z_0
def r_1 : Nat → Nat → Option Nat := sr (clr (sr (clr (sr (clr (sr (clr (clr (clr (rz) 0) 1) 2) 1 0 (some 2)) 3) 1 1 (some 3)) 4) 1 2 (some 4)) 5) 1 3 (some 5)
def n_1 : Nat → Nat := sn (sn (sn (sn (sn (sn (nz) 0) 1) 2) 3) 4) 5
def r_2 : Nat → Nat → Option Nat := sr (sr (clr (clr (sr (clr (sr (clr (sr (clr (sr (clr (sr (r_1) 0 0 (some 1)) 6) 0 1 (some 6)) 7) 0 2 (some 7)) 8) 0 3 (some 8)) 9) 0 4 (some 9)) 12) 13) 12 0 (some 13)) 0 5 (some 12)
def n_2 : Nat → Nat := sn (sn (sn (sn (sn (sn (n_1) 6) 7) 8) 9) 12) 13
def r_3 : Nat → Nat → Option Nat := sr (clr (sr (clr (sr (clr (sr (clr (sr (clr (sr (clr (sr (clr (sr (clr (sr (clr (sr (clr (sr (clr (sr (clr (sr (clr (sr (clr (sr (clr (sr (clr (sr (clr (sr (clr (sr (clr (clr (r_2) 20) 21) 20 2 (some 21)) 22) 20 3 (some 22)) 23) 20 5 (some 23)) 24) 20 6 (some 24)) 25) 20 8 (some 25)) 26) 20 9 (some 26)) 27) 20 10 (some 27)) 28) 20 11 (some 28)) 29) 20 12 (some 29)) 30) 20 13 (some 30)) 31) 20 14 (some 31)) 32) 20 16 (some 32)) 33) 20 18 (some 33)) 34) 20 19 (some 34)) 35) 20 20 (some 35)) 36) 20 21 (some 36)) 37) 20 22 (some 37)) 38) 20 23 (some 38)) 39) 20 25 (some 39)
def n_3 : Nat → Nat := sn (sn (sn (sn (sn (sn (sn (sn (sn (sn (sn (sn (sn (sn (sn (sn (sn (sn (sn (sn (n_2) 20) 21) 22) 23) 24) 25) 26) 27) 28) 29) 30) 31) 32) 33) 34) 35) 36) 37) 38) 39
def r_4 : Nat → Nat → Option Nat := clr (r_3) 50
def n_4 : Nat → Nat := sn (n_3) 50
def a_2 : AT := up az 0 12 0 (-1)
def a_3 : AT := up (up az 0 12 0 (-1)) 20 26 0 (-1)
theorem i_ci : f_Ci_init 1 (VV az (clr (clr rz 0) 1) (sn (sn nz 0) 1)) = some (VV az r_1 n_1) := by
  have h2 : (sn (sn nz 0) 1) 2 = 0 := rfl
  have h3 : (sn (sn (sn nz 0) 1) 2) 3 = 0 := rfl
  have h4 : (sn (sn (sn (sn nz 0) 1) 2) 3) 4 = 0 := rfl
  have h5 : (sn (sn (sn (sn (sn nz 0) 1) 2) 3) 4) 5 = 0 := rfl
  unfold f_Ci_init
  simp (disch := omega) only [lt__e, nid_0 h2, nw_0 (by omega) h2, nid_0 h3, nw_0 (by omega) h3, nid_0 h4, nw_0 (by omega) h4, nid_0 h5, nw_0 (by omega) h5, zr_z, wr_e]
  rfl
theorem i_sk : f_Sk_init 0 (VV az (clr rz 0) (sn nz 0)) = some (VV a_2 r_2 n_2) := by
  have h1 : (sn nz 0) 1 = 0 := rfl
  have h6 : (n_1) 6 = 0 := rfl
  have h7 : (sn (n_1) 6) 7 = 0 := rfl
  have h8 : (sn (sn (n_1) 6) 7) 8 = 0 := rfl
  have h9 : (sn (sn (sn (n_1) 6) 7) 8) 9 = 0 := rfl
  have h12 : (sn (sn (sn (sn (n_1) 6) 7) 8) 9) 12 = 0 := rfl
  have h13 : (sn (sn (sn (sn (sn (n_1) 6) 7) 8) 9) 12) 13 = 0 := rfl
  unfold f_Sk_init f_Pa_init
  simp (disch := omega) only [lt__e, bnd_e, nid_0 h1, nw_0 (by omega) h1, nid_0 h6, nw_0 (by omega) h6, nid_0 h7, nw_0 (by omega) h7, nid_0 h8, nw_0 (by omega) h8, nid_0 h9, nw_0 (by omega) h9, nid_0 h12, nw_0 (by omega) h12, nid_0 h13, nw_0 (by omega) h13, zr_z, wr_e, i_ci, z_1, iz_neg, W_0, Int.cast_ofNat_Int]
  rfl
theorem i_mo : f_Mo_init 20 (VV a_2 (clr r_2 20) (sn n_2 20)) = some (VV a_3 r_3 n_3) := by
  have h21 : (sn n_2 20) 21 = 0 := rfl
  have h22 : (sn (sn n_2 20) 21) 22 = 0 := rfl
  have h23 : (sn (sn (sn n_2 20) 21) 22) 23 = 0 := rfl
  have h24 : (sn (sn (sn (sn n_2 20) 21) 22) 23) 24 = 0 := rfl
  have h25 : (sn (sn (sn (sn (sn n_2 20) 21) 22) 23) 24) 25 = 0 := rfl
  have h26 : (sn (sn (sn (sn (sn (sn n_2 20) 21) 22) 23) 24) 25) 26 = 0 := rfl
  have h27 : (sn (sn (sn (sn (sn (sn (sn n_2 20) 21) 22) 23) 24) 25) 26) 27 = 0 := rfl
  have h28 : (sn (sn (sn (sn (sn (sn (sn (sn n_2 20) 21) 22) 23) 24) 25) 26) 27) 28 = 0 := rfl
  have h29 : (sn (sn (sn (sn (sn (sn (sn (sn (sn n_2 20) 21) 22) 23) 24) 25) 26) 27) 28) 29 = 0 := rfl
  have h30 : (sn (sn (sn (sn (sn (sn (sn (sn (sn (sn n_2 20) 21) 22) 23) 24) 25) 26) 27) 28) 29) 30 = 0 := rfl
  have h31 : (sn (sn (sn (sn (sn (sn (sn (sn (sn (sn (sn n_2 20) 21) 22) 23) 24) 25) 26) 27) 28) 29) 30) 31 = 0 := rfl
  have h32 : (sn (sn (sn (sn (sn (sn (sn (sn (sn (sn (sn (sn n_2 20) 21) 22) 23) 24) 25) 26) 27) 28) 29) 30) 31) 32 = 0 := rfl
  have h33 : (sn (sn (sn (sn (sn (sn (sn (sn (sn (sn (sn (sn (sn n_2 20) 21) 22) 23) 24) 25) 26) 27) 28) 29) 30) 31) 32) 33 = 0 := rfl
  have h34 : (sn (sn (sn (sn (sn (sn (sn (sn (sn (sn (sn (sn (sn (sn n_2 20) 21) 22) 23) 24) 25) 26) 27) 28) 29) 30) 31) 32) 33) 34 = 0 := rfl
  have h35 : (sn (sn (sn (sn (sn (sn (sn (sn (sn (sn (sn (sn (sn (sn (sn n_2 20) 21) 22) 23) 24) 25) 26) 27) 28) 29) 30) 31) 32) 33) 34) 35 = 0 := rfl
  have h36 : (sn (sn (sn (sn (sn (sn (sn (sn (sn (sn (sn (sn (sn (sn (sn (sn n_2 20) 21) 22) 23) 24) 25) 26) 27) 28) 29) 30) 31) 32) 33) 34) 35) 36 = 0 := rfl
  have h37 : (sn (sn (sn (sn (sn (sn (sn (sn (sn (sn (sn (sn (sn (sn (sn (sn (sn n_2 20) 21) 22) 23) 24) 25) 26) 27) 28) 29) 30) 31) 32) 33) 34) 35) 36) 37 = 0 := rfl
  have h38 : (sn (sn (sn (sn (sn (sn (sn (sn (sn (sn (sn (sn (sn (sn (sn (sn (sn (sn n_2 20) 21) 22) 23) 24) 25) 26) 27) 28) 29) 30) 31) 32) 33) 34) 35) 36) 37) 38 = 0 := rfl
  have h39 : (sn (sn (sn (sn (sn (sn (sn (sn (sn (sn (sn (sn (sn (sn (sn (sn (sn (sn (sn n_2 20) 21) 22) 23) 24) 25) 26) 27) 28) 29) 30) 31) 32) 33) 34) 35) 36) 37) 38) 39 = 0 := rfl
  unfold f_Mo_init a_2 a_3
  simp (disch := omega) only [lt__e, bnd_e, nid_0 h21, nw_0 (by omega) h21, nid_0 h22, nw_0 (by omega) h22, nid_0 h23, nw_0 (by omega) h23, nid_0 h24, nw_0 (by omega) h24, nid_0 h25, nw_0 (by omega) h25, nid_0 h26, nw_0 (by omega) h26, nid_0 h27, nw_0 (by omega) h27, nid_0 h28, nw_0 (by omega) h28, nid_0 h29, nw_0 (by omega) h29, nid_0 h30, nw_0 (by omega) h30, nid_0 h31, nw_0 (by omega) h31, nid_0 h32, nw_0 (by omega) h32, nid_0 h33, nw_0 (by omega) h33, nid_0 h34, nw_0 (by omega) h34, nid_0 h35, nw_0 (by omega) h35, nid_0 h36, nw_0 (by omega) h36, nid_0 h37, nw_0 (by omega) h37, nid_0 h38, nw_0 (by omega) h38, nid_0 h39, nw_0 (by omega) h39, zr_u, zr_z, wr_e, z_1, iz_neg, W_20, Int.cast_ofNat_Int]
  rfl
theorem law_0 (L : Nat) (xs : Nat → Int32) : f_La_law L xs m0 = l_La_law_23 L xs (some 0) (some 20) (some 50) 513 (iz 0) (VV a_3 r_4 n_4) := by
  have e1 : rf n_2 0 (some 0) = some 0 := rfl
  have e2 : rf n_3 20 (some 20) = some 20 := rfl
  have e3 : nid (VV az rz nz) 0 = 0 := nid_0 rfl
  have e4 : nw (VV az rz nz) 0 = VV az (clr rz 0) (sn nz 0) := by rw [nw_0 (by omega) rfl, zr_z]
  have e5 : nid (VV a_2 r_2 n_2) 20 = 20 := nid_0 rfl
  have e6 : nw (VV a_2 r_2 n_2) 20 = VV a_2 (clr r_2 20) (sn n_2 20) := by rw [nw_0 (by omega) rfl]; unfold a_2; rw [zr_u (by omega), zr_z]
  have e7 : nid (VV a_3 r_3 n_3) 50 = 50 := nid_0 rfl
  have e8 : nw (VV a_3 r_3 n_3) 50 = VV a_3 r_4 n_4 := by rw [nw_0 (by omega) rfl]; unfold a_3; rw [zr_u (by omega), zr_u (by omega), zr_z]; rfl
  rw [m0_e]
  unfold f_La_law
  simp (disch := omega) only [lt__e, bnd_e, e3, e4, i_sk, VV_n, e1, e5, e6, i_mo, e2, e7, e8, z_0]
theorem n_4_1 : ∀ k : Nat, k < 64 → (k < 10 ∨ (20 ≤ k ∧ k < 40) ∨ k = 50) → n_4 k = 1 := by decide +kernel
theorem Sh_0 : Sh r_4 n_4 0 0 0 := by
  refine ⟨by omega, fun k hk => n_4_1 k (by omega) hk, rfl, rfl, rfl, rfl, rfl, rfl, rfl, rfl, rfl, rfl, rfl, rfl, rfl, rfl, rfl, rfl, rfl, rfl, rfl, rfl, rfl, rfl, rfl, rfl, rfl, rfl, rfl, rfl, rfl, rfl, rfl, rfl, rfl, fun i i1 i2 => ?_, fun i i1 i2 => ?_, fun i i1 i2 => ?_, fun i i1 i2 => ?_⟩
  · rw [if_neg (by omega)]; rfl
  · rw [if_neg (by omega)]; rfl
  · rw [if_neg (by omega)]; rfl
  · have : i = 0 := by omega
    subst this
    rfl
theorem GG_0 : GG a_3 r_4 n_4 := by
  have v : ∀ t j m, ¬ (t = 0 ∧ j = 12) → ¬ (t = 20 ∧ j = 26) → a_3 t j m = 0 := fun t j m h1 h2 => by
    show (if t = 20 ∧ j = 26 ∧ m = 0 then (-1 : Int) else if t = 0 ∧ j = 12 ∧ m = 0 then -1 else 0) = 0
    rw [if_neg (fun z => h2 ⟨z.1, z.2.1⟩), if_neg (fun z => h1 ⟨z.1, z.2.1⟩)]
  have v12 : a_3 0 12 0 = -1 := rfl
  have v26 : a_3 20 26 0 = -1 := rfl
  have e14 : a_3 1 4 0 = 0 := v 1 4 0 (by omega) (by omega)
  have sp : ∀ c, ¬ isSp a_3 c := fun c ⟨i, i1, i2, _⟩ => by omega
  refine ⟨0, 0, 0, Sh_0, ⟨⟨⟨?_, ?_, ?_⟩, ?_, fun z => by omega⟩, ⟨?_, fun c c1 c2 => ?_, fun i i1 i2 => by omega, fun l l1 l2 => ?_, fun l l1 l2 => ?_, ?_, ?_, ?_, ?_⟩, ⟨?_, fun k k1 k2 => ?_⟩, fun i i1 i2 => by omega, fun i i1 i2 => by omega, fun i i1 i2 => by omega, fun i i1 i2 => by omega, fun i i1 i2 => by omega⟩,
    ⟨?_, fun i i1 i2 => ?_, fun i i1 i2 => ?_, fun i i1 i2 => ?_, fun i i1 i2 => ?_⟩, ⟨fun i i1 i2 => by omega, fun i i1 i2 => ?_⟩, ⟨⟨fun i i1 i2 => by omega, fun i i1 i2 => ?_⟩, fun i i1 i2 => by omega, fun i i1 i2 => ?_⟩, ?_⟩
  · exact v 0 6 0 (by omega) (by omega)
  · exact v 0 7 0 (by omega) (by omega)
  · exact v 0 8 0 (by omega) (by omega)
  · rw [v 0 10 0 (by omega) (by omega)]; omega
  · rw [e14]; omega
  · rw [v 2 c 0 (by omega) (by omega)]; omega
  · rw [v 4 l 0 (by omega) (by omega)]; omega
  · rw [v 5 l 0 (by omega) (by omega)]; omega
  · exact v 4 0 0 (by omega) (by omega)
  · exact v 5 0 0 (by omega) (by omega)
  · rw [v 4 4 0 (by omega) (by omega), v 4 3 0 (by omega) (by omega)]
  · rw [v 5 4 0 (by omega) (by omega), v 5 3 0 (by omega) (by omega)]
  · rw [v 0 9 0 (by omega) (by omega)]; omega
  · rw [v 0 9 0 (by omega) (by omega)] at k2; omega
  · rw [v 20 4 0 (by omega) (by omega), e14]
  · rw [v 21 i 0 (by omega) (by omega), v 2 i 0 (by omega) (by omega)]
  · rw [cb_f (sp i)]; exact v 22 i 0 (by omega) (by omega)
  · rw [v 23 i 0 (by omega) (by omega), v 4 i 0 (by omega) (by omega)]
  · rw [v 24 i 0 (by omega) (by omega), v 5 i 0 (by omega) (by omega)]
  · exact v 39 _ 0 (by omega) (by omega)
  · exact v 29 _ 0 (by omega) (by omega)
  · exact v 37 _ 0 (by omega) (by omega)
  · unfold MSc
    rw [v12, v26, v 20 1 0 (by omega) (by omega), v 20 7 0 (by omega) (by omega), v 20 15 0 (by omega) (by omega), v 20 17 0 (by omega) (by omega), v 20 24 0 (by omega) (by omega), v 20 27 0 (by omega) (by omega), v 20 28 0 (by omega) (by omega), v 0 9 0 (by omega) (by omega), v 0 10 0 (by omega) (by omega), v 0 11 0 (by omega) (by omega), v 0 13 0 (by omega) (by omega)]
    exact ⟨rfl, rfl, rfl, rfl, rfl, rfl, rfl, rfl, fun k k1 k2 => by omega⟩
theorem law_true {L : Nat} {xs : Nat → Int32} (hL : L ≤ 3072) : f_La_law L xs m0 = some 1 := by
  rw [law_0]
  exact law_l (by omega) 513 0 a_3 r_4 n_4 GG_0 (by omega) (by omega) (by omega)
