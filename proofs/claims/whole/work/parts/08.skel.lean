/-! THE CLAIM OUT OF ONE WALK OF THE LAW'S BODY. Your part is whole_start (and what it stands on); all else here is the same for every law, but numbers. -/
def R_law : String := "SkyLanesLaw"
def lw_P (b : Addr) (xs : List Int32) (args : Array Value) (s : State) : Prop := args = #[.ref b] ∧ s.IntsAt b xs ∧ xs.length ≤ 3072 ∧ (Jvm.Cond.and given_1 narrow_1).before args s = true
def lw_Q (_ : Array Value) (s : State) (o : Outcome) (t : State) : Prop := o = .returned (some (.int 1)) ∧ Framed s o t [] 601024 7293034
def lw_Z (below : List Frame) (a : Array Value) (s : State) : State → Prop := fun t => ∃ o, t.status = .running ∧ Ended t below o ∧ lw_Q a s o t
/-- the law's own end, with 1 on the stack, nothing written that was there before, its room as the claim has it -/
theorem lw_ret {p : Program} {l : Launch} {e : Env} {s : State} {m : MethodId} {below : List Frame} {meth : Method} {c : Code} {b : Nat} (hx : p.tables.exec = Jvm.exec) (hb : c.code = code) (hr : meth.sig.returnType = ret) (hlocks : meth.locks = false) {pc : Nat} {H : Heap} {ls : Array Slot} (hdg : decode code pc = .ok (.ireturn, 1)) : W p l e room_1 s m #[Value.ref b] below meth c H [] 601024 7293034 (lw_Z below #[Value.ref b] s) (F0 m pc ls [.int 1]) := by
  intro T hT X
  obtain ⟨fs, hret, hrun, hended, hW, hframe⟩ := X.leave (v := some (.int 1)) (hlocks := hlocks) (fun h => by rw [hr] at h; cases h)
  have hmeth' : T.vm.method? m = some meth := X.method'
  refine ⟨T.setFrames fs, ?_, .returned (some (.int 1)), hrun, hended, rfl, ⟨_, rfl⟩, hW, hframe⟩
  jvm_step X.here [X.here.top, hx, hb, hdg, hmeth', hr, ret, narrow_b1]
  (try refine ⟨rfl, ?_⟩); (try refine ⟨rfl, ?_⟩)
  first | (intro acts; rw [hret _ acts rfl rfl rfl]) | rw [hret _ _ rfl rfl rfl]
  exact Steps.refl _
/-- what holds at the law's entry: the machine, the code, the tables' words (any of lw_tbl by 'hts w (by decide +kernel)'), the script of L ints xs at the cell b, what the Statement gives of the start (any of its parts by flat_of_before) -/
def lw_At (p : Program) (s : State) (m : MethodId) (meth : Method) (c : Code) (b L : Nat) (xs : Nat → Int32) : Prop :=
  p.tables.exec = Jvm.exec ∧ c.code = code ∧ meth.sig.returnType = ret ∧ c.maxLocals = 7 ∧ s.vm.findClass R_law = some m.cls ∧ (∀ w ∈ lw_tbl, w.before #[Value.ref b] s = true) ∧ va_X b L xs s s.heap ∧ b < s.heap.size ∧ meth.locks = false ∧ (Jvm.Cond.and given_1 narrow_1).before #[Value.ref b] s = true
/-- the script lies apart from all that the law makes; what the law's body needs of its start -/
def Sc (X : CX) (b L : Nat) (xs : Nat → Int32) : Prop :=
  va_X b L xs X.1.2.2.2.2.1 X.1.2.2.2.2.1.heap ∧ b < X.1.2.2.2.2.1.heap.size ∧ ¬ X.2.2.2.1 b ∧ SE X.2.2.2.1 X.1.2.2.2.2.1 ∧ X.1.2.1.stackTraces = false ∧
  X.1.2.2.2.1 = room_1 ∧ X.1.2.2.2.2.2.2.1 = #[Value.ref b] ∧ X.1.2.2.2.2.2.2.2.2.1.sig.returnType = ret ∧ X.2.2.2.2.1 = lw_Z X.1.2.2.2.2.2.2.2.1 #[Value.ref b] X.1.2.2.2.2.1 ∧ X.2.2.2.1 = (fun q : Nat => X.1.2.2.2.2.1.heap.size ≤ q)
section GL
variable {X : CX} {cc : ByteArray} {own : String} {rm : Room} {nL : Nat} {al : Bool} {σ : MS} {ce sl pc : Nat} {lv : LV} {st : List PV}
theorem g_lret {b L : Nat} {xs : Nat → Int32} (ok : Ok X code own rm nL al) (ht : Sc X b L xs) (hce : ce ≤ 601024) (hsl : sl ≤ 7293034) (d : decode code pc = .ok (.ireturn, 1)) : G X σ ce sl pc lv [vI 1] := by
  obtain ⟨⟨p, l, e, R, s, m, args, below, meth, c⟩, D, dA, A, Q, ad0, σ0, al0, nL0⟩ := X
  obtain ⟨hx, hb, ho, rfl, hml, rfl, rfl, hts, hE, hA, hlk⟩ := ok
  obtain ⟨-, -, -, -, -, hR, ha, hr, hQ, hAe⟩ := ht
  dsimp only at hR ha hr hQ hAe
  subst hR; subst ha; subst hQ; subst hAe
  intro ad H locs ls h1 h2 h3 h4 h5 h6 h7 h8
  refine va_forget (fun q hq => h5.2.2 q hq) ?_
  refine W.widen hce hsl ?_
  exact lw_ret hx hb hr hlk d
def sc (L : Nat) (xs : Nat → Int32) (i : Int32) : Option Int32 := if ¬ (i < 0 ∨ L ≤ i.toNatClampNeg) then some (xs i.toNatClampNeg) else none
theorem g_sld {b L : Nat} {xs : Nat → Int32} {i x : Int32} (ok : Ok X cc own rm nL al) (ht : Sc X b L xs) (hx9 : sc L xs i = some x) (d : decode cc pc = .ok (.iaload, 1)) (k : G X σ ce sl (pc + 1) lv (vI x :: st)) : G X σ ce sl pc lv (vI i :: vW (.ref b) :: st) := by
  obtain ⟨⟨p, l, e, R, s, m, args, below, meth, c⟩, D, dA, A, Q, ad0, σ0, al0, nL0⟩ := X
  obtain ⟨hx, hb, ho, rfl, hml, rfl, rfl, hts, hE, hA, hlk⟩ := ok
  obtain ⟨hX, hbl, hbA, -⟩ := ht
  unfold sc at hx9
  by_cases hi : ¬ (i < 0 ∨ L ≤ i.toNatClampNeg)
  · rw [if_pos hi] at hx9
    cases hx9
    intro ad H locs ls h1 h2 h3 h4 h5 h6 h7 h8
    exact va_sld hx hb hX hbl hbA h5 hi d (k ad H locs ls h1 h2 h3 h4 h5 h6 h7 h8)
  · rw [if_neg hi] at hx9; cases hx9
theorem g_slen {b L : Nat} {xs : Nat → Int32} (ok : Ok X cc own rm nL al) (ht : Sc X b L xs) (d : decode cc pc = .ok (.arraylength, 1)) (k : G X σ ce sl (pc + 1) lv (vI (Int32.ofNat L) :: st)) : G X σ ce sl pc lv (vW (.ref b) :: st) := by
  obtain ⟨⟨p, l, e, R, s, m, args, below, meth, c⟩, D, dA, A, Q, ad0, σ0, al0, nL0⟩ := X
  obtain ⟨hx, hb, ho, rfl, hml, rfl, rfl, hts, hE, hA, hlk⟩ := ok
  obtain ⟨hX, hbl, hbA, -⟩ := ht
  intro ad H locs ls h1 h2 h3 h4 h5 h6 h7 h8
  exact va_slen hx hb hX hbl hbA h5 d (k ad H locs ls h1 h2 h3 h4 h5 h6 h7 h8)
end GL
def j_La_law_156 (L : Nat) (xs : Nat → Int32) (a1 a2 a3 : Option Nat) (a4 : Int32) (s : MS) (rec : Int32 → MS → Option Int32) : Option Int32 :=
  bnd (sc L xs (a4 + (1 : Int32))) fun x6 =>
  bnd (sc L xs (a4 + (2 : Int32))) fun x8 =>
  bnd (rf s.2.2 0 a1) fun k10 =>
  bnd (rf s.2.2 20 a2) fun k12 =>
  bnd (rl s.2.2 2 a3) fun n14 =>
  bnd2 (f_La_tower a1 x6 x8 a3 s) fun x19 s18 =>
  bnd (sc L xs (a4 + (1 : Int32))) fun x20 =>
  bnd (sc L xs (a4 + (2 : Int32))) fun x22 =>
  bnd2 (f_Mo_tower k12 x20 x22 s18) fun x27 s26 =>
  bnd (f_Mo_thrown k12 s26) fun x29 =>
  if x29 = x19 then (
    if x19 = (0 : Int32) then (
      bnd (ra s26.2.2 2 a3 (0 : Int32)) fun k33 =>
      if (if (s26.1 k33 (0 : Int32).toNatClampNeg) = x27 then (0 : Int32) else if x27 < (s26.1 k33 (0 : Int32).toNatClampNeg) then 1 else -1) = (0 : Int32) then (
        lt_ (a4 + (6 : Int32)) fun x36 =>
        rec x36 s26
      ) else (
        some (0 : Int32))
    ) else (
      lt_ (a4 + (6 : Int32)) fun x38 =>
      rec x38 s26)
  ) else (
    some (0 : Int32))
def j_La_law_224 (L : Nat) (xs : Nat → Int32) (a1 a2 a3 : Option Nat) (a4 : Int32) (s : MS) (rec : Int32 → MS → Option Int32) : Option Int32 :=
  bnd (sc L xs (a4 + (1 : Int32))) fun x40 =>
  bnd (rf s.2.2 0 a1) fun k42 =>
  bnd (rf s.2.2 20 a2) fun k44 =>
  bnd (rl s.2.2 2 a3) fun n46 =>
  bnd2 (f_La_spot a1 x40 a3 s) fun x51 s50 =>
  bnd (sc L xs (a4 + (1 : Int32))) fun x52 =>
  bnd2 (f_Mo_spot k44 x52 s50) fun x57 s56 =>
  bnd (f_Mo_thrown k44 s56) fun x59 =>
  if x59 = x51 then (
    if x51 = (0 : Int32) then (
      bnd (ra s56.2.2 2 a3 (0 : Int32)) fun k63 =>
      if (if (s56.1 k63 (0 : Int32).toNatClampNeg) = x57 then (0 : Int32) else if x57 < (s56.1 k63 (0 : Int32).toNatClampNeg) then 1 else -1) = (0 : Int32) then (
        lt_ (a4 + (6 : Int32)) fun x66 =>
        rec x66 s56
      ) else (
        some (0 : Int32))
    ) else (
      lt_ (a4 + (6 : Int32)) fun x68 =>
      rec x68 s56)
  ) else (
    some (0 : Int32))
def j_La_law_280 (L : Nat) (xs : Nat → Int32) (a1 a2 a3 : Option Nat) (a4 : Int32) (s : MS) (rec : Int32 → MS → Option Int32) : Option Int32 :=
  bnd (sc L xs (a4 + (1 : Int32))) fun x70 =>
  bnd (sc L xs (a4 + (2 : Int32))) fun x72 =>
  bnd (rf s.2.2 0 a1) fun k74 =>
  bnd (rf s.2.2 20 a2) fun k76 =>
  bnd (rl s.2.2 2 a3) fun n78 =>
  bnd2 (f_La_wind a1 x70 x72 a3 s) fun x83 s82 =>
  bnd (sc L xs (a4 + (1 : Int32))) fun x84 =>
  bnd (sc L xs (a4 + (2 : Int32))) fun x86 =>
  bnd2 (f_Mo_wind k76 x84 x86 s82) fun x91 s90 =>
  bnd (f_Mo_thrown k76 s90) fun x93 =>
  if x93 = x83 then (
    if x83 = (0 : Int32) then (
      bnd (ra s90.2.2 2 a3 (0 : Int32)) fun k97 =>
      if (if (s90.1 k97 (0 : Int32).toNatClampNeg) = x91 then (0 : Int32) else if x91 < (s90.1 k97 (0 : Int32).toNatClampNeg) then 1 else -1) = (0 : Int32) then (
        lt_ (a4 + (6 : Int32)) fun x100 =>
        rec x100 s90
      ) else (
        some (0 : Int32))
    ) else (
      lt_ (a4 + (6 : Int32)) fun x102 =>
      rec x102 s90)
  ) else (
    some (0 : Int32))
def j_La_law_348 (L : Nat) (xs : Nat → Int32) (a1 a2 a3 : Option Nat) (a4 : Int32) (s : MS) (rec : Int32 → MS → Option Int32) : Option Int32 :=
  bnd (sc L xs (a4 + (1 : Int32))) fun x104 =>
  bnd (sc L xs (a4 + (2 : Int32))) fun x106 =>
  bnd (rf s.2.2 0 a1) fun k108 =>
  bnd (rf s.2.2 20 a2) fun k110 =>
  bnd (rl s.2.2 2 a3) fun n112 =>
  bnd2 (f_La_gust a1 x104 x106 a3 s) fun x117 s116 =>
  bnd (sc L xs (a4 + (1 : Int32))) fun x118 =>
  bnd (sc L xs (a4 + (2 : Int32))) fun x120 =>
  bnd2 (f_Mo_gust k110 x118 x120 s116) fun x125 s124 =>
  bnd (f_Mo_thrown k110 s124) fun x127 =>
  if x127 = x117 then (
    if x117 = (0 : Int32) then (
      bnd (ra s124.2.2 2 a3 (0 : Int32)) fun k131 =>
      if (if (s124.1 k131 (0 : Int32).toNatClampNeg) = x125 then (0 : Int32) else if x125 < (s124.1 k131 (0 : Int32).toNatClampNeg) then 1 else -1) = (0 : Int32) then (
        lt_ (a4 + (6 : Int32)) fun x134 =>
        rec x134 s124
      ) else (
        some (0 : Int32))
    ) else (
      lt_ (a4 + (6 : Int32)) fun x136 =>
      rec x136 s124)
  ) else (
    some (0 : Int32))
def j_La_law_416 (L : Nat) (xs : Nat → Int32) (a1 a2 a3 : Option Nat) (a4 : Int32) (s : MS) (rec : Int32 → MS → Option Int32) : Option Int32 :=
  bnd (sc L xs (a4 + (1 : Int32))) fun x138 =>
  bnd (sc L xs (a4 + (2 : Int32))) fun x140 =>
  bnd (sc L xs (a4 + (3 : Int32))) fun x142 =>
  bnd (sc L xs (a4 + (4 : Int32))) fun x144 =>
  bnd (sc L xs (a4 + (5 : Int32))) fun x146 =>
  bnd (rf s.2.2 0 a1) fun k148 =>
  bnd (rf s.2.2 20 a2) fun k150 =>
  bnd (rl s.2.2 2 a3) fun n152 =>
  bnd2 (f_La_close a1 x138 x140 x142 x144 x146 a3 s) fun x157 s156 =>
  bnd (sc L xs (a4 + (1 : Int32))) fun x158 =>
  bnd (sc L xs (a4 + (2 : Int32))) fun x160 =>
  bnd (sc L xs (a4 + (3 : Int32))) fun x162 =>
  bnd (sc L xs (a4 + (4 : Int32))) fun x164 =>
  bnd (sc L xs (a4 + (5 : Int32))) fun x166 =>
  bnd2 (f_Mo_close k150 x158 x160 x162 x164 x166 s156) fun x171 s170 =>
  bnd (f_Mo_thrown k150 s170) fun x173 =>
  if x173 = x157 then (
    if x157 = (0 : Int32) then (
      bnd (ra s170.2.2 2 a3 (0 : Int32)) fun k177 =>
      if (if (s170.1 k177 (0 : Int32).toNatClampNeg) = x171 then (0 : Int32) else if x171 < (s170.1 k177 (0 : Int32).toNatClampNeg) then 1 else -1) = (0 : Int32) then (
        lt_ (a4 + (6 : Int32)) fun x180 =>
        rec x180 s170
      ) else (
        some (0 : Int32))
    ) else (
      lt_ (a4 + (6 : Int32)) fun x182 =>
      rec x182 s170)
  ) else (
    some (0 : Int32))
def j_La_law_520 (L : Nat) (xs : Nat → Int32) (a1 a2 a3 : Option Nat) (a4 : Int32) (s : MS) (rec : Int32 → MS → Option Int32) : Option Int32 :=
  bnd (sc L xs (a4 + (1 : Int32))) fun x184 =>
  bnd (rf s.2.2 0 a1) fun k186 =>
  bnd (rf s.2.2 20 a2) fun k188 =>
  bnd (rl s.2.2 2 a3) fun n190 =>
  bnd2 (f_La_open a1 x184 s) fun x195 s194 =>
  bnd (sc L xs (a4 + (1 : Int32))) fun x196 =>
  bnd (f_Mo_open k188 x196 s194) fun s200 =>
  bnd (f_Mo_thrown k188 s200) fun x202 =>
  if x202 = x195 then (
    lt_ (a4 + (6 : Int32)) fun x205 =>
    rec x205 s200
  ) else (
    some (0 : Int32))
def j_La_law_556 (L : Nat) (xs : Nat → Int32) (a1 a2 a3 : Option Nat) (a4 : Int32) (s : MS) (rec : Int32 → MS → Option Int32) : Option Int32 :=
  bnd (sc L xs (a4 + (1 : Int32))) fun x207 =>
  bnd (sc L xs (a4 + (2 : Int32))) fun x209 =>
  bnd (sc L xs (a4 + (3 : Int32))) fun x211 =>
  bnd (rf s.2.2 0 a1) fun k213 =>
  bnd (rf s.2.2 20 a2) fun k215 =>
  bnd (rl s.2.2 2 a3) fun n217 =>
  bnd2 (f_La_machine a1 x207 x209 x211 a3 s) fun x222 s221 =>
  bnd (sc L xs (a4 + (1 : Int32))) fun x223 =>
  bnd (sc L xs (a4 + (2 : Int32))) fun x225 =>
  bnd (sc L xs (a4 + (3 : Int32))) fun x227 =>
  bnd2 (f_Mo_machine k215 x223 x225 x227 s221) fun x232 s231 =>
  bnd (f_Mo_thrown k215 s231) fun x234 =>
  if x234 = x222 then (
    if x222 = (0 : Int32) then (
      bnd (ra s231.2.2 2 a3 (0 : Int32)) fun k238 =>
      if (if (s231.1 k238 (0 : Int32).toNatClampNeg) = x232 then (0 : Int32) else if x232 < (s231.1 k238 (0 : Int32).toNatClampNeg) then 1 else -1) = (0 : Int32) then (
        lt_ (a4 + (6 : Int32)) fun x241 =>
        rec x241 s231
      ) else (
        some (0 : Int32))
    ) else (
      lt_ (a4 + (6 : Int32)) fun x243 =>
      rec x243 s231)
  ) else (
    some (0 : Int32))
def j_La_law_636 (L : Nat) (xs : Nat → Int32) (a1 a2 a3 : Option Nat) (a4 : Int32) (s : MS) (rec : Int32 → MS → Option Int32) : Option Int32 :=
  bnd (sc L xs (a4 + (1 : Int32))) fun x245 =>
  bnd (sc L xs (a4 + (2 : Int32))) fun x247 =>
  bnd (rf s.2.2 0 a1) fun k249 =>
  bnd (rf s.2.2 20 a2) fun k251 =>
  bnd (rl s.2.2 2 a3) fun n253 =>
  bnd2 (f_La_move a1 x245 x247 a3 s) fun x258 s257 =>
  bnd (sc L xs (a4 + (1 : Int32))) fun x259 =>
  bnd (sc L xs (a4 + (2 : Int32))) fun x261 =>
  bnd2 (f_Mo_move k251 x259 x261 s257) fun x266 s265 =>
  bnd (f_Mo_thrown k251 s265) fun x268 =>
  if x268 = x258 then (
    if x258 = (0 : Int32) then (
      bnd (ra s265.2.2 2 a3 (0 : Int32)) fun k272 =>
      if (if (s265.1 k272 (0 : Int32).toNatClampNeg) = x266 then (0 : Int32) else if x266 < (s265.1 k272 (0 : Int32).toNatClampNeg) then 1 else -1) = (0 : Int32) then (
        lt_ (a4 + (6 : Int32)) fun x275 =>
        rec x275 s265
      ) else (
        some (0 : Int32))
    ) else (
      lt_ (a4 + (6 : Int32)) fun x277 =>
      rec x277 s265)
  ) else (
    some (0 : Int32))
def j_La_law_704 (L : Nat) (xs : Nat → Int32) (a1 a2 a3 : Option Nat) (a4 : Int32) (s : MS) (rec : Int32 → MS → Option Int32) : Option Int32 :=
  bnd (rf s.2.2 0 a1) fun k279 =>
  bnd2 (f_Sk_clear k279 s) fun x284 s283 =>
  bnd (rf s283.2.2 20 a2) fun k285 =>
  bnd2 (f_Mo_clear k285 s283) fun x290 s289 =>
  if x284 = x290 then (
    lt_ (a4 + (6 : Int32)) fun x292 =>
    rec x292 s289
  ) else (
    some (0 : Int32))
def j_La_law_717 (L : Nat) (xs : Nat → Int32) (a1 a2 a3 : Option Nat) (a4 : Int32) (s : MS) (rec : Int32 → MS → Option Int32) : Option Int32 :=
  bnd (sc L xs (a4 + (1 : Int32))) fun x294 =>
  bnd (rf s.2.2 0 a1) fun k296 =>
  bnd (rf s.2.2 20 a2) fun k298 =>
  bnd (rl s.2.2 2 a3) fun n300 =>
  bnd2 (f_La_takes a1 x294 a3 s) fun x305 s304 =>
  bnd (sc L xs (a4 + (1 : Int32))) fun x306 =>
  bnd2 (f_Mo_takes k298 x306 s304) fun x311 s310 =>
  bnd (f_Mo_thrown k298 s310) fun x313 =>
  if x313 = x305 then (
    if x305 = (0 : Int32) then (
      bnd (ra s310.2.2 2 a3 (0 : Int32)) fun k317 =>
      if (if (s310.1 k317 (0 : Int32).toNatClampNeg) = x311 then (0 : Int32) else if x311 < (s310.1 k317 (0 : Int32).toNatClampNeg) then 1 else -1) = (0 : Int32) then (
        lt_ (a4 + (6 : Int32)) fun x320 =>
        rec x320 s310
      ) else (
        some (0 : Int32))
    ) else (
      lt_ (a4 + (6 : Int32)) fun x322 =>
      rec x322 s310)
  ) else (
    some (0 : Int32))
def j_La_law_773 (L : Nat) (xs : Nat → Int32) (a1 a2 a3 : Option Nat) (a4 : Int32) (s : MS) (rec : Int32 → MS → Option Int32) : Option Int32 :=
  bnd (sc L xs (a4 + (1 : Int32))) fun x324 =>
  bnd (sc L xs (a4 + (2 : Int32))) fun x326 =>
  bnd (sc L xs (a4 + (3 : Int32))) fun x328 =>
  bnd (rf s.2.2 0 a1) fun k330 =>
  bnd (rf s.2.2 20 a2) fun k332 =>
  bnd (rl s.2.2 2 a3) fun n334 =>
  bnd2 (f_La_file a1 x324 x326 x328 a3 s) fun x339 s338 =>
  bnd (sc L xs (a4 + (1 : Int32))) fun x340 =>
  bnd (sc L xs (a4 + (2 : Int32))) fun x342 =>
  bnd (sc L xs (a4 + (3 : Int32))) fun x344 =>
  bnd2 (f_Mo_file k332 x340 x342 x344 s338) fun x349 s348 =>
  bnd (f_Mo_thrown k332 s348) fun x351 =>
  if x351 = x339 then (
    if x339 = (0 : Int32) then (
      bnd (ra s348.2.2 2 a3 (0 : Int32)) fun k355 =>
      if (if (s348.1 k355 (0 : Int32).toNatClampNeg) = x349 then (0 : Int32) else if x349 < (s348.1 k355 (0 : Int32).toNatClampNeg) then 1 else -1) = (0 : Int32) then (
        lt_ (a4 + (6 : Int32)) fun x358 =>
        rec x358 s348
      ) else (
        some (0 : Int32))
    ) else (
      lt_ (a4 + (6 : Int32)) fun x360 =>
      rec x360 s348)
  ) else (
    some (0 : Int32))
def j_La_law_853 (L : Nat) (xs : Nat → Int32) (a1 a2 a3 : Option Nat) (a4 : Int32) (s : MS) (rec : Int32 → MS → Option Int32) : Option Int32 :=
  bnd (rf s.2.2 0 a1) fun k362 =>
  bnd (f_Sk_why k362 s) fun x365 =>
  bnd (rf s.2.2 20 a2) fun k367 =>
  bnd2 (f_Mo_why k367 s) fun x372 s371 =>
  if x365 = x372 then (
    lt_ (a4 + (6 : Int32)) fun x374 =>
    rec x374 s371
  ) else (
    some (0 : Int32))
def j_La_law_866 (L : Nat) (xs : Nat → Int32) (a1 a2 a3 : Option Nat) (a4 : Int32) (s : MS) (rec : Int32 → MS → Option Int32) : Option Int32 :=
  bnd (sc L xs (a4 + (1 : Int32))) fun x376 =>
  bnd (rf s.2.2 0 a1) fun k378 =>
  bnd (rf s.2.2 20 a2) fun k380 =>
  bnd (rl s.2.2 2 a3) fun n382 =>
  bnd2 (f_La_withdraw a1 x376 s) fun x387 s386 =>
  bnd (sc L xs (a4 + (1 : Int32))) fun x388 =>
  bnd (f_Mo_withdraw k380 x388 s386) fun s392 =>
  bnd (f_Mo_thrown k380 s392) fun x394 =>
  if x394 = x387 then (
    lt_ (a4 + (6 : Int32)) fun x397 =>
    rec x397 s392
  ) else (
    some (0 : Int32))
def j_La_law_902 (L : Nat) (xs : Nat → Int32) (a1 a2 a3 : Option Nat) (a4 : Int32) (s : MS) (rec : Int32 → MS → Option Int32) : Option Int32 :=
  bnd (sc L xs (a4 + (1 : Int32))) fun x399 =>
  bnd (rf s.2.2 0 a1) fun k401 =>
  bnd (rf s.2.2 20 a2) fun k403 =>
  bnd (rl s.2.2 2 a3) fun n405 =>
  bnd2 (f_La_tick a1 x399 a3 s) fun x410 s409 =>
  bnd (sc L xs (a4 + (1 : Int32))) fun x411 =>
  bnd2 (f_Mo_tick k403 x411 s409) fun x416 s415 =>
  bnd (f_Mo_thrown k403 s415) fun x418 =>
  if x418 = x410 then (
    if x410 = (0 : Int32) then (
      bnd (ra s415.2.2 2 a3 (0 : Int32)) fun k422 =>
      if (if (s415.1 k422 (0 : Int32).toNatClampNeg) = x416 then (0 : Int32) else if x416 < (s415.1 k422 (0 : Int32).toNatClampNeg) then 1 else -1) = (0 : Int32) then (
        lt_ (a4 + (6 : Int32)) fun x425 =>
        rec x425 s415
      ) else (
        some (0 : Int32))
    ) else (
      lt_ (a4 + (6 : Int32)) fun x427 =>
      rec x427 s415)
  ) else (
    some (0 : Int32))
def j_La_law_958 (L : Nat) (xs : Nat → Int32) (a1 a2 a3 : Option Nat) (a4 : Int32) (s : MS) (rec : Int32 → MS → Option Int32) : Option Int32 :=
  bnd (sc L xs (a4 + (1 : Int32))) fun x429 =>
  bnd (rf s.2.2 0 a1) fun k431 =>
  bnd (rf s.2.2 20 a2) fun k433 =>
  bnd (rl s.2.2 2 a3) fun n435 =>
  bnd2 (f_La_lose a1 x429 a3 s) fun x440 s439 =>
  bnd (sc L xs (a4 + (1 : Int32))) fun x441 =>
  bnd2 (f_Mo_lose k433 x441 s439) fun x446 s445 =>
  bnd (f_Mo_thrown k433 s445) fun x448 =>
  if x448 = x440 then (
    if x440 = (0 : Int32) then (
      bnd (ra s445.2.2 2 a3 (0 : Int32)) fun k452 =>
      if (if (s445.1 k452 (0 : Int32).toNatClampNeg) = x446 then (0 : Int32) else if x446 < (s445.1 k452 (0 : Int32).toNatClampNeg) then 1 else -1) = (0 : Int32) then (
        lt_ (a4 + (6 : Int32)) fun x455 =>
        rec x455 s445
      ) else (
        some (0 : Int32))
    ) else (
      lt_ (a4 + (6 : Int32)) fun x457 =>
      rec x457 s445)
  ) else (
    some (0 : Int32))
def j_La_law_1014 (L : Nat) (xs : Nat → Int32) (a1 a2 a3 : Option Nat) (a4 : Int32) (s : MS) (rec : Int32 → MS → Option Int32) : Option Int32 :=
  bnd (sc L xs (a4 + (1 : Int32))) fun x459 =>
  bnd (sc L xs (a4 + (2 : Int32))) fun x461 =>
  bnd (rf s.2.2 0 a1) fun k463 =>
  bnd (rf s.2.2 20 a2) fun k465 =>
  bnd (rl s.2.2 2 a3) fun n467 =>
  bnd2 (f_La_hold a1 x459 x461 a3 s) fun x472 s471 =>
  bnd (sc L xs (a4 + (1 : Int32))) fun x473 =>
  bnd (sc L xs (a4 + (2 : Int32))) fun x475 =>
  bnd2 (f_Mo_hold k465 x473 x475 s471) fun x480 s479 =>
  bnd (f_Mo_thrown k465 s479) fun x482 =>
  if x482 = x472 then (
    if x472 = (0 : Int32) then (
      bnd (ra s479.2.2 2 a3 (0 : Int32)) fun k486 =>
      if (if (s479.1 k486 (0 : Int32).toNatClampNeg) = x480 then (0 : Int32) else if x480 < (s479.1 k486 (0 : Int32).toNatClampNeg) then 1 else -1) = (0 : Int32) then (
        lt_ (a4 + (6 : Int32)) fun x489 =>
        rec x489 s479
      ) else (
        some (0 : Int32))
    ) else (
      lt_ (a4 + (6 : Int32)) fun x491 =>
      rec x491 s479)
  ) else (
    some (0 : Int32))
def j_La_law_1082 (L : Nat) (xs : Nat → Int32) (a1 a2 a3 : Option Nat) (a4 : Int32) (s : MS) (rec : Int32 → MS → Option Int32) : Option Int32 :=
  bnd (rf s.2.2 0 a1) fun k493 =>
  bnd (f_Sk_time k493 s) fun x496 =>
  bnd (rf s.2.2 20 a2) fun k498 =>
  bnd2 (f_Mo_time k498 s) fun x503 s502 =>
  if x496 = x503 then (
    lt_ (a4 + (6 : Int32)) fun x505 =>
    rec x505 s502
  ) else (
    some (0 : Int32))
def j_La_law_1095 (L : Nat) (xs : Nat → Int32) (a1 a2 a3 : Option Nat) (a4 : Int32) (s : MS) (rec : Int32 → MS → Option Int32) : Option Int32 :=
  bnd (rf s.2.2 0 a1) fun k507 =>
  bnd (f_Sk_alerts k507 s) fun x510 =>
  bnd (rf s.2.2 20 a2) fun k512 =>
  bnd (rl s.2.2 2 a3) fun n514 =>
  bnd2 (f_Mo_alerts k512 s) fun x519 s518 =>
  if x510 = x519 then (
    lt_ (a4 + (6 : Int32)) fun x521 =>
    rec x521 s518
  ) else (
    some (0 : Int32))
def j_La_law_1108 (L : Nat) (xs : Nat → Int32) (a1 a2 a3 : Option Nat) (a4 : Int32) (s : MS) (rec : Int32 → MS → Option Int32) : Option Int32 :=
  bnd (sc L xs (a4 + (1 : Int32))) fun x523 =>
  bnd (rf s.2.2 0 a1) fun k525 =>
  bnd (rf s.2.2 20 a2) fun k527 =>
  bnd (rl s.2.2 2 a3) fun n529 =>
  bnd2 (f_La_home a1 x523 a3 s) fun x534 s533 =>
  bnd (sc L xs (a4 + (1 : Int32))) fun x535 =>
  bnd2 (f_Mo_home k527 x535 s533) fun x540 s539 =>
  bnd (f_Mo_thrown k527 s539) fun x542 =>
  if x542 = x534 then (
    if x534 = (0 : Int32) then (
      bnd (ra s539.2.2 2 a3 (0 : Int32)) fun k546 =>
      if (if (s539.1 k546 (0 : Int32).toNatClampNeg) = x540 then (0 : Int32) else if x540 < (s539.1 k546 (0 : Int32).toNatClampNeg) then 1 else -1) = (0 : Int32) then (
        lt_ (a4 + (6 : Int32)) fun x549 =>
        rec x549 s539
      ) else (
        some (0 : Int32))
    ) else (
      lt_ (a4 + (6 : Int32)) fun x551 =>
      rec x551 s539)
  ) else (
    some (0 : Int32))
def j_La_law_1164 (L : Nat) (xs : Nat → Int32) (a1 a2 a3 : Option Nat) (a4 : Int32) (s : MS) (rec : Int32 → MS → Option Int32) : Option Int32 :=
  bnd (sc L xs (a4 + (1 : Int32))) fun x553 =>
  bnd (sc L xs (a4 + (2 : Int32))) fun x555 =>
  bnd (rf s.2.2 0 a1) fun k557 =>
  bnd (rf s.2.2 20 a2) fun k559 =>
  bnd (rl s.2.2 2 a3) fun n561 =>
  bnd2 (f_La_placeAt a1 x553 x555 a3 s) fun x566 s565 =>
  bnd (sc L xs (a4 + (1 : Int32))) fun x567 =>
  bnd (sc L xs (a4 + (2 : Int32))) fun x569 =>
  bnd2 (f_Mo_placeAt k559 x567 x569 s565) fun x574 s573 =>
  bnd (f_Mo_thrown k559 s573) fun x576 =>
  if x576 = x566 then (
    if x566 = (0 : Int32) then (
      bnd (ra s573.2.2 2 a3 (0 : Int32)) fun k580 =>
      if (if (s573.1 k580 (0 : Int32).toNatClampNeg) = x574 then (0 : Int32) else if x574 < (s573.1 k580 (0 : Int32).toNatClampNeg) then 1 else -1) = (0 : Int32) then (
        lt_ (a4 + (6 : Int32)) fun x583 =>
        rec x583 s573
      ) else (
        some (0 : Int32))
    ) else (
      lt_ (a4 + (6 : Int32)) fun x585 =>
      rec x585 s573)
  ) else (
    some (0 : Int32))
def j_La_law_1232 (L : Nat) (xs : Nat → Int32) (a1 a2 a3 : Option Nat) (a4 : Int32) (s : MS) (rec : Int32 → MS → Option Int32) : Option Int32 :=
  bnd (sc L xs (a4 + (1 : Int32))) fun x587 =>
  bnd (sc L xs (a4 + (2 : Int32))) fun x589 =>
  bnd (rf s.2.2 0 a1) fun k591 =>
  bnd (rf s.2.2 20 a2) fun k593 =>
  bnd (rl s.2.2 2 a3) fun n595 =>
  bnd2 (f_La_meets a1 x587 x589 a3 s) fun x600 s599 =>
  bnd (sc L xs (a4 + (1 : Int32))) fun x601 =>
  bnd (sc L xs (a4 + (2 : Int32))) fun x603 =>
  bnd2 (f_Mo_meets k593 x601 x603 s599) fun x608 s607 =>
  bnd (f_Mo_thrown k593 s607) fun x610 =>
  if x610 = x600 then (
    if x600 = (0 : Int32) then (
      bnd (ra s607.2.2 2 a3 (0 : Int32)) fun k614 =>
      if x608 = (0 : Int32) then (
        if (if (s607.1 k614 (0 : Int32).toNatClampNeg) = (0 : Int32) then (0 : Int32) else if (0 : Int32) < (s607.1 k614 (0 : Int32).toNatClampNeg) then 1 else -1) = (0 : Int32) then (
          lt_ (a4 + (6 : Int32)) fun x618 =>
          rec x618 s607
        ) else (
          some (0 : Int32))
      ) else (
        if (if (s607.1 k614 (0 : Int32).toNatClampNeg) = (1 : Int32) then (0 : Int32) else if (1 : Int32) < (s607.1 k614 (0 : Int32).toNatClampNeg) then 1 else -1) = (0 : Int32) then (
          lt_ (a4 + (6 : Int32)) fun x621 =>
          rec x621 s607
        ) else (
          some (0 : Int32)))
    ) else (
      lt_ (a4 + (6 : Int32)) fun x623 =>
      rec x623 s607)
  ) else (
    some (0 : Int32))
def j_La_law_1307 (L : Nat) (xs : Nat → Int32) (a1 a2 a3 : Option Nat) (a4 : Int32) (s : MS) (rec : Int32 → MS → Option Int32) : Option Int32 :=
  bnd (sc L xs (a4 + (1 : Int32))) fun x625 =>
  bnd (sc L xs (a4 + (2 : Int32))) fun x627 =>
  bnd (rf s.2.2 0 a1) fun k629 =>
  bnd (rf s.2.2 20 a2) fun k631 =>
  bnd (rl s.2.2 2 a3) fun n633 =>
  bnd2 (f_La_meetsAnew a1 x625 x627 a3 s) fun x638 s637 =>
  bnd (sc L xs (a4 + (1 : Int32))) fun x639 =>
  bnd (sc L xs (a4 + (2 : Int32))) fun x641 =>
  bnd2 (f_Mo_meetsAnew k631 x639 x641 s637) fun x646 s645 =>
  bnd (f_Mo_thrown k631 s645) fun x648 =>
  if x648 = x638 then (
    if x638 = (0 : Int32) then (
      bnd (ra s645.2.2 2 a3 (0 : Int32)) fun k652 =>
      if x646 = (0 : Int32) then (
        if (if (s645.1 k652 (0 : Int32).toNatClampNeg) = (0 : Int32) then (0 : Int32) else if (0 : Int32) < (s645.1 k652 (0 : Int32).toNatClampNeg) then 1 else -1) = (0 : Int32) then (
          lt_ (a4 + (6 : Int32)) fun x656 =>
          rec x656 s645
        ) else (
          some (0 : Int32))
      ) else (
        if (if (s645.1 k652 (0 : Int32).toNatClampNeg) = (1 : Int32) then (0 : Int32) else if (1 : Int32) < (s645.1 k652 (0 : Int32).toNatClampNeg) then 1 else -1) = (0 : Int32) then (
          lt_ (a4 + (6 : Int32)) fun x659 =>
          rec x659 s645
        ) else (
          some (0 : Int32)))
    ) else (
      lt_ (a4 + (6 : Int32)) fun x661 =>
      rec x661 s645)
  ) else (
    some (0 : Int32))
def j_La_law_1382 (L : Nat) (xs : Nat → Int32) (a1 a2 a3 : Option Nat) (a4 : Int32) (s : MS) (rec : Int32 → MS → Option Int32) : Option Int32 :=
  bnd (sc L xs (a4 + (1 : Int32))) fun x663 =>
  bnd (sc L xs (a4 + (2 : Int32))) fun x665 =>
  bnd (rf s.2.2 0 a1) fun k667 =>
  bnd (rf s.2.2 20 a2) fun k669 =>
  bnd (rl s.2.2 2 a3) fun n671 =>
  bnd2 (f_La_ofMachine a1 x663 x665 a3 s) fun x676 s675 =>
  bnd (sc L xs (a4 + (1 : Int32))) fun x677 =>
  bnd (sc L xs (a4 + (2 : Int32))) fun x679 =>
  bnd2 (f_Mo_ofMachine k669 x677 x679 s675) fun x684 s683 =>
  bnd (f_Mo_thrown k669 s683) fun x686 =>
  if x686 = x676 then (
    if x676 = (0 : Int32) then (
      bnd (ra s683.2.2 2 a3 (0 : Int32)) fun k690 =>
      if (if (s683.1 k690 (0 : Int32).toNatClampNeg) = x684 then (0 : Int32) else if x684 < (s683.1 k690 (0 : Int32).toNatClampNeg) then 1 else -1) = (0 : Int32) then (
        lt_ (a4 + (6 : Int32)) fun x693 =>
        rec x693 s683
      ) else (
        some (0 : Int32))
    ) else (
      lt_ (a4 + (6 : Int32)) fun x695 =>
      rec x695 s683)
  ) else (
    some (0 : Int32))
def j_La_law_1450 (L : Nat) (xs : Nat → Int32) (a1 a2 a3 : Option Nat) (a4 : Int32) (s : MS) (rec : Int32 → MS → Option Int32) : Option Int32 :=
  bnd (sc L xs (a4 + (1 : Int32))) fun x697 =>
  bnd (sc L xs (a4 + (2 : Int32))) fun x699 =>
  bnd (rf s.2.2 0 a1) fun k701 =>
  bnd (rf s.2.2 20 a2) fun k703 =>
  bnd (rl s.2.2 2 a3) fun n705 =>
  bnd2 (f_La_ofPath a1 x697 x699 a3 s) fun x710 s709 =>
  bnd (sc L xs (a4 + (1 : Int32))) fun x711 =>
  bnd (sc L xs (a4 + (2 : Int32))) fun x713 =>
  bnd2 (f_Mo_ofPath k703 x711 x713 s709) fun x718 s717 =>
  bnd (f_Mo_thrown k703 s717) fun x720 =>
  if x720 = x710 then (
    if x710 = (0 : Int32) then (
      bnd (ra s717.2.2 2 a3 (0 : Int32)) fun k724 =>
      if (if (s717.1 k724 (0 : Int32).toNatClampNeg) = x718 then (0 : Int32) else if x718 < (s717.1 k724 (0 : Int32).toNatClampNeg) then 1 else -1) = (0 : Int32) then (
        lt_ (a4 + (6 : Int32)) fun x727 =>
        rec x727 s717
      ) else (
        some (0 : Int32))
    ) else (
      lt_ (a4 + (6 : Int32)) fun x729 =>
      rec x729 s717)
  ) else (
    some (0 : Int32))
def j_La_law_1518 (L : Nat) (xs : Nat → Int32) (a1 a2 a3 : Option Nat) (a4 : Int32) (s : MS) (rec : Int32 → MS → Option Int32) : Option Int32 :=
  bnd (sc L xs (a4 + (1 : Int32))) fun x731 =>
  bnd (rf s.2.2 0 a1) fun k733 =>
  bnd (rf s.2.2 20 a2) fun k735 =>
  bnd (rl s.2.2 2 a3) fun n737 =>
  bnd2 (f_La_count a1 x731 a3 s) fun x742 s741 =>
  bnd (sc L xs (a4 + (1 : Int32))) fun x743 =>
  bnd2 (f_Mo_count k735 x743 s741) fun x748 s747 =>
  bnd (f_Mo_thrown k735 s747) fun x750 =>
  if x750 = x742 then (
    if x742 = (0 : Int32) then (
      bnd (ra s747.2.2 2 a3 (0 : Int32)) fun k754 =>
      if (if (s747.1 k754 (0 : Int32).toNatClampNeg) = x748 then (0 : Int32) else if x748 < (s747.1 k754 (0 : Int32).toNatClampNeg) then 1 else -1) = (0 : Int32) then (
        lt_ (a4 + (6 : Int32)) fun x757 =>
        rec x757 s747
      ) else (
        some (0 : Int32))
    ) else (
      lt_ (a4 + (6 : Int32)) fun x759 =>
      rec x759 s747)
  ) else (
    some (0 : Int32))
def b_La_law_23 (L : Nat) (xs : Nat → Int32) (a1 a2 a3 : Option Nat) (a4 : Int32) (s : MS) (rec : Int32 → MS → Option Int32) : Option Int32 :=
  if ((Int32.ofNat L) - (6 : Int32)) < a4 then (
    some (1 : Int32)
  ) else (
    bnd (sc L xs a4) fun x2 =>
    lt_ (x2 &&& (31 : Int32)) fun x4 =>
    if x4 = (0 : Int32) then (
      j_La_law_156 L xs a1 a2 a3 a4 s rec
    ) else (
      if x4 = (1 : Int32) then (
        j_La_law_224 L xs a1 a2 a3 a4 s rec
      ) else (
        if x4 = (2 : Int32) then (
          j_La_law_280 L xs a1 a2 a3 a4 s rec
        ) else (
          if x4 = (3 : Int32) then (
            j_La_law_348 L xs a1 a2 a3 a4 s rec
          ) else (
            if x4 = (4 : Int32) then (
              j_La_law_416 L xs a1 a2 a3 a4 s rec
            ) else (
              if x4 = (5 : Int32) then (
                j_La_law_520 L xs a1 a2 a3 a4 s rec
              ) else (
                if x4 = (6 : Int32) then (
                  j_La_law_556 L xs a1 a2 a3 a4 s rec
                ) else (
                  if x4 = (7 : Int32) then (
                    j_La_law_636 L xs a1 a2 a3 a4 s rec
                  ) else (
                    if x4 = (8 : Int32) then (
                      j_La_law_704 L xs a1 a2 a3 a4 s rec
                    ) else (
                      if x4 = (9 : Int32) then (
                        j_La_law_717 L xs a1 a2 a3 a4 s rec
                      ) else (
                        if x4 = (10 : Int32) then (
                          j_La_law_773 L xs a1 a2 a3 a4 s rec
                        ) else (
                          if x4 = (11 : Int32) then (
                            j_La_law_853 L xs a1 a2 a3 a4 s rec
                          ) else (
                            if x4 = (12 : Int32) then (
                              j_La_law_866 L xs a1 a2 a3 a4 s rec
                            ) else (
                              if x4 = (13 : Int32) then (
                                j_La_law_902 L xs a1 a2 a3 a4 s rec
                              ) else (
                                if x4 = (14 : Int32) then (
                                  j_La_law_958 L xs a1 a2 a3 a4 s rec
                                ) else (
                                  if x4 = (15 : Int32) then (
                                    j_La_law_1014 L xs a1 a2 a3 a4 s rec
                                  ) else (
                                    if x4 = (16 : Int32) then (
                                      j_La_law_1082 L xs a1 a2 a3 a4 s rec
                                    ) else (
                                      if x4 = (17 : Int32) then (
                                        j_La_law_1095 L xs a1 a2 a3 a4 s rec
                                      ) else (
                                        if x4 = (18 : Int32) then (
                                          j_La_law_1108 L xs a1 a2 a3 a4 s rec
                                        ) else (
                                          if x4 = (19 : Int32) then (
                                            j_La_law_1164 L xs a1 a2 a3 a4 s rec
                                          ) else (
                                            if x4 = (20 : Int32) then (
                                              j_La_law_1232 L xs a1 a2 a3 a4 s rec
                                            ) else (
                                              if x4 = (21 : Int32) then (
                                                j_La_law_1307 L xs a1 a2 a3 a4 s rec
                                              ) else (
                                                if x4 = (22 : Int32) then (
                                                  j_La_law_1382 L xs a1 a2 a3 a4 s rec
                                                ) else (
                                                  if x4 = (23 : Int32) then (
                                                    j_La_law_1450 L xs a1 a2 a3 a4 s rec
                                                  ) else (
                                                    if x4 = (24 : Int32) then (
                                                      j_La_law_1518 L xs a1 a2 a3 a4 s rec
                                                    ) else (
                                                      lt_ (a4 + (6 : Int32)) fun x761 =>
                                                      rec x761 s))))))))))))))))))))))))))
def l_La_law_23 (L : Nat) (xs : Nat → Int32) (a1 a2 a3 : Option Nat) : Nat → Int32 → MS → Option Int32
  | 0, _, _ => none
  | n + 1, a4, s => b_La_law_23 L xs a1 a2 a3 a4 s (l_La_law_23 L xs a1 a2 a3 n)
def f_La_law (L : Nat) (xs : Nat → Int32) (s : MS) : Option Int32 :=
  lt_ (nid s 0) fun o763 =>
  lt_ (nw s 0) fun s765 =>
  bnd (f_Sk_init o763 s765) fun s771 =>
  lt_ (some o763) fun x772 =>
  bnd (rf s771.2.2 0 x772) fun k774 =>
  lt_ (nid s771 20) fun o776 =>
  lt_ (nw s771 20) fun s778 =>
  bnd (f_Mo_init o776 s778) fun s784 =>
  lt_ (some o776) fun x785 =>
  bnd (rf s784.2.2 20 x785) fun k787 =>
  lt_ (nid s784 50) fun o789 =>
  lt_ (nw s784 50) fun s791 =>
  lt_ (some o789) fun x795 =>
  l_La_law_23 L xs x772 x785 x795 513 (0 : Int32) s791
