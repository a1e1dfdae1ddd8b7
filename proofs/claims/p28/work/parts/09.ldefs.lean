/-! the law's functions -/
def f_La_draw (L : Nat) (xs : Nat → Int32) (a1 : Int32) : Option Int32 :=
  if a1 < (Int32.ofNat L) then (
    bnd (sc L xs a1) fun x2 =>
    some (x2 &&& (2147483647 : Int32))
  ) else (
    some ((((15595891 : Int32) * a1) + (11819 : Int32)) &&& (2147483647 : Int32)))
def f_La_tower (a0 : Option Nat) (a1 : Int32) (a2 : Int32) (s : MS) : Option (Int64 × MS) :=
  bnd (rf s.2.2 0 a0) fun k1 =>
  bnd3 (f_Sk_tower k1 a1 a2 s) fun t4 x5 s6 =>
  if t4 = 0 then (
    some ((Int32.toInt64 x5), s6)
  ) else if t4 = 1 then (
    some ((-9000000000000000001 : Int64), s6)
  ) else if t4 = 2 then (
    some ((-9000000000000000002 : Int64), s6)
  ) else if t4 = 3 then (
    some ((-9000000000000000003 : Int64), s6)
  ) else none
def f_La_spot (a0 : Option Nat) (a1 : Int32) (s : MS) : Option (Int64 × MS) :=
  bnd (rf s.2.2 0 a0) fun k1 =>
  bnd3 (f_Sk_spot k1 a1 s) fun t4 x5 s6 =>
  if t4 = 0 then (
    some ((Int32.toInt64 x5), s6)
  ) else if t4 = 1 then (
    some ((-9000000000000000001 : Int64), s6)
  ) else if t4 = 3 then (
    some ((-9000000000000000003 : Int64), s6)
  ) else none
def f_La_wind (a0 : Option Nat) (a1 : Int32) (a2 : Int32) (s : MS) : Option (Int64 × MS) :=
  bnd (rf s.2.2 0 a0) fun k1 =>
  bnd3 (f_Sk_wind k1 a1 a2 s) fun t4 x5 s6 =>
  if t4 = 0 then (
    some ((Int32.toInt64 x5), s6)
  ) else if t4 = 2 then (
    some ((-9000000000000000002 : Int64), s6)
  ) else none
def f_La_gust (a0 : Option Nat) (a1 : Int32) (a2 : Int32) (s : MS) : Option (Int64 × MS) :=
  bnd (rf s.2.2 0 a0) fun k1 =>
  bnd3 (f_Sk_gust k1 a1 a2 s) fun t4 x5 s6 =>
  if t4 = 0 then (
    some ((Int32.toInt64 x5), s6)
  ) else if t4 = 2 then (
    some ((-9000000000000000002 : Int64), s6)
  ) else none
def f_La_close (a0 : Option Nat) (a1 : Int32) (a2 : Int32) (a3 : Int32) (a4 : Int32) (a5 : Int32) (s : MS) : Option (Int64 × MS) :=
  bnd (rf s.2.2 0 a0) fun k1 =>
  bnd3 (f_Sk_close k1 a1 a2 a3 a4 a5 s) fun t4 x5 s6 =>
  if t4 = 0 then (
    some ((Int32.toInt64 x5), s6)
  ) else if t4 = 1 then (
    some ((-9000000000000000001 : Int64), s6)
  ) else if t4 = 2 then (
    some ((-9000000000000000002 : Int64), s6)
  ) else if t4 = 3 then (
    some ((-9000000000000000003 : Int64), s6)
  ) else none
def f_La_open (a0 : Option Nat) (a1 : Int32) (s : MS) : Option (Int64 × MS) :=
  bnd (rf s.2.2 0 a0) fun k1 =>
  bnd3 (f_Sk_open k1 a1 s) fun t4 x5 s6 =>
  if t4 = 0 then (
    some ((0 : Int64), s6)
  ) else if t4 = 1 then (
    some ((-9000000000000000001 : Int64), s6)
  ) else if t4 = 3 then (
    some ((-9000000000000000003 : Int64), s6)
  ) else none
def f_La_machine (a0 : Option Nat) (a1 : Int32) (a2 : Int32) (a3 : Int32) (s : MS) : Option (Int64 × MS) :=
  bnd (rf s.2.2 0 a0) fun k1 =>
  bnd3 (f_Sk_machine k1 a1 a2 a3 s) fun t4 x5 s6 =>
  if t4 = 0 then (
    some ((Int32.toInt64 x5), s6)
  ) else if t4 = 1 then (
    some ((-9000000000000000001 : Int64), s6)
  ) else if t4 = 2 then (
    some ((-9000000000000000002 : Int64), s6)
  ) else if t4 = 3 then (
    some ((-9000000000000000003 : Int64), s6)
  ) else none
def f_La_move (a0 : Option Nat) (a1 : Int32) (a2 : Int32) (s : MS) : Option (Int64 × MS) :=
  bnd (rf s.2.2 0 a0) fun k1 =>
  bnd3 (f_Sk_move k1 a1 a2 s) fun t4 x5 s6 =>
  if t4 = 0 then (
    some ((Int32.toInt64 x5), s6)
  ) else if t4 = 2 then (
    some ((-9000000000000000002 : Int64), s6)
  ) else if t4 = 3 then (
    some ((-9000000000000000003 : Int64), s6)
  ) else none
def f_La_takes (a0 : Option Nat) (a1 : Int32) (s : MS) : Option (Int64 × MS) :=
  bnd (rf s.2.2 0 a0) fun k1 =>
  bnd3 (f_Sk_takes k1 a1 s) fun t4 x5 s6 =>
  if t4 = 0 then (
    some ((Int32.toInt64 x5), s6)
  ) else if t4 = 1 then (
    some ((-9000000000000000001 : Int64), s6)
  ) else none
def f_La_file (a0 : Option Nat) (a1 : Int32) (a2 : Int32) (a3 : Int32) (s : MS) : Option (Int64 × MS) :=
  bnd (rf s.2.2 0 a0) fun k1 =>
  bnd3 (f_Sk_file k1 a1 a2 a3 s) fun t4 x5 s6 =>
  if t4 = 0 then (
    some ((Int32.toInt64 x5), s6)
  ) else if t4 = 1 then (
    some ((-9000000000000000001 : Int64), s6)
  ) else if t4 = 2 then (
    some ((-9000000000000000002 : Int64), s6)
  ) else if t4 = 3 then (
    some ((-9000000000000000003 : Int64), s6)
  ) else none
def f_La_withdraw (a0 : Option Nat) (a1 : Int32) (s : MS) : Option (Int64 × MS) :=
  bnd (rf s.2.2 0 a0) fun k1 =>
  bnd3 (f_Sk_withdraw k1 a1 s) fun t4 x5 s6 =>
  if t4 = 0 then (
    some ((0 : Int64), s6)
  ) else if t4 = 1 then (
    some ((-9000000000000000001 : Int64), s6)
  ) else if t4 = 3 then (
    some ((-9000000000000000003 : Int64), s6)
  ) else none
def f_La_tick (a0 : Option Nat) (a1 : Int32) (s : MS) : Option (Int64 × MS) :=
  bnd (rf s.2.2 0 a0) fun k1 =>
  bnd3 (f_Sk_tick k1 a1 s) fun t4 x5 s6 =>
  if t4 = 0 then (
    some ((Int32.toInt64 x5), s6)
  ) else if t4 = 2 then (
    some ((-9000000000000000002 : Int64), s6)
  ) else if t4 = 3 then (
    some ((-9000000000000000003 : Int64), s6)
  ) else none
def f_La_lose (a0 : Option Nat) (a1 : Int32) (s : MS) : Option (Int64 × MS) :=
  bnd (rf s.2.2 0 a0) fun k1 =>
  bnd3 (f_Sk_lose k1 a1 s) fun t4 x5 s6 =>
  if t4 = 0 then (
    some ((Int32.toInt64 x5), s6)
  ) else if t4 = 1 then (
    some ((-9000000000000000001 : Int64), s6)
  ) else if t4 = 3 then (
    some ((-9000000000000000003 : Int64), s6)
  ) else none
def f_La_hold (a0 : Option Nat) (a1 : Int32) (a2 : Int32) (s : MS) : Option (Int64 × MS) :=
  bnd (rf s.2.2 0 a0) fun k1 =>
  bnd3 (f_Sk_hold k1 a1 a2 s) fun t4 x5 s6 =>
  if t4 = 0 then (
    some ((Int32.toInt64 x5), s6)
  ) else if t4 = 1 then (
    some ((-9000000000000000001 : Int64), s6)
  ) else if t4 = 2 then (
    some ((-9000000000000000002 : Int64), s6)
  ) else if t4 = 3 then (
    some ((-9000000000000000003 : Int64), s6)
  ) else none
def f_La_home (a0 : Option Nat) (a1 : Int32) (s : MS) : Option (Int64 × MS) :=
  bnd (rf s.2.2 0 a0) fun k1 =>
  bnd3 (f_Sk_home k1 a1 s) fun t4 x5 s6 =>
  if t4 = 0 then (
    some ((Int32.toInt64 x5), s6)
  ) else if t4 = 1 then (
    some ((-9000000000000000001 : Int64), s6)
  ) else none
def f_La_placeAt (a0 : Option Nat) (a1 : Int32) (a2 : Int32) (s : MS) : Option (Int64 × MS) :=
  bnd (rf s.2.2 0 a0) fun k1 =>
  bnd3 (f_Sk_placeAt k1 a1 a2 s) fun t4 x5 s6 =>
  if t4 = 0 then (
    some ((Int32.toInt64 x5), s6)
  ) else if t4 = 1 then (
    some ((-9000000000000000001 : Int64), s6)
  ) else none
def f_La_meets (a0 : Option Nat) (a1 : Int32) (a2 : Int32) (s : MS) : Option (Int64 × MS) :=
  bnd (rf s.2.2 0 a0) fun k1 =>
  bnd3 (f_Sk_meets k1 a1 a2 s) fun t4 x5 s6 =>
  if t4 = 0 then (
    if x5 = (0 : Int32) then (
      some ((0 : Int64), s6)
    ) else (
      some ((1 : Int64), s6))
  ) else if t4 = 1 then (
    some ((-9000000000000000001 : Int64), s6)
  ) else none
def f_La_meetsAnew (a0 : Option Nat) (a1 : Int32) (a2 : Int32) (s : MS) : Option (Int64 × MS) :=
  bnd (rf s.2.2 0 a0) fun k1 =>
  bnd3 (f_Sk_meetsAnew k1 a1 a2 s) fun t4 x5 s6 =>
  if t4 = 0 then (
    if x5 = (0 : Int32) then (
      some ((0 : Int64), s6)
    ) else (
      some ((1 : Int64), s6))
  ) else if t4 = 1 then (
    some ((-9000000000000000001 : Int64), s6)
  ) else none
def f_La_ofMachine (a0 : Option Nat) (a1 : Int32) (a2 : Int32) (s : MS) : Option (Int64 × MS) :=
  bnd (rf s.2.2 0 a0) fun k1 =>
  bnd3 (f_Sk_ofMachine k1 a1 a2 s) fun t4 x5 s6 =>
  if t4 = 0 then (
    some ((Int32.toInt64 x5), s6)
  ) else if t4 = 1 then (
    some ((-9000000000000000001 : Int64), s6)
  ) else if t4 = 2 then (
    some ((-9000000000000000002 : Int64), s6)
  ) else none
def f_La_ofPath (a0 : Option Nat) (a1 : Int32) (a2 : Int32) (s : MS) : Option (Int64 × MS) :=
  bnd (rf s.2.2 0 a0) fun k1 =>
  bnd3 (f_Sk_ofPath k1 a1 a2 s) fun t4 x5 s6 =>
  if t4 = 0 then (
    some ((Int32.toInt64 x5), s6)
  ) else if t4 = 1 then (
    some ((-9000000000000000001 : Int64), s6)
  ) else if t4 = 2 then (
    some ((-9000000000000000002 : Int64), s6)
  ) else none
def f_La_count (a0 : Option Nat) (a1 : Int32) (s : MS) : Option (Int64 × MS) :=
  bnd (rf s.2.2 0 a0) fun k1 =>
  bnd3 (f_Sk_count k1 a1 s) fun t4 x5 s6 =>
  if t4 = 0 then (
    some ((Int32.toInt64 x5), s6)
  ) else if t4 = 2 then (
    some ((-9000000000000000002 : Int64), s6)
  ) else none
def b_La_isSpot_5 (a0 : Option Nat) (a1 : Int64) (a3 : Int32) (a4 : Int32) (s : MS) (rec : Int32 → Int32 → Option (Int32)) : Option (Int32) :=
  bnd (rl s.2.2 0 a0) fun n1 =>
  if a4 < (Int32.ofNat n1) then (
    if a3 = (0 : Int32) then (
      bnd (ra s.2.2 0 a0 a4) fun k5 =>
      if (if (Int32.toInt64 (s.1 k5 a4.toNatClampNeg)) = a1 then (0 : Int32) else if a1 < (Int32.toInt64 (s.1 k5 a4.toNatClampNeg)) then 1 else -1) = (0 : Int32) then (
        lt_ (a4 + (1 : Int32)) fun x8 =>
        rec (1 : Int32) x8
      ) else (
        lt_ (a4 + (1 : Int32)) fun x10 =>
        rec (0 : Int32) x10)
    ) else (
      lt_ (a4 + (1 : Int32)) fun x12 =>
      rec (1 : Int32) x12)
  ) else (
    some a3)
def l_La_isSpot_5 (a0 : Option Nat) (a1 : Int64) (s : MS) : Nat → Int32 → Int32 → Option (Int32)
  | 0, _, _ => none
  | n + 1, a3, a4 => b_La_isSpot_5 a0 a1 a3 a4 s (l_La_isSpot_5 a0 a1 s n)
def f_La_isSpot (a0 : Option Nat) (a1 : Int64) (s : MS) : Option (Int32) :=
  bnd (l_La_isSpot_5 a0 a1 s 4096 (0 : Int32) (0 : Int32)) fun e14 =>
  gd (e14 = 0 ∨ e14 = 1) (
  some e14)
def j_La_machinesHold_312 (a0 : Option Nat) (a1 : Int32) (a2 : Option Nat) (a3 : Option Nat) (a4 : Int64) (a7 : Int32) (a8 : Int64) (s : MS) (rec : Int64 → Int32 → Int32 → MS → Option (Int64 × Int32 × MS)) : Option (Int64 × Int32 × MS) :=
  if (if a8 = (0 : Int64) then (0 : Int32) else if (0 : Int64) < a8 then 1 else -1) = (0 : Int32) then (
    lt_ (a7 + (1 : Int32)) fun x75 =>
    rec a4 (1 : Int32) x75 s
  ) else (
    bnd (rf s.2.2 0 a0) fun k77 =>
    bnd (rl s.2.2 0 a2) fun n79 =>
    bnd (rl s.2.2 0 a3) fun n81 =>
    bnd2 (f_La_takes a0 a7 s) fun x86 s85 =>
    if (if x86 = (-1 : Int64) then (0 : Int32) else if (-1 : Int64) < x86 then 1 else -1) = (0 : Int32) then (
      lt_ (a7 + (1 : Int32)) fun x88 =>
      rec a4 (1 : Int32) x88 s85
    ) else (
      lt_ (a7 + (1 : Int32)) fun x90 =>
      rec a4 (0 : Int32) x90 s85))
def j_La_machinesHold_293 (a0 : Option Nat) (a1 : Int32) (a2 : Option Nat) (a3 : Option Nat) (a4 : Int64) (a6 : Int32) (a7 : Int32) (a8 : Int64) (a10 : Int64) (s : MS) (rec : Int64 → Int32 → Int32 → MS → Option (Int64 × Int32 × MS)) : Option (Int64 × Int32 × MS) :=
  if a6 = (0 : Int32) then (
    lt_ (a7 + (1 : Int32)) fun x68 =>
    rec a4 (0 : Int32) x68 s
  ) else (
    if (if a8 = (1 : Int64) then (0 : Int32) else if (1 : Int64) < a8 then 1 else -1) = (0 : Int32) then (
      if (if a10 = (0 : Int64) then (0 : Int32) else if (0 : Int64) < a10 then 1 else -1) < (0 : Int32) then (
        lt_ (a7 + (1 : Int32)) fun x72 =>
        rec a4 (0 : Int32) x72 s
      ) else (
        j_La_machinesHold_312 a0 a1 a2 a3 a4 a7 a8 s rec)
    ) else (
      j_La_machinesHold_312 a0 a1 a2 a3 a4 a7 a8 s rec))
def j_La_machinesHold_291 (a0 : Option Nat) (a1 : Int32) (a2 : Option Nat) (a3 : Option Nat) (a4 : Int64) (a7 : Int32) (a8 : Int64) (a10 : Int64) (t0 : Int32) (s : MS) (rec : Int64 → Int32 → Int32 → MS → Option (Int64 × Int32 × MS)) : Option (Int64 × Int32 × MS) :=
  j_La_machinesHold_293 a0 a1 a2 a3 a4 t0 a7 a8 a10 s rec
def j_La_machinesHold_286 (a0 : Option Nat) (a1 : Int32) (a2 : Option Nat) (a3 : Option Nat) (a4 : Int64) (a7 : Int32) (a8 : Int64) (a10 : Int64) (s : MS) (rec : Int64 → Int32 → Int32 → MS → Option (Int64 × Int32 × MS)) : Option (Int64 × Int32 × MS) :=
  j_La_machinesHold_291 a0 a1 a2 a3 a4 a7 a8 a10 (1 : Int32) s rec
def j_La_machinesHold_290 (a0 : Option Nat) (a1 : Int32) (a2 : Option Nat) (a3 : Option Nat) (a4 : Int64) (a7 : Int32) (a8 : Int64) (a10 : Int64) (s : MS) (rec : Int64 → Int32 → Int32 → MS → Option (Int64 × Int32 × MS)) : Option (Int64 × Int32 × MS) :=
  j_La_machinesHold_291 a0 a1 a2 a3 a4 a7 a8 a10 (0 : Int32) s rec
def j_La_machinesHold_198 (a0 : Option Nat) (a1 : Int32) (a2 : Option Nat) (a3 : Option Nat) (a4 : Int64) (a7 : Int32) (a8 : Int64) (a10 : Int64) (a12 : Int64) (t0 : Int32) (s : MS) (rec : Int64 → Int32 → Int32 → MS → Option (Int64 × Int32 × MS)) : Option (Int64 × Int32 × MS) :=
  if t0 = (0 : Int32) then (
    j_La_machinesHold_293 a0 a1 a2 a3 a4 t0 a7 a8 a10 s rec
  ) else (
    if (if a10 = (0 : Int64) then (0 : Int32) else if (0 : Int64) < a10 then 1 else -1) < (0 : Int32) then (
      j_La_machinesHold_293 a0 a1 a2 a3 a4 t0 a7 a8 a10 s rec
    ) else (
      lt_ (Int64.toInt32 a10) fun x93 =>
      bnd (rf s.2.2 0 a0) fun k95 =>
      bnd (rl s.2.2 0 a2) fun n97 =>
      bnd (rl s.2.2 0 a3) fun n99 =>
      bnd2 (f_La_ofPath a0 x93 (1 : Int32) s) fun x104 s103 =>
      if (if x104 = (Int32.toInt64 a7) then (0 : Int32) else if (Int32.toInt64 a7) < x104 then 1 else -1) = (0 : Int32) then (
        bnd (rl s103.2.2 0 a2) fun n106 =>
        bnd (rl s103.2.2 0 a3) fun n108 =>
        bnd2 (f_La_ofPath a0 x93 (0 : Int32) s103) fun x113 s112 =>
        if (if x113 = a8 then (0 : Int32) else if a8 < x113 then 1 else -1) = (0 : Int32) then (
          if (if a8 = (1 : Int64) then (0 : Int32) else if (1 : Int64) < a8 then 1 else -1) = (0 : Int32) then (
            bnd (f_Sk_time k95 s112) fun x117 =>
            bnd (rl s112.2.2 0 a2) fun n119 =>
            bnd (rl s112.2.2 0 a3) fun n121 =>
            bnd2 (f_La_placeAt a0 x93 x117 s112) fun x126 s125 =>
            if (if x126 = a12 then (0 : Int32) else if a12 < x126 then 1 else -1) = (0 : Int32) then (
              j_La_machinesHold_286 a0 a1 a2 a3 a4 a7 a8 a10 s125 rec
            ) else (
              j_La_machinesHold_290 a0 a1 a2 a3 a4 a7 a8 a10 s125 rec)
          ) else (
            bnd (rl s112.2.2 0 a2) fun n128 =>
            bnd (rl s112.2.2 0 a3) fun n130 =>
            bnd2 (f_La_ofPath a0 x93 (2 : Int32) s112) fun x135 s134 =>
            bnd (f_Sk_time k95 s134) fun x137 =>
            if (0 : Int32) < (if x135 = (Int32.toInt64 x137) then (0 : Int32) else if (Int32.toInt64 x137) < x135 then 1 else -1) then (
              j_La_machinesHold_286 a0 a1 a2 a3 a4 a7 a8 a10 s134 rec
            ) else (
              j_La_machinesHold_290 a0 a1 a2 a3 a4 a7 a8 a10 s134 rec))
        ) else (
          j_La_machinesHold_290 a0 a1 a2 a3 a4 a7 a8 a10 s112 rec)
      ) else (
        j_La_machinesHold_290 a0 a1 a2 a3 a4 a7 a8 a10 s103 rec)))
def j_La_machinesHold_197 (a0 : Option Nat) (a1 : Int32) (a2 : Option Nat) (a3 : Option Nat) (a4 : Int64) (a7 : Int32) (a8 : Int64) (a10 : Int64) (a12 : Int64) (s : MS) (rec : Int64 → Int32 → Int32 → MS → Option (Int64 × Int32 × MS)) : Option (Int64 × Int32 × MS) :=
  j_La_machinesHold_198 a0 a1 a2 a3 a4 a7 a8 a10 a12 (0 : Int32) s rec
def j_La_machinesHold_193 (a0 : Option Nat) (a1 : Int32) (a2 : Option Nat) (a3 : Option Nat) (a4 : Int64) (a7 : Int32) (a8 : Int64) (a10 : Int64) (a12 : Int64) (s : MS) (rec : Int64 → Int32 → Int32 → MS → Option (Int64 × Int32 × MS)) : Option (Int64 × Int32 × MS) :=
  j_La_machinesHold_198 a0 a1 a2 a3 a4 a7 a8 a10 a12 (1 : Int32) s rec
def j_La_machinesHold_175 (a0 : Option Nat) (a1 : Int32) (a2 : Option Nat) (a3 : Option Nat) (a4 : Int64) (a7 : Int32) (a8 : Int64) (a10 : Int64) (a12 : Int64) (s : MS) (rec : Int64 → Int32 → Int32 → MS → Option (Int64 × Int32 × MS)) : Option (Int64 × Int32 × MS) :=
  if (if a8 = (2 : Int64) then (0 : Int32) else if (2 : Int64) < a8 then 1 else -1) < (0 : Int32) then (
    j_La_machinesHold_193 a0 a1 a2 a3 a4 a7 a8 a10 a12 s rec
  ) else (
    if (if a10 = (-1 : Int64) then (0 : Int32) else if (-1 : Int64) < a10 then 1 else -1) = (0 : Int32) then (
      j_La_machinesHold_193 a0 a1 a2 a3 a4 a7 a8 a10 a12 s rec
    ) else (
      j_La_machinesHold_197 a0 a1 a2 a3 a4 a7 a8 a10 a12 s rec))
def j_La_machinesHold_157 (a0 : Option Nat) (a1 : Int32) (a2 : Option Nat) (a3 : Option Nat) (a4 : Int64) (a7 : Int32) (a8 : Int64) (a10 : Int64) (a12 : Int64) (s : MS) (rec : Int64 → Int32 → Int32 → MS → Option (Int64 × Int32 × MS)) : Option (Int64 × Int32 × MS) :=
  if (if a8 = (2 : Int64) then (0 : Int32) else if (2 : Int64) < a8 then 1 else -1) = (0 : Int32) then (
    if (if a12 = (100 : Int64) then (0 : Int32) else if (100 : Int64) < a12 then 1 else -1) < (0 : Int32) then (
      j_La_machinesHold_197 a0 a1 a2 a3 a4 a7 a8 a10 a12 s rec
    ) else (
      j_La_machinesHold_175 a0 a1 a2 a3 a4 a7 a8 a10 a12 s rec)
  ) else (
    j_La_machinesHold_175 a0 a1 a2 a3 a4 a7 a8 a10 a12 s rec)
def j_La_machinesHold_132 (a0 : Option Nat) (a1 : Int32) (a2 : Option Nat) (a3 : Option Nat) (a4 : Int64) (a7 : Int32) (a8 : Int64) (a10 : Int64) (a12 : Int64) (s : MS) (rec : Int64 → Int32 → Int32 → MS → Option (Int64 × Int32 × MS)) : Option (Int64 × Int32 × MS) :=
  if (if a8 = (0 : Int64) then (0 : Int32) else if (0 : Int64) < a8 then 1 else -1) = (0 : Int32) then (
    if (if a12 = (100 : Int64) then (0 : Int32) else if (100 : Int64) < a12 then 1 else -1) < (0 : Int32) then (
      bnd (f_La_isSpot a2 a12 s) fun x144 =>
      if x144 = (0 : Int32) then (
        j_La_machinesHold_197 a0 a1 a2 a3 a4 a7 a8 a10 a12 s rec
      ) else (
        j_La_machinesHold_157 a0 a1 a2 a3 a4 a7 a8 a10 a12 s rec)
    ) else (
      j_La_machinesHold_197 a0 a1 a2 a3 a4 a7 a8 a10 a12 s rec)
  ) else (
    j_La_machinesHold_157 a0 a1 a2 a3 a4 a7 a8 a10 a12 s rec)
def j_La_machinesHold_92 (a0 : Option Nat) (a1 : Int32) (a2 : Option Nat) (a3 : Option Nat) (a7 : Int32) (a8 : Int64) (a10 : Int64) (a12 : Int64) (t0 : Int64) (t1 : Int64) (s : MS) (rec : Int64 → Int32 → Int32 → MS → Option (Int64 × Int32 × MS)) : Option (Int64 × Int32 × MS) :=
  lt_ (t1 + t0) fun x51 =>
  bnd (rf s.2.2 0 a0) fun k53 =>
  bnd (rl s.2.2 0 a2) fun n55 =>
  bnd (rl s.2.2 0 a3) fun n57 =>
  bnd2 (f_La_ofMachine a0 a7 (3 : Int32) s) fun x62 s61 =>
  bnd (ra s61.2.2 0 a3 a7) fun k63 =>
  if (0 : Int32) < (if x62 = (Int32.toInt64 (s61.1 k63 a7.toNatClampNeg)) then (0 : Int32) else if (Int32.toInt64 (s61.1 k63 a7.toNatClampNeg)) < x62 then 1 else -1) then (
    j_La_machinesHold_197 a0 a1 a2 a3 x51 a7 a8 a10 a12 s61 rec
  ) else (
    if (if a8 = (3 : Int64) then (0 : Int32) else if (3 : Int64) < a8 then 1 else -1) = (0 : Int32) then (
      j_La_machinesHold_132 a0 a1 a2 a3 x51 a7 a8 a10 a12 s61 rec
    ) else (
      bnd (rl s61.2.2 0 a2) fun n151 =>
      bnd (rl s61.2.2 0 a3) fun n153 =>
      bnd2 (f_La_ofMachine a0 a7 (3 : Int32) s61) fun x158 s157 =>
      if (if x158 = (0 : Int64) then (0 : Int32) else if (0 : Int64) < x158 then 1 else -1) < (0 : Int32) then (
        j_La_machinesHold_197 a0 a1 a2 a3 x51 a7 a8 a10 a12 s157 rec
      ) else (
        j_La_machinesHold_132 a0 a1 a2 a3 x51 a7 a8 a10 a12 s157 rec)))
def b_La_machinesHold_26 (a0 : Option Nat) (a1 : Int32) (a2 : Option Nat) (a3 : Option Nat) (a4 : Int64) (a6 : Int32) (a7 : Int32) (s : MS) (rec : Int64 → Int32 → Int32 → MS → Option (Int64 × Int32 × MS)) : Option (Int64 × Int32 × MS) :=
  if a7 < a1 then (
    if a6 = (0 : Int32) then (
      some (a4, a6, s)
    ) else (
      bnd (rf s.2.2 0 a0) fun k14 =>
      bnd (rl s.2.2 0 a2) fun n16 =>
      bnd (rl s.2.2 0 a3) fun n18 =>
      bnd2 (f_La_ofMachine a0 a7 (0 : Int32) s) fun x23 s22 =>
      bnd (rl s22.2.2 0 a2) fun n24 =>
      bnd (rl s22.2.2 0 a3) fun n26 =>
      bnd2 (f_La_ofMachine a0 a7 (5 : Int32) s22) fun x31 s30 =>
      bnd (rl s30.2.2 0 a2) fun n32 =>
      bnd (rl s30.2.2 0 a3) fun n34 =>
      bnd2 (f_La_ofMachine a0 a7 (2 : Int32) s30) fun x39 s38 =>
      bnd (rl s38.2.2 0 a2) fun n40 =>
      bnd (rl s38.2.2 0 a3) fun n42 =>
      bnd2 (f_La_ofMachine a0 a7 (1 : Int32) s38) fun x47 s46 =>
      lt_ (((100 : Int64) * x39) + x47) fun x48 =>
      if (if x23 = (3 : Int64) then (0 : Int32) else if (3 : Int64) < x23 then 1 else -1) = (0 : Int32) then (
        j_La_machinesHold_92 a0 a1 a2 a3 a7 x23 x31 x48 (1 : Int64) a4 s46 rec
      ) else (
        j_La_machinesHold_92 a0 a1 a2 a3 a7 x23 x31 x48 (0 : Int64) a4 s46 rec))
  ) else (
    some (a4, a6, s))
def l_La_machinesHold_26 (a0 : Option Nat) (a1 : Int32) (a2 : Option Nat) (a3 : Option Nat) : Nat → Int64 → Int32 → Int32 → MS → Option (Int64 × Int32 × MS)
  | 0, _, _, _, _ => none
  | n + 1, a4, a6, a7, s => b_La_machinesHold_26 a0 a1 a2 a3 a4 a6 a7 s (l_La_machinesHold_26 a0 a1 a2 a3 n)
def j_La_machinesHold_21 (a0 : Option Nat) (a1 : Int32) (a2 : Option Nat) (a3 : Option Nat) (a4 : Int64) (t0 : Int32) (s : MS) : Option (Int32 × MS) :=
  bnd3 (l_La_machinesHold_26 a0 a1 a2 a3 12 a4 t0 (0 : Int32) s) fun e160 e161 s163 =>
  if e161 = (0 : Int32) then (
    some ((0 : Int32), s163)
  ) else (
    bnd (rf s163.2.2 0 a0) fun k165 =>
    bnd2 (f_La_count a0 (3 : Int32) s163) fun x170 s169 =>
    if (if x170 = e160 then (0 : Int32) else if e160 < x170 then 1 else -1) = (0 : Int32) then (
      bnd2 (f_La_count a0 (4 : Int32) s169) fun x175 s174 =>
      if (0 : Int32) < (if x175 = e160 then (0 : Int32) else if e160 < x175 then 1 else -1) then (
        some ((0 : Int32), s174)
      ) else (
        some ((1 : Int32), s174))
    ) else (
      some ((0 : Int32), s169)))
def f_La_machinesHold (a0 : Option Nat) (a1 : Int32) (a2 : Option Nat) (a3 : Option Nat) (s : MS) : Option (Int32 × MS) :=
  bnd (rf s.2.2 0 a0) fun k1 =>
  bnd (rl s.2.2 0 a2) fun n3 =>
  bnd (rl s.2.2 0 a3) fun n5 =>
  bnd2 (f_La_ofMachine a0 a1 (0 : Int32) s) fun x10 s9 =>
  if (if x10 = (-9000000000000000001 : Int64) then (0 : Int32) else if (-9000000000000000001 : Int64) < x10 then 1 else -1) = (0 : Int32) then (
    j_La_machinesHold_21 a0 a1 a2 a3 (0 : Int64) (1 : Int32) s9
  ) else (
    j_La_machinesHold_21 a0 a1 a2 a3 (0 : Int64) (0 : Int32) s9)
def j_La_pathsHold_293 (a0 : Option Nat) (a1 : Option Nat) (a2 : Int32) (a3 : Int32) (a4 : Int64) (a7 : Int32) (a8 : Int64) (a12 : Int32) (t0 : Int32) (s : MS) (rec : Int32 → Int32 → MS → Option (Int32 × MS)) : Option (Int32 × MS) :=
  bnd (rf s.2.2 0 a0) fun k75 =>
  bnd (rl s.2.2 0 a1) fun n77 =>
  bnd2 (f_La_meets a0 a7 a12 s) fun x82 s81 =>
  bnd (rl s81.2.2 0 a1) fun n83 =>
  bnd2 (f_La_meetsAnew a0 a12 a7 s81) fun x88 s87 =>
  if (if x82 = x88 then (0 : Int32) else if x88 < x82 then 1 else -1) = (0 : Int32) then (
    if a2 = (0 : Int32) then (
      if t0 = (0 : Int32) then (
        lt_ (a12 + (1 : Int32)) fun x92 =>
        rec (1 : Int32) x92 s87
      ) else (
        bnd (rl s87.2.2 0 a1) fun n94 =>
        bnd2 (f_La_meets a0 a12 a7 s87) fun x99 s98 =>
        if (if x99 = (0 : Int64) then (0 : Int32) else if (0 : Int64) < x99 then 1 else -1) = (0 : Int32) then (
          lt_ (a12 + (1 : Int32)) fun x101 =>
          rec (1 : Int32) x101 s98
        ) else (
          lt_ (a12 + (1 : Int32)) fun x103 =>
          rec (0 : Int32) x103 s98))
    ) else (
      lt_ (a12 + (1 : Int32)) fun x105 =>
      rec (1 : Int32) x105 s87)
  ) else (
    lt_ (a12 + (1 : Int32)) fun x107 =>
    rec (0 : Int32) x107 s87)
def j_La_pathsHold_292 (a0 : Option Nat) (a1 : Option Nat) (a2 : Int32) (a3 : Int32) (a4 : Int64) (a7 : Int32) (a8 : Int64) (a12 : Int32) (s : MS) (rec : Int32 → Int32 → MS → Option (Int32 × MS)) : Option (Int32 × MS) :=
  j_La_pathsHold_293 a0 a1 a2 a3 a4 a7 a8 a12 (0 : Int32) s rec
def b_La_pathsHold_257 (a0 : Option Nat) (a1 : Option Nat) (a2 : Int32) (a3 : Int32) (a4 : Int64) (a6 : Int32) (a7 : Int32) (a8 : Int64) (a12 : Int32) (s : MS) (rec : Int32 → Int32 → MS → Option (Int32 × MS)) : Option (Int32 × MS) :=
  if a12 < a7 then (
    if a6 = (0 : Int32) then (
      some (a6, s)
    ) else (
      if (if a8 = (0 : Int64) then (0 : Int32) else if (0 : Int64) < a8 then 1 else -1) = (0 : Int32) then (
        bnd (rf s.2.2 0 a0) fun k66 =>
        bnd (rl s.2.2 0 a1) fun n68 =>
        bnd2 (f_La_ofPath a0 a12 (0 : Int32) s) fun x73 s72 =>
        if (if x73 = (0 : Int64) then (0 : Int32) else if (0 : Int64) < x73 then 1 else -1) = (0 : Int32) then (
          j_La_pathsHold_293 a0 a1 a2 a3 a4 a7 a8 a12 (1 : Int32) s72 rec
        ) else (
          j_La_pathsHold_292 a0 a1 a2 a3 a4 a7 a8 a12 s72 rec)
      ) else (
        j_La_pathsHold_292 a0 a1 a2 a3 a4 a7 a8 a12 s rec))
  ) else (
    some (a6, s))
def l_La_pathsHold_257 (a0 : Option Nat) (a1 : Option Nat) (a2 : Int32) (a3 : Int32) (a4 : Int64) (a7 : Int32) (a8 : Int64) : Nat → Int32 → Int32 → MS → Option (Int32 × MS)
  | 0, _, _, _ => none
  | n + 1, a6, a12, s => b_La_pathsHold_257 a0 a1 a2 a3 a4 a6 a7 a8 a12 s (l_La_pathsHold_257 a0 a1 a2 a3 a4 a7 a8 n)
def j_La_pathsHold_252 (a0 : Option Nat) (a1 : Option Nat) (a2 : Int32) (a3 : Int32) (a4 : Int64) (a7 : Int32) (a8 : Int64) (t0 : Int32) (s : MS) (rec : Int64 → Int32 → Int32 → MS → Option (Int64 × Int32 × MS)) : Option (Int64 × Int32 × MS) :=
  bnd2 (l_La_pathsHold_257 a0 a1 a2 a3 a4 a7 a8 42 t0 (0 : Int32) s) fun e109 s111 =>
  lt_ (a7 + (1 : Int32)) fun x112 =>
  rec a4 e109 x112 s111
def j_La_pathsHold_251 (a0 : Option Nat) (a1 : Option Nat) (a2 : Int32) (a3 : Int32) (a4 : Int64) (a7 : Int32) (a8 : Int64) (s : MS) (rec : Int64 → Int32 → Int32 → MS → Option (Int64 × Int32 × MS)) : Option (Int64 × Int32 × MS) :=
  j_La_pathsHold_252 a0 a1 a2 a3 a4 a7 a8 (0 : Int32) s rec
def j_La_pathsHold_247 (a0 : Option Nat) (a1 : Option Nat) (a2 : Int32) (a3 : Int32) (a4 : Int64) (a7 : Int32) (a8 : Int64) (s : MS) (rec : Int64 → Int32 → Int32 → MS → Option (Int64 × Int32 × MS)) : Option (Int64 × Int32 × MS) :=
  j_La_pathsHold_252 a0 a1 a2 a3 a4 a7 a8 (1 : Int32) s rec
def j_La_pathsHold_229 (a0 : Option Nat) (a1 : Option Nat) (a2 : Int32) (a3 : Int32) (a4 : Int64) (a7 : Int32) (a8 : Int64) (a11 : Int32) (s : MS) (rec : Int64 → Int32 → Int32 → MS → Option (Int64 × Int32 × MS)) : Option (Int64 × Int32 × MS) :=
  if (if a8 = (2 : Int64) then (0 : Int32) else if (2 : Int64) < a8 then 1 else -1) = (0 : Int32) then (
    bnd (rf s.2.2 0 a0) fun k133 =>
    bnd (f_Sk_time k133 s) fun x136 =>
    if x136 < a11 then (
      j_La_pathsHold_251 a0 a1 a2 a3 a4 a7 a8 s rec
    ) else (
      j_La_pathsHold_247 a0 a1 a2 a3 a4 a7 a8 s rec)
  ) else (
    j_La_pathsHold_247 a0 a1 a2 a3 a4 a7 a8 s rec)
def j_La_pathsHold_204 (a0 : Option Nat) (a1 : Option Nat) (a2 : Int32) (a3 : Int32) (a4 : Int64) (a7 : Int32) (a8 : Int64) (a10 : Int32) (a11 : Int32) (s : MS) (rec : Int64 → Int32 → Int32 → MS → Option (Int64 × Int32 × MS)) : Option (Int64 × Int32 × MS) :=
  if (if a8 = (1 : Int64) then (0 : Int32) else if (1 : Int64) < a8 then 1 else -1) = (0 : Int32) then (
    bnd (rf s.2.2 0 a0) fun k122 =>
    bnd (f_Sk_time k122 s) fun x125 =>
    if x125 < a10 then (
      j_La_pathsHold_251 a0 a1 a2 a3 a4 a7 a8 s rec
    ) else (
      bnd (f_Sk_time k122 s) fun x129 =>
      if x129 < a11 then (
        j_La_pathsHold_229 a0 a1 a2 a3 a4 a7 a8 a11 s rec
      ) else (
        j_La_pathsHold_251 a0 a1 a2 a3 a4 a7 a8 s rec))
  ) else (
    j_La_pathsHold_229 a0 a1 a2 a3 a4 a7 a8 a11 s rec)
def j_La_pathsHold_181 (a0 : Option Nat) (a1 : Option Nat) (a2 : Int32) (a3 : Int32) (a4 : Int64) (a7 : Int32) (a8 : Int64) (a10 : Int32) (a11 : Int32) (t0 : Int32) (s : MS) (rec : Int64 → Int32 → Int32 → MS → Option (Int64 × Int32 × MS)) : Option (Int64 × Int32 × MS) :=
  if t0 = (0 : Int32) then (
    j_La_pathsHold_251 a0 a1 a2 a3 a4 a7 a8 s rec
  ) else (
    if (if a8 = (0 : Int64) then (0 : Int32) else if (0 : Int64) < a8 then 1 else -1) = (0 : Int32) then (
      bnd (rf s.2.2 0 a0) fun k115 =>
      bnd (f_Sk_time k115 s) fun x118 =>
      if x118 < a10 then (
        j_La_pathsHold_204 a0 a1 a2 a3 a4 a7 a8 a10 a11 s rec
      ) else (
        j_La_pathsHold_251 a0 a1 a2 a3 a4 a7 a8 s rec)
    ) else (
      j_La_pathsHold_204 a0 a1 a2 a3 a4 a7 a8 a10 a11 s rec))
def j_La_pathsHold_180 (a0 : Option Nat) (a1 : Option Nat) (a2 : Int32) (a3 : Int32) (a4 : Int64) (a7 : Int32) (a8 : Int64) (a10 : Int32) (a11 : Int32) (s : MS) (rec : Int64 → Int32 → Int32 → MS → Option (Int64 × Int32 × MS)) : Option (Int64 × Int32 × MS) :=
  j_La_pathsHold_181 a0 a1 a2 a3 a4 a7 a8 a10 a11 (0 : Int32) s rec
def j_La_pathsHold_89 (a0 : Option Nat) (a1 : Option Nat) (a2 : Int32) (a3 : Int32) (a7 : Int32) (a8 : Int64) (a10 : Int32) (a11 : Int32) (t0 : Int64) (t1 : Int64) (s : MS) (rec : Int64 → Int32 → Int32 → MS → Option (Int64 × Int32 × MS)) : Option (Int64 × Int32 × MS) :=
  lt_ (t1 + t0) fun x45 =>
  if a10 < a11 then (
    bnd (rf s.2.2 0 a0) fun k48 =>
    bnd (rl s.2.2 0 a1) fun n50 =>
    bnd (rl s.2.2 0 a1) fun n52 =>
    bnd2 (f_La_placeAt a0 a7 a10 s) fun x57 s56 =>
    bnd (f_La_isSpot a1 x57 s56) fun x59 =>
    if x59 = (0 : Int32) then (
      j_La_pathsHold_180 a0 a1 a2 a3 x45 a7 a8 a10 a11 s56 rec
    ) else (
      bnd (rl s56.2.2 0 a1) fun n139 =>
      bnd (rl s56.2.2 0 a1) fun n141 =>
      bnd2 (f_La_placeAt a0 a7 a11 s56) fun x146 s145 =>
      bnd (f_La_isSpot a1 x146 s145) fun x148 =>
      if x148 = (0 : Int32) then (
        j_La_pathsHold_180 a0 a1 a2 a3 x45 a7 a8 a10 a11 s145 rec
      ) else (
        bnd (rl s145.2.2 0 a1) fun n151 =>
        bnd2 (f_La_placeAt a0 a7 (a10 - (1 : Int32)) s145) fun x156 s155 =>
        if (if x156 = (-1 : Int64) then (0 : Int32) else if (-1 : Int64) < x156 then 1 else -1) = (0 : Int32) then (
          bnd (rl s155.2.2 0 a1) fun n158 =>
          bnd2 (f_La_placeAt a0 a7 (a11 + (1 : Int32)) s155) fun x163 s162 =>
          if (if x163 = (-1 : Int64) then (0 : Int32) else if (-1 : Int64) < x163 then 1 else -1) = (0 : Int32) then (
            bnd (rl s162.2.2 0 a1) fun n165 =>
            bnd2 (f_La_meets a0 a7 a7 s162) fun x170 s169 =>
            if (if x170 = (0 : Int64) then (0 : Int32) else if (0 : Int64) < x170 then 1 else -1) = (0 : Int32) then (
              j_La_pathsHold_181 a0 a1 a2 a3 x45 a7 a8 a10 a11 (1 : Int32) s169 rec
            ) else (
              j_La_pathsHold_180 a0 a1 a2 a3 x45 a7 a8 a10 a11 s169 rec)
          ) else (
            j_La_pathsHold_180 a0 a1 a2 a3 x45 a7 a8 a10 a11 s162 rec)
        ) else (
          j_La_pathsHold_180 a0 a1 a2 a3 x45 a7 a8 a10 a11 s155 rec)))
  ) else (
    j_La_pathsHold_180 a0 a1 a2 a3 x45 a7 a8 a10 a11 s rec)
def b_La_pathsHold_33 (a0 : Option Nat) (a1 : Option Nat) (a2 : Int32) (a3 : Int32) (a4 : Int64) (a6 : Int32) (a7 : Int32) (s : MS) (rec : Int64 → Int32 → Int32 → MS → Option (Int64 × Int32 × MS)) : Option (Int64 × Int32 × MS) :=
  if a7 < a3 then (
    if a6 = (0 : Int32) then (
      some (a4, a6, s)
    ) else (
      bnd (rf s.2.2 0 a0) fun k20 =>
      bnd (rl s.2.2 0 a1) fun n22 =>
      bnd2 (f_La_ofPath a0 a7 (0 : Int32) s) fun x27 s26 =>
      bnd (rl s26.2.2 0 a1) fun n28 =>
      bnd2 (f_La_ofPath a0 a7 (2 : Int32) s26) fun x33 s32 =>
      lt_ (Int64.toInt32 x33) fun x34 =>
      bnd (rl s32.2.2 0 a1) fun n36 =>
      bnd2 (f_La_ofPath a0 a7 (3 : Int32) s32) fun x41 s40 =>
      lt_ (Int64.toInt32 x41) fun x42 =>
      if (if x27 = (3 : Int64) then (0 : Int32) else if (3 : Int64) < x27 then 1 else -1) = (0 : Int32) then (
        j_La_pathsHold_89 a0 a1 a2 a3 a7 x27 x34 x42 (1 : Int64) a4 s40 rec
      ) else (
        j_La_pathsHold_89 a0 a1 a2 a3 a7 x27 x34 x42 (0 : Int64) a4 s40 rec))
  ) else (
    some (a4, a6, s))
def l_La_pathsHold_33 (a0 : Option Nat) (a1 : Option Nat) (a2 : Int32) (a3 : Int32) : Nat → Int64 → Int32 → Int32 → MS → Option (Int64 × Int32 × MS)
  | 0, _, _, _, _ => none
  | n + 1, a4, a6, a7, s => b_La_pathsHold_33 a0 a1 a2 a3 a4 a6 a7 s (l_La_pathsHold_33 a0 a1 a2 a3 n)
def j_La_pathsHold_28 (a0 : Option Nat) (a1 : Option Nat) (a2 : Int32) (a3 : Int32) (a4 : Int64) (t0 : Int32) (s : MS) : Option (Int32 × MS) :=
  bnd3 (l_La_pathsHold_33 a0 a1 a2 a3 42 a4 t0 (0 : Int32) s) fun e172 e173 s175 =>
  if e173 = (0 : Int32) then (
    some ((0 : Int32), s175)
  ) else (
    bnd2 (f_La_count a0 (2 : Int32) s175) fun x180 s179 =>
    if (if x180 = e172 then (0 : Int32) else if e172 < x180 then 1 else -1) = (0 : Int32) then (
      some ((1 : Int32), s179)
    ) else (
      some ((0 : Int32), s179)))
def f_La_pathsHold (a0 : Option Nat) (a1 : Option Nat) (a2 : Int32) (s : MS) : Option (Int32 × MS) :=
  bnd (rf s.2.2 0 a0) fun k1 =>
  bnd (rl s.2.2 0 a1) fun n3 =>
  bnd2 (f_La_count a0 (0 : Int32) s) fun x8 s7 =>
  lt_ (Int64.toInt32 x8) fun x9 =>
  bnd (rl s7.2.2 0 a1) fun n11 =>
  bnd2 (f_La_ofPath a0 x9 (0 : Int32) s7) fun x16 s15 =>
  if (if x16 = (-9000000000000000001 : Int64) then (0 : Int32) else if (-9000000000000000001 : Int64) < x16 then 1 else -1) = (0 : Int32) then (
    j_La_pathsHold_28 a0 a1 a2 x9 (0 : Int64) (1 : Int32) s15
  ) else (
    j_La_pathsHold_28 a0 a1 a2 x9 (0 : Int64) (0 : Int32) s15)
def j_La_refuses_445 (a0 : Option Nat) (a1 : Int32) (a2 : Int64) (s : MS) : Option (Int32 × MS) :=
  bnd (rf s.2.2 0 a0) fun k177 =>
  bnd2 (f_La_ofMachine a0 (0 : Int32) (6 : Int32) s) fun x182 s181 =>
  if (if x182 = (-9000000000000000002 : Int64) then (0 : Int32) else if (-9000000000000000002 : Int64) < x182 then 1 else -1) = (0 : Int32) then (
    bnd2 (f_La_count a0 (5 : Int32) s181) fun x187 s186 =>
    if (if x187 = (-9000000000000000002 : Int64) then (0 : Int32) else if (-9000000000000000002 : Int64) < x187 then 1 else -1) = (0 : Int32) then (
      bnd (f_Sk_time k177 s186) fun x190 =>
      if x190 = a1 then (
        bnd2 (f_La_count a0 (1 : Int32) s186) fun x196 s195 =>
        if (if x196 = a2 then (0 : Int32) else if a2 < x196 then 1 else -1) = (0 : Int32) then (
          some ((1 : Int32), s195)
        ) else (
          some ((0 : Int32), s195))
      ) else (
        some ((0 : Int32), s186))
    ) else (
      some ((0 : Int32), s186))
  ) else (
    some ((0 : Int32), s181))
def j_La_refuses_391 (a0 : Option Nat) (a1 : Int32) (a2 : Int64) (s : MS) : Option (Int32 × MS) :=
  bnd (rf s.2.2 0 a0) fun k155 =>
  bnd2 (f_La_hold a0 (0 : Int32) (0 : Int32) s) fun x160 s159 =>
  if (if x160 = (-9000000000000000002 : Int64) then (0 : Int32) else if (-9000000000000000002 : Int64) < x160 then 1 else -1) = (0 : Int32) then (
    bnd2 (f_La_home a0 (100 : Int32) s159) fun x165 s164 =>
    if (if x165 = (-9000000000000000001 : Int64) then (0 : Int32) else if (-9000000000000000001 : Int64) < x165 then 1 else -1) = (0 : Int32) then (
      bnd2 (f_La_placeAt a0 (40 : Int32) (0 : Int32) s164) fun x170 s169 =>
      if (if x170 = (-9000000000000000001 : Int64) then (0 : Int32) else if (-9000000000000000001 : Int64) < x170 then 1 else -1) = (0 : Int32) then (
        bnd2 (f_La_meets a0 (0 : Int32) (40 : Int32) s169) fun x175 s174 =>
        if (if x175 = (-9000000000000000001 : Int64) then (0 : Int32) else if (-9000000000000000001 : Int64) < x175 then 1 else -1) = (0 : Int32) then (
          j_La_refuses_445 a0 a1 a2 s174
        ) else (
          some ((0 : Int32), s174))
      ) else (
        some ((0 : Int32), s169))
    ) else (
      some ((0 : Int32), s164))
  ) else (
    some ((0 : Int32), s159))
def j_La_refuses_340 (a0 : Option Nat) (a1 : Int32) (a2 : Int64) (s : MS) : Option (Int32 × MS) :=
  bnd (rf s.2.2 0 a0) fun k133 =>
  bnd2 (f_La_tick a0 (0 : Int32) s) fun x138 s137 =>
  if (if x138 = (-9000000000000000002 : Int64) then (0 : Int32) else if (-9000000000000000002 : Int64) < x138 then 1 else -1) = (0 : Int32) then (
    bnd2 (f_La_tick a0 (51 : Int32) s137) fun x143 s142 =>
    if (if x143 = (-9000000000000000002 : Int64) then (0 : Int32) else if (-9000000000000000002 : Int64) < x143 then 1 else -1) = (0 : Int32) then (
      bnd2 (f_La_lose a0 (-1 : Int32) s142) fun x148 s147 =>
      if (if x148 = (-9000000000000000001 : Int64) then (0 : Int32) else if (-9000000000000000001 : Int64) < x148 then 1 else -1) = (0 : Int32) then (
        bnd2 (f_La_hold a0 (10 : Int32) (1 : Int32) s147) fun x153 s152 =>
        if (if x153 = (-9000000000000000001 : Int64) then (0 : Int32) else if (-9000000000000000001 : Int64) < x153 then 1 else -1) = (0 : Int32) then (
          j_La_refuses_391 a0 a1 a2 s152
        ) else (
          some ((0 : Int32), s152))
      ) else (
        some ((0 : Int32), s147))
    ) else (
      some ((0 : Int32), s142))
  ) else (
    some ((0 : Int32), s137))
def j_La_refuses_279 (a0 : Option Nat) (a1 : Int32) (a2 : Int64) (s : MS) : Option (Int32 × MS) :=
  bnd (rf s.2.2 0 a0) fun k111 =>
  bnd2 (f_La_file a0 (0 : Int32) a1 (0 : Int32) s) fun x116 s115 =>
  if (if x116 = (-9000000000000000002 : Int64) then (0 : Int32) else if (-9000000000000000002 : Int64) < x116 then 1 else -1) = (0 : Int32) then (
    bnd2 (f_La_file a0 (0 : Int32) (a1 + (201 : Int32)) (0 : Int32) s115) fun x121 s120 =>
    if (if x121 = (-9000000000000000002 : Int64) then (0 : Int32) else if (-9000000000000000002 : Int64) < x121 then 1 else -1) = (0 : Int32) then (
      bnd2 (f_La_file a0 (0 : Int32) (a1 + (1 : Int32)) (4 : Int32) s120) fun x126 s125 =>
      if (if x126 = (-9000000000000000002 : Int64) then (0 : Int32) else if (-9000000000000000002 : Int64) < x126 then 1 else -1) = (0 : Int32) then (
        bnd2 (f_La_withdraw a0 (40 : Int32) s125) fun x131 s130 =>
        if (if x131 = (-9000000000000000001 : Int64) then (0 : Int32) else if (-9000000000000000001 : Int64) < x131 then 1 else -1) = (0 : Int32) then (
          j_La_refuses_340 a0 a1 a2 s130
        ) else (
          some ((0 : Int32), s130))
      ) else (
        some ((0 : Int32), s125))
    ) else (
      some ((0 : Int32), s120))
  ) else (
    some ((0 : Int32), s115))
def j_La_refuses_257 (a0 : Option Nat) (a1 : Int32) (a2 : Int64) (t0 : Int32) (s : MS) : Option (Int32 × MS) :=
  if t0 = (0 : Int32) then (
    some ((0 : Int32), s)
  ) else (
    bnd (rf s.2.2 0 a0) fun k104 =>
    bnd2 (f_La_file a0 (10 : Int32) (0 : Int32) (0 : Int32) s) fun x109 s108 =>
    if (if x109 = (-9000000000000000001 : Int64) then (0 : Int32) else if (-9000000000000000001 : Int64) < x109 then 1 else -1) = (0 : Int32) then (
      j_La_refuses_279 a0 a1 a2 s108
    ) else (
      some ((0 : Int32), s108)))
def j_La_refuses_256 (a0 : Option Nat) (a1 : Int32) (a2 : Int64) (s : MS) : Option (Int32 × MS) :=
  j_La_refuses_257 a0 a1 a2 (0 : Int32) s
def j_La_refuses_211 (a0 : Option Nat) (a1 : Int32) (a2 : Int64) (s : MS) : Option (Int32 × MS) :=
  bnd (rf s.2.2 0 a0) fun k86 =>
  bnd2 (f_La_move a0 (7 : Int32) (1 : Int32) s) fun x91 s90 =>
  if (if x91 = (-9000000000000000002 : Int64) then (0 : Int32) else if (-9000000000000000002 : Int64) < x91 then 1 else -1) = (0 : Int32) then (
    bnd2 (f_La_move a0 (0 : Int32) (11 : Int32) s90) fun x96 s95 =>
    if (if x96 = (-9000000000000000002 : Int64) then (0 : Int32) else if (-9000000000000000002 : Int64) < x96 then 1 else -1) = (0 : Int32) then (
      bnd2 (f_La_takes a0 (10 : Int32) s95) fun x101 s100 =>
      if (if x101 = (-9000000000000000001 : Int64) then (0 : Int32) else if (-9000000000000000001 : Int64) < x101 then 1 else -1) = (0 : Int32) then (
        j_La_refuses_257 a0 a1 a2 (1 : Int32) s100
      ) else (
        j_La_refuses_256 a0 a1 a2 s100)
    ) else (
      j_La_refuses_256 a0 a1 a2 s95)
  ) else (
    j_La_refuses_256 a0 a1 a2 s90)
def j_La_refuses_152 (a0 : Option Nat) (a1 : Int32) (a2 : Int64) (s : MS) : Option (Int32 × MS) :=
  bnd (rf s.2.2 0 a0) fun k64 =>
  bnd2 (f_La_open a0 (10 : Int32) s) fun x69 s68 =>
  if (if x69 = (-9000000000000000001 : Int64) then (0 : Int32) else if (-9000000000000000001 : Int64) < x69 then 1 else -1) = (0 : Int32) then (
    bnd2 (f_La_machine a0 (0 : Int32) (-1 : Int32) (20 : Int32) s68) fun x74 s73 =>
    if (if x74 = (-9000000000000000001 : Int64) then (0 : Int32) else if (-9000000000000000001 : Int64) < x74 then 1 else -1) = (0 : Int32) then (
      bnd2 (f_La_machine a0 (4 : Int32) (0 : Int32) (20 : Int32) s73) fun x79 s78 =>
      if (if x79 = (-9000000000000000002 : Int64) then (0 : Int32) else if (-9000000000000000002 : Int64) < x79 then 1 else -1) = (0 : Int32) then (
        bnd2 (f_La_machine a0 (0 : Int32) (0 : Int32) (201 : Int32) s78) fun x84 s83 =>
        if (if x84 = (-9000000000000000002 : Int64) then (0 : Int32) else if (-9000000000000000002 : Int64) < x84 then 1 else -1) = (0 : Int32) then (
          j_La_refuses_211 a0 a1 a2 s83
        ) else (
          j_La_refuses_256 a0 a1 a2 s83)
      ) else (
        j_La_refuses_256 a0 a1 a2 s78)
    ) else (
      j_La_refuses_256 a0 a1 a2 s73)
  ) else (
    j_La_refuses_256 a0 a1 a2 s68)
def j_La_refuses_89 (a0 : Option Nat) (a1 : Int32) (a2 : Int64) (s : MS) : Option (Int32 × MS) :=
  bnd (rf s.2.2 0 a0) fun k42 =>
  bnd2 (f_La_gust a0 (1 : Int32) (6 : Int32) s) fun x47 s46 =>
  if (if x47 = (-9000000000000000002 : Int64) then (0 : Int32) else if (-9000000000000000002 : Int64) < x47 then 1 else -1) = (0 : Int32) then (
    bnd2 (f_La_close a0 (100 : Int32) (0 : Int32) (1 : Int32) (0 : Int32) (0 : Int32) s46) fun x52 s51 =>
    if (if x52 = (-9000000000000000001 : Int64) then (0 : Int32) else if (-9000000000000000001 : Int64) < x52 then 1 else -1) = (0 : Int32) then (
      bnd2 (f_La_close a0 (0 : Int32) (0 : Int32) (4 : Int32) (0 : Int32) (0 : Int32) s51) fun x57 s56 =>
      if (if x57 = (-9000000000000000002 : Int64) then (0 : Int32) else if (-9000000000000000002 : Int64) < x57 then 1 else -1) = (0 : Int32) then (
        bnd2 (f_La_close a0 (0 : Int32) (0 : Int32) (1 : Int32) (5 : Int32) (4 : Int32) s56) fun x62 s61 =>
        if (if x62 = (-9000000000000000002 : Int64) then (0 : Int32) else if (-9000000000000000002 : Int64) < x62 then 1 else -1) = (0 : Int32) then (
          j_La_refuses_152 a0 a1 a2 s61
        ) else (
          j_La_refuses_256 a0 a1 a2 s61)
      ) else (
        j_La_refuses_256 a0 a1 a2 s56)
    ) else (
      j_La_refuses_256 a0 a1 a2 s51)
  ) else (
    j_La_refuses_256 a0 a1 a2 s46)
def j_La_refuses_38 (a0 : Option Nat) (a1 : Int32) (a2 : Int64) (s : MS) : Option (Int32 × MS) :=
  bnd (rf s.2.2 0 a0) fun k20 =>
  bnd2 (f_La_spot a0 (-1 : Int32) s) fun x25 s24 =>
  if (if x25 = (-9000000000000000001 : Int64) then (0 : Int32) else if (-9000000000000000001 : Int64) < x25 then 1 else -1) = (0 : Int32) then (
    bnd2 (f_La_wind a0 (4 : Int32) (0 : Int32) s24) fun x30 s29 =>
    if (if x30 = (-9000000000000000002 : Int64) then (0 : Int32) else if (-9000000000000000002 : Int64) < x30 then 1 else -1) = (0 : Int32) then (
      bnd2 (f_La_wind a0 (1 : Int32) (4 : Int32) s29) fun x35 s34 =>
      if (if x35 = (-9000000000000000002 : Int64) then (0 : Int32) else if (-9000000000000000002 : Int64) < x35 then 1 else -1) = (0 : Int32) then (
        bnd2 (f_La_gust a0 (0 : Int32) (0 : Int32) s34) fun x40 s39 =>
        if (if x40 = (-9000000000000000002 : Int64) then (0 : Int32) else if (-9000000000000000002 : Int64) < x40 then 1 else -1) = (0 : Int32) then (
          j_La_refuses_89 a0 a1 a2 s39
        ) else (
          j_La_refuses_256 a0 a1 a2 s39)
      ) else (
        j_La_refuses_256 a0 a1 a2 s34)
    ) else (
      j_La_refuses_256 a0 a1 a2 s29)
  ) else (
    j_La_refuses_256 a0 a1 a2 s24)
def f_La_refuses (a0 : Option Nat) (s : MS) : Option (Int32 × MS) :=
  bnd (rf s.2.2 0 a0) fun k1 =>
  bnd (f_Sk_time k1 s) fun x4 =>
  bnd2 (f_La_count a0 (1 : Int32) s) fun x9 s8 =>
  bnd2 (f_La_tower a0 (100 : Int32) (0 : Int32) s8) fun x13 s12 =>
  if (if x13 = (-9000000000000000001 : Int64) then (0 : Int32) else if (-9000000000000000001 : Int64) < x13 then 1 else -1) = (0 : Int32) then (
    bnd2 (f_La_tower a0 (0 : Int32) (4 : Int32) s12) fun x18 s17 =>
    if (if x18 = (-9000000000000000002 : Int64) then (0 : Int32) else if (-9000000000000000002 : Int64) < x18 then 1 else -1) = (0 : Int32) then (
      j_La_refuses_38 a0 x4 x9 s17
    ) else (
      j_La_refuses_256 a0 x4 x9 s17)
  ) else (
    j_La_refuses_256 a0 x4 x9 s12)
def j_La_drafts_149 (t0 : Int32) (t1 : Int32) (t2 : Option Nat) (s : MS) : Option (MS) :=
  bnd2 (f_La_move t2 t1 t0 s) fun x30 s29 =>
  some s29
def j_La_drafts_130 (a0 : Option Nat) (a3 : Int32) (a4 : Int32) (s : MS) : Option (MS) :=
  if ((a3 / (64 : Int32)) - (a3 / (64 : Int32)) / (9 : Int32) * (9 : Int32)) = (0 : Int32) then (
    j_La_drafts_149 (1 : Int32) (6 : Int32) a0 s
  ) else (
    j_La_drafts_149 a4 (6 : Int32) a0 s)
def j_La_drafts_126 (a0 : Option Nat) (a3 : Int32) (a4 : Int32) (t0 : Int32) (t1 : Int32) (t2 : Option Nat) (s : MS) : Option (MS) :=
  bnd (rf s.2.2 0 a0) fun k33 =>
  bnd2 (f_La_move t2 t1 t0 s) fun x38 s37 =>
  j_La_drafts_130 a0 a3 a4 s37
def j_La_drafts_113 (a0 : Option Nat) (a3 : Int32) (a4 : Int32) (a6 : Int32) (t0 : Int32) (t1 : Option Nat) (s : MS) : Option (MS) :=
  if (0 : Int32) < a6 then (
    j_La_drafts_126 a0 a3 a4 a6 t0 t1 s
  ) else (
    j_La_drafts_126 a0 a3 a4 (-a6) t0 t1 s)
def j_La_drafts_97 (a0 : Option Nat) (a3 : Int32) (a4 : Int32) (a6 : Int32) (s : MS) : Option (MS) :=
  if a6 = (0 : Int32) then (
    j_La_drafts_130 a0 a3 a4 s
  ) else (
    if (0 : Int32) < a6 then (
      j_La_drafts_113 a0 a3 a4 a6 (3 : Int32) a0 s
    ) else (
      j_La_drafts_113 a0 a3 a4 a6 (4 : Int32) a0 s))
def j_La_drafts_75 (a0 : Option Nat) (a3 : Int32) (a4 : Int32) (a6 : Int32) (s : MS) : Option (MS) :=
  if ((a3 / (4 : Int32)) - (a3 / (4 : Int32)) / (3 : Int32) * (3 : Int32)) = (0 : Int32) then (
    bnd (rf s.2.2 0 a0) fun k19 =>
    bnd2 (f_La_move a0 (0 : Int32) ((1 : Int32) + ((a3 / (16 : Int32)) - (a3 / (16 : Int32)) / (4 : Int32) * (4 : Int32))) s) fun x24 s23 =>
    j_La_drafts_97 a0 a3 a4 a6 s23
  ) else (
    j_La_drafts_97 a0 a3 a4 a6 s)
def j_La_drafts_71 (a0 : Option Nat) (a3 : Int32) (a4 : Int32) (a6 : Int32) (t0 : Int32) (t1 : Int32) (t2 : Option Nat) (s : MS) : Option (MS) :=
  bnd (rf s.2.2 0 a0) fun k41 =>
  bnd2 (f_La_move t2 t1 t0 s) fun x46 s45 =>
  j_La_drafts_75 a0 a3 a4 a6 s45
def j_La_drafts_58 (a0 : Option Nat) (a3 : Int32) (a4 : Int32) (a5 : Int32) (a6 : Int32) (t0 : Int32) (t1 : Option Nat) (s : MS) : Option (MS) :=
  if (0 : Int32) < a5 then (
    j_La_drafts_71 a0 a3 a4 a6 a5 t0 t1 s
  ) else (
    j_La_drafts_71 a0 a3 a4 a6 (-a5) t0 t1 s)
def f_La_drafts (a0 : Option Nat) (a1 : Int32) (a2 : Int32) (a3 : Int32) (s : MS) : Option (MS) :=
  lt_ ((1 : Int32) + (a3 - a3 / (3 : Int32) * (3 : Int32))) fun x1 =>
  lt_ ((a2 - a2 / (10 : Int32) * (10 : Int32)) - (a1 - a1 / (10 : Int32) * (10 : Int32))) fun x3 =>
  lt_ ((a2 / (10 : Int32)) - (a1 / (10 : Int32))) fun x5 =>
  bnd (rf s.2.2 0 a0) fun k7 =>
  bnd2 (f_Sk_clear k7 s) fun x12 s11 =>
  bnd2 (f_La_move a0 (5 : Int32) x1 s11) fun x16 s15 =>
  if x3 = (0 : Int32) then (
    j_La_drafts_75 a0 a3 x1 x5 s15
  ) else (
    if (0 : Int32) < x3 then (
      j_La_drafts_58 a0 a3 x1 x3 x5 (1 : Int32) a0 s15
    ) else (
      j_La_drafts_58 a0 a3 x1 x3 x5 (2 : Int32) a0 s15))
def b_La_law_51 (L : Nat) (xs : Nat → Int32) (a1 : Option Nat) (a2 : Option Nat) (a3 : Option Nat) (a4 : Int32) (a5 : Int32) (a6 : Int32) (a7 : Int32) (a8 : Int32) (s : MS) (rec : Int32 → Int32 → MS → Option (Int32 × MS)) : Option (Int32 × MS) :=
  if a8 < (4 : Int32) then (
    if a7 = (0 : Int32) then (
      some (a7, s)
    ) else (
      bnd (f_La_draw L xs a8) fun x54 =>
      bnd (f_La_draw L xs a8) fun x56 =>
      bnd (rf s.2.2 0 a1) fun k58 =>
      bnd (rl s.2.2 0 a2) fun n60 =>
      bnd (rl s.2.2 0 a3) fun n62 =>
      bnd2 (f_La_tower a1 (((((37 : Int32) * a8) + (11 : Int32)) + ((x54 - x54 / (7 : Int32) * (7 : Int32)) * (5 : Int32))) - ((((37 : Int32) * a8) + (11 : Int32)) + ((x54 - x54 / (7 : Int32) * (7 : Int32)) * (5 : Int32))) / (100 : Int32) * (100 : Int32)) ((1 : Int32) + ((x56 / (8 : Int32)) - (x56 / (8 : Int32)) / (3 : Int32) * (3 : Int32))) s) fun x67 s66 =>
      if (0 : Int32) < (if x67 = (3 : Int64) then (0 : Int32) else if (3 : Int64) < x67 then 1 else -1) then (
        lt_ (a8 + (1 : Int32)) fun x69 =>
        rec (0 : Int32) x69 s66
      ) else (
        lt_ (a8 + (1 : Int32)) fun x71 =>
        rec (1 : Int32) x71 s66))
  ) else (
    some (a7, s))
def l_La_law_51 (L : Nat) (xs : Nat → Int32) (a1 : Option Nat) (a2 : Option Nat) (a3 : Option Nat) (a4 : Int32) (a5 : Int32) (a6 : Int32) : Nat → Int32 → Int32 → MS → Option (Int32 × MS)
  | 0, _, _, _ => none
  | n + 1, a7, a8, s => b_La_law_51 L xs a1 a2 a3 a4 a5 a6 a7 a8 s (l_La_law_51 L xs a1 a2 a3 a4 a5 a6 n)
def b_La_law_125 (L : Nat) (xs : Nat → Int32) (a1 : Option Nat) (a2 : Option Nat) (a3 : Option Nat) (a4 : Int32) (a5 : Int32) (a6 : Int32) (a7 : Int32) (a8 : Int32) (s : MS) (rec : Int32 → Int32 → MS → Option (Int32 × MS)) : Option (Int32 × MS) :=
  if a8 < (4 : Int32) then (
    if a7 = (0 : Int32) then (
      some (a7, s)
    ) else (
      bnd (ra s.2.2 0 a2 a8) fun k78 =>
      bnd (rf s.2.2 0 a1) fun k80 =>
      bnd (rl s.2.2 0 a2) fun n82 =>
      bnd (rl s.2.2 0 a3) fun n84 =>
      bnd2 (f_La_tower a1 (s.1 k78 a8.toNatClampNeg) (0 : Int32) s) fun x89 s88 =>
      bnd (ra s88.2.2 0 a2 a8) fun k90 =>
      bnd (rl s88.2.2 0 a2) fun n92 =>
      bnd (rl s88.2.2 0 a3) fun n94 =>
      bnd2 (f_La_spot a1 (s88.1 k90 a8.toNatClampNeg) s88) fun x99 s98 =>
      if (if x99 = (Int32.toInt64 (a8 + (1 : Int32))) then (0 : Int32) else if (Int32.toInt64 (a8 + (1 : Int32))) < x99 then 1 else -1) = (0 : Int32) then (
        bnd (ra s98.2.2 0 a2 a8) fun k101 =>
        bnd (rl s98.2.2 0 a2) fun n103 =>
        bnd (rl s98.2.2 0 a3) fun n105 =>
        bnd2 (f_La_tower a1 (s98.1 k101 a8.toNatClampNeg) (1 : Int32) s98) fun x110 s109 =>
        if (if x110 = (-9000000000000000003 : Int64) then (0 : Int32) else if (-9000000000000000003 : Int64) < x110 then 1 else -1) = (0 : Int32) then (
          lt_ (a8 + (1 : Int32)) fun x112 =>
          rec (1 : Int32) x112 s109
        ) else (
          lt_ (a8 + (1 : Int32)) fun x114 =>
          rec (0 : Int32) x114 s109)
      ) else (
        lt_ (a8 + (1 : Int32)) fun x116 =>
        rec (0 : Int32) x116 s98))
  ) else (
    some (a7, s))
def l_La_law_125 (L : Nat) (xs : Nat → Int32) (a1 : Option Nat) (a2 : Option Nat) (a3 : Option Nat) (a4 : Int32) (a5 : Int32) (a6 : Int32) : Nat → Int32 → Int32 → MS → Option (Int32 × MS)
  | 0, _, _, _ => none
  | n + 1, a7, a8, s => b_La_law_125 L xs a1 a2 a3 a4 a5 a6 a7 a8 s (l_La_law_125 L xs a1 a2 a3 a4 a5 a6 n)
def j_La_law_1086 (L : Nat) (xs : Nat → Int32) (a1 : Option Nat) (a2 : Option Nat) (a3 : Option Nat) (a4 : Int32) (a5 : Int32) (a6 : Int32) (a7 : Int32) (a8 : Int32) (s : MS) (rec : Int32 → Int32 → Int32 → Int32 → Int32 → MS → Option (Int32 × MS)) : Option (Int32 × MS) :=
  if (a8 - a8 / (20 : Int32) * (20 : Int32)) = (19 : Int32) then (
    if a7 = (0 : Int32) then (
      lt_ (a8 + (1 : Int32)) fun x158 =>
      rec a4 a5 a6 (0 : Int32) x158 s
    ) else (
      bnd (rf s.2.2 0 a1) fun k160 =>
      bnd (rl s.2.2 0 a2) fun n162 =>
      bnd (rl s.2.2 0 a3) fun n164 =>
      bnd2 (f_La_refuses a1 s) fun x169 s168 =>
      if x169 = (0 : Int32) then (
        lt_ (a8 + (1 : Int32)) fun x171 =>
        rec a4 a5 a6 (0 : Int32) x171 s168
      ) else (
        lt_ (a8 + (1 : Int32)) fun x173 =>
        rec a4 a5 a6 (1 : Int32) x173 s168))
  ) else (
    lt_ (a8 + (1 : Int32)) fun x175 =>
    rec a4 a5 a6 a7 x175 s)
def j_La_law_1084 (L : Nat) (xs : Nat → Int32) (a1 : Option Nat) (a2 : Option Nat) (a3 : Option Nat) (a4 : Int32) (a5 : Int32) (a6 : Int32) (a8 : Int32) (t0 : Int32) (s : MS) (rec : Int32 → Int32 → Int32 → Int32 → Int32 → MS → Option (Int32 × MS)) : Option (Int32 × MS) :=
  j_La_law_1086 L xs a1 a2 a3 a4 a5 a6 t0 a8 s rec
def j_La_law_1083 (L : Nat) (xs : Nat → Int32) (a1 : Option Nat) (a2 : Option Nat) (a3 : Option Nat) (a4 : Int32) (a5 : Int32) (a6 : Int32) (a8 : Int32) (s : MS) (rec : Int32 → Int32 → Int32 → Int32 → Int32 → MS → Option (Int32 × MS)) : Option (Int32 × MS) :=
  j_La_law_1084 L xs a1 a2 a3 a4 a5 a6 a8 (0 : Int32) s rec
def j_La_law_1052 (L : Nat) (xs : Nat → Int32) (a1 : Option Nat) (a2 : Option Nat) (a3 : Option Nat) (a4 : Int32) (a5 : Int32) (a6 : Int32) (a8 : Int32) (t0 : Int32) (s : MS) (rec : Int32 → Int32 → Int32 → Int32 → Int32 → MS → Option (Int32 × MS)) : Option (Int32 × MS) :=
  if (a8 - a8 / (8 : Int32) * (8 : Int32)) = (7 : Int32) then (
    if t0 = (0 : Int32) then (
      j_La_law_1083 L xs a1 a2 a3 a4 a5 a6 a8 s rec
    ) else (
      bnd (rf s.2.2 0 a1) fun k177 =>
      bnd (rl s.2.2 0 a2) fun n179 =>
      bnd (rl s.2.2 0 a3) fun n181 =>
      bnd2 (f_La_pathsHold a1 a2 a6 s) fun x186 s185 =>
      if x186 = (0 : Int32) then (
        j_La_law_1083 L xs a1 a2 a3 a4 a5 a6 a8 s185 rec
      ) else (
        j_La_law_1084 L xs a1 a2 a3 a4 a5 a6 a8 (1 : Int32) s185 rec))
  ) else (
    j_La_law_1086 L xs a1 a2 a3 a4 a5 a6 t0 a8 s rec)
def j_La_law_1051 (L : Nat) (xs : Nat → Int32) (a1 : Option Nat) (a2 : Option Nat) (a3 : Option Nat) (a4 : Int32) (a5 : Int32) (a6 : Int32) (a8 : Int32) (s : MS) (rec : Int32 → Int32 → Int32 → Int32 → Int32 → MS → Option (Int32 × MS)) : Option (Int32 × MS) :=
  j_La_law_1052 L xs a1 a2 a3 a4 a5 a6 a8 (0 : Int32) s rec
def j_La_law_1031 (L : Nat) (xs : Nat → Int32) (a1 : Option Nat) (a2 : Option Nat) (a3 : Option Nat) (a4 : Int32) (a5 : Int32) (a6 : Int32) (a7 : Int32) (a8 : Int32) (s : MS) (rec : Int32 → Int32 → Int32 → Int32 → Int32 → MS → Option (Int32 × MS)) : Option (Int32 × MS) :=
  if a7 = (0 : Int32) then (
    j_La_law_1051 L xs a1 a2 a3 a4 a5 a6 a8 s rec
  ) else (
    bnd (rf s.2.2 0 a1) fun k188 =>
    bnd (rl s.2.2 0 a2) fun n190 =>
    bnd (rl s.2.2 0 a3) fun n192 =>
    bnd2 (f_La_machinesHold a1 a4 a2 a3 s) fun x197 s196 =>
    if x197 = (0 : Int32) then (
      j_La_law_1051 L xs a1 a2 a3 a4 a5 a6 a8 s196 rec
    ) else (
      j_La_law_1052 L xs a1 a2 a3 a4 a5 a6 a8 (1 : Int32) s196 rec))
def j_La_law_328 (L : Nat) (xs : Nat → Int32) (a1 : Option Nat) (a2 : Option Nat) (a3 : Option Nat) (a4 : Int32) (a5 : Int32) (a6 : Int32) (a7 : Int32) (a8 : Int32) (s : MS) (rec : Int32 → Int32 → Int32 → Int32 → Int32 → MS → Option (Int32 × MS)) : Option (Int32 × MS) :=
  j_La_law_1031 L xs a1 a2 a3 a4 a5 a6 a7 a8 s rec
def j_La_law_310 (L : Nat) (xs : Nat → Int32) (a1 : Option Nat) (a2 : Option Nat) (a3 : Option Nat) (a4 : Int32) (a5 : Int32) (a6 : Int32) (a8 : Int32) (a12 : Int32) (t0 : Int32) (s : MS) (rec : Int32 → Int32 → Int32 → Int32 → Int32 → MS → Option (Int32 × MS)) : Option (Int32 × MS) :=
  if a4 < (10 : Int32) then (
    bnd (ra s.2.2 0 a3 a4) fun k146 =>
    lt_ (wi s k146 a4.toNatClampNeg a12) fun s148 =>
    lt_ (a4 + (1 : Int32)) fun x151 =>
    j_La_law_328 L xs a1 a2 a3 x151 a5 a6 t0 a8 s148 rec
  ) else (
    j_La_law_328 L xs a1 a2 a3 a4 a5 a6 t0 a8 s rec)
def j_La_law_301 (L : Nat) (xs : Nat → Int32) (a1 : Option Nat) (a2 : Option Nat) (a3 : Option Nat) (a4 : Int32) (a5 : Int32) (a6 : Int32) (a8 : Int32) (a12 : Int32) (t0 : Int64) (t1 : Int64) (s : MS) (rec : Int32 → Int32 → Int32 → Int32 → Int32 → MS → Option (Int32 × MS)) : Option (Int32 × MS) :=
  if (if t1 = t0 then (0 : Int32) else if t0 < t1 then 1 else -1) = (0 : Int32) then (
    j_La_law_310 L xs a1 a2 a3 a4 a5 a6 a8 a12 (1 : Int32) s rec
  ) else (
    j_La_law_310 L xs a1 a2 a3 a4 a5 a6 a8 a12 (0 : Int32) s rec)
def j_La_law_519 (L : Nat) (xs : Nat → Int32) (a1 : Option Nat) (a2 : Option Nat) (a3 : Option Nat) (a4 : Int32) (a5 : Int32) (a6 : Int32) (a8 : Int32) (t0 : Int32) (s : MS) (rec : Int32 → Int32 → Int32 → Int32 → Int32 → MS → Option (Int32 × MS)) : Option (Int32 × MS) :=
  j_La_law_1031 L xs a1 a2 a3 a4 a5 a6 t0 a8 s rec
def j_La_law_518 (L : Nat) (xs : Nat → Int32) (a1 : Option Nat) (a2 : Option Nat) (a3 : Option Nat) (a4 : Int32) (a5 : Int32) (a6 : Int32) (a8 : Int32) (s : MS) (rec : Int32 → Int32 → Int32 → Int32 → Int32 → MS → Option (Int32 × MS)) : Option (Int32 × MS) :=
  j_La_law_519 L xs a1 a2 a3 a4 a5 a6 a8 (0 : Int32) s rec
def j_La_law_480 (L : Nat) (xs : Nat → Int32) (a1 : Option Nat) (a2 : Option Nat) (a3 : Option Nat) (a4 : Int32) (a5 : Int32) (a6 : Int32) (a8 : Int32) (s : MS) (rec : Int32 → Int32 → Int32 → Int32 → Int32 → MS → Option (Int32 × MS)) : Option (Int32 × MS) :=
  j_La_law_519 L xs a1 a2 a3 a4 a5 a6 a8 (0 : Int32) s rec
def j_La_law_567 (L : Nat) (xs : Nat → Int32) (a1 : Option Nat) (a2 : Option Nat) (a3 : Option Nat) (a4 : Int32) (a5 : Int32) (a6 : Int32) (a8 : Int32) (t0 : Int32) (s : MS) (rec : Int32 → Int32 → Int32 → Int32 → Int32 → MS → Option (Int32 × MS)) : Option (Int32 × MS) :=
  j_La_law_1031 L xs a1 a2 a3 a4 a5 a6 t0 a8 s rec
def j_La_law_631 (L : Nat) (xs : Nat → Int32) (a1 : Option Nat) (a2 : Option Nat) (a3 : Option Nat) (a4 : Int32) (a5 : Int32) (a6 : Int32) (a8 : Int32) (t0 : Int32) (s : MS) (rec : Int32 → Int32 → Int32 → Int32 → Int32 → MS → Option (Int32 × MS)) : Option (Int32 × MS) :=
  j_La_law_1031 L xs a1 a2 a3 a4 a5 a6 t0 a8 s rec
def j_La_law_630 (L : Nat) (xs : Nat → Int32) (a1 : Option Nat) (a2 : Option Nat) (a3 : Option Nat) (a4 : Int32) (a5 : Int32) (a6 : Int32) (a8 : Int32) (s : MS) (rec : Int32 → Int32 → Int32 → Int32 → Int32 → MS → Option (Int32 × MS)) : Option (Int32 × MS) :=
  j_La_law_631 L xs a1 a2 a3 a4 a5 a6 a8 (0 : Int32) s rec
def j_La_law_773 (L : Nat) (xs : Nat → Int32) (a1 : Option Nat) (a2 : Option Nat) (a3 : Option Nat) (a4 : Int32) (a5 : Int32) (a6 : Int32) (a8 : Int32) (t0 : Int32) (s : MS) (rec : Int32 → Int32 → Int32 → Int32 → Int32 → MS → Option (Int32 × MS)) : Option (Int32 × MS) :=
  j_La_law_1031 L xs a1 a2 a3 a4 a5 a6 t0 a8 s rec
def j_La_law_772 (L : Nat) (xs : Nat → Int32) (a1 : Option Nat) (a2 : Option Nat) (a3 : Option Nat) (a4 : Int32) (a5 : Int32) (a6 : Int32) (a8 : Int32) (s : MS) (rec : Int32 → Int32 → Int32 → Int32 → Int32 → MS → Option (Int32 × MS)) : Option (Int32 × MS) :=
  j_La_law_773 L xs a1 a2 a3 a4 a5 a6 a8 (0 : Int32) s rec
def j_La_law_740 (L : Nat) (xs : Nat → Int32) (a1 : Option Nat) (a2 : Option Nat) (a3 : Option Nat) (a4 : Int32) (a6 : Int32) (a7 : Int32) (a8 : Int32) (a9 : Int32) (t0 : Int32) (t1 : Int32) (s : MS) (rec : Int32 → Int32 → Int32 → Int32 → Int32 → MS → Option (Int32 × MS)) : Option (Int32 × MS) :=
  lt_ (t1 + t0) fun x339 =>
  if a7 = (0 : Int32) then (
    j_La_law_772 L xs a1 a2 a3 a4 x339 a6 a8 s rec
  ) else (
    gd (¬ x339 = (0 : Int32)) (
    bnd (rf s.2.2 0 a1) fun k343 =>
    bnd (rl s.2.2 0 a2) fun n345 =>
    bnd (rl s.2.2 0 a3) fun n347 =>
    bnd2 (f_La_open a1 ((a9 / (2048 : Int32)) - (a9 / (2048 : Int32)) / x339 * x339) s) fun x352 s351 =>
    if (if x352 = (-9000000000000000003 : Int64) then (0 : Int32) else if (-9000000000000000003 : Int64) < x352 then 1 else -1) < (0 : Int32) then (
      j_La_law_772 L xs a1 a2 a3 a4 x339 a6 a8 s351 rec
    ) else (
      j_La_law_773 L xs a1 a2 a3 a4 x339 a6 a8 (1 : Int32) s351 rec)))
def j_La_law_724 (L : Nat) (xs : Nat → Int32) (a1 : Option Nat) (a2 : Option Nat) (a3 : Option Nat) (a4 : Int32) (a5 : Int32) (a6 : Int32) (a8 : Int32) (a9 : Int32) (t0 : Int32) (s : MS) (rec : Int32 → Int32 → Int32 → Int32 → Int32 → MS → Option (Int32 × MS)) : Option (Int32 × MS) :=
  if a5 = (10 : Int32) then (
    j_La_law_740 L xs a1 a2 a3 a4 a6 t0 a8 a9 (0 : Int32) a5 s rec
  ) else (
    j_La_law_740 L xs a1 a2 a3 a4 a6 t0 a8 a9 (1 : Int32) a5 s rec)
def j_La_law_715 (L : Nat) (xs : Nat → Int32) (a1 : Option Nat) (a2 : Option Nat) (a3 : Option Nat) (a4 : Int32) (a5 : Int32) (a6 : Int32) (a8 : Int32) (a9 : Int32) (t0 : Int64) (t1 : Int64) (s : MS) (rec : Int32 → Int32 → Int32 → Int32 → Int32 → MS → Option (Int32 × MS)) : Option (Int32 × MS) :=
  if (if t1 = t0 then (0 : Int32) else if t0 < t1 then 1 else -1) = (0 : Int32) then (
    j_La_law_724 L xs a1 a2 a3 a4 a5 a6 a8 a9 (1 : Int32) s rec
  ) else (
    j_La_law_724 L xs a1 a2 a3 a4 a5 a6 a8 a9 (0 : Int32) s rec)
def j_La_law_898 (L : Nat) (xs : Nat → Int32) (a1 : Option Nat) (a2 : Option Nat) (a3 : Option Nat) (a4 : Int32) (a5 : Int32) (a6 : Int32) (a8 : Int32) (t0 : Int32) (s : MS) (rec : Int32 → Int32 → Int32 → Int32 → Int32 → MS → Option (Int32 × MS)) : Option (Int32 × MS) :=
  j_La_law_1031 L xs a1 a2 a3 a4 a5 a6 t0 a8 s rec
def j_La_law_893 (L : Nat) (xs : Nat → Int32) (a1 : Option Nat) (a2 : Option Nat) (a3 : Option Nat) (a4 : Int32) (a5 : Int32) (a6 : Int32) (a8 : Int32) (s : MS) (rec : Int32 → Int32 → Int32 → Int32 → Int32 → MS → Option (Int32 × MS)) : Option (Int32 × MS) :=
  j_La_law_898 L xs a1 a2 a3 a4 a5 a6 a8 (1 : Int32) s rec
def j_La_law_897 (L : Nat) (xs : Nat → Int32) (a1 : Option Nat) (a2 : Option Nat) (a3 : Option Nat) (a4 : Int32) (a5 : Int32) (a6 : Int32) (a8 : Int32) (s : MS) (rec : Int32 → Int32 → Int32 → Int32 → Int32 → MS → Option (Int32 × MS)) : Option (Int32 × MS) :=
  j_La_law_898 L xs a1 a2 a3 a4 a5 a6 a8 (0 : Int32) s rec
def j_La_law_858 (L : Nat) (xs : Nat → Int32) (a1 : Option Nat) (a2 : Option Nat) (a3 : Option Nat) (a4 : Int32) (a5 : Int32) (a8 : Int32) (a12 : Int32) (a13 : Int32) (a14 : Int64) (t0 : Int32) (s : MS) (rec : Int32 → Int32 → Int32 → Int32 → Int32 → MS → Option (Int32 × MS)) : Option (Int32 × MS) :=
  if (if a14 = (-9000000000000000003 : Int64) then (0 : Int32) else if (-9000000000000000003 : Int64) < a14 then 1 else -1) = (0 : Int32) then (
    j_La_law_893 L xs a1 a2 a3 a4 a5 t0 a8 s rec
  ) else (
    if a13 = (0 : Int32) then (
      j_La_law_897 L xs a1 a2 a3 a4 a5 t0 a8 s rec
    ) else (
      bnd (rf s.2.2 0 a1) fun k392 =>
      bnd (rl s.2.2 0 a2) fun n394 =>
      bnd (rl s.2.2 0 a3) fun n396 =>
      bnd2 (f_La_ofMachine a1 a12 (5 : Int32) s) fun x401 s400 =>
      bnd (rl s400.2.2 0 a2) fun n402 =>
      bnd (rl s400.2.2 0 a3) fun n404 =>
      bnd2 (f_La_ofPath a1 (Int64.toInt32 x401) (3 : Int32) s400) fun x409 s408 =>
      if (if x409 = a14 then (0 : Int32) else if a14 < x409 then 1 else -1) = (0 : Int32) then (
        j_La_law_893 L xs a1 a2 a3 a4 a5 t0 a8 s408 rec
      ) else (
        j_La_law_897 L xs a1 a2 a3 a4 a5 t0 a8 s408 rec)))
def j_La_law_853 (L : Nat) (xs : Nat → Int32) (a1 : Option Nat) (a2 : Option Nat) (a3 : Option Nat) (a4 : Int32) (a5 : Int32) (a8 : Int32) (a12 : Int32) (a13 : Int32) (a14 : Int64) (s : MS) (rec : Int32 → Int32 → Int32 → Int32 → Int32 → MS → Option (Int32 × MS)) : Option (Int32 × MS) :=
  j_La_law_858 L xs a1 a2 a3 a4 a5 a8 a12 a13 a14 (1 : Int32) s rec
def j_La_law_821 (L : Nat) (xs : Nat → Int32) (a1 : Option Nat) (a2 : Option Nat) (a3 : Option Nat) (a4 : Int32) (a5 : Int32) (a6 : Int32) (a8 : Int32) (a10 : Int32) (a12 : Int32) (t0 : Int32) (s : MS) (rec : Int32 → Int32 → Int32 → Int32 → Int32 → MS → Option (Int32 × MS)) : Option (Int32 × MS) :=
  bnd (rf s.2.2 0 a1) fun k378 =>
  bnd (rl s.2.2 0 a2) fun n380 =>
  bnd (rl s.2.2 0 a3) fun n382 =>
  bnd2 (f_La_hold a1 a12 ((1 : Int32) + ((a10 / (16 : Int32)) - (a10 / (16 : Int32)) / (10 : Int32) * (10 : Int32))) s) fun x387 s386 =>
  if a6 = (0 : Int32) then (
    if (if x387 = (0 : Int64) then (0 : Int32) else if (0 : Int64) < x387 then 1 else -1) < (0 : Int32) then (
      j_La_law_858 L xs a1 a2 a3 a4 a5 a8 a12 t0 x387 (0 : Int32) s386 rec
    ) else (
      j_La_law_853 L xs a1 a2 a3 a4 a5 a8 a12 t0 x387 s386 rec)
  ) else (
    j_La_law_853 L xs a1 a2 a3 a4 a5 a8 a12 t0 x387 s386 rec)
def j_La_law_820 (L : Nat) (xs : Nat → Int32) (a1 : Option Nat) (a2 : Option Nat) (a3 : Option Nat) (a4 : Int32) (a5 : Int32) (a6 : Int32) (a8 : Int32) (a10 : Int32) (a12 : Int32) (s : MS) (rec : Int32 → Int32 → Int32 → Int32 → Int32 → MS → Option (Int32 × MS)) : Option (Int32 × MS) :=
  j_La_law_821 L xs a1 a2 a3 a4 a5 a6 a8 a10 a12 (0 : Int32) s rec
def j_La_law_1029 (L : Nat) (xs : Nat → Int32) (a1 : Option Nat) (a2 : Option Nat) (a3 : Option Nat) (a4 : Int32) (a5 : Int32) (a6 : Int32) (a8 : Int32) (t0 : Int32) (s : MS) (rec : Int32 → Int32 → Int32 → Int32 → Int32 → MS → Option (Int32 × MS)) : Option (Int32 × MS) :=
  j_La_law_1031 L xs a1 a2 a3 a4 a5 a6 t0 a8 s rec
def j_La_law_1028 (L : Nat) (xs : Nat → Int32) (a1 : Option Nat) (a2 : Option Nat) (a3 : Option Nat) (a4 : Int32) (a5 : Int32) (a6 : Int32) (a8 : Int32) (s : MS) (rec : Int32 → Int32 → Int32 → Int32 → Int32 → MS → Option (Int32 × MS)) : Option (Int32 × MS) :=
  j_La_law_1029 L xs a1 a2 a3 a4 a5 a6 a8 (0 : Int32) s rec
def j_La_law_1007 (L : Nat) (xs : Nat → Int32) (a1 : Option Nat) (a2 : Option Nat) (a3 : Option Nat) (a4 : Int32) (a5 : Int32) (a6 : Int32) (a8 : Int32) (t0 : Int32) (s : MS) (rec : Int32 → Int32 → Int32 → Int32 → Int32 → MS → Option (Int32 × MS)) : Option (Int32 × MS) :=
  if t0 = (0 : Int32) then (
    j_La_law_1028 L xs a1 a2 a3 a4 a5 a6 a8 s rec
  ) else (
    bnd (rf s.2.2 0 a1) fun k447 =>
    bnd (f_Sk_alerts k447 s) fun x450 =>
    if (x450 >>> (a4 &&& (31 : Int32))) = (0 : Int32) then (
      j_La_law_1029 L xs a1 a2 a3 a4 a5 a6 a8 (1 : Int32) s rec
    ) else (
      j_La_law_1028 L xs a1 a2 a3 a4 a5 a6 a8 s rec))
def j_La_law_1002 (L : Nat) (xs : Nat → Int32) (a1 : Option Nat) (a2 : Option Nat) (a3 : Option Nat) (a4 : Int32) (a5 : Int32) (a6 : Int32) (a8 : Int32) (s : MS) (rec : Int32 → Int32 → Int32 → Int32 → Int32 → MS → Option (Int32 × MS)) : Option (Int32 × MS) :=
  j_La_law_1007 L xs a1 a2 a3 a4 a5 a6 a8 (1 : Int32) s rec
def j_La_law_1006 (L : Nat) (xs : Nat → Int32) (a1 : Option Nat) (a2 : Option Nat) (a3 : Option Nat) (a4 : Int32) (a5 : Int32) (a6 : Int32) (a8 : Int32) (s : MS) (rec : Int32 → Int32 → Int32 → Int32 → Int32 → MS → Option (Int32 × MS)) : Option (Int32 × MS) :=
  j_La_law_1007 L xs a1 a2 a3 a4 a5 a6 a8 (0 : Int32) s rec
def j_La_law_963 (L : Nat) (xs : Nat → Int32) (a1 : Option Nat) (a2 : Option Nat) (a3 : Option Nat) (a4 : Int32) (a5 : Int32) (a6 : Int32) (a8 : Int32) (a12 : Int32) (a13 : Int32) (t0 : Int64) (s : MS) (rec : Int32 → Int32 → Int32 → Int32 → Int32 → MS → Option (Int32 × MS)) : Option (Int32 × MS) :=
  if (if t0 = (-9000000000000000003 : Int64) then (0 : Int32) else if (-9000000000000000003 : Int64) < t0 then 1 else -1) = (0 : Int32) then (
    j_La_law_1002 L xs a1 a2 a3 a4 a5 a6 a8 s rec
  ) else (
    if a13 = (0 : Int32) then (
      j_La_law_1006 L xs a1 a2 a3 a4 a5 a6 a8 s rec
    ) else (
      bnd (f_La_isSpot a2 t0 s) fun x455 =>
      if x455 = (0 : Int32) then (
        j_La_law_1006 L xs a1 a2 a3 a4 a5 a6 a8 s rec
      ) else (
        bnd (rf s.2.2 0 a1) fun k458 =>
        bnd (rl s.2.2 0 a2) fun n460 =>
        bnd (rl s.2.2 0 a3) fun n462 =>
        bnd2 (f_La_ofMachine a1 a12 (0 : Int32) s) fun x467 s466 =>
        if (if x467 = (2 : Int64) then (0 : Int32) else if (2 : Int64) < x467 then 1 else -1) = (0 : Int32) then (
          j_La_law_1002 L xs a1 a2 a3 a4 a5 a6 a8 s466 rec
        ) else (
          j_La_law_1006 L xs a1 a2 a3 a4 a5 a6 a8 s466 rec))))
def j_La_law_939 (L : Nat) (xs : Nat → Int32) (a1 : Option Nat) (a2 : Option Nat) (a3 : Option Nat) (a4 : Int32) (a5 : Int32) (a6 : Int32) (a8 : Int32) (a10 : Int32) (a12 : Int32) (t0 : Int32) (s : MS) (rec : Int32 → Int32 → Int32 → Int32 → Int32 → MS → Option (Int32 × MS)) : Option (Int32 × MS) :=
  if ((a10 / (16 : Int32)) - (a10 / (16 : Int32)) / (3 : Int32) * (3 : Int32)) = (0 : Int32) then (
    bnd (rf s.2.2 0 a1) fun k435 =>
    bnd (rl s.2.2 0 a2) fun n437 =>
    bnd (rl s.2.2 0 a3) fun n439 =>
    bnd2 (f_La_lose a1 a12 s) fun x444 s443 =>
    j_La_law_963 L xs a1 a2 a3 a4 a5 a6 a8 a12 t0 x444 s443 rec
  ) else (
    j_La_law_963 L xs a1 a2 a3 a4 a5 a6 a8 a12 t0 (-9000000000000000003 : Int64) s rec)
def j_La_law_938 (L : Nat) (xs : Nat → Int32) (a1 : Option Nat) (a2 : Option Nat) (a3 : Option Nat) (a4 : Int32) (a5 : Int32) (a6 : Int32) (a8 : Int32) (a10 : Int32) (a12 : Int32) (s : MS) (rec : Int32 → Int32 → Int32 → Int32 → Int32 → MS → Option (Int32 × MS)) : Option (Int32 × MS) :=
  j_La_law_939 L xs a1 a2 a3 a4 a5 a6 a8 a10 a12 (0 : Int32) s rec
def j_La_law_246 (L : Nat) (xs : Nat → Int32) (a1 : Option Nat) (a2 : Option Nat) (a3 : Option Nat) (a4 : Int32) (a5 : Int32) (a6 : Int32) (a8 : Int32) (a9 : Int32) (a10 : Int32) (t0 : Int32) (s : MS) (rec : Int32 → Int32 → Int32 → Int32 → Int32 → MS → Option (Int32 × MS)) : Option (Int32 × MS) :=
  if t0 = (0 : Int32) then (
    lt_ ((40 : Int32) + ((a10 / (4 : Int32)) - (a10 / (4 : Int32)) / (161 : Int32) * (161 : Int32))) fun x129 =>
    bnd (ra s.2.2 0 a2 (a10 - a10 / (4 : Int32) * (4 : Int32))) fun k131 =>
    bnd (rf s.2.2 0 a1) fun k133 =>
    bnd (rl s.2.2 0 a2) fun n135 =>
    bnd (rl s.2.2 0 a3) fun n137 =>
    bnd2 (f_La_machine a1 ((a9 / (16 : Int32)) - (a9 / (16 : Int32)) / (4 : Int32) * (4 : Int32)) (s.1 k131 (a10 - a10 / (4 : Int32) * (4 : Int32)).toNatClampNeg) x129 s) fun x142 s141 =>
    if a4 = (10 : Int32) then (
      j_La_law_301 L xs a1 a2 a3 a4 a5 a6 a8 x129 (-9000000000000000003 : Int64) x142 s141 rec
    ) else (
      j_La_law_301 L xs a1 a2 a3 a4 a5 a6 a8 x129 (Int32.toInt64 a4) x142 s141 rec)
  ) else (
    if t0 < (5 : Int32) then (
      gd (¬ a4 = (0 : Int32)) (
      lt_ ((a9 / (16 : Int32)) - (a9 / (16 : Int32)) / a4 * a4) fun x201 =>
      bnd (rf s.2.2 0 a1) fun k203 =>
      bnd (rl s.2.2 0 a2) fun n205 =>
      bnd (rl s.2.2 0 a3) fun n207 =>
      bnd2 (f_La_ofMachine a1 x201 (1 : Int32) s) fun x212 s211 =>
      bnd (ra s211.2.2 0 a2 (a10 - a10 / (4 : Int32) * (4 : Int32))) fun k213 =>
      bnd (rl s211.2.2 0 a2) fun n215 =>
      bnd (rl s211.2.2 0 a3) fun n217 =>
      bnd (f_La_drafts a1 (Int64.toInt32 x212) (s211.1 k213 (a10 - a10 / (4 : Int32) * (4 : Int32)).toNatClampNeg) (a10 / (4 : Int32)) s211) fun s221 =>
      bnd (rl s221.2.2 0 a2) fun n223 =>
      bnd (rl s221.2.2 0 a3) fun n225 =>
      bnd2 (f_La_count a1 (0 : Int32) s221) fun x230 s229 =>
      bnd (rl s229.2.2 0 a2) fun n231 =>
      bnd (rl s229.2.2 0 a3) fun n233 =>
      bnd2 (f_La_count a1 (1 : Int32) s229) fun x238 s237 =>
      bnd (f_Sk_time k203 s237) fun x240 =>
      bnd (rl s237.2.2 0 a2) fun n242 =>
      bnd (rl s237.2.2 0 a3) fun n244 =>
      bnd2 (f_La_file a1 x201 ((x240 + (1 : Int32)) + ((a9 / (256 : Int32)) - (a9 / (256 : Int32)) / (40 : Int32) * (40 : Int32))) ((a9 / (16384 : Int32)) - (a9 / (16384 : Int32)) / (4 : Int32) * (4 : Int32)) s237) fun x249 s248 =>
      if (if x230 = (40 : Int64) then (0 : Int32) else if (40 : Int64) < x230 then 1 else -1) = (0 : Int32) then (
        if (if x249 = (-9000000000000000003 : Int64) then (0 : Int32) else if (-9000000000000000003 : Int64) < x249 then 1 else -1) = (0 : Int32) then (
          j_La_law_519 L xs a1 a2 a3 a4 a5 a6 a8 (1 : Int32) s248 rec
        ) else (
          j_La_law_519 L xs a1 a2 a3 a4 a5 a6 a8 (0 : Int32) s248 rec)
      ) else (
        if (if x249 = (0 : Int64) then (0 : Int32) else if (0 : Int64) < x249 then 1 else -1) < (0 : Int32) then (
          if (if x249 = (-6 : Int64) then (0 : Int32) else if (-6 : Int64) < x249 then 1 else -1) < (0 : Int32) then (
            j_La_law_518 L xs a1 a2 a3 a4 a5 a6 a8 s248 rec
          ) else (
            bnd (rl s248.2.2 0 a2) fun n254 =>
            bnd (rl s248.2.2 0 a3) fun n256 =>
            bnd2 (f_La_count a1 (1 : Int32) s248) fun x261 s260 =>
            if (if x261 = (x238 + (1 : Int64)) then (0 : Int32) else if (x238 + (1 : Int64)) < x261 then 1 else -1) = (0 : Int32) then (
              bnd (f_Sk_why k203 s260) fun x264 =>
              if x264 < (-1 : Int32) then (
                j_La_law_518 L xs a1 a2 a3 a4 a5 a6 a8 s260 rec
              ) else (
                j_La_law_519 L xs a1 a2 a3 a4 a5 a6 a8 (1 : Int32) s260 rec)
            ) else (
              j_La_law_518 L xs a1 a2 a3 a4 a5 a6 a8 s260 rec))
        ) else (
          if (if x249 = x230 then (0 : Int32) else if x230 < x249 then 1 else -1) = (0 : Int32) then (
            bnd (rl s248.2.2 0 a2) fun n268 =>
            bnd (rl s248.2.2 0 a3) fun n270 =>
            bnd2 (f_La_count a1 (0 : Int32) s248) fun x275 s274 =>
            if (if x275 = (x230 + (1 : Int64)) then (0 : Int32) else if (x230 + (1 : Int64)) < x275 then 1 else -1) = (0 : Int32) then (
              bnd2 (f_Sk_clear k203 s274) fun x280 s279 =>
              if x280 = (0 : Int32) then (
                j_La_law_519 L xs a1 a2 a3 a4 a5 a6 a8 (1 : Int32) s279 rec
              ) else (
                j_La_law_480 L xs a1 a2 a3 a4 a5 a6 a8 s279 rec)
            ) else (
              j_La_law_480 L xs a1 a2 a3 a4 a5 a6 a8 s274 rec)
          ) else (
            j_La_law_480 L xs a1 a2 a3 a4 a5 a6 a8 s248 rec))))
    ) else (
      if t0 < (8 : Int32) then (
        bnd (rf s.2.2 0 a1) fun k283 =>
        bnd (f_Sk_time k283 s) fun x286 =>
        lt_ ((1 : Int32) + (a10 - a10 / (9 : Int32) * (9 : Int32))) fun x288 =>
        bnd (rl s.2.2 0 a2) fun n290 =>
        bnd (rl s.2.2 0 a3) fun n292 =>
        bnd2 (f_La_tick a1 x288 s) fun x297 s296 =>
        if (if x297 = (Int32.toInt64 (x286 + x288)) then (0 : Int32) else if (Int32.toInt64 (x286 + x288)) < x297 then 1 else -1) = (0 : Int32) then (
          j_La_law_567 L xs a1 a2 a3 a4 a5 a6 a8 (1 : Int32) s296 rec
        ) else (
          j_La_law_567 L xs a1 a2 a3 a4 a5 a6 a8 (0 : Int32) s296 rec)
      ) else (
        if t0 = (8 : Int32) then (
          bnd (rf s.2.2 0 a1) fun k300 =>
          bnd (rl s.2.2 0 a2) fun n302 =>
          bnd (rl s.2.2 0 a3) fun n304 =>
          bnd2 (f_La_wind a1 ((1 : Int32) + (a10 - a10 / (3 : Int32) * (3 : Int32))) ((a10 / (4 : Int32)) - (a10 / (4 : Int32)) / (4 : Int32) * (4 : Int32)) s) fun x309 s308 =>
          if (if x309 = (0 : Int64) then (0 : Int32) else if (0 : Int64) < x309 then 1 else -1) < (0 : Int32) then (
            j_La_law_630 L xs a1 a2 a3 a4 a5 a6 a8 s308 rec
          ) else (
            bnd (rl s308.2.2 0 a2) fun n311 =>
            bnd (rl s308.2.2 0 a3) fun n313 =>
            bnd2 (f_La_gust a1 ((1 : Int32) + ((a10 / (16 : Int32)) - (a10 / (16 : Int32)) / (3 : Int32) * (3 : Int32))) ((a10 / (64 : Int32)) - (a10 / (64 : Int32)) / (6 : Int32) * (6 : Int32)) s308) fun x318 s317 =>
            if (if x318 = (0 : Int64) then (0 : Int32) else if (0 : Int64) < x318 then 1 else -1) < (0 : Int32) then (
              j_La_law_630 L xs a1 a2 a3 a4 a5 a6 a8 s317 rec
            ) else (
              j_La_law_631 L xs a1 a2 a3 a4 a5 a6 a8 (1 : Int32) s317 rec))
        ) else (
          if t0 = (9 : Int32) then (
            bnd (rf s.2.2 0 a1) fun k321 =>
            bnd (f_Sk_time k321 s) fun x324 =>
            lt_ (x324 + ((a10 / (16384 : Int32)) - (a10 / (16384 : Int32)) / (30 : Int32) * (30 : Int32))) fun x326 =>
            bnd (rl s.2.2 0 a2) fun n328 =>
            bnd (rl s.2.2 0 a3) fun n330 =>
            bnd2 (f_La_close a1 (a10 - a10 / (100 : Int32) * (100 : Int32)) ((a10 / (128 : Int32)) - (a10 / (128 : Int32)) / (100 : Int32) * (100 : Int32)) ((1 : Int32) + ((a9 / (16 : Int32)) - (a9 / (16 : Int32)) / (3 : Int32) * (3 : Int32))) x326 (x326 + ((a9 / (64 : Int32)) - (a9 / (64 : Int32)) / (30 : Int32) * (30 : Int32))) s) fun x335 s334 =>
            if a5 = (10 : Int32) then (
              j_La_law_715 L xs a1 a2 a3 a4 a5 a6 a8 a9 (-9000000000000000003 : Int64) x335 s334 rec
            ) else (
              j_La_law_715 L xs a1 a2 a3 a4 a5 a6 a8 a9 (Int32.toInt64 a5) x335 s334 rec)
          ) else (
            if t0 = (10 : Int32) then (
              gd (¬ a4 = (0 : Int32)) (
              lt_ (a10 - a10 / a4 * a4) fun x356 =>
              bnd (rf s.2.2 0 a1) fun k358 =>
              bnd (rl s.2.2 0 a2) fun n360 =>
              bnd (rl s.2.2 0 a3) fun n362 =>
              bnd2 (f_La_ofMachine a1 x356 (0 : Int32) s) fun x367 s366 =>
              if (if x367 = (1 : Int64) then (0 : Int32) else if (1 : Int64) < x367 then 1 else -1) = (0 : Int32) then (
                bnd (rl s366.2.2 0 a2) fun n369 =>
                bnd (rl s366.2.2 0 a3) fun n371 =>
                bnd2 (f_La_ofMachine a1 x356 (2 : Int32) s366) fun x376 s375 =>
                if (0 : Int32) < (if x376 = (0 : Int64) then (0 : Int32) else if (0 : Int64) < x376 then 1 else -1) then (
                  j_La_law_821 L xs a1 a2 a3 a4 a5 a6 a8 a10 x356 (1 : Int32) s375 rec
                ) else (
                  j_La_law_820 L xs a1 a2 a3 a4 a5 a6 a8 a10 x356 s375 rec)
              ) else (
                j_La_law_820 L xs a1 a2 a3 a4 a5 a6 a8 a10 x356 s366 rec))
            ) else (
              gd (¬ a4 = (0 : Int32)) (
              lt_ (a10 - a10 / a4 * a4) fun x412 =>
              bnd (rf s.2.2 0 a1) fun k414 =>
              bnd (rl s.2.2 0 a2) fun n416 =>
              bnd (rl s.2.2 0 a3) fun n418 =>
              bnd2 (f_La_ofMachine a1 x412 (0 : Int32) s) fun x423 s422 =>
              if (if x423 = (1 : Int64) then (0 : Int32) else if (1 : Int64) < x423 then 1 else -1) = (0 : Int32) then (
                bnd (rl s422.2.2 0 a2) fun n425 =>
                bnd (rl s422.2.2 0 a3) fun n427 =>
                bnd2 (f_La_ofMachine a1 x412 (2 : Int32) s422) fun x432 s431 =>
                if (0 : Int32) < (if x432 = (0 : Int64) then (0 : Int32) else if (0 : Int64) < x432 then 1 else -1) then (
                  j_La_law_939 L xs a1 a2 a3 a4 a5 a6 a8 a10 x412 (1 : Int32) s431 rec
                ) else (
                  j_La_law_938 L xs a1 a2 a3 a4 a5 a6 a8 a10 x412 s431 rec)
              ) else (
                j_La_law_938 L xs a1 a2 a3 a4 a5 a6 a8 a10 x412 s422 rec))))))))
def b_La_law_195 (L : Nat) (xs : Nat → Int32) (a1 : Option Nat) (a2 : Option Nat) (a3 : Option Nat) (a4 : Int32) (a5 : Int32) (a6 : Int32) (a7 : Int32) (a8 : Int32) (s : MS) (rec : Int32 → Int32 → Int32 → Int32 → Int32 → MS → Option (Int32 × MS)) : Option (Int32 × MS) :=
  if a8 < (40 : Int32) then (
    if a7 = (0 : Int32) then (
      some (a7, s)
    ) else (
      bnd (f_La_draw L xs ((4 : Int32) + ((2 : Int32) * a8))) fun x123 =>
      bnd (f_La_draw L xs ((5 : Int32) + ((2 : Int32) * a8))) fun x125 =>
      if a8 < (2 : Int32) then (
        j_La_law_246 L xs a1 a2 a3 a4 a5 a6 a8 x123 x125 (0 : Int32) s rec
      ) else (
        j_La_law_246 L xs a1 a2 a3 a4 a5 a6 a8 x123 x125 (x123 - x123 / (12 : Int32) * (12 : Int32)) s rec))
  ) else (
    some (a7, s))
def l_La_law_195 (L : Nat) (xs : Nat → Int32) (a1 : Option Nat) (a2 : Option Nat) (a3 : Option Nat) : Nat → Int32 → Int32 → Int32 → Int32 → Int32 → MS → Option (Int32 × MS)
  | 0, _, _, _, _, _, _ => none
  | n + 1, a4, a5, a6, a7, a8, s => b_La_law_195 L xs a1 a2 a3 a4 a5 a6 a7 a8 s (l_La_law_195 L xs a1 a2 a3 n)
def f_La_law (L : Nat) (xs : Nat → Int32) (s : MS) : Option (Int32) :=
  lt_ (nid s 0) fun o1 =>
  lt_ (nw s 0) fun s3 =>
  bnd (f_Sk_init o1 s3) fun s9 =>
  lt_ (some o1) fun x10 =>
  bnd (rf s9.2.2 0 x10) fun k12 =>
  lt_ (nid s9 50) fun o14 =>
  lt_ (nw s9 50) fun s16 =>
  lt_ (some o14) fun x20 =>
  bnd (ra s16.2.2 0 x20 (0 : Int32)) fun k22 =>
  lt_ (wi s16 k22 (0 : Int32).toNatClampNeg (3 : Int32)) fun s24 =>
  bnd (ra s24.2.2 0 x20 (1 : Int32)) fun k27 =>
  lt_ (wi s24 k27 (1 : Int32).toNatClampNeg (27 : Int32)) fun s29 =>
  bnd (ra s29.2.2 0 x20 (2 : Int32)) fun k32 =>
  lt_ (wi s29 k32 (2 : Int32).toNatClampNeg (50 : Int32)) fun s34 =>
  bnd (ra s34.2.2 0 x20 (3 : Int32)) fun k37 =>
  lt_ (wi s34 k37 (3 : Int32).toNatClampNeg (96 : Int32)) fun s39 =>
  bnd (rl s39.2.2 0 x20) fun n42 =>
  lt_ (nid s39 51) fun o44 =>
  lt_ (nw s39 51) fun s46 =>
  lt_ (some o44) fun x50 =>
  bnd2 (l_La_law_51 L xs x10 x20 x50 (0 : Int32) (0 : Int32) (0 : Int32) 6 (1 : Int32) (0 : Int32) s46) fun e73 s75 =>
  bnd2 (l_La_law_125 L xs x10 x20 x50 (0 : Int32) (0 : Int32) (0 : Int32) 6 e73 (0 : Int32) s75) fun e118 s120 =>
  bnd2 (l_La_law_195 L xs x10 x20 x50 42 (0 : Int32) (0 : Int32) (0 : Int32) e118 (0 : Int32) s120) fun e469 s471 =>
  some e469
