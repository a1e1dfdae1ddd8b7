/-! the extracted functions: by program out of the bytecode -/
def f_Ci_init (k : Nat) (s : MS) : Option (MS) :=
  lt_ (nid s 2) fun o1 =>
  lt_ (nw s 2) fun s3 =>
  lt_ (wr s3 k 0 (some o1)) fun s7 =>
  lt_ (nid s7 3) fun o10 =>
  lt_ (nw s7 3) fun s12 =>
  lt_ (wr s12 k 1 (some o10)) fun s16 =>
  lt_ (nid s16 4) fun o19 =>
  lt_ (nw s16 4) fun s21 =>
  lt_ (wr s21 k 2 (some o19)) fun s25 =>
  lt_ (nid s25 5) fun o28 =>
  lt_ (nw s25 5) fun s30 =>
  lt_ (wr s30 k 3 (some o28)) fun s34 =>
  some s34
def f_Ci_heightOf (k : Nat) (a1 : Int32) (s : MS) : Option (Int32) :=
  if a1 < (0 : Int32) then (
    some (0 : Int32)
  ) else (
    bnd (rl s.2.2 0 (s.2.1 k 0)) fun n2 =>
    if a1 < (Int32.ofNat n2) then (
      bnd (ra s.2.2 0 (s.2.1 k 0) a1) fun k5 =>
      some (s.1 k5 a1.toNatClampNeg)
    ) else (
      some (0 : Int32)))
def f_Ci_setHeight (k : Nat) (a1 : Int32) (a2 : Int32) (s : MS) : Option (MS) :=
  if a1 < (0 : Int32) then (
    some s
  ) else (
    bnd (rl s.2.2 0 (s.2.1 k 0)) fun n2 =>
    if a1 < (Int32.ofNat n2) then (
      bnd (ra s.2.2 0 (s.2.1 k 0) a1) fun k5 =>
      lt_ (wi s k5 a1.toNatClampNeg a2) fun s7 =>
      some s7
    ) else (
      some s))
def f_Ci_addSpot (k : Nat) (a1 : Int32) (s : MS) : Option (MS) :=
  if (s.1 k 4) < (0 : Int32) then (
    some s
  ) else (
    bnd (rl s.2.2 0 (s.2.1 k 1)) fun n2 =>
    if (s.1 k 4) < (Int32.ofNat n2) then (
      bnd (ra s.2.2 0 (s.2.1 k 1) (s.1 k 4)) fun k5 =>
      lt_ (wi s k5 (s.1 k 4).toNatClampNeg a1) fun s7 =>
      lt_ (wi s7 k 4 ((s7.1 k 4) + (1 : Int32))) fun s10 =>
      some s10
    ) else (
      some s))
def b_Ci_isSpot_2 (k : Nat) (a1 : Int32) (a2 : Int32) (s : MS) (rec : Int32 → Option ((Int32) ⊕ (Unit))) : Option ((Int32) ⊕ (Unit)) :=
  if a2 < (s.1 k 4) then (
    bnd (rl s.2.2 0 (s.2.1 k 1)) fun n2 =>
    if a2 < (Int32.ofNat n2) then (
      bnd (ra s.2.2 0 (s.2.1 k 1) a2) fun k5 =>
      if (s.1 k5 a2.toNatClampNeg) = a1 then (
        some (.inl (1 : Int32))
      ) else (
        lt_ (a2 + (1 : Int32)) fun x8 =>
        rec x8)
    ) else (
      some (.inr ()))
  ) else (
    some (.inr ()))
def l_Ci_isSpot_2 (k : Nat) (a1 : Int32) (s : MS) : Nat → Int32 → Option ((Int32) ⊕ (Unit))
  | 0, _ => none
  | n + 1, a2 => b_Ci_isSpot_2 k a1 a2 s (l_Ci_isSpot_2 k a1 s n)
def f_Ci_isSpot (k : Nat) (a1 : Int32) (s : MS) : Option (Int32) :=
  el0 (l_Ci_isSpot_2 k a1 s 4096 (0 : Int32)) some (some (0 : Int32))
def f_Ci_distance (a0 : Int32) (a1 : Int32) : (Int32) :=
  ((if 0 ≤ ((a0 - a0 / (10 : Int32) * (10 : Int32)) - (a1 - a1 / (10 : Int32) * (10 : Int32))) then ((a0 - a0 / (10 : Int32) * (10 : Int32)) - (a1 - a1 / (10 : Int32) * (10 : Int32))) else 0 - ((a0 - a0 / (10 : Int32) * (10 : Int32)) - (a1 - a1 / (10 : Int32) * (10 : Int32)))) + (if 0 ≤ ((a0 / (10 : Int32)) - (a1 / (10 : Int32))) then ((a0 / (10 : Int32)) - (a1 / (10 : Int32))) else 0 - ((a0 / (10 : Int32)) - (a1 / (10 : Int32)))))
def j_Ci_nearestSpot_67 (k : Nat) (a1 : Int32) (a4 : Int32) (a5 : Int32) (s : MS) (rec : Int32 → Int32 → Int32 → Option (Int32)) : Option (Int32) :=
  bnd (ra s.2.2 0 (s.2.1 k 1) a4) fun k11 =>
  lt_ (s.1 k11 a4.toNatClampNeg) fun x13 =>
  lt_ (a4 + (1 : Int32)) fun x15 =>
  rec x13 a5 x15
def b_Ci_nearestSpot_7 (k : Nat) (a1 : Int32) (a2 : Int32) (a3 : Int32) (a4 : Int32) (s : MS) (rec : Int32 → Int32 → Int32 → Option (Int32)) : Option (Int32) :=
  if a4 < (s.1 k 4) then (
    bnd (rl s.2.2 0 (s.2.1 k 1)) fun n2 =>
    if a4 < (Int32.ofNat n2) then (
      bnd (ra s.2.2 0 (s.2.1 k 1) a4) fun k5 =>
      lt_ (f_Ci_distance a1 (s.1 k5 a4.toNatClampNeg)) fun x8 =>
      if a2 = (-1 : Int32) then (
        j_Ci_nearestSpot_67 k a1 a4 x8 s rec
      ) else (
        if x8 < a3 then (
          j_Ci_nearestSpot_67 k a1 a4 x8 s rec
        ) else (
          if x8 = a3 then (
            bnd (ra s.2.2 0 (s.2.1 k 1) a4) fun k19 =>
            if (s.1 k19 a4.toNatClampNeg) < a2 then (
              j_Ci_nearestSpot_67 k a1 a4 x8 s rec
            ) else (
              lt_ (a4 + (1 : Int32)) fun x22 =>
              rec a2 a3 x22)
          ) else (
            lt_ (a4 + (1 : Int32)) fun x24 =>
            rec a2 a3 x24)))
    ) else (
      some a2)
  ) else (
    some a2)
def l_Ci_nearestSpot_7 (k : Nat) (a1 : Int32) (s : MS) : Nat → Int32 → Int32 → Int32 → Option (Int32)
  | 0, _, _, _ => none
  | n + 1, a2, a3, a4 => b_Ci_nearestSpot_7 k a1 a2 a3 a4 s (l_Ci_nearestSpot_7 k a1 s n)
def f_Ci_nearestSpot (k : Nat) (a1 : Int32) (s : MS) : Option (Int32) :=
  bnd (l_Ci_nearestSpot_7 k a1 s 4096 (-1 : Int32) (0 : Int32) (0 : Int32)) fun e26 =>
  some e26
def f_Ci_wayHome (k : Nat) (a1 : Int32) (s : MS) : Option (Int32) :=
  bnd (f_Ci_nearestSpot k a1 s) fun x2 =>
  if x2 = (-1 : Int32) then (
    some (-1 : Int32)
  ) else (
    some (f_Ci_distance a1 x2))
def f_Sk_isOnGround (a0 : Int32) : (Int32) :=
  if a0 < (100 : Int32) then (
    (1 : Int32)
  ) else (
    (0 : Int32))
def f_Ci_isFree (k : Nat) (a1 : Int32) (s : MS) : Option (Int32) :=
  if a1 = (-1 : Int32) then (
    some (0 : Int32)
  ) else (
    lt_ (a1 - a1 / (100 : Int32) * (100 : Int32)) fun x2 =>
    if (f_Sk_isOnGround a1) = (0 : Int32) then (
      bnd (f_Ci_heightOf k x2 s) fun x7 =>
      if x7 < (a1 / (100 : Int32)) then (
        some (1 : Int32)
      ) else (
        some (0 : Int32))
    ) else (
      bnd (f_Ci_isSpot k x2 s) fun x11 =>
      gd (x11 = 0 ∨ x11 = 1) (
      some x11)))
def f_Ci_atLayer (a0 : Option Nat) (a1 : Int32) (s : MS) : Option (Int32) :=
  if a0 = none then (
    some (0 : Int32)
  ) else (
    if a1 < (0 : Int32) then (
      some (0 : Int32)
    ) else (
      bnd (rl s.2.2 0 a0) fun n3 =>
      if a1 < (Int32.ofNat n3) then (
        bnd (ra s.2.2 0 a0 a1) fun k6 =>
        some (s.1 k6 a1.toNatClampNeg)
      ) else (
        some (0 : Int32))))
def j_Ci_taken_34 (k : Nat) (a3 : Option Nat) (a4 : Int32) (t0 : Int32) (s : MS) : Option (Int32) :=
  bnd (f_Ci_atLayer a3 a4 s) fun x8 =>
  some (t0 + x8)
def j_Ci_taken_14 (k : Nat) (a1 : Int32) (a2 : Int32) (a3 : Option Nat) (s : MS) : Option (Int32) :=
  lt_ (a2 / (100 : Int32)) fun x4 =>
  if (a1 / (100 : Int32)) < x4 then (
    j_Ci_taken_34 k a3 x4 (2 : Int32) s
  ) else (
    j_Ci_taken_34 k a3 x4 (1 : Int32) s)
def f_Ci_taken (k : Nat) (a1 : Int32) (a2 : Int32) (a3 : Option Nat) (s : MS) : Option (Int32) :=
  if a1 = a2 then (
    if (f_Sk_isOnGround a2) = (0 : Int32) then (
      j_Ci_taken_14 k a1 a2 a3 s
    ) else (
      some (0 : Int32))
  ) else (
    j_Ci_taken_14 k a1 a2 a3 s)
def f_Ci_setLayer (a0 : Option Nat) (a1 : Int32) (a2 : Int32) (s : MS) : Option (MS) :=
  if a0 = none then (
    some s
  ) else (
    if a1 < (0 : Int32) then (
      some s
    ) else (
      bnd (rl s.2.2 0 a0) fun n3 =>
      if a1 < (Int32.ofNat n3) then (
        bnd (ra s.2.2 0 a0 a1) fun k6 =>
        lt_ (wi s k6 a1.toNatClampNeg a2) fun s8 =>
        some s8
      ) else (
        some s)))
def f_Ci_tell (a0 : Option Nat) (a1 : Int32) (a2 : Int32) (s : MS) : Option (Int32 × MS) :=
  bnd (f_Ci_atLayer a0 a1 s) fun x2 =>
  bnd (f_Ci_setLayer a0 a1 a2 s) fun s6 =>
  if a1 = (3 : Int32) then (
    bnd (f_Ci_setLayer a0 (4 : Int32) a2 s6) fun s10 =>
    some (x2, s10)
  ) else (
    some (x2, s6))
def f_Ma_init (k : Nat) (a1 : Int32) (a2 : Int32) (a3 : Int32) (s : MS) : Option (MS) :=
  lt_ (wi s k 4 (0 : Int32)) fun s1 =>
  lt_ (wi s1 k 5 (-1 : Int32)) fun s4 =>
  lt_ (wi s4 k 6 (-1 : Int32)) fun s7 =>
  lt_ (wi s7 k 0 a1) fun s10 =>
  lt_ (wi s10 k 1 a3) fun s13 =>
  lt_ (wi s13 k 2 a3) fun s16 =>
  lt_ (wi s16 k 3 a2) fun s19 =>
  some s19
def f_Ma_batteryAfter (k : Nat) (a1 : Int32) (s : MS) : Option (Int32) :=
  some (if ((s.1 k 2) + ((5 : Int32) * a1)) < (s.1 k 1) then ((s.1 k 2) + ((5 : Int32) * a1)) else (s.1 k 1))
def f_Pa_init (k : Nat) (s : MS) : Option (MS) :=
  lt_ (nid s 13) fun o1 =>
  lt_ (nw s 13) fun s3 =>
  lt_ (wr s3 k 0 (some o1)) fun s7 =>
  some s7
def f_Pa_end (k : Nat) (s : MS) : Option (Int32) :=
  some ((s.1 k 3) + (s.1 k 4))
def f_Pa_placeOf (k : Nat) (a1 : Int32) (s : MS) : Option (Int32) :=
  if a1 < (0 : Int32) then (
    some (-1 : Int32)
  ) else (
    if (s.1 k 4) < a1 then (
      some (-1 : Int32)
    ) else (
      bnd (rl s.2.2 0 (s.2.1 k 0)) fun n3 =>
      if a1 < (Int32.ofNat n3) then (
        bnd (ra s.2.2 0 (s.2.1 k 0) a1) fun k6 =>
        some (s.1 k6 a1.toNatClampNeg)
      ) else (
        some (-1 : Int32))))
def f_Pa_placeWhen (k : Nat) (a1 : Int32) (s : MS) : Option (Int32) :=
  if a1 < (s.1 k 3) then (
    some (-1 : Int32)
  ) else (
    bnd (f_Pa_placeOf k (a1 - (s.1 k 3)) s) fun x3 =>
    some x3)
def f_Pa_setPlace (k : Nat) (a1 : Int32) (a2 : Int32) (s : MS) : Option (MS) :=
  if a1 < (0 : Int32) then (
    some s
  ) else (
    bnd (rl s.2.2 0 (s.2.1 k 0)) fun n2 =>
    if a1 < (Int32.ofNat n2) then (
      bnd (ra s.2.2 0 (s.2.1 k 0) a1) fun k5 =>
      lt_ (wi s k5 a1.toNatClampNeg a2) fun s7 =>
      some s7
    ) else (
      some s))
def b_Pa_takePlacesOf_10 (k : Nat) (a1 : Option Nat) (a2 : Int32) (s : MS) (rec : Int32 → MS → Option (MS)) : Option (MS) :=
  if (s.1 k 4) < a2 then (
    some s
  ) else (
    bnd (rf s.2.2 12 a1) fun k7 =>
    bnd (f_Pa_placeOf k7 a2 s) fun x10 =>
    bnd (f_Pa_setPlace k a2 x10 s) fun s14 =>
    lt_ (a2 + (1 : Int32)) fun x15 =>
    rec x15 s14)
def l_Pa_takePlacesOf_10 (k : Nat) (a1 : Option Nat) : Nat → Int32 → MS → Option (MS)
  | 0, _, _ => none
  | n + 1, a2, s => b_Pa_takePlacesOf_10 k a1 a2 s (l_Pa_takePlacesOf_10 k a1 n)
def f_Pa_takePlacesOf (k : Nat) (a1 : Option Nat) (s : MS) : Option (MS) :=
  bnd (rf s.2.2 12 a1) fun k1 =>
  lt_ (wi s k 4 (s.1 k1 4)) fun s3 =>
  bnd (l_Pa_takePlacesOf_10 k a1 4096 (0 : Int32) s3) fun s18 =>
  some s18
def f_Ro_init (k : Nat) (a1 : Int32) (a2 : Int32) (a3 : Int32) (s : MS) : Option (MS) :=
  lt_ (wi s k 0 (if (a2 - a2 / (10 : Int32) * (10 : Int32)) < (a1 - a1 / (10 : Int32) * (10 : Int32)) then (a2 - a2 / (10 : Int32) * (10 : Int32)) else (a1 - a1 / (10 : Int32) * (10 : Int32)))) fun s1 =>
  lt_ (wi s1 k 1 (if (a1 - a1 / (10 : Int32) * (10 : Int32)) < (a2 - a2 / (10 : Int32) * (10 : Int32)) then (a2 - a2 / (10 : Int32) * (10 : Int32)) else (a1 - a1 / (10 : Int32) * (10 : Int32)))) fun s4 =>
  lt_ (wi s4 k 2 (if (a2 / (10 : Int32)) < (a1 / (10 : Int32)) then (a2 / (10 : Int32)) else (a1 / (10 : Int32)))) fun s7 =>
  lt_ (wi s7 k 3 (if (a1 / (10 : Int32)) < (a2 / (10 : Int32)) then (a2 / (10 : Int32)) else (a1 / (10 : Int32)))) fun s10 =>
  lt_ (wi s10 k 4 a3) fun s13 =>
  some s13
def f_Sk_isOut (a0 : Int32) (a1 : Int32) (a2 : Int32) : (Int32) :=
  if a0 < a1 then (
    (1 : Int32)
  ) else (
    if a2 < a0 then (
      (1 : Int32)
    ) else (
      (0 : Int32)))
def f_Ro_isClosedAt (k : Nat) (a1 : Int32) (a2 : Int32) (s : MS) : Option (Int32) :=
  if (s.1 k 7) = (0 : Int32) then (
    if (f_Sk_isOnGround a1) = (0 : Int32) then (
      if (s.1 k 4) < (a1 / (100 : Int32)) then (
        some (0 : Int32)
      ) else (
        if (f_Sk_isOut a2 (s.1 k 5) (s.1 k 6)) = (0 : Int32) then (
          if (f_Sk_isOut (a1 - a1 / (10 : Int32) * (10 : Int32)) (s.1 k 0) (s.1 k 1)) = (0 : Int32) then (
            if (f_Sk_isOut ((a1 / (10 : Int32)) - (a1 / (10 : Int32)) / (10 : Int32) * (10 : Int32)) (s.1 k 2) (s.1 k 3)) = (0 : Int32) then (
              some (1 : Int32)
            ) else (
              some (0 : Int32))
          ) else (
            some (0 : Int32))
        ) else (
          some (0 : Int32)))
    ) else (
      some (0 : Int32))
  ) else (
    some (0 : Int32))
def f_Sk_init (k : Nat) (s : MS) : Option (MS) :=
  lt_ (nid s 1) fun o1 =>
  lt_ (nw s 1) fun s3 =>
  bnd (f_Ci_init o1 s3) fun s9 =>
  lt_ (wr s9 k 0 (some o1)) fun s10 =>
  lt_ (nid s10 6) fun o13 =>
  lt_ (nw s10 6) fun s15 =>
  lt_ (wr s15 k 1 (some o13)) fun s19 =>
  lt_ (nid s19 7) fun o22 =>
  lt_ (nw s19 7) fun s24 =>
  lt_ (wr s24 k 2 (some o22)) fun s28 =>
  lt_ (nid s28 8) fun o31 =>
  lt_ (nw s28 8) fun s33 =>
  lt_ (wr s33 k 3 (some o31)) fun s37 =>
  lt_ (nid s37 9) fun o40 =>
  lt_ (nw s37 9) fun s42 =>
  lt_ (wr s42 k 4 (some o40)) fun s46 =>
  lt_ (nid s46 12) fun o49 =>
  lt_ (nw s46 12) fun s51 =>
  bnd (f_Pa_init o49 s51) fun s57 =>
  lt_ (wr s57 k 5 (some o49)) fun s58 =>
  lt_ (wi s58 k 12 (-1 : Int32)) fun s61 =>
  some s61
def f_Sk_isNoCell (a0 : Int32) : (Int32) :=
  (f_Sk_isOut a0 (0 : Int32) (99 : Int32))
def f_Sk_tower (k : Nat) (a1 : Int32) (a2 : Int32) (s : MS) : Option (Nat × Int32 × MS) :=
  if (f_Sk_isNoCell a1) = (0 : Int32) then (
    if (f_Sk_isOut a2 (0 : Int32) (3 : Int32)) = (0 : Int32) then (
      bnd (rf s.2.2 1 (s.2.1 k 0)) fun k5 =>
      bnd (f_Ci_isSpot k5 a1 s) fun x8 =>
      if x8 = (0 : Int32) then (
        if (0 : Int32) < (s.1 k 8) then (
          some (3, (0 : Int32), s)
        ) else (
          bnd (f_Ci_heightOf k5 a1 s) fun x13 =>
          bnd (f_Ci_setHeight k5 a1 a2 s) fun s17 =>
          some (0, x13, s17))
      ) else (
        some (3, (0 : Int32), s))
    ) else (
      some (2, (0 : Int32), s))
  ) else (
    some (1, (0 : Int32), s))
def f_Sk_spot (k : Nat) (a1 : Int32) (s : MS) : Option (Nat × Int32 × MS) :=
  if (f_Sk_isNoCell a1) = (0 : Int32) then (
    bnd (rf s.2.2 1 (s.2.1 k 0)) fun k3 =>
    bnd (f_Ci_isSpot k3 a1 s) fun x6 =>
    if x6 = (0 : Int32) then (
      bnd (f_Ci_heightOf k3 a1 s) fun x10 =>
      if (0 : Int32) < x10 then (
        some (3, (0 : Int32), s)
      ) else (
        if (s.1 k3 4) < (8 : Int32) then (
          bnd (f_Ci_addSpot k3 a1 s) fun s16 =>
          bnd (rf s16.2.2 1 (s16.2.1 k 0)) fun k17 =>
          some (0, (s16.1 k17 4), s16)
        ) else (
          some (3, (0 : Int32), s)))
    ) else (
      some (3, (0 : Int32), s))
  ) else (
    some (1, (0 : Int32), s))
def f_Sk_wind (k : Nat) (a1 : Int32) (a2 : Int32) (s : MS) : Option (Nat × Int32 × MS) :=
  if (f_Sk_isOut a1 (1 : Int32) (3 : Int32)) = (0 : Int32) then (
    if (f_Sk_isOut a2 (0 : Int32) (3 : Int32)) = (0 : Int32) then (
      bnd (rf s.2.2 1 (s.2.1 k 0)) fun k5 =>
      bnd2 (f_Ci_tell (s.2.1 k5 2) a1 a2 s) fun x10 s9 =>
      some (0, x10, s9)
    ) else (
      some (2, (0 : Int32), s))
  ) else (
    some (2, (0 : Int32), s))
def f_Sk_gust (k : Nat) (a1 : Int32) (a2 : Int32) (s : MS) : Option (Nat × Int32 × MS) :=
  if (f_Sk_isOut a1 (1 : Int32) (3 : Int32)) = (0 : Int32) then (
    if (f_Sk_isOut a2 (0 : Int32) (5 : Int32)) = (0 : Int32) then (
      bnd (rf s.2.2 1 (s.2.1 k 0)) fun k5 =>
      bnd2 (f_Ci_tell (s.2.1 k5 3) a1 a2 s) fun x10 s9 =>
      some (0, x10, s9)
    ) else (
      some (2, (0 : Int32), s))
  ) else (
    some (2, (0 : Int32), s))
def b_Sk_isInRoom_8 (a0 : Option Nat) (a2 : Option Nat) (a3 : Int32) (s : MS) (rec : Int32 → Option ((Int32) ⊕ (Unit))) : Option ((Int32) ⊕ (Unit)) :=
  bnd (rf s.2.2 12 a0) fun k2 =>
  if (s.1 k2 4) < a3 then (
    some (.inr ())
  ) else (
    bnd (f_Pa_placeOf k2 a3 s) fun x6 =>
    bnd (rf s.2.2 10 a2) fun k8 =>
    bnd (f_Ro_isClosedAt k8 x6 ((s.1 k2 3) + a3) s) fun x11 =>
    if x11 = (0 : Int32) then (
      lt_ (a3 + (1 : Int32)) fun x14 =>
      rec x14
    ) else (
      some (.inl (1 : Int32))))
def l_Sk_isInRoom_8 (a0 : Option Nat) (a2 : Option Nat) (s : MS) : Nat → Int32 → Option ((Int32) ⊕ (Unit))
  | 0, _ => none
  | n + 1, a3 => b_Sk_isInRoom_8 a0 a2 a3 s (l_Sk_isInRoom_8 a0 a2 s n)
def f_Sk_isInRoom (a0 : Option Nat) (a1 : Int32) (a2 : Option Nat) (s : MS) : Option (Int32) :=
  if a2 = none then (
    some (0 : Int32)
  ) else (
    el0 (l_Sk_isInRoom_8 a0 a2 s 4096 a1) some (some (0 : Int32)))
def f_Sk_machineOf (k : Nat) (a1 : Int32) (s : MS) : Option (Option Nat) :=
  bnd (rl s.2.2 4 (s.2.1 k 2)) fun n1 =>
  if (f_Sk_isOut a1 (0 : Int32) ((Int32.ofNat n1) - (1 : Int32))) = (0 : Int32) then (
    bnd (ra s.2.2 4 (s.2.1 k 2) a1) fun k5 =>
    some (s.2.1 k5 a1.toNatClampNeg)
  ) else (
    some none)
def f_Sk_finish (k : Nat) (a1 : Option Nat) (a2 : Int32) (s : MS) : Option (MS) :=
  bnd (rf s.2.2 12 a1) fun k1 =>
  lt_ (wi s k1 6 a2) fun s3 =>
  bnd (f_Sk_machineOf k (s3.1 k1 2) s3) fun x7 =>
  if x7 = none then (
    some s3
  ) else (
    bnd (rf s3.2.2 11 x7) fun k10 =>
    lt_ (wi s3 k10 5 (-1 : Int32)) fun s12 =>
    some s12)
def b_Sk_withdrawThoseIn_11 (k : Nat) (a1 : Option Nat) (a2 : Option Nat) (a3 : Int32) (a4 : Int32) (s : MS) (rec : Int32 → MS → Option (MS)) : Option (MS) :=
  if a4 < a3 then (
    bnd (ra s.2.2 5 a2 a4) fun k8 =>
    lt_ (s.2.1 k8 a4.toNatClampNeg) fun x10 =>
    if x10 = none then (
      lt_ (a4 + (1 : Int32)) fun x13 =>
      rec x13 s
    ) else (
      bnd (rf s.2.2 12 x10) fun k15 =>
      if (s.1 k15 6) = (0 : Int32) then (
        bnd (f_Sk_isInRoom x10 (0 : Int32) a1 s) fun x19 =>
        if x19 = (0 : Int32) then (
          lt_ (a4 + (1 : Int32)) fun x22 =>
          rec x22 s
        ) else (
          bnd (f_Sk_finish k x10 (3 : Int32) s) fun s26 =>
          lt_ (a4 + (1 : Int32)) fun x27 =>
          rec x27 s26)
      ) else (
        lt_ (a4 + (1 : Int32)) fun x29 =>
        rec x29 s))
  ) else (
    some s)
def l_Sk_withdrawThoseIn_11 (k : Nat) (a1 : Option Nat) (a2 : Option Nat) (a3 : Int32) : Nat → Int32 → MS → Option (MS)
  | 0, _, _ => none
  | n + 1, a4, s => b_Sk_withdrawThoseIn_11 k a1 a2 a3 a4 s (l_Sk_withdrawThoseIn_11 k a1 a2 a3 n)
def f_Sk_withdrawThoseIn (k : Nat) (a1 : Option Nat) (s : MS) : Option (MS) :=
  lt_ (s.2.1 k 3) fun x1 =>
  bnd (rl s.2.2 5 x1) fun n3 =>
  lt_ (Int32.ofNat n3) fun x5 =>
  bnd (l_Sk_withdrawThoseIn_11 k a1 x1 x5 4096 (0 : Int32) s) fun s32 =>
  some s32
def f_Sk_close (k : Nat) (a1 : Int32) (a2 : Int32) (a3 : Int32) (a4 : Int32) (a5 : Int32) (s : MS) : Option (Nat × Int32 × MS) :=
  if (f_Sk_isNoCell a1) = (0 : Int32) then (
    if (f_Sk_isNoCell a2) = (0 : Int32) then (
      if (f_Sk_isOut a3 (1 : Int32) (3 : Int32)) = (0 : Int32) then (
        if (f_Sk_isOut a4 (0 : Int32) (100000 : Int32)) = (0 : Int32) then (
          if (f_Sk_isOut a5 a4 (100000 : Int32)) = (0 : Int32) then (
            lt_ (s.1 k 6) fun x11 =>
            bnd (rl s.2.2 3 (s.2.1 k 1)) fun n13 =>
            if (f_Sk_isOut x11 (0 : Int32) ((Int32.ofNat n13) - (1 : Int32))) = (0 : Int32) then (
              lt_ (nid s 10) fun o17 =>
              lt_ (nw s 10) fun s19 =>
              bnd (f_Ro_init o17 a1 a2 a3 s19) fun s25 =>
              lt_ (some o17) fun x26 =>
              bnd (rf s25.2.2 10 x26) fun k28 =>
              lt_ (wi s25 k28 5 a4) fun s30 =>
              lt_ (wi s30 k28 6 a5) fun s33 =>
              bnd (ra s33.2.2 3 (s33.2.1 k 1) x11) fun k36 =>
              lt_ (wr s33 k36 x11.toNatClampNeg x26) fun s38 =>
              lt_ (wi s38 k 6 ((s38.1 k 6) + (1 : Int32))) fun s41 =>
              bnd (f_Sk_withdrawThoseIn k x26 s41) fun s46 =>
              some (0, x11, s46)
            ) else (
              some (3, (0 : Int32), s))
          ) else (
            some (2, (0 : Int32), s))
        ) else (
          some (2, (0 : Int32), s))
      ) else (
        some (2, (0 : Int32), s))
    ) else (
      some (1, (0 : Int32), s))
  ) else (
    some (1, (0 : Int32), s))
def f_Sk_roomOf (k : Nat) (a1 : Int32) (s : MS) : Option (Option Nat) :=
  bnd (rl s.2.2 3 (s.2.1 k 1)) fun n1 =>
  if (f_Sk_isOut a1 (0 : Int32) ((Int32.ofNat n1) - (1 : Int32))) = (0 : Int32) then (
    bnd (ra s.2.2 3 (s.2.1 k 1) a1) fun k5 =>
    some (s.2.1 k5 a1.toNatClampNeg)
  ) else (
    some none)
def f_Sk_open (k : Nat) (a1 : Int32) (s : MS) : Option (Nat × Int32 × MS) :=
  bnd (f_Sk_roomOf k a1 s) fun x2 =>
  if x2 = none then (
    some (1, (0 : Int32), s)
  ) else (
    bnd (rf s.2.2 10 x2) fun k5 =>
    if (s.1 k5 7) = (0 : Int32) then (
      lt_ (wi s k5 7 (1 : Int32)) fun s8 =>
      some (0, (0 : Int32), s8)
    ) else (
      some (3, (0 : Int32), s)))
def f_Sk_machine (k : Nat) (a1 : Int32) (a2 : Int32) (a3 : Int32) (s : MS) : Option (Nat × Int32 × MS) :=
  if (f_Sk_isNoCell a2) = (0 : Int32) then (
    if (f_Sk_isOut a1 (0 : Int32) (3 : Int32)) = (0 : Int32) then (
      if (f_Sk_isOut a3 (20 : Int32) (200 : Int32)) = (0 : Int32) then (
        lt_ (s.1 k 7) fun x7 =>
        bnd (rf s.2.2 1 (s.2.1 k 0)) fun k9 =>
        bnd (f_Ci_isSpot k9 a2 s) fun x12 =>
        if x12 = (0 : Int32) then (
          some (3, (0 : Int32), s)
        ) else (
          bnd (rl s.2.2 4 (s.2.1 k 2)) fun n15 =>
          if (f_Sk_isOut x7 (0 : Int32) ((Int32.ofNat n15) - (1 : Int32))) = (0 : Int32) then (
            bnd (rl s.2.2 4 (s.2.1 k 2)) fun n19 =>
            lt_ (nid s 11) fun o21 =>
            lt_ (nw s 11) fun s23 =>
            bnd (f_Ma_init o21 a1 a2 a3 s23) fun s29 =>
            bnd (ra s29.2.2 4 (s.2.1 k 2) x7) fun k30 =>
            lt_ (wr s29 k30 x7.toNatClampNeg (some o21)) fun s32 =>
            lt_ (wi s32 k 7 ((s32.1 k 7) + (1 : Int32))) fun s35 =>
            some (0, x7, s35)
          ) else (
            some (3, (0 : Int32), s)))
      ) else (
        some (2, (0 : Int32), s))
    ) else (
      some (2, (0 : Int32), s))
  ) else (
    some (1, (0 : Int32), s))
def b_Sk_move_53 (k : Nat) (a1 : Int32) (a2 : Int32) (a3 : Int32) (s : MS) (rec : Int32 → MS → Option (MS)) : Option (MS) :=
  if a3 < a2 then (
    if (s.1 k 9) < (0 : Int32) then (
      some s
    ) else (
      bnd (rl s.2.2 0 (s.2.1 k 4)) fun n8 =>
      if (s.1 k 9) < (Int32.ofNat n8) then (
        bnd (ra s.2.2 0 (s.2.1 k 4) (s.1 k 9)) fun k11 =>
        lt_ (wi s k11 (s.1 k 9).toNatClampNeg a1) fun s13 =>
        lt_ (wi s13 k 9 ((s13.1 k 9) + (1 : Int32))) fun s16 =>
        lt_ (a3 + (1 : Int32)) fun x19 =>
        rec x19 s16
      ) else (
        some s))
  ) else (
    some s)
def l_Sk_move_53 (k : Nat) (a1 : Int32) (a2 : Int32) : Nat → Int32 → MS → Option (MS)
  | 0, _, _ => none
  | n + 1, a3, s => b_Sk_move_53 k a1 a2 a3 s (l_Sk_move_53 k a1 a2 n)
def f_Sk_move (k : Nat) (a1 : Int32) (a2 : Int32) (s : MS) : Option (Nat × Int32 × MS) :=
  if (f_Sk_isOut a1 (0 : Int32) (6 : Int32)) = (0 : Int32) then (
    if (f_Sk_isOut a2 (1 : Int32) (10 : Int32)) = (0 : Int32) then (
      if (40 : Int32) < ((s.1 k 9) + a2) then (
        some (3, (0 : Int32), s)
      ) else (
        bnd (l_Sk_move_53 k a1 a2 4096 (0 : Int32) s) fun s22 =>
        some (0, (s22.1 k 9), s22))
    ) else (
      some (2, (0 : Int32), s))
  ) else (
    some (2, (0 : Int32), s))
def f_Sk_clear (k : Nat) (s : MS) : Option (Int32 × MS) :=
  lt_ (s.1 k 9) fun x1 =>
  lt_ (wi s k 9 (0 : Int32)) fun s3 =>
  some (x1, s3)
def j_Sk_placeBehind_96 (a2 : Int32) (a3 : Int32) (a4 : Int32) : (Int32) :=
  if (f_Sk_isOut a2 (0 : Int32) (9 : Int32)) = (0 : Int32) then (
    if (f_Sk_isOut a3 (0 : Int32) (9 : Int32)) = (0 : Int32) then (
      if (f_Sk_isOut a4 (0 : Int32) (3 : Int32)) = (0 : Int32) then (
        ((((100 : Int32) * a4) + ((10 : Int32) * a3)) + a2)
      ) else (
        (-1 : Int32))
    ) else (
      (-1 : Int32))
  ) else (
    (-1 : Int32))
def f_Sk_placeBehind (a0 : Int32) (a1 : Int32) : (Int32) :=
  lt_ (a0 - a0 / (10 : Int32) * (10 : Int32)) fun x1 =>
  lt_ ((a0 / (10 : Int32)) - (a0 / (10 : Int32)) / (10 : Int32) * (10 : Int32)) fun x3 =>
  lt_ (a0 / (100 : Int32)) fun x5 =>
  if a1 = (1 : Int32) then (
    lt_ (x1 + (1 : Int32)) fun x7 =>
    j_Sk_placeBehind_96 x7 x3 x5
  ) else (
    if a1 = (2 : Int32) then (
      lt_ (x1 + (-1 : Int32)) fun x15 =>
      j_Sk_placeBehind_96 x15 x3 x5
    ) else (
      if a1 = (3 : Int32) then (
        lt_ (x3 + (1 : Int32)) fun x17 =>
        j_Sk_placeBehind_96 x1 x17 x5
      ) else (
        if a1 = (4 : Int32) then (
          lt_ (x3 + (-1 : Int32)) fun x19 =>
          j_Sk_placeBehind_96 x1 x19 x5
        ) else (
          if a1 = (5 : Int32) then (
            lt_ (x5 + (1 : Int32)) fun x21 =>
            j_Sk_placeBehind_96 x1 x3 x21
          ) else (
            if a1 = (6 : Int32) then (
              lt_ (x5 + (-1 : Int32)) fun x23 =>
              j_Sk_placeBehind_96 x1 x3 x23
            ) else (
              j_Sk_placeBehind_96 x1 x3 x5))))))
def b_Sk_layDraft_21 (k : Nat) (a2 : Int32) (a3 : Int32) (s : MS) (rec : Int32 → Int32 → MS → Option ((Int32 × MS) ⊕ (Int32 × MS))) : Option ((Int32 × MS) ⊕ (Int32 × MS)) :=
  if (s.1 k 9) < a3 then (
    some (.inr (a2, s))
  ) else (
    bnd (rl s.2.2 0 (s.2.1 k 4)) fun n12 =>
    if (Int32.ofNat n12) < a3 then (
      some (.inr (a2, s))
    ) else (
      bnd (ra s.2.2 0 (s.2.1 k 4) (a3 - (1 : Int32))) fun k15 =>
      lt_ (f_Sk_placeBehind a2 (s.1 k15 (a3 - (1 : Int32)).toNatClampNeg)) fun x18 =>
      bnd (rf s.2.2 1 (s.2.1 k 0)) fun k20 =>
      bnd (f_Ci_isFree k20 x18 s) fun x23 =>
      if x23 = (0 : Int32) then (
        some (.inl (a3, s))
      ) else (
        bnd (rf s.2.2 12 (s.2.1 k 5)) fun k26 =>
        lt_ (wi s k26 4 a3) fun s28 =>
        bnd (rf s28.2.2 12 (s28.2.1 k 5)) fun k31 =>
        bnd (f_Pa_setPlace k31 a3 x18 s28) fun s35 =>
        lt_ (a3 + (1 : Int32)) fun x36 =>
        rec x18 x36 s35)))
def l_Sk_layDraft_21 (k : Nat) : Nat → Int32 → Int32 → MS → Option ((Int32 × MS) ⊕ (Int32 × MS))
  | 0, _, _, _ => none
  | n + 1, a2, a3, s => b_Sk_layDraft_21 k a2 a3 s (l_Sk_layDraft_21 k n)
def f_Sk_layDraft (k : Nat) (a1 : Int32) (s : MS) : Option (Int32 × MS) :=
  bnd (rf s.2.2 12 (s.2.1 k 5)) fun k1 =>
  lt_ (wi s k1 4 (0 : Int32)) fun s3 =>
  bnd (rf s3.2.2 12 (s3.2.1 k 5)) fun k6 =>
  bnd (f_Pa_setPlace k6 (0 : Int32) a1 s3) fun s10 =>
  el2 (l_Sk_layDraft_21 k 4096 a1 (1 : Int32) s10) some (fun e38 s40 =>
  if (s40.1 k 9) = (0 : Int32) then (
    some ((s40.1 k 9), s40)
  ) else (
    if (f_Sk_isOnGround e38) = (0 : Int32) then (
      some ((s40.1 k 9), s40)
    ) else (
      some ((-1 : Int32), s40))))
def b_Sk_takes_46 (k : Nat) (a3 : Int32) (a4 : Int32) (s : MS) (rec : Int32 → Int32 → Option (Int32)) : Option (Int32) :=
  bnd (rf s.2.2 12 (s.2.1 k 5)) fun k13 =>
  if (s.1 k13 4) < a4 then (
    some a3
  ) else (
    bnd (f_Pa_placeOf k13 (a4 - (1 : Int32)) s) fun x17 =>
    bnd (f_Pa_placeOf k13 a4 s) fun x20 =>
    bnd (rf s.2.2 1 (s.2.1 k 0)) fun k22 =>
    bnd (f_Ci_taken k22 x17 x20 (s.2.1 k22 2) s) fun x25 =>
    lt_ (a3 + x25) fun x27 =>
    lt_ (a4 + (1 : Int32)) fun x29 =>
    rec x27 x29)
def l_Sk_takes_46 (k : Nat) (s : MS) : Nat → Int32 → Int32 → Option (Int32)
  | 0, _, _ => none
  | n + 1, a3, a4 => b_Sk_takes_46 k a3 a4 s (l_Sk_takes_46 k s n)
def f_Sk_takes (k : Nat) (a1 : Int32) (s : MS) : Option (Nat × Int32 × MS) :=
  bnd (f_Sk_machineOf k a1 s) fun x2 =>
  if x2 = none then (
    some (1, (0 : Int32), s)
  ) else (
    bnd (rf s.2.2 11 x2) fun k5 =>
    if (s.1 k5 4) = (0 : Int32) then (
      bnd2 (f_Sk_layDraft k (s.1 k5 3) s) fun x11 s10 =>
      if x11 = (-1 : Int32) then (
        bnd (l_Sk_takes_46 k s10 4096 (0 : Int32) (1 : Int32)) fun e31 =>
        some (0, e31, s10)
      ) else (
        some (0, (-1 : Int32), s10))
    ) else (
      some (0, (-1 : Int32), s)))
def f_Sk_refuse (k : Nat) (a1 : Int32) (a2 : Int32) (s : MS) : Option (Int32 × MS) :=
  lt_ (wi s k 11 ((s.1 k 11) + (1 : Int32))) fun s1 =>
  lt_ (wi s1 k 12 a2) fun s4 =>
  some ((-a1), s4)
def j_Sk_waitingOfFirm_53 (k : Nat) (a1 : Int32) (a2 : Int32) (a3 : Option Nat) (a4 : Int32) (a5 : Int32) (t0 : Option Nat) (s : MS) (rec : Int32 → Int32 → Option (Int32)) : Option (Int32) :=
  if t0 = none then (
    lt_ (a5 + (1 : Int32)) fun x14 =>
    rec a2 x14
  ) else (
    bnd (rf s.2.2 11 t0) fun k16 =>
    if (s.1 k16 0) = a1 then (
      lt_ (a2 + (1 : Int32)) fun x19 =>
      lt_ (a5 + (1 : Int32)) fun x21 =>
      rec x19 x21
    ) else (
      lt_ (a5 + (1 : Int32)) fun x23 =>
      rec a2 x23))
def j_Sk_waitingOfFirm_40 (k : Nat) (a1 : Int32) (a2 : Int32) (a3 : Option Nat) (a4 : Int32) (a5 : Int32) (s : MS) (rec : Int32 → Int32 → Option (Int32)) : Option (Int32) :=
  j_Sk_waitingOfFirm_53 k a1 a2 a3 a4 a5 none s rec
def b_Sk_waitingOfFirm_14 (k : Nat) (a1 : Int32) (a2 : Int32) (a3 : Option Nat) (a4 : Int32) (a5 : Int32) (s : MS) (rec : Int32 → Int32 → Option (Int32)) : Option (Int32) :=
  if a5 < a4 then (
    bnd (ra s.2.2 5 a3 a5) fun k8 =>
    lt_ (s.2.1 k8 a5.toNatClampNeg) fun x10 =>
    if x10 = none then (
      j_Sk_waitingOfFirm_40 k a1 a2 a3 a4 a5 s rec
    ) else (
      bnd (rf s.2.2 12 x10) fun k25 =>
      if (s.1 k25 6) = (0 : Int32) then (
        bnd (f_Sk_machineOf k (s.1 k25 2) s) fun x29 =>
        j_Sk_waitingOfFirm_53 k a1 a2 a3 a4 a5 x29 s rec
      ) else (
        j_Sk_waitingOfFirm_40 k a1 a2 a3 a4 a5 s rec))
  ) else (
    some a2)
def l_Sk_waitingOfFirm_14 (k : Nat) (a1 : Int32) (a3 : Option Nat) (a4 : Int32) (s : MS) : Nat → Int32 → Int32 → Option (Int32)
  | 0, _, _ => none
  | n + 1, a2, a5 => b_Sk_waitingOfFirm_14 k a1 a2 a3 a4 a5 s (l_Sk_waitingOfFirm_14 k a1 a3 a4 s n)
def f_Sk_waitingOfFirm (k : Nat) (a1 : Int32) (s : MS) : Option (Int32) :=
  lt_ (s.2.1 k 3) fun x1 =>
  bnd (rl s.2.2 5 x1) fun n3 =>
  lt_ (Int32.ofNat n3) fun x5 =>
  bnd (l_Sk_waitingOfFirm_14 k a1 x1 x5 s 4096 (0 : Int32) (0 : Int32)) fun e31 =>
  some e31
def j_Sk_placeTooLow_81 (k : Nat) (a1 : Option Nat) (a4 : Int32) (a5 : Int32) (t0 : Int32) (s : MS) (rec : Int32 → Int32 → Option ((Int32) ⊕ (Unit))) : Option ((Int32) ⊕ (Unit)) :=
  if a4 < t0 then (
    some (.inl a5)
  ) else (
    lt_ (a5 + (1 : Int32)) fun x25 =>
    rec a4 x25)
def b_Sk_placeTooLow_8 (k : Nat) (a1 : Option Nat) (a4 : Int32) (a5 : Int32) (s : MS) (rec : Int32 → Int32 → Option ((Int32) ⊕ (Unit))) : Option ((Int32) ⊕ (Unit)) :=
  bnd (rf s.2.2 12 a1) fun k3 =>
  if (s.1 k3 4) < a5 then (
    some (.inr ())
  ) else (
    bnd (f_Pa_placeOf k3 a5 s) fun x7 =>
    bnd (f_Pa_placeOf k3 (a5 - (1 : Int32)) s) fun x10 =>
    bnd (rf s.2.2 1 (s.2.1 k 0)) fun k12 =>
    bnd (f_Ci_taken k12 x10 x7 (s.2.1 k12 2) s) fun x15 =>
    lt_ (a4 - x15) fun x17 =>
    if (f_Sk_isOnGround x7) = (0 : Int32) then (
      bnd (f_Ci_wayHome k12 (x7 - x7 / (100 : Int32) * (100 : Int32)) s) fun x22 =>
      j_Sk_placeTooLow_81 k a1 x17 a5 (x22 + (10 : Int32)) s rec
    ) else (
      j_Sk_placeTooLow_81 k a1 x17 a5 (0 : Int32) s rec))
def l_Sk_placeTooLow_8 (k : Nat) (a1 : Option Nat) (s : MS) : Nat → Int32 → Int32 → Option ((Int32) ⊕ (Unit))
  | 0, _, _ => none
  | n + 1, a4, a5 => b_Sk_placeTooLow_8 k a1 a4 a5 s (l_Sk_placeTooLow_8 k a1 s n)
def f_Sk_placeTooLow (k : Nat) (a1 : Option Nat) (a2 : Int32) (a3 : Int32) (s : MS) : Option (Int32) :=
  lt_ (a2 + (1 : Int32)) fun x1 =>
  el0 (l_Sk_placeTooLow_8 k a1 s 4096 a3 x1) some (some (-1 : Int32))
def b_Sk_roomHolding_2 (k : Nat) (a1 : Option Nat) (a2 : Int32) (a3 : Int32) (s : MS) (rec : Int32 → Option ((Int32) ⊕ (Unit))) : Option ((Int32) ⊕ (Unit)) :=
  bnd (rl s.2.2 3 (s.2.1 k 1)) fun n1 =>
  if a3 < (Int32.ofNat n1) then (
    bnd (ra s.2.2 3 (s.2.1 k 1) a3) fun k4 =>
    bnd (f_Sk_isInRoom a1 a2 (s.2.1 k4 a3.toNatClampNeg) s) fun x7 =>
    if x7 = (0 : Int32) then (
      lt_ (a3 + (1 : Int32)) fun x10 =>
      rec x10
    ) else (
      some (.inl a3))
  ) else (
    some (.inr ()))
def l_Sk_roomHolding_2 (k : Nat) (a1 : Option Nat) (a2 : Int32) (s : MS) : Nat → Int32 → Option ((Int32) ⊕ (Unit))
  | 0, _ => none
  | n + 1, a3 => b_Sk_roomHolding_2 k a1 a2 a3 s (l_Sk_roomHolding_2 k a1 a2 s n)
def f_Sk_roomHolding (k : Nat) (a1 : Option Nat) (a2 : Int32) (s : MS) : Option (Int32) :=
  el0 (l_Sk_roomHolding_2 k a1 a2 s 4096 (0 : Int32)) some (some (-1 : Int32))
def f_Sk_givesWay (a0 : Option Nat) (a1 : Option Nat) (s : MS) : Option (Int32) :=
  bnd (rf s.2.2 12 a1) fun k1 =>
  if (s.1 k1 6) = (1 : Int32) then (
    some (1 : Int32)
  ) else (
    if (s.1 k1 6) = (0 : Int32) then (
      bnd (rf s.2.2 12 a0) fun k5 =>
      if (s.1 k5 5) < (s.1 k1 5) then (
        some (0 : Int32)
      ) else (
        some (1 : Int32))
    ) else (
      some (0 : Int32)))
def j_Sk_isThereAbout_18 (a0 : Option Nat) (a1 : Int32) (a2 : Int32) (s : MS) : Option (Int32) :=
  bnd (rf s.2.2 12 a0) fun k2 =>
  bnd (f_Pa_placeWhen k2 a2 s) fun x5 =>
  if x5 = a1 then (
    some (1 : Int32)
  ) else (
    bnd (f_Pa_placeWhen k2 (a2 + (1 : Int32)) s) fun x9 =>
    if x9 = a1 then (
      some (1 : Int32)
    ) else (
      some (0 : Int32)))
def f_Sk_isThereAbout (a0 : Option Nat) (a1 : Int32) (a2 : Int32) (a3 : Int32) (s : MS) : Option (Int32) :=
  if (a2 - (1 : Int32)) < a3 then (
    j_Sk_isThereAbout_18 a0 a1 a2 s
  ) else (
    bnd (rf s.2.2 12 a0) fun k12 =>
    bnd (f_Pa_placeWhen k12 (a2 - (1 : Int32)) s) fun x15 =>
    if x15 = a1 then (
      some (1 : Int32)
    ) else (
      j_Sk_isThereAbout_18 a0 a1 a2 s))
def b_Sk_meetFrom_2 (a0 : Option Nat) (a1 : Option Nat) (a2 : Int32) (a3 : Int32) (s : MS) (rec : Int32 → Option ((Int32) ⊕ (Unit))) : Option ((Int32) ⊕ (Unit)) :=
  bnd (rf s.2.2 12 a0) fun k1 =>
  if (s.1 k1 4) < a3 then (
    some (.inr ())
  ) else (
    bnd (f_Pa_placeOf k1 a3 s) fun x5 =>
    lt_ ((s.1 k1 3) + a3) fun x7 =>
    if x7 < a2 then (
      lt_ (a3 + (1 : Int32)) fun x10 =>
      rec x10
    ) else (
      if (f_Sk_isOnGround x5) = (0 : Int32) then (
        bnd (f_Sk_isThereAbout a1 x5 x7 a2 s) fun x15 =>
        if x15 = (0 : Int32) then (
          lt_ (a3 + (1 : Int32)) fun x18 =>
          rec x18
        ) else (
          some (.inl (1 : Int32)))
      ) else (
        lt_ (a3 + (1 : Int32)) fun x20 =>
        rec x20)))
def l_Sk_meetFrom_2 (a0 : Option Nat) (a1 : Option Nat) (a2 : Int32) (s : MS) : Nat → Int32 → Option ((Int32) ⊕ (Unit))
  | 0, _ => none
  | n + 1, a3 => b_Sk_meetFrom_2 a0 a1 a2 a3 s (l_Sk_meetFrom_2 a0 a1 a2 s n)
def f_Sk_meetFrom (a0 : Option Nat) (a1 : Option Nat) (a2 : Int32) (s : MS) : Option (Int32) :=
  el0 (l_Sk_meetFrom_2 a0 a1 a2 s 4096 (0 : Int32)) some (some (0 : Int32))
def b_Sk_pathInTheWay_2 (k : Nat) (a1 : Option Nat) (a2 : Int32) (s : MS) (rec : Int32 → Option ((Int32) ⊕ (Unit))) : Option ((Int32) ⊕ (Unit)) :=
  bnd (rl s.2.2 5 (s.2.1 k 3)) fun n1 =>
  if a2 < (Int32.ofNat n1) then (
    bnd (ra s.2.2 5 (s.2.1 k 3) a2) fun k4 =>
    lt_ (s.2.1 k4 a2.toNatClampNeg) fun x6 =>
    if x6 = none then (
      lt_ (a2 + (1 : Int32)) fun x9 =>
      rec x9
    ) else (
      bnd (f_Sk_givesWay a1 x6 s) fun x12 =>
      if x12 = (0 : Int32) then (
        lt_ (a2 + (1 : Int32)) fun x15 =>
        rec x15
      ) else (
        bnd (f_Sk_meetFrom a1 x6 (0 : Int32) s) fun x18 =>
        if x18 = (0 : Int32) then (
          lt_ (a2 + (1 : Int32)) fun x21 =>
          rec x21
        ) else (
          some (.inl a2))))
  ) else (
    some (.inr ()))
def l_Sk_pathInTheWay_2 (k : Nat) (a1 : Option Nat) (s : MS) : Nat → Int32 → Option ((Int32) ⊕ (Unit))
  | 0, _ => none
  | n + 1, a2 => b_Sk_pathInTheWay_2 k a1 a2 s (l_Sk_pathInTheWay_2 k a1 s n)
def f_Sk_pathInTheWay (k : Nat) (a1 : Option Nat) (s : MS) : Option (Int32) :=
  el0 (l_Sk_pathInTheWay_2 k a1 s 4096 (0 : Int32)) some (some (-1 : Int32))
def f_Sk_judge (k : Nat) (a1 : Option Nat) (s : MS) : Option (Int32 × MS) :=
  bnd (rf s.2.2 11 a1) fun k1 =>
  if (s.1 k1 4) = (0 : Int32) then (
    if (s.1 k1 5) = (-1 : Int32) then (
      bnd (f_Sk_waitingOfFirm k (s.1 k1 0) s) fun x6 =>
      if x6 < (3 : Int32) then (
        bnd2 (f_Sk_layDraft k (s.1 k1 3) s) fun x12 s11 =>
        if x12 = (-1 : Int32) then (
          bnd (rf s11.2.2 12 (s11.2.1 k 5)) fun k14 =>
          bnd (f_Ma_batteryAfter k1 ((s11.1 k14 3) - (s11.1 k 10)) s11) fun x17 =>
          bnd (f_Sk_placeTooLow k (s11.2.1 k 5) (0 : Int32) x17 s11) fun x20 =>
          if x20 = (-1 : Int32) then (
            bnd (f_Sk_roomHolding k (s11.2.1 k 5) (0 : Int32) s11) fun x24 =>
            if x24 = (-1 : Int32) then (
              bnd (f_Sk_pathInTheWay k (s11.2.1 k 5) s11) fun x28 =>
              if x28 = (-1 : Int32) then (
                some ((0 : Int32), s11)
              ) else (
                bnd2 (f_Sk_refuse k (6 : Int32) x28 s11) fun x34 s33 =>
                some (x34, s33))
            ) else (
              bnd2 (f_Sk_refuse k (5 : Int32) x24 s11) fun x38 s37 =>
              some (x38, s37))
          ) else (
            bnd2 (f_Sk_refuse k (4 : Int32) x20 s11) fun x42 s41 =>
            some (x42, s41))
        ) else (
          bnd2 (f_Sk_refuse k (3 : Int32) x12 s11) fun x46 s45 =>
          some (x46, s45))
      ) else (
        bnd2 (f_Sk_refuse k (2 : Int32) (-1 : Int32) s) fun x50 s49 =>
        some (x50, s49))
    ) else (
      bnd2 (f_Sk_refuse k (1 : Int32) (s.1 k1 5) s) fun x54 s53 =>
      some (x54, s53))
  ) else (
    bnd2 (f_Sk_refuse k (1 : Int32) (-1 : Int32) s) fun x58 s57 =>
    some (x58, s57))
def b_Sk_withdrawThoseMet_11 (k : Nat) (a1 : Option Nat) (a2 : Option Nat) (a3 : Int32) (a4 : Int32) (s : MS) (rec : Int32 → MS → Option (MS)) : Option (MS) :=
  if a4 < a3 then (
    bnd (ra s.2.2 5 a2 a4) fun k8 =>
    lt_ (s.2.1 k8 a4.toNatClampNeg) fun x10 =>
    if x10 = none then (
      lt_ (a4 + (1 : Int32)) fun x13 =>
      rec x13 s
    ) else (
      bnd (rf s.2.2 12 x10) fun k15 =>
      if (s.1 k15 6) = (0 : Int32) then (
        bnd (f_Sk_meetFrom a1 x10 (0 : Int32) s) fun x19 =>
        if x19 = (0 : Int32) then (
          lt_ (a4 + (1 : Int32)) fun x22 =>
          rec x22 s
        ) else (
          bnd (f_Sk_finish k x10 (3 : Int32) s) fun s26 =>
          lt_ (a4 + (1 : Int32)) fun x27 =>
          rec x27 s26)
      ) else (
        lt_ (a4 + (1 : Int32)) fun x29 =>
        rec x29 s))
  ) else (
    some s)
def l_Sk_withdrawThoseMet_11 (k : Nat) (a1 : Option Nat) (a2 : Option Nat) (a3 : Int32) : Nat → Int32 → MS → Option (MS)
  | 0, _, _ => none
  | n + 1, a4, s => b_Sk_withdrawThoseMet_11 k a1 a2 a3 a4 s (l_Sk_withdrawThoseMet_11 k a1 a2 a3 n)
def f_Sk_withdrawThoseMet (k : Nat) (a1 : Option Nat) (s : MS) : Option (MS) :=
  lt_ (s.2.1 k 3) fun x1 =>
  bnd (rl s.2.2 5 x1) fun n3 =>
  lt_ (Int32.ofNat n3) fun x5 =>
  bnd (l_Sk_withdrawThoseMet_11 k a1 x1 x5 4096 (0 : Int32) s) fun s32 =>
  some s32
def j_Sk_accept_46 (k : Nat) (a1 : Option Nat) (a2 : Int32) (s : MS) : Option (Int32 × MS) :=
  bnd (rf s.2.2 12 (s.2.1 k 5)) fun k7 =>
  lt_ (wi s k7 6 (0 : Int32)) fun s9 =>
  bnd (rf s9.2.2 11 a1) fun k12 =>
  lt_ (wi s9 k12 5 a2) fun s14 =>
  lt_ (wi s14 k 9 (0 : Int32)) fun s17 =>
  lt_ (nid s17 12) fun o20 =>
  lt_ (nw s17 12) fun s22 =>
  bnd (f_Pa_init o20 s22) fun s28 =>
  lt_ (wr s28 k 5 (some o20)) fun s29 =>
  some (a2, s29)
def f_Sk_accept (k : Nat) (a1 : Option Nat) (s : MS) : Option (Int32 × MS) :=
  bnd (f_Sk_withdrawThoseMet k (s.2.1 k 5) s) fun s3 =>
  lt_ (s3.1 k 8) fun x4 =>
  if x4 < (0 : Int32) then (
    j_Sk_accept_46 k a1 x4 s3
  ) else (
    bnd (rl s3.2.2 5 (s3.2.1 k 3)) fun n32 =>
    if x4 < (Int32.ofNat n32) then (
      bnd (rf s3.2.2 12 (s3.2.1 k 5)) fun k37 =>
      bnd (ra s3.2.2 5 (s3.2.1 k 3) x4) fun k35 =>
      lt_ (wr s3 k35 x4.toNatClampNeg (s3.2.1 k 5)) fun s39 =>
      lt_ (wi s39 k 8 ((s39.1 k 8) + (1 : Int32))) fun s42 =>
      j_Sk_accept_46 k a1 x4 s42
    ) else (
      j_Sk_accept_46 k a1 x4 s3))
def f_Sk_file (k : Nat) (a1 : Int32) (a2 : Int32) (a3 : Int32) (s : MS) : Option (Nat × Int32 × MS) :=
  bnd (f_Sk_machineOf k a1 s) fun x2 =>
  if x2 = none then (
    some (1, (0 : Int32), s)
  ) else (
    if (f_Sk_isOut a2 ((s.1 k 10) + (1 : Int32)) ((s.1 k 10) + (200 : Int32))) = (0 : Int32) then (
      if (f_Sk_isOut a3 (0 : Int32) (3 : Int32)) = (0 : Int32) then (
        if (s.1 k 8) < (40 : Int32) then (
          bnd (rf s.2.2 12 (s.2.1 k 5)) fun k10 =>
          lt_ (wi s k10 1 (s.1 k 8)) fun s12 =>
          bnd (rf s12.2.2 12 (s12.2.1 k 5)) fun k15 =>
          lt_ (wi s12 k15 2 a1) fun s17 =>
          bnd (rf s17.2.2 12 (s17.2.1 k 5)) fun k20 =>
          lt_ (wi s17 k20 3 a2) fun s22 =>
          bnd (rf s22.2.2 12 (s22.2.1 k 5)) fun k25 =>
          lt_ (wi s22 k25 5 a3) fun s27 =>
          bnd2 (f_Sk_judge k x2 s27) fun x33 s32 =>
          if x33 < (0 : Int32) then (
            some (0, x33, s32)
          ) else (
            bnd2 (f_Sk_accept k x2 s32) fun x38 s37 =>
            some (0, x38, s37))
        ) else (
          some (3, (0 : Int32), s))
      ) else (
        some (2, (0 : Int32), s))
    ) else (
      some (2, (0 : Int32), s)))
def f_Sk_why (k : Nat) (s : MS) : Option (Int32) :=
  some (s.1 k 12)
def f_Sk_pathOf (k : Nat) (a1 : Int32) (s : MS) : Option (Option Nat) :=
  bnd (rl s.2.2 5 (s.2.1 k 3)) fun n1 =>
  if (f_Sk_isOut a1 (0 : Int32) ((Int32.ofNat n1) - (1 : Int32))) = (0 : Int32) then (
    bnd (ra s.2.2 5 (s.2.1 k 3) a1) fun k5 =>
    some (s.2.1 k5 a1.toNatClampNeg)
  ) else (
    some none)
def f_Sk_withdraw (k : Nat) (a1 : Int32) (s : MS) : Option (Nat × Int32 × MS) :=
  bnd (f_Sk_pathOf k a1 s) fun x2 =>
  if x2 = none then (
    some (1, (0 : Int32), s)
  ) else (
    bnd (rf s.2.2 12 x2) fun k5 =>
    if (s.1 k5 6) = (0 : Int32) then (
      bnd (f_Sk_finish k x2 (3 : Int32) s) fun s10 =>
      some (0, (0 : Int32), s10)
    ) else (
      some (3, (0 : Int32), s)))
def b_Sk_chargeParked_10 (k : Nat) (a1 : Option Nat) (a2 : Int32) (a3 : Int32) (s : MS) (rec : Int32 → MS → Option (MS)) : Option (MS) :=
  if a3 < a2 then (
    bnd (ra s.2.2 4 a1 a3) fun k8 =>
    lt_ (s.2.1 k8 a3.toNatClampNeg) fun x10 =>
    if x10 = none then (
      lt_ (a3 + (1 : Int32)) fun x13 =>
      rec x13 s
    ) else (
      bnd (rf s.2.2 11 x10) fun k15 =>
      if (s.1 k15 4) = (0 : Int32) then (
        bnd (f_Ma_batteryAfter k15 (1 : Int32) s) fun x19 =>
        lt_ (wi s k15 2 x19) fun s21 =>
        lt_ (a3 + (1 : Int32)) fun x24 =>
        rec x24 s21
      ) else (
        lt_ (a3 + (1 : Int32)) fun x26 =>
        rec x26 s))
  ) else (
    some s)
def l_Sk_chargeParked_10 (k : Nat) (a1 : Option Nat) (a2 : Int32) : Nat → Int32 → MS → Option (MS)
  | 0, _, _ => none
  | n + 1, a3, s => b_Sk_chargeParked_10 k a1 a2 a3 s (l_Sk_chargeParked_10 k a1 a2 n)
def f_Sk_chargeParked (k : Nat) (s : MS) : Option (MS) :=
  lt_ (s.2.1 k 2) fun x1 =>
  bnd (rl s.2.2 4 x1) fun n3 =>
  lt_ (Int32.ofNat n3) fun x5 =>
  bnd (l_Sk_chargeParked_10 k x1 x5 4096 (0 : Int32) s) fun s29 =>
  some s29
def j_Sk_beginPaths_58 (k : Nat) (a1 : Option Nat) (a2 : Int32) (a3 : Int32) (a4 : Option Nat) (t0 : Option Nat) (s : MS) (rec : Int32 → MS → Option (MS)) : Option (MS) :=
  if t0 = none then (
    lt_ (a3 + (1 : Int32)) fun x14 =>
    rec x14 s
  ) else (
    bnd (rf s.2.2 12 a4) fun k16 =>
    lt_ (wi s k16 6 (1 : Int32)) fun s18 =>
    bnd (rf s18.2.2 11 t0) fun k21 =>
    lt_ (wi s18 k21 4 (1 : Int32)) fun s23 =>
    lt_ (a3 + (1 : Int32)) fun x26 =>
    rec x26 s23)
def j_Sk_beginPaths_45 (k : Nat) (a1 : Option Nat) (a2 : Int32) (a3 : Int32) (a4 : Option Nat) (s : MS) (rec : Int32 → MS → Option (MS)) : Option (MS) :=
  j_Sk_beginPaths_58 k a1 a2 a3 a4 none s rec
def b_Sk_beginPaths_10 (k : Nat) (a1 : Option Nat) (a2 : Int32) (a3 : Int32) (s : MS) (rec : Int32 → MS → Option (MS)) : Option (MS) :=
  if a3 < a2 then (
    bnd (ra s.2.2 5 a1 a3) fun k8 =>
    lt_ (s.2.1 k8 a3.toNatClampNeg) fun x10 =>
    if x10 = none then (
      j_Sk_beginPaths_45 k a1 a2 a3 x10 s rec
    ) else (
      bnd (rf s.2.2 12 x10) fun k28 =>
      if (s.1 k28 6) = (0 : Int32) then (
        if (s.1 k28 3) = (s.1 k 10) then (
          bnd (f_Sk_machineOf k (s.1 k28 2) s) fun x33 =>
          j_Sk_beginPaths_58 k a1 a2 a3 x10 x33 s rec
        ) else (
          j_Sk_beginPaths_45 k a1 a2 a3 x10 s rec)
      ) else (
        j_Sk_beginPaths_45 k a1 a2 a3 x10 s rec))
  ) else (
    some s)
def l_Sk_beginPaths_10 (k : Nat) (a1 : Option Nat) (a2 : Int32) : Nat → Int32 → MS → Option (MS)
  | 0, _, _ => none
  | n + 1, a3, s => b_Sk_beginPaths_10 k a1 a2 a3 s (l_Sk_beginPaths_10 k a1 a2 n)
def f_Sk_beginPaths (k : Nat) (s : MS) : Option (MS) :=
  lt_ (s.2.1 k 3) fun x1 =>
  bnd (rl s.2.2 5 x1) fun n3 =>
  lt_ (Int32.ofNat n3) fun x5 =>
  bnd (l_Sk_beginPaths_10 k x1 x5 4096 (0 : Int32) s) fun s36 =>
  some s36
def f_Sk_flownBy (k : Nat) (a1 : Option Nat) (s : MS) : Option (Option Nat) :=
  if a1 = none then (
    some none
  ) else (
    bnd (rf s.2.2 11 a1) fun k2 =>
    if (s.1 k2 4) = (1 : Int32) then (
      bnd (f_Sk_pathOf k (s.1 k2 5) s) fun x6 =>
      some x6
    ) else (
      some none))
def f_Sk_moveTo (k : Nat) (a1 : Option Nat) (a2 : Int32) (s : MS) : Option (MS) :=
  bnd (rf s.2.2 11 a1) fun k1 =>
  bnd (rf s.2.2 1 (s.2.1 k 0)) fun k3 =>
  bnd (f_Ci_taken k3 (s.1 k1 3) a2 (s.2.1 k3 3) s) fun x6 =>
  lt_ (wi s k1 2 ((s.1 k1 2) - x6)) fun s8 =>
  lt_ (wi s8 k1 3 a2) fun s11 =>
  some s11
def f_Sk_homeward (a0 : Int32) (a1 : Int32) : (Int32) :=
  lt_ (a0 - a0 / (100 : Int32) * (100 : Int32)) fun x1 =>
  if (f_Sk_isOnGround a0) = (0 : Int32) then (
    if x1 = a1 then (
      (a0 - (100 : Int32))
    ) else (
      if (a0 / (100 : Int32)) < (4 : Int32) then (
        (a0 + (100 : Int32))
      ) else (
        lt_ (x1 - x1 / (10 : Int32) * (10 : Int32)) fun x7 =>
        lt_ (a1 - a1 / (10 : Int32) * (10 : Int32)) fun x9 =>
        if x7 = x9 then (
          if x1 < a1 then (
            (a0 + (10 : Int32))
          ) else (
            (a0 - (10 : Int32)))
        ) else (
          if x7 < x9 then (
            (a0 + (1 : Int32))
          ) else (
            (a0 - (1 : Int32))))))
  ) else (
    a0)
def f_Sk_isUnderWay (a0 : Option Nat) (s : MS) : Option (Int32) :=
  if a0 = none then (
    some (0 : Int32)
  ) else (
    bnd (rf s.2.2 11 a0) fun k2 =>
    if (s.1 k2 4) = (1 : Int32) then (
      some (1 : Int32)
    ) else (
      if (s.1 k2 4) = (2 : Int32) then (
        some (1 : Int32)
      ) else (
        some (0 : Int32))))
def f_Sk_bringDown (k : Nat) (a1 : Option Nat) (s : MS) : Option (MS) :=
  bnd (f_Sk_flownBy k a1 s) fun x2 =>
  if x2 = none then (
    bnd (rf s.2.2 11 a1) fun k5 =>
    lt_ (wi s k5 4 (3 : Int32)) fun s7 =>
    some s7
  ) else (
    bnd (f_Sk_finish k x2 (4 : Int32) s) fun s12 =>
    bnd (rf s12.2.2 11 a1) fun k13 =>
    lt_ (wi s12 k13 4 (3 : Int32)) fun s15 =>
    some s15)
def j_Sk_moveMachines_93 (k : Nat) (a1 : Option Nat) (a2 : Int32) (a3 : Int32) (a4 : Option Nat) (s : MS) (rec : Int32 → MS → Option (MS)) : Option (MS) :=
  bnd (f_Sk_isUnderWay a4 s) fun x18 =>
  if x18 = (0 : Int32) then (
    lt_ (a3 + (1 : Int32)) fun x21 =>
    rec x21 s
  ) else (
    bnd (rf s.2.2 11 a4) fun k23 =>
    if (s.1 k23 2) < (0 : Int32) then (
      bnd (f_Sk_bringDown k a4 s) fun s28 =>
      lt_ (a3 + (1 : Int32)) fun x29 =>
      rec x29 s28
    ) else (
      lt_ (a3 + (1 : Int32)) fun x31 =>
      rec x31 s))
def j_Sk_moveMachines_60 (k : Nat) (a1 : Option Nat) (a2 : Int32) (a3 : Int32) (a4 : Option Nat) (s : MS) (rec : Int32 → MS → Option (MS)) : Option (MS) :=
  if a4 = none then (
    j_Sk_moveMachines_93 k a1 a2 a3 a4 s rec
  ) else (
    bnd (rf s.2.2 11 a4) fun k33 =>
    if (s.1 k33 4) = (2 : Int32) then (
      bnd (f_Sk_moveTo k a4 (f_Sk_homeward (s.1 k33 3) (s.1 k33 6)) s) fun s39 =>
      j_Sk_moveMachines_93 k a1 a2 a3 a4 s39 rec
    ) else (
      j_Sk_moveMachines_93 k a1 a2 a3 a4 s rec))
def b_Sk_moveMachines_10 (k : Nat) (a1 : Option Nat) (a2 : Int32) (a3 : Int32) (s : MS) (rec : Int32 → MS → Option (MS)) : Option (MS) :=
  if a3 < a2 then (
    bnd (ra s.2.2 4 a1 a3) fun k8 =>
    lt_ (s.2.1 k8 a3.toNatClampNeg) fun x10 =>
    bnd (f_Sk_flownBy k x10 s) fun x13 =>
    if x13 = none then (
      j_Sk_moveMachines_60 k a1 a2 a3 x10 s rec
    ) else (
      bnd (rf s.2.2 12 x13) fun k40 =>
      if (s.1 k40 3) < (s.1 k 10) then (
        bnd (f_Pa_placeWhen k40 (s.1 k 10) s) fun x44 =>
        bnd (f_Sk_moveTo k x10 x44 s) fun s48 =>
        j_Sk_moveMachines_60 k a1 a2 a3 x10 s48 rec
      ) else (
        j_Sk_moveMachines_60 k a1 a2 a3 x10 s rec))
  ) else (
    some s)
def l_Sk_moveMachines_10 (k : Nat) (a1 : Option Nat) (a2 : Int32) : Nat → Int32 → MS → Option (MS)
  | 0, _, _ => none
  | n + 1, a3, s => b_Sk_moveMachines_10 k a1 a2 a3 s (l_Sk_moveMachines_10 k a1 a2 n)
def f_Sk_moveMachines (k : Nat) (s : MS) : Option (MS) :=
  lt_ (s.2.1 k 2) fun x1 =>
  bnd (rl s.2.2 4 x1) fun n3 =>
  lt_ (Int32.ofNat n3) fun x5 =>
  bnd (l_Sk_moveMachines_10 k x1 x5 4096 (0 : Int32) s) fun s50 =>
  some s50
def b_Sk_isTogether_31 (k : Nat) (a1 : Int32) (a2 : Option Nat) (a3 : Int32) (s : MS) (rec : Int32 → Option ((Int32) ⊕ (Unit))) : Option ((Int32) ⊕ (Unit)) :=
  bnd (rl s.2.2 4 (s.2.1 k 2)) fun n13 =>
  if a3 < (Int32.ofNat n13) then (
    bnd (ra s.2.2 4 (s.2.1 k 2) a3) fun k16 =>
    lt_ (s.2.1 k16 a3.toNatClampNeg) fun x18 =>
    if a3 = a1 then (
      lt_ (a3 + (1 : Int32)) fun x21 =>
      rec x21
    ) else (
      if x18 = none then (
        lt_ (a3 + (1 : Int32)) fun x24 =>
        rec x24
      ) else (
        bnd (f_Sk_isUnderWay x18 s) fun x27 =>
        if x27 = (0 : Int32) then (
          lt_ (a3 + (1 : Int32)) fun x30 =>
          rec x30
        ) else (
          bnd (rf s.2.2 11 x18) fun k32 =>
          bnd (rf s.2.2 11 a2) fun k34 =>
          if (s.1 k32 3) = (s.1 k34 3) then (
            some (.inl (1 : Int32))
          ) else (
            lt_ (a3 + (1 : Int32)) fun x37 =>
            rec x37))))
  ) else (
    some (.inr ()))
def l_Sk_isTogether_31 (k : Nat) (a1 : Int32) (a2 : Option Nat) (s : MS) : Nat → Int32 → Option ((Int32) ⊕ (Unit))
  | 0, _ => none
  | n + 1, a3 => b_Sk_isTogether_31 k a1 a2 a3 s (l_Sk_isTogether_31 k a1 a2 s n)
def f_Sk_isTogether (k : Nat) (a1 : Int32) (s : MS) : Option (Int32) :=
  bnd (f_Sk_machineOf k a1 s) fun x2 =>
  if x2 = none then (
    some (0 : Int32)
  ) else (
    bnd (f_Sk_isUnderWay x2 s) fun x6 =>
    if x6 = (0 : Int32) then (
      some (0 : Int32)
    ) else (
      bnd (rf s.2.2 11 x2) fun k9 =>
      if (f_Sk_isOnGround (s.1 k9 3)) = (0 : Int32) then (
        el0 (l_Sk_isTogether_31 k a1 x2 s 4096 (0 : Int32)) some (some (0 : Int32))
      ) else (
        some (0 : Int32))))
def b_Sk_bringDownThoseTogether_4 (k : Nat) (a1 : Int32) (a2 : Int32) (s : MS) (rec : Int32 → Int32 → Option (Int32)) : Option (Int32) :=
  bnd (rl s.2.2 4 (s.2.1 k 2)) fun n1 =>
  if a2 < (Int32.ofNat n1) then (
    bnd (f_Sk_isTogether k a2 s) fun x5 =>
    if x5 = (0 : Int32) then (
      lt_ (a2 + (1 : Int32)) fun x8 =>
      rec a1 x8
    ) else (
      lt_ (a1 ||| ((1 : Int32) <<< (a2 &&& (31 : Int32)))) fun x10 =>
      lt_ (a2 + (1 : Int32)) fun x12 =>
      rec x10 x12)
  ) else (
    some a1)
def l_Sk_bringDownThoseTogether_4 (k : Nat) (s : MS) : Nat → Int32 → Int32 → Option (Int32)
  | 0, _, _ => none
  | n + 1, a1, a2 => b_Sk_bringDownThoseTogether_4 k a1 a2 s (l_Sk_bringDownThoseTogether_4 k s n)
def b_Sk_bringDownThoseTogether_35 (k : Nat) (a1 : Int32) (a2 : Int32) (s : MS) (rec : Int32 → MS → Option (MS)) : Option (MS) :=
  bnd (rl s.2.2 4 (s.2.1 k 2)) fun n15 =>
  if a2 < (Int32.ofNat n15) then (
    bnd (ra s.2.2 4 (s.2.1 k 2) a2) fun k18 =>
    lt_ (s.2.1 k18 a2.toNatClampNeg) fun x20 =>
    if x20 = none then (
      lt_ (a2 + (1 : Int32)) fun x23 =>
      rec x23 s
    ) else (
      if ((a1 >>> (a2 &&& (31 : Int32))) &&& (1 : Int32)) = (1 : Int32) then (
        bnd (f_Sk_bringDown k x20 s) fun s28 =>
        lt_ (wi s28 k 13 ((s28.1 k 13) + (1 : Int32))) fun s29 =>
        lt_ (a2 + (1 : Int32)) fun x32 =>
        rec x32 s29
      ) else (
        lt_ (a2 + (1 : Int32)) fun x34 =>
        rec x34 s))
  ) else (
    some s)
def l_Sk_bringDownThoseTogether_35 (k : Nat) (a1 : Int32) : Nat → Int32 → MS → Option (MS)
  | 0, _, _ => none
  | n + 1, a2, s => b_Sk_bringDownThoseTogether_35 k a1 a2 s (l_Sk_bringDownThoseTogether_35 k a1 n)
def f_Sk_bringDownThoseTogether (k : Nat) (s : MS) : Option (MS) :=
  bnd (l_Sk_bringDownThoseTogether_4 k s 4096 (0 : Int32) (0 : Int32)) fun e14 =>
  bnd (l_Sk_bringDownThoseTogether_35 k e14 4096 (0 : Int32) s) fun s37 =>
  some s37
def j_Sk_landMachines_58 (k : Nat) (a1 : Option Nat) (a2 : Int32) (a3 : Int32) (a4 : Option Nat) (s : MS) (rec : Int32 → MS → Option (MS)) : Option (MS) :=
  if a4 = none then (
    lt_ (a3 + (1 : Int32)) fun x17 =>
    rec x17 s
  ) else (
    bnd (rf s.2.2 11 a4) fun k19 =>
    if (s.1 k19 4) = (2 : Int32) then (
      if (f_Sk_isOnGround (s.1 k19 3)) = (0 : Int32) then (
        lt_ (a3 + (1 : Int32)) fun x24 =>
        rec x24 s
      ) else (
        lt_ (wi s k19 4 (0 : Int32)) fun s26 =>
        lt_ (a3 + (1 : Int32)) fun x29 =>
        rec x29 s26)
    ) else (
      lt_ (a3 + (1 : Int32)) fun x31 =>
      rec x31 s))
def b_Sk_landMachines_10 (k : Nat) (a1 : Option Nat) (a2 : Int32) (a3 : Int32) (s : MS) (rec : Int32 → MS → Option (MS)) : Option (MS) :=
  if a3 < a2 then (
    bnd (ra s.2.2 4 a1 a3) fun k8 =>
    lt_ (s.2.1 k8 a3.toNatClampNeg) fun x10 =>
    bnd (f_Sk_flownBy k x10 s) fun x13 =>
    if x13 = none then (
      j_Sk_landMachines_58 k a1 a2 a3 x10 s rec
    ) else (
      bnd (rf s.2.2 12 x13) fun k33 =>
      bnd (f_Pa_end k33 s) fun x36 =>
      if (s.1 k 10) < x36 then (
        j_Sk_landMachines_58 k a1 a2 a3 x10 s rec
      ) else (
        bnd (f_Sk_finish k x13 (2 : Int32) s) fun s41 =>
        bnd (rf s41.2.2 11 x10) fun k42 =>
        lt_ (wi s41 k42 4 (0 : Int32)) fun s44 =>
        j_Sk_landMachines_58 k a1 a2 a3 x10 s44 rec))
  ) else (
    some s)
def l_Sk_landMachines_10 (k : Nat) (a1 : Option Nat) (a2 : Int32) : Nat → Int32 → MS → Option (MS)
  | 0, _, _ => none
  | n + 1, a3, s => b_Sk_landMachines_10 k a1 a2 a3 s (l_Sk_landMachines_10 k a1 a2 n)
def f_Sk_landMachines (k : Nat) (s : MS) : Option (MS) :=
  lt_ (s.2.1 k 2) fun x1 =>
  bnd (rl s.2.2 4 x1) fun n3 =>
  lt_ (Int32.ofNat n3) fun x5 =>
  bnd (l_Sk_landMachines_10 k x1 x5 4096 (0 : Int32) s) fun s48 =>
  some s48
def f_Sk_step (k : Nat) (s : MS) : Option (MS) :=
  lt_ (wi s k 10 ((s.1 k 10) + (1 : Int32))) fun s1 =>
  bnd (f_Sk_chargeParked k s1) fun s6 =>
  bnd (f_Sk_beginPaths k s6) fun s9 =>
  bnd (f_Sk_moveMachines k s9) fun s12 =>
  bnd (f_Sk_bringDownThoseTogether k s12) fun s15 =>
  bnd (f_Sk_landMachines k s15) fun s18 =>
  some s18
def b_Sk_tick_44 (k : Nat) (a1 : Int32) (a2 : Int32) (s : MS) (rec : Int32 → MS → Option (MS)) : Option (MS) :=
  if a2 < a1 then (
    bnd (f_Sk_step k s) fun s7 =>
    lt_ (a2 + (1 : Int32)) fun x8 =>
    rec x8 s7
  ) else (
    some s)
def l_Sk_tick_44 (k : Nat) (a1 : Int32) : Nat → Int32 → MS → Option (MS)
  | 0, _, _ => none
  | n + 1, a2, s => b_Sk_tick_44 k a1 a2 s (l_Sk_tick_44 k a1 n)
def f_Sk_tick (k : Nat) (a1 : Int32) (s : MS) : Option (Nat × Int32 × MS) :=
  if (f_Sk_isOut a1 (1 : Int32) (50 : Int32)) = (0 : Int32) then (
    if (20000 : Int32) < ((s.1 k 10) + a1) then (
      some (3, (0 : Int32), s)
    ) else (
      bnd (l_Sk_tick_44 k a1 4096 (0 : Int32) s) fun s11 =>
      some (0, (s11.1 k 10), s11))
  ) else (
    some (2, (0 : Int32), s))
def f_Sk_lose (k : Nat) (a1 : Int32) (s : MS) : Option (Nat × Int32 × MS) :=
  bnd (f_Sk_machineOf k a1 s) fun x2 =>
  if x2 = none then (
    some (1, (0 : Int32), s)
  ) else (
    bnd (f_Sk_flownBy k x2 s) fun x6 =>
    if x6 = none then (
      some (3, (0 : Int32), s)
    ) else (
      bnd (rf s.2.2 11 x2) fun k9 =>
      if (f_Sk_isOnGround (s.1 k9 3)) = (0 : Int32) then (
        bnd (f_Sk_finish k x6 (4 : Int32) s) fun s15 =>
        lt_ (wi s15 k9 4 (2 : Int32)) fun s16 =>
        bnd (rf s16.2.2 1 (s16.2.1 k 0)) fun k19 =>
        bnd (f_Ci_nearestSpot k19 ((s16.1 k9 3) - (s16.1 k9 3) / (100 : Int32) * (100 : Int32)) s16) fun x22 =>
        lt_ (wi s16 k9 6 x22) fun s24 =>
        some (0, (s24.1 k9 6), s24)
      ) else (
        some (3, (0 : Int32), s))))
def j_Sk_meetsAnyOther_57 (k : Nat) (a1 : Option Nat) (a2 : Option Nat) (a3 : Int32) (a4 : Int32) (a5 : Option Nat) (s : MS) (rec : Int32 → Option ((Int32) ⊕ (Unit))) : Option ((Int32) ⊕ (Unit)) :=
  bnd (f_Sk_meetFrom a1 a5 (s.1 k 10) s) fun x24 =>
  if x24 = (0 : Int32) then (
    lt_ (a4 + (1 : Int32)) fun x27 =>
    rec x27
  ) else (
    some (.inl (1 : Int32)))
def b_Sk_meetsAnyOther_11 (k : Nat) (a1 : Option Nat) (a2 : Option Nat) (a3 : Int32) (a4 : Int32) (s : MS) (rec : Int32 → Option ((Int32) ⊕ (Unit))) : Option ((Int32) ⊕ (Unit)) :=
  if a4 < a3 then (
    bnd (ra s.2.2 5 a2 a4) fun k8 =>
    lt_ (s.2.1 k8 a4.toNatClampNeg) fun x10 =>
    if x10 = none then (
      lt_ (a4 + (1 : Int32)) fun x13 =>
      rec x13
    ) else (
      bnd (rf s.2.2 12 x10) fun k15 =>
      bnd (rf s.2.2 12 a1) fun k17 =>
      if (s.1 k15 1) = (s.1 k17 1) then (
        lt_ (a4 + (1 : Int32)) fun x20 =>
        rec x20
      ) else (
        if (s.1 k15 6) = (1 : Int32) then (
          j_Sk_meetsAnyOther_57 k a1 a2 a3 a4 x10 s rec
        ) else (
          if (s.1 k15 6) = (0 : Int32) then (
            j_Sk_meetsAnyOther_57 k a1 a2 a3 a4 x10 s rec
          ) else (
            lt_ (a4 + (1 : Int32)) fun x30 =>
            rec x30))))
  ) else (
    some (.inr ()))
def l_Sk_meetsAnyOther_11 (k : Nat) (a1 : Option Nat) (a2 : Option Nat) (a3 : Int32) (s : MS) : Nat → Int32 → Option ((Int32) ⊕ (Unit))
  | 0, _ => none
  | n + 1, a4 => b_Sk_meetsAnyOther_11 k a1 a2 a3 a4 s (l_Sk_meetsAnyOther_11 k a1 a2 a3 s n)
def f_Sk_meetsAnyOther (k : Nat) (a1 : Option Nat) (s : MS) : Option (Int32) :=
  lt_ (s.2.1 k 3) fun x1 =>
  bnd (rl s.2.2 5 x1) fun n3 =>
  lt_ (Int32.ofNat n3) fun x5 =>
  el0 (l_Sk_meetsAnyOther_11 k a1 x1 x5 s 4096 (0 : Int32)) some (some (0 : Int32))
def j_Sk_canBeHeld_95 (k : Nat) (a1 : Option Nat) (a2 : Int32) (a3 : Int32) (a4 : Int32) (a5 : Int32) (t0 : Int32) (s : MS) (rec : Int32 → MS → Option (MS)) : Option (MS) :=
  bnd (rf s.2.2 12 a1) fun k25 =>
  bnd (f_Pa_placeOf k25 t0 s) fun x28 =>
  bnd (rf s.2.2 12 (s.2.1 k 5)) fun k30 =>
  bnd (f_Pa_setPlace k30 a5 x28 s) fun s34 =>
  lt_ (a5 + (1 : Int32)) fun x35 =>
  rec x35 s34
def b_Sk_canBeHeld_62 (k : Nat) (a1 : Option Nat) (a2 : Int32) (a3 : Int32) (a4 : Int32) (a5 : Int32) (s : MS) (rec : Int32 → MS → Option (MS)) : Option (MS) :=
  bnd (rf s.2.2 12 (s.2.1 k 5)) fun k21 =>
  if (s.1 k21 4) < a5 then (
    some s
  ) else (
    if a4 < a5 then (
      j_Sk_canBeHeld_95 k a1 a2 a3 a4 a5 (if a4 < (a5 - a2) then (a5 - a2) else a4) s rec
    ) else (
      j_Sk_canBeHeld_95 k a1 a2 a3 a4 a5 a5 s rec))
def l_Sk_canBeHeld_62 (k : Nat) (a1 : Option Nat) (a2 : Int32) (a3 : Int32) (a4 : Int32) : Nat → Int32 → MS → Option (MS)
  | 0, _, _ => none
  | n + 1, a5, s => b_Sk_canBeHeld_62 k a1 a2 a3 a4 a5 s (l_Sk_canBeHeld_62 k a1 a2 a3 a4 n)
def f_Sk_canBeHeld (k : Nat) (a1 : Option Nat) (a2 : Int32) (a3 : Int32) (s : MS) : Option (Int32 × MS) :=
  bnd (rf s.2.2 12 a1) fun k1 =>
  if (80 : Int32) < ((s.1 k1 4) + a2) then (
    some ((0 : Int32), s)
  ) else (
    lt_ ((s.1 k 10) - (s.1 k1 3)) fun x4 =>
    bnd (rf s.2.2 12 (s.2.1 k 5)) fun k6 =>
    lt_ (wi s k6 1 (s.1 k1 1)) fun s8 =>
    bnd (rf s8.2.2 12 (s8.2.1 k 5)) fun k11 =>
    lt_ (wi s8 k11 3 (s8.1 k1 3)) fun s13 =>
    bnd (rf s13.2.2 12 (s13.2.1 k 5)) fun k16 =>
    lt_ (wi s13 k16 4 ((s13.1 k1 4) + a2)) fun s18 =>
    bnd (l_Sk_canBeHeld_62 k a1 a2 a3 x4 4096 (0 : Int32) s18) fun s38 =>
    bnd (f_Sk_roomHolding k (s38.2.1 k 5) (x4 + (1 : Int32)) s38) fun x40 =>
    if x40 = (-1 : Int32) then (
      bnd (f_Sk_placeTooLow k (s38.2.1 k 5) x4 a3 s38) fun x44 =>
      if x44 = (-1 : Int32) then (
        bnd (f_Sk_meetsAnyOther k (s38.2.1 k 5) s38) fun x48 =>
        if x48 = (0 : Int32) then (
          some ((1 : Int32), s38)
        ) else (
          some ((0 : Int32), s38))
      ) else (
        some ((0 : Int32), s38))
    ) else (
      some ((0 : Int32), s38)))
def f_Sk_hold (k : Nat) (a1 : Int32) (a2 : Int32) (s : MS) : Option (Nat × Int32 × MS) :=
  bnd (f_Sk_machineOf k a1 s) fun x2 =>
  if x2 = none then (
    some (1, (0 : Int32), s)
  ) else (
    if (f_Sk_isOut a2 (1 : Int32) (10 : Int32)) = (0 : Int32) then (
      bnd (f_Sk_flownBy k x2 s) fun x8 =>
      if x8 = none then (
        some (3, (0 : Int32), s)
      ) else (
        bnd (rf s.2.2 11 x2) fun k11 =>
        if (f_Sk_isOnGround (s.1 k11 3)) = (0 : Int32) then (
          bnd2 (f_Sk_canBeHeld k x8 a2 (s.1 k11 2) s) fun x18 s17 =>
          if x18 = (0 : Int32) then (
            some (3, (0 : Int32), s17)
          ) else (
            bnd (rf s17.2.2 12 x8) fun k20 =>
            bnd (f_Pa_takePlacesOf k20 (s17.2.1 k 5) s17) fun s24 =>
            bnd (f_Pa_end k20 s24) fun x26 =>
            some (0, x26, s24))
        ) else (
          some (3, (0 : Int32), s)))
    ) else (
      some (2, (0 : Int32), s)))
def f_Sk_time (k : Nat) (s : MS) : Option (Int32) :=
  some (s.1 k 10)
def b_Sk_comesIntoRoom_30 (k : Nat) (a1 : Option Nat) (a2 : Int32) (a3 : Option Nat) (a4 : Int32) (a5 : Int32) (s : MS) (rec : Int32 → Option ((Int32) ⊕ (Unit))) : Option ((Int32) ⊕ (Unit)) :=
  if a5 < a4 then (
    bnd (ra s.2.2 3 a3 a5) fun k11 =>
    lt_ (s.2.1 k11 a5.toNatClampNeg) fun x13 =>
    if x13 = none then (
      lt_ (a5 + (1 : Int32)) fun x16 =>
      rec x16
    ) else (
      bnd (rf s.2.2 12 a1) fun k18 =>
      bnd (f_Pa_placeWhen k18 a2 s) fun x21 =>
      bnd (rf s.2.2 10 x13) fun k23 =>
      bnd (f_Ro_isClosedAt k23 x21 a2 s) fun x26 =>
      if x26 = (0 : Int32) then (
        lt_ (a5 + (1 : Int32)) fun x29 =>
        rec x29
      ) else (
        some (.inl (1 : Int32))))
  ) else (
    some (.inr ()))
def l_Sk_comesIntoRoom_30 (k : Nat) (a1 : Option Nat) (a2 : Int32) (a3 : Option Nat) (a4 : Int32) (s : MS) : Nat → Int32 → Option ((Int32) ⊕ (Unit))
  | 0, _ => none
  | n + 1, a5 => b_Sk_comesIntoRoom_30 k a1 a2 a3 a4 a5 s (l_Sk_comesIntoRoom_30 k a1 a2 a3 a4 s n)
def b_Sk_comesIntoRoom_7 (k : Nat) (a1 : Option Nat) (a2 : Int32) (s : MS) (rec : Int32 → Option ((Int32) ⊕ (Unit))) : Option ((Int32) ⊕ (Unit)) :=
  if ((s.1 k 10) + (10 : Int32)) < a2 then (
    some (.inr ())
  ) else (
    lt_ (s.2.1 k 1) fun x4 =>
    bnd (rl s.2.2 3 x4) fun n6 =>
    lt_ (Int32.ofNat n6) fun x8 =>
    el0 (l_Sk_comesIntoRoom_30 k a1 a2 x4 x8 s 4096 (0 : Int32)) (fun r => some (.inl r)) (lt_ (a2 + (1 : Int32)) fun x31 =>
    rec x31))
def l_Sk_comesIntoRoom_7 (k : Nat) (a1 : Option Nat) (s : MS) : Nat → Int32 → Option ((Int32) ⊕ (Unit))
  | 0, _ => none
  | n + 1, a2 => b_Sk_comesIntoRoom_7 k a1 a2 s (l_Sk_comesIntoRoom_7 k a1 s n)
def f_Sk_comesIntoRoom (k : Nat) (a1 : Option Nat) (s : MS) : Option (Int32) :=
  lt_ ((s.1 k 10) + (1 : Int32)) fun x1 =>
  el0 (l_Sk_comesIntoRoom_7 k a1 s 4096 x1) some (some (0 : Int32))
def b_Sk_comesNear_23 (k : Nat) (a1 : Option Nat) (a2 : Option Nat) (a3 : Int32) (a4 : Int32) (a5 : Int32) (s : MS) (rec : Int32 → Int32 → Int32 → Option ((Int32) ⊕ (Unit))) : Option ((Int32) ⊕ (Unit)) :=
  if ((s.1 k 10) + (10 : Int32)) < a5 then (
    some (.inr ())
  ) else (
    bnd (rf s.2.2 11 a2) fun k11 =>
    lt_ (f_Sk_homeward a4 (s.1 k11 6)) fun x14 =>
    bnd (rf s.2.2 12 a1) fun k16 =>
    bnd (f_Pa_placeWhen k16 a5 s) fun x19 =>
    if (f_Sk_isOnGround x19) = (0 : Int32) then (
      if x19 = a3 then (
        some (.inl (1 : Int32))
      ) else (
        if x19 = a4 then (
          some (.inl (1 : Int32))
        ) else (
          if x19 = x14 then (
            some (.inl (1 : Int32))
          ) else (
            lt_ (a5 + (1 : Int32)) fun x26 =>
            rec a4 x14 x26)))
    ) else (
      lt_ (a5 + (1 : Int32)) fun x28 =>
      rec a4 x14 x28))
def l_Sk_comesNear_23 (k : Nat) (a1 : Option Nat) (a2 : Option Nat) (s : MS) : Nat → Int32 → Int32 → Int32 → Option ((Int32) ⊕ (Unit))
  | 0, _, _, _ => none
  | n + 1, a3, a4, a5 => b_Sk_comesNear_23 k a1 a2 a3 a4 a5 s (l_Sk_comesNear_23 k a1 a2 s n)
def f_Sk_comesNear (k : Nat) (a1 : Option Nat) (a2 : Option Nat) (s : MS) : Option (Int32) :=
  bnd (rf s.2.2 11 a2) fun k1 =>
  lt_ (s.1 k1 3) fun x3 =>
  lt_ (f_Sk_homeward x3 (s.1 k1 6)) fun x6 =>
  lt_ ((s.1 k 10) + (1 : Int32)) fun x8 =>
  el0 (l_Sk_comesNear_23 k a1 a2 s 4096 x3 x6 x8) some (some (0 : Int32))
def b_Sk_comesNearLost_11 (k : Nat) (a1 : Option Nat) (a2 : Option Nat) (a3 : Int32) (a4 : Int32) (s : MS) (rec : Int32 → Option ((Int32) ⊕ (Unit))) : Option ((Int32) ⊕ (Unit)) :=
  if a4 < a3 then (
    bnd (ra s.2.2 4 a2 a4) fun k8 =>
    lt_ (s.2.1 k8 a4.toNatClampNeg) fun x10 =>
    if x10 = none then (
      lt_ (a4 + (1 : Int32)) fun x13 =>
      rec x13
    ) else (
      bnd (rf s.2.2 11 x10) fun k15 =>
      if (s.1 k15 4) = (2 : Int32) then (
        bnd (f_Sk_comesNear k a1 x10 s) fun x19 =>
        if x19 = (0 : Int32) then (
          lt_ (a4 + (1 : Int32)) fun x22 =>
          rec x22
        ) else (
          some (.inl (1 : Int32)))
      ) else (
        lt_ (a4 + (1 : Int32)) fun x24 =>
        rec x24))
  ) else (
    some (.inr ()))
def l_Sk_comesNearLost_11 (k : Nat) (a1 : Option Nat) (a2 : Option Nat) (a3 : Int32) (s : MS) : Nat → Int32 → Option ((Int32) ⊕ (Unit))
  | 0, _ => none
  | n + 1, a4 => b_Sk_comesNearLost_11 k a1 a2 a3 a4 s (l_Sk_comesNearLost_11 k a1 a2 a3 s n)
def f_Sk_comesNearLost (k : Nat) (a1 : Option Nat) (s : MS) : Option (Int32) :=
  lt_ (s.2.1 k 2) fun x1 =>
  bnd (rl s.2.2 4 x1) fun n3 =>
  lt_ (Int32.ofNat n3) fun x5 =>
  el0 (l_Sk_comesNearLost_11 k a1 x1 x5 s 4096 (0 : Int32)) some (some (0 : Int32))
def j_Sk_alerts_44 (k : Nat) (a1 : Int32) (a2 : Int32) (s : MS) (rec : Int32 → Int32 → Option (Int32)) : Option (Int32) :=
  lt_ (a1 ||| ((1 : Int32) <<< (a2 &&& (31 : Int32)))) fun x22 =>
  lt_ (a2 + (1 : Int32)) fun x24 =>
  rec x22 x24
def b_Sk_alerts_4 (k : Nat) (a1 : Int32) (a2 : Int32) (s : MS) (rec : Int32 → Int32 → Option (Int32)) : Option (Int32) :=
  bnd (rl s.2.2 4 (s.2.1 k 2)) fun n1 =>
  if a2 < (Int32.ofNat n1) then (
    bnd (ra s.2.2 4 (s.2.1 k 2) a2) fun k4 =>
    bnd (f_Sk_flownBy k (s.2.1 k4 a2.toNatClampNeg) s) fun x7 =>
    if x7 = none then (
      lt_ (a2 + (1 : Int32)) fun x10 =>
      rec a1 x10
    ) else (
      bnd (f_Sk_comesIntoRoom k x7 s) fun x13 =>
      if x13 = (0 : Int32) then (
        bnd (f_Sk_comesNearLost k x7 s) fun x17 =>
        if x17 = (0 : Int32) then (
          lt_ (a2 + (1 : Int32)) fun x20 =>
          rec a1 x20
        ) else (
          j_Sk_alerts_44 k a1 a2 s rec)
      ) else (
        j_Sk_alerts_44 k a1 a2 s rec))
  ) else (
    some a1)
def l_Sk_alerts_4 (k : Nat) (s : MS) : Nat → Int32 → Int32 → Option (Int32)
  | 0, _, _ => none
  | n + 1, a1, a2 => b_Sk_alerts_4 k a1 a2 s (l_Sk_alerts_4 k s n)
def f_Sk_alerts (k : Nat) (s : MS) : Option (Int32) :=
  bnd (l_Sk_alerts_4 k s 4096 (0 : Int32) (0 : Int32)) fun e26 =>
  some e26
def f_Sk_home (k : Nat) (a1 : Int32) (s : MS) : Option (Nat × Int32 × MS) :=
  if (f_Sk_isNoCell a1) = (0 : Int32) then (
    bnd (rf s.2.2 1 (s.2.1 k 0)) fun k3 =>
    bnd (f_Ci_wayHome k3 a1 s) fun x6 =>
    some (0, x6, s)
  ) else (
    some (1, (0 : Int32), s))
def f_Sk_placeAt (k : Nat) (a1 : Int32) (a2 : Int32) (s : MS) : Option (Nat × Int32 × MS) :=
  bnd (f_Sk_pathOf k a1 s) fun x2 =>
  if x2 = none then (
    some (1, (0 : Int32), s)
  ) else (
    bnd (rf s.2.2 12 x2) fun k5 =>
    bnd (f_Pa_placeWhen k5 a2 s) fun x8 =>
    some (0, x8, s))
def f_Sk_meets (k : Nat) (a1 : Int32) (a2 : Int32) (s : MS) : Option (Nat × Int32 × MS) :=
  bnd (f_Sk_pathOf k a1 s) fun x2 =>
  bnd (f_Sk_pathOf k a2 s) fun x5 =>
  if x2 = none then (
    some (1, (0 : Int32), s)
  ) else (
    if x5 = none then (
      some (1, (0 : Int32), s)
    ) else (
      if a1 = a2 then (
        some (0, (0 : Int32), s)
      ) else (
        bnd (f_Sk_meetFrom x2 x5 (0 : Int32) s) fun x11 =>
        if x11 = (0 : Int32) then (
          some (0, (0 : Int32), s)
        ) else (
          some (0, (1 : Int32), s)))))
def f_Sk_isSameInAir (a0 : Int32) (a1 : Int32) : (Int32) :=
  if a0 = a1 then (
    if (f_Sk_isOnGround a0) = (0 : Int32) then (
      (1 : Int32)
    ) else (
      (0 : Int32))
  ) else (
    (0 : Int32))
def b_Sk_meetTimeByTime_29 (a0 : Option Nat) (a1 : Option Nat) (a3 : Int32) (a4 : Int32) (s : MS) (rec : Int32 → Option ((Int32) ⊕ (Unit))) : Option ((Int32) ⊕ (Unit)) :=
  if a3 < a4 then (
    some (.inr ())
  ) else (
    bnd (rf s.2.2 12 a0) fun k16 =>
    bnd (f_Pa_placeWhen k16 a4 s) fun x19 =>
    bnd (f_Pa_placeWhen k16 (a4 + (1 : Int32)) s) fun x22 =>
    bnd (rf s.2.2 12 a1) fun k24 =>
    bnd (f_Pa_placeWhen k24 a4 s) fun x27 =>
    bnd (f_Pa_placeWhen k24 (a4 + (1 : Int32)) s) fun x30 =>
    if (f_Sk_isSameInAir x19 x27) = (0 : Int32) then (
      if (f_Sk_isSameInAir x19 x30) = (0 : Int32) then (
        if (f_Sk_isSameInAir x22 x27) = (0 : Int32) then (
          lt_ (a4 + (1 : Int32)) fun x38 =>
          rec x38
        ) else (
          some (.inl (1 : Int32)))
      ) else (
        some (.inl (1 : Int32)))
    ) else (
      some (.inl (1 : Int32))))
def l_Sk_meetTimeByTime_29 (a0 : Option Nat) (a1 : Option Nat) (a3 : Int32) (s : MS) : Nat → Int32 → Option ((Int32) ⊕ (Unit))
  | 0, _ => none
  | n + 1, a4 => b_Sk_meetTimeByTime_29 a0 a1 a3 a4 s (l_Sk_meetTimeByTime_29 a0 a1 a3 s n)
def f_Sk_meetTimeByTime (a0 : Option Nat) (a1 : Option Nat) (s : MS) : Option (Int32) :=
  bnd (rf s.2.2 12 a0) fun k1 =>
  bnd (rf s.2.2 12 a1) fun k3 =>
  lt_ ((if (s.1 k1 3) < (s.1 k3 3) then (s.1 k3 3) else (s.1 k1 3)) - (1 : Int32)) fun x5 =>
  bnd (f_Pa_end k1 s) fun x8 =>
  bnd (f_Pa_end k3 s) fun x11 =>
  lt_ (if x11 < x8 then x11 else x8) fun x13 =>
  el0 (l_Sk_meetTimeByTime_29 a0 a1 x13 s 4096 x5) some (some (0 : Int32))
def f_Sk_meetsAnew (k : Nat) (a1 : Int32) (a2 : Int32) (s : MS) : Option (Nat × Int32 × MS) :=
  bnd (f_Sk_pathOf k a1 s) fun x2 =>
  bnd (f_Sk_pathOf k a2 s) fun x5 =>
  if x2 = none then (
    some (1, (0 : Int32), s)
  ) else (
    if x5 = none then (
      some (1, (0 : Int32), s)
    ) else (
      if a1 = a2 then (
        some (0, (0 : Int32), s)
      ) else (
        bnd (f_Sk_meetTimeByTime x2 x5 s) fun x11 =>
        if x11 = (0 : Int32) then (
          some (0, (0 : Int32), s)
        ) else (
          some (0, (1 : Int32), s)))))
def f_Sk_ofMachine (k : Nat) (a1 : Int32) (a2 : Int32) (s : MS) : Option (Nat × Int32 × MS) :=
  bnd (f_Sk_machineOf k a1 s) fun x2 =>
  if x2 = none then (
    some (1, (0 : Int32), s)
  ) else (
    if a2 = (0 : Int32) then (
      bnd (rf s.2.2 11 x2) fun k5 =>
      some (0, (s.1 k5 4), s)
    ) else (
      if a2 = (1 : Int32) then (
        bnd (rf s.2.2 11 x2) fun k7 =>
        some (0, ((s.1 k7 3) - (s.1 k7 3) / (100 : Int32) * (100 : Int32)), s)
      ) else (
        if a2 = (2 : Int32) then (
          bnd (rf s.2.2 11 x2) fun k9 =>
          some (0, ((s.1 k9 3) / (100 : Int32)), s)
        ) else (
          if a2 = (3 : Int32) then (
            bnd (rf s.2.2 11 x2) fun k11 =>
            some (0, (s.1 k11 2), s)
          ) else (
            if a2 = (4 : Int32) then (
              bnd (rf s.2.2 11 x2) fun k13 =>
              some (0, (s.1 k13 0), s)
            ) else (
              if a2 = (5 : Int32) then (
                bnd (rf s.2.2 11 x2) fun k15 =>
                some (0, (s.1 k15 5), s)
              ) else (
                some (2, (0 : Int32), s))))))))
def f_Sk_ofPath (k : Nat) (a1 : Int32) (a2 : Int32) (s : MS) : Option (Nat × Int32 × MS) :=
  bnd (f_Sk_pathOf k a1 s) fun x2 =>
  if x2 = none then (
    some (1, (0 : Int32), s)
  ) else (
    if a2 = (0 : Int32) then (
      bnd (rf s.2.2 12 x2) fun k5 =>
      some (0, (s.1 k5 6), s)
    ) else (
      if a2 = (1 : Int32) then (
        bnd (rf s.2.2 12 x2) fun k7 =>
        some (0, (s.1 k7 2), s)
      ) else (
        if a2 = (2 : Int32) then (
          bnd (rf s.2.2 12 x2) fun k9 =>
          some (0, (s.1 k9 3), s)
        ) else (
          if a2 = (3 : Int32) then (
            bnd (rf s.2.2 12 x2) fun k11 =>
            bnd (f_Pa_end k11 s) fun x14 =>
            some (0, x14, s)
          ) else (
            if a2 = (4 : Int32) then (
              bnd (rf s.2.2 12 x2) fun k16 =>
              some (0, (s.1 k16 5), s)
            ) else (
              some (2, (0 : Int32), s)))))))
def b_Sk_withdrawnPaths_13 (k : Nat) (a1 : Int32) (a2 : Option Nat) (a3 : Int32) (a4 : Int32) (s : MS) (rec : Int32 → Int32 → Option (Int32)) : Option (Int32) :=
  if a4 < a3 then (
    bnd (ra s.2.2 5 a2 a4) fun k8 =>
    lt_ (s.2.1 k8 a4.toNatClampNeg) fun x10 =>
    if x10 = none then (
      lt_ (a4 + (1 : Int32)) fun x13 =>
      rec a1 x13
    ) else (
      bnd (rf s.2.2 12 x10) fun k15 =>
      if (s.1 k15 6) = (3 : Int32) then (
        lt_ (a1 + (1 : Int32)) fun x18 =>
        lt_ (a4 + (1 : Int32)) fun x20 =>
        rec x18 x20
      ) else (
        lt_ (a4 + (1 : Int32)) fun x22 =>
        rec a1 x22))
  ) else (
    some a1)
def l_Sk_withdrawnPaths_13 (k : Nat) (a2 : Option Nat) (a3 : Int32) (s : MS) : Nat → Int32 → Int32 → Option (Int32)
  | 0, _, _ => none
  | n + 1, a1, a4 => b_Sk_withdrawnPaths_13 k a1 a2 a3 a4 s (l_Sk_withdrawnPaths_13 k a2 a3 s n)
def f_Sk_withdrawnPaths (k : Nat) (s : MS) : Option (Int32) :=
  lt_ (s.2.1 k 3) fun x1 =>
  bnd (rl s.2.2 5 x1) fun n3 =>
  lt_ (Int32.ofNat n3) fun x5 =>
  bnd (l_Sk_withdrawnPaths_13 k x1 x5 s 4096 (0 : Int32) (0 : Int32)) fun e24 =>
  some e24
def b_Sk_machinesDown_13 (k : Nat) (a1 : Int32) (a2 : Option Nat) (a3 : Int32) (a4 : Int32) (s : MS) (rec : Int32 → Int32 → Option (Int32)) : Option (Int32) :=
  if a4 < a3 then (
    bnd (ra s.2.2 4 a2 a4) fun k8 =>
    lt_ (s.2.1 k8 a4.toNatClampNeg) fun x10 =>
    if x10 = none then (
      lt_ (a4 + (1 : Int32)) fun x13 =>
      rec a1 x13
    ) else (
      bnd (rf s.2.2 11 x10) fun k15 =>
      if (s.1 k15 4) = (3 : Int32) then (
        lt_ (a1 + (1 : Int32)) fun x18 =>
        lt_ (a4 + (1 : Int32)) fun x20 =>
        rec x18 x20
      ) else (
        lt_ (a4 + (1 : Int32)) fun x22 =>
        rec a1 x22))
  ) else (
    some a1)
def l_Sk_machinesDown_13 (k : Nat) (a2 : Option Nat) (a3 : Int32) (s : MS) : Nat → Int32 → Int32 → Option (Int32)
  | 0, _, _ => none
  | n + 1, a1, a4 => b_Sk_machinesDown_13 k a1 a2 a3 a4 s (l_Sk_machinesDown_13 k a2 a3 s n)
def f_Sk_machinesDown (k : Nat) (s : MS) : Option (Int32) :=
  lt_ (s.2.1 k 2) fun x1 =>
  bnd (rl s.2.2 4 x1) fun n3 =>
  lt_ (Int32.ofNat n3) fun x5 =>
  bnd (l_Sk_machinesDown_13 k x1 x5 s 4096 (0 : Int32) (0 : Int32)) fun e24 =>
  some e24
def f_Sk_count (k : Nat) (a1 : Int32) (s : MS) : Option (Nat × Int32 × MS) :=
  if a1 = (0 : Int32) then (
    some (0, (s.1 k 8), s)
  ) else (
    if a1 = (1 : Int32) then (
      some (0, (s.1 k 11), s)
    ) else (
      if a1 = (2 : Int32) then (
        bnd (f_Sk_withdrawnPaths k s) fun x2 =>
        some (0, x2, s)
      ) else (
        if a1 = (3 : Int32) then (
          bnd (f_Sk_machinesDown k s) fun x5 =>
          some (0, x5, s)
        ) else (
          if a1 = (4 : Int32) then (
            some (0, (s.1 k 13), s)
          ) else (
            some (2, (0 : Int32), s))))))
