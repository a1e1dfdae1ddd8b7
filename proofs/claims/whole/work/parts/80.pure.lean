theorem law_true {L : Nat} {xs : Nat → Int32} (hL : L ≤ 3072) : f_La_law L xs m0 = some 1 := sorry
