/-! calls that change the city -/
section C3
variable {a A : AT} {r : Nat → Nat → Option Nat} {n : Nat → Nat} {nr nm np : Int}
end C3
