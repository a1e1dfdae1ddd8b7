/-! calls that ask, 2 -/
section C2
variable {a : AT} {r : Nat → Nat → Option Nat} {n : Nat → Nat}
theorem gd_T {β : Type} {i : Decidable True} (v : Option β) : @gd β True i v = v := if_pos trivial
end C2
