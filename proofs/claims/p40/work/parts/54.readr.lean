/-! a law's text: how the reference reads it -/
def sgW (x : Int32) : Int32 := if 0 ≤ x then x else if x = -98 then 1 else if x = -110 then 2 else if x = -109 then 3 else if x = -115 then 4 else 0
section ReadR
variable {a : Nat → Nat} {S0 S : St} {t : Nat → Nat} {len : Nat}
end ReadR

