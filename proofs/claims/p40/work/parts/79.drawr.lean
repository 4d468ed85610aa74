/-! drawings: the reference's lots -/
section DrawR
variable {a : Nat → Nat} {S : St} {n : Nat} {v : Nat → Nat → Nat} {b : Option (List Line)}
/-- what a drawing shows: ten times the colour, and the other one -/
def shwN (v : Nat → Nat → Nat) (b : Option (List Line)) (n : Nat) (s : Int32) : Nat := 10 * v (1 + dsd v b (dcd v n s) (rnd s)) (dcd v n s) + v (2 - dsd v b (dcd v n s) (rnd s)) (dcd v n s)

end DrawR

