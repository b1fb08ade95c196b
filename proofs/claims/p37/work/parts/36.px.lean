/-- the bounds of the reference's numbers -/
def Mk1 (m : CS) : Prop := (0 ≤ m 0 0 2 ∧ m 0 0 2 ≤ 12) ∧ (0 ≤ m 0 0 14 ∧ m 0 0 14 ≤ 20)

