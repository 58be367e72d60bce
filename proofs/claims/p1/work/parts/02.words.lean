/-- what set takes -/
def st_ok (a b : Int32) : Prop := ¬ a < 0 ∧ ¬ 2000 < a ∧ ¬ b < 1 ∧ b ≤ 5000
