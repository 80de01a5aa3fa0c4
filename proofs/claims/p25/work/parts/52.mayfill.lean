/-! the model: what may fill -/
def zMf (c : zC) (p b t z : Int) : Prop := c 146 (10 + 4 * p) = 2 ∧ p ≠ b ∧ t + c 146 (10 + 4 * p + 1) ≤ z ∧ ¬ zDk (c 146 1) (fun j => c 146 (80 + 3 * j)) (fun j => c 146 (80 + 3 * j + 1)) (fun j => c 146 (80 + 3 * j + 2)) (c 146 (10 + 4 * p + 2)) t (t + c 146 (10 + 4 * p + 1))
