/-! the model: mayPlace, drops, act, undo -/
def zActed (g : Int → Int) (c c' : zC) (m : Int) : Prop := c' 145 2 = m + 1 ∧ (∀ k, k ≠ 2 → c' 145 k = c 145 k) ∧ (∀ r, r ≠ 147 → r ≠ 145 → c' r = c r) ∧ (∀ k, c' 147 k = if 480 * m ≤ k ∧ k < 480 * m + 480 then c 146 (k - 480 * m) else g k) ∧ zBd c'
