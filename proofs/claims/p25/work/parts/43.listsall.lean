/-! the model: all items listed; rights given -/
def zPlM (c : zC) : Int → Int := fun r => c 146 (110 + 4 * r + 3)
def zEpM (c : zC) : Int → Int := fun k => if c 146 (10 + 4 * c 148 k) = 2 then -9 else c 148 k
def zEeM (c : zC) : Int → Int := fun k => c 149 k + c 150 k
theorem zBst_no (T : zRT) (left : Int → Int) (s e : Int) : ∀ k : Nat, (∀ j : Int, 0 ≤ j → j < k → 0 ≤ T.2.1 j) → zBst T left (-9) s e k = -9
  | 0, _ => rfl
  | k + 1, h => by
    have ih := zBst_no T left s e k (fun j h1 h2 => h j h1 (by omega))
    have hk := h k (by omega) (by omega)
    unfold zBst
    rw [if_neg (by omega)]
    exact ih
