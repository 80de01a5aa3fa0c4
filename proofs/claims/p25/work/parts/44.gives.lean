/-! the model: rights given; whether broken -/
def zUM (c : zC) (k : Nat) : Int := zUs (zTM c) (zPlM c) (zEpM c) (c 149) (zEeM c) k
def zLM (c : zC) (k : Nat) : Int → Int := zLf (zTM c) (zPlM c) (zEpM c) (c 149) (zEeM c) k
def zGvn (c c' : zC) : Prop := (∀ r, r ≠ 151 → r ≠ 152 → c' r = c r) ∧ zBd c' ∧ (∀ j, 0 ≤ j → j < c 145 8 → c' 151 j = zUM c j.toNat) ∧ (∀ r, 0 ≤ r → r < c 146 2 → c' 152 r = zLM c (c 145 8).toNat r)
