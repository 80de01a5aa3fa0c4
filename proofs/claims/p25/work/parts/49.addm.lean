/-! the model: programmes, rights and blackouts -/
def zRow (c c' : zC) (q : Int) (g : Int → Int) : Prop := (∀ k, c' 146 k = if k = q then c 146 q + 1 else g k) ∧ (∀ r, r ≠ 146 → c' r = c r) ∧ zBd c'
def zW4 (g : Int → Int) (b w0 w1 w2 w3 : Int) (k : Int) : Int := if k = b + 3 then w3 else if k = b + 2 then w2 else if k = b + 1 then w1 else if k = b then w0 else g k
def zW3 (g : Int → Int) (b w0 w1 w2 : Int) (k : Int) : Int := if k = b + 2 then w2 else if k = b + 1 then w1 else if k = b then w0 else g k
