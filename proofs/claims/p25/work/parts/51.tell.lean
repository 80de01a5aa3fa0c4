/-! the model: item, left, onAir, items, owed -/
def zLvM (c : zC) (r : Int) : Int := zLfl (zTM c) (zPlM c) (zMk c (zAl (c 146) (c 146 3).toNat)) r
def zUvM (c : zC) (k : Nat) : Int := zUsl (zTM c) (zPlM c) (zMk c (zAl (c 146) (c 146 3).toNat)) k (if c 146 (10 + 4 * (zIt (c 146) k).1) = 2 then -9 else (zIt (c 146) k).1, (zIt (c 146) k).2)
theorem zAl_at {v : Int → Int} {n k : Nat} (h : k < n) : (zAl v n)[k]? = some (zIt v k) := by
  unfold zAl
  rw [List.getElem?_map, List.getElem?_range h]
  rfl
