/-! the model: runOver -/
def zRO : Nat → (Int → Int) → Int → Int → (Int → Int) → Int → Prop
  | 0, _, _, _, _, _ => False
  | f + 1, v, i, e, v', d => (¬ (i < v 3 ∧ v (230 + 4 * i + 1) < e) ∧ v' = v ∧ d = 0) ∨ ((i < v 3 ∧ v (230 + 4 * i + 1) < e) ∧ ((zYes v i e ∧ zRO f (zKeV v i e) (i + 1) (zNe v i e) v' d) ∨ (¬ zYes v i e ∧ ∃ d1, zRO f (zDrV (zOwV v (v (230 + 4 * i + 0))) i) i e v' d1 ∧ d = d1 + 1)))
theorem zRO_u : ∀ (f g : Nat) (v : Int → Int) (i e : Int) (v1 v2 : Int → Int) (d1 d2 : Int), zRO f v i e v1 d1 → zRO g v i e v2 d2 → v1 = v2 ∧ d1 = d2
  | 0, _, _, _, _, _, _, _, _, h, _ => absurd h id
  | _ + 1, 0, _, _, _, _, _, _, _, _, h => absurd h id
  | f + 1, g + 1, v, i, e, v1, v2, d1, d2, h, k => by
    rcases h with ⟨h1, h2, h3⟩ | ⟨h1, ⟨h2, h3⟩ | ⟨h2, x, h3, h4⟩⟩
    · rcases k with ⟨k1, k2, k3⟩ | ⟨k1, _⟩
      · exact ⟨h2.trans k2.symm, h3.trans k3.symm⟩
      · exact absurd k1 h1
    · rcases k with ⟨k1, _⟩ | ⟨k1, ⟨k2, k3⟩ | ⟨k2, _⟩⟩
      · exact absurd h1 k1
      · exact zRO_u f g _ _ _ _ _ _ _ h3 k3
      · exact absurd h2 k2
    · rcases k with ⟨k1, _⟩ | ⟨k1, ⟨k2, k3⟩ | ⟨k2, y, k3, k4⟩⟩
      · exact absurd h1 k1
      · exact absurd k2 h2
      · have := zRO_u f g _ _ _ _ _ _ _ h3 k3
        exact ⟨this.1, by omega⟩
def zLgV (v : Int → Int) (it mi : Int) : Int → Int := fun k => if k = 230 + 4 * it + 2 then v k + mi else v k
