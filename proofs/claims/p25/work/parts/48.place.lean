/-! the model: place -/
theorem zObM_0 {c : zC} {p s : Int} (h : zObM c p s 0) : ¬ 60 ≤ c 146 3 := by
  unfold zObM zFlt at h
  rcases h with h | h | h | h | h
  · exact absurd h.2 (by decide)
  all_goals exact h.1
/-- what place leaves behind -/
def zPl (c c' : zC) (p s fx x : Int) : Prop := ∃ (f : Int) (c1 : zC), zObM c p s f ∧ zFm c c1 ∧ zBd c1 ∧ ((f ≠ 0 ∧ x = f ∧ c' = c1) ∨ (f = 0 ∧ ∃ c2, zDid c1 c2 ∧ zPut c2 c' p s (c 146 (10 + 4 * p + 1)) fx x))
