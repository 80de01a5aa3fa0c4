/-! the model: the earliest start -/
theorem zFlt_u {f a b d : Prop} {x y : Int} (h : zFlt f a b d x) (h' : zFlt f a b d y) : x = y := by
  unfold zFlt at h h'
  by_cases hf : f <;> by_cases ha : a <;> by_cases hb : b <;> by_cases hd : d <;> simp [hf, ha, hb, hd] at h h' <;> omega
theorem zObM_u {c : zC} {p s x y : Int} (h : zObM c p s x) (h' : zObM c p s y) : x = y := zFlt_u h h'
theorem zObM_c {c c1 : zC} {p s x : Int} (e : c1 146 = c 146) : zObM c1 p s x = zObM c p s x := by
  unfold zObM zTM zPlM zMk
  rw [e]
/-- the first start -/
def zErl (c : zC) (p a x : Int) : Prop := (x = -9 ∧ ∀ j, a ≤ j → j ≤ a + 1439 → j < 10080 → ¬ zObM c p j 0) ∨ (a ≤ x ∧ x ≤ a + 1439 ∧ x < 10080 ∧ zObM c p x 0 ∧ ∀ j, a ≤ j → j < x → ¬ zObM c p j 0)
