/-! the model: the table of the fewest fillers -/
def zBs (z b t p : Int) : Int := if t = z ∧ (p = 16 ∨ p ≠ b) then 0 else 999
def zRw (c : zC) (w : Int → Int) (a z b t p n : Int) : Prop := (w (17 * (t - a) + p) ≤ zBs z b t p ∧ 0 ≤ w (17 * (t - a) + p)) ∧ (t < z → ∀ q, 0 ≤ q → q < n → zMf c q (-1) t z → p ≠ q → w (17 * (t - a) + p) ≤ 1 + w (17 * (t + c 146 (10 + 4 * q + 1) - a) + q)) ∧ (w (17 * (t - a) + p) = zBs z b t p ∨ (t < z ∧ ∃ q, 0 ≤ q ∧ q < n ∧ zMf c q (-1) t z ∧ p ≠ q ∧ w (17 * (t - a) + p) = 1 + w (17 * (t + c 146 (10 + 4 * q + 1) - a) + q)))
theorem zMf_c {c c1 : zC} (e : c1 146 = c 146) (p b t z : Int) : zMf c1 p b t z = zMf c p b t z := by
  unfold zMf
  rw [e]
theorem zRw_c {c : zC} {w w' : Int → Int} {a z b t p n : Int} (hlen : ∀ q, 0 ≤ q → q < n → 1 ≤ c 146 (10 + 4 * q + 1)) (hp : 0 ≤ p) (h : ∀ k, 17 * (t - a) ≤ k → w' k = w k) (hr : zRw c w a z b t p n) : zRw c w' a z b t p n := by
  obtain ⟨h1, h2, h3⟩ := hr
  have e1 := h (17 * (t - a) + p) (by omega)
  refine ⟨by omega, fun t1 q q1 q2 q3 q4 => ?_, ?_⟩
  · have e2 := h (17 * (t + c 146 (10 + 4 * q + 1) - a) + q) (by have := hlen q q1 q2; omega)
    have := h2 t1 q q1 q2 q3 q4
    omega
  · rcases h3 with h3 | ⟨t1, q, q1, q2, q3, q4, q5⟩
    · exact Or.inl (by omega)
    · have e2 := h (17 * (t + c 146 (10 + 4 * q + 1) - a) + q) (by have := hlen q q1 q2; omega)
      exact Or.inr ⟨t1, q, q1, q2, q3, q4, by omega⟩
theorem zRw_n {c : zC} {w : Int → Int} {a z b t p q : Int} (hno : t < z → ¬ zMf c q (-1) t z) (hr : zRw c w a z b t p q) : zRw c w a z b t p (q + 1) := by
  obtain ⟨h1, h2, h3⟩ := hr
  refine ⟨h1, fun t1 q' q1 q2 q3 q4 => ?_, ?_⟩
  · by_cases e : q' = q
    · subst e
      exact absurd q3 (hno t1)
    · exact h2 t1 q' q1 (by omega) q3 q4
  · rcases h3 with h3 | ⟨t1, q', q1, q2, q3, q4, q5⟩
    · exact Or.inl h3
    · exact Or.inr ⟨t1, q', q1, by omega, q3, q4, q5⟩
theorem zRw_z {c : zC} {w : Int → Int} {a z b t p q n : Int} (hno : ¬ t < z) (hr : zRw c w a z b t p q) : zRw c w a z b t p n := by
  obtain ⟨h1, h2, h3⟩ := hr
  refine ⟨h1, fun t1 => absurd t1 hno, ?_⟩
  rcases h3 with h3 | ⟨t1, _⟩
  · exact Or.inl h3
  · exact absurd t1 hno
theorem zRw_s {c : zC} {w w' : Int → Int} {a z b t p q e : Int} (hlen : ∀ q', 0 ≤ q' → q' < q + 1 → 1 ≤ c 146 (10 + 4 * q' + 1)) (hp : 0 ≤ p ∧ p < 17) (hq : 0 ≤ q) (hm : zMf c q (-1) t z) (ht : t < z) (he : e = 1 + w (17 * (t + c 146 (10 + 4 * q + 1) - a) + q)) (he0 : 0 ≤ e)
    (hw : ∀ k, w' k = if 17 * (t - a) ≤ k ∧ k < 17 * (t - a) + 17 then (if k ≠ 17 * (t - a) + q ∧ e < w k then e else w k) else w k) (hr : zRw c w a z b t p q) : zRw c w' a z b t p (q + 1) := by
  obtain ⟨h1, h2, h3⟩ := hr
  have e1 := hw (17 * (t - a) + p)
  rw [if_pos (by omega)] at e1
  have eU : ∀ q', 0 ≤ q' → q' < q + 1 → w' (17 * (t + c 146 (10 + 4 * q' + 1) - a) + q') = w (17 * (t + c 146 (10 + 4 * q' + 1) - a) + q') := fun q' q1 q2 => by
    have := hlen q' q1 q2
    rw [hw, if_neg (by omega)]
  have eq := eU q hq (by omega)
  by_cases hc : p ≠ q ∧ e < w (17 * (t - a) + p)
  · rw [if_pos (by omega)] at e1
    refine ⟨by omega, fun t1 q' q1 q2 q3 q4 => ?_, Or.inr ⟨ht, q, hq, by omega, hm, hc.1, by omega⟩⟩
    have e2 := eU q' q1 q2
    by_cases e9 : q' = q
    · subst e9
      omega
    · have := h2 t1 q' q1 (by omega) q3 q4
      omega
  · rw [if_neg (by omega)] at e1
    refine ⟨by omega, fun t1 q' q1 q2 q3 q4 => ?_, ?_⟩
    · have e2 := eU q' q1 q2
      by_cases e9 : q' = q
      · subst e9
        omega
      · have := h2 t1 q' q1 (by omega) q3 q4
        omega
    · rcases h3 with h3 | ⟨t1, q', q1, q2, q3, q4, q5⟩
      · exact Or.inl (by omega)
      · have e2 := eU q' q1 (by omega)
        exact Or.inr ⟨t1, q', q1, by omega, q3, q4, by omega⟩
def zMs (c c' : zC) (a z b : Int) : Prop := (∀ t p, a ≤ t → t ≤ z → 0 ≤ p → p < 17 → zRw c (c' 153) a z b t p (c 146 0)) ∧ (∀ r, r ≠ 153 → c' r = c r) ∧ zBd c'
