/-! fill: class and model together -/
theorem pt_it {v v' : Int → Int} {p s e x at9 : Int} (h : zPt v v' p s e x at9) {i : Int} (h0 : 0 ≤ i) (h1 : i < v 3 + 1) : (v' (230 + 4 * i + 1) = s ∧ v' (230 + 4 * i + 2) = e) ∨ ∃ j, 0 ≤ j ∧ j < v 3 ∧ v' (230 + 4 * i + 1) = v (230 + 4 * j + 1) ∧ v' (230 + 4 * i + 2) = v (230 + 4 * j + 2) := by
  obtain ⟨t1, t2, t3, t4⟩ := h
  rcases Int.lt_trichotomy i at9 with h9 | h9 | h9
  · refine Or.inr ⟨i, h0, by omega, ?_, ?_⟩
    · rw [t4, if_neg (by omega), if_neg (by omega), if_neg (by omega), if_neg (by omega), if_neg (by omega), if_neg (by omega)]
    · rw [t4, if_neg (by omega), if_neg (by omega), if_neg (by omega), if_neg (by omega), if_neg (by omega), if_neg (by omega)]
  · refine Or.inl ⟨?_, ?_⟩
    · rw [t4, if_neg (by omega), if_neg (by omega), if_neg (by omega), if_pos (by omega)]
    · rw [t4, if_neg (by omega), if_neg (by omega), if_pos (by omega)]
  · refine Or.inr ⟨i - 1, by omega, by omega, ?_, ?_⟩
    · rw [t4, if_neg (by omega), if_neg (by omega), if_neg (by omega), if_neg (by omega), if_neg (by omega), if_pos (by omega), show 230 + 4 * i + 1 - 4 = 230 + 4 * (i - 1) + 1 by omega]
    · rw [t4, if_neg (by omega), if_neg (by omega), if_neg (by omega), if_neg (by omega), if_neg (by omega), if_pos (by omega), show 230 + 4 * i + 2 - 4 = 230 + 4 * (i - 1) + 2 by omega]
theorem zNx_e {c c1 : zC} (e : c1 146 = c 146) (w : Int → Int) (a z t l q : Int) : zNx c1 w a z t l q = zNx c w a z t l q := by
  unfold zNx zNxO zMf
  rw [e]
theorem zRw_e {c c1 : zC} (e : c1 146 = c 146) (w : Int → Int) (a z b t p n : Int) : zRw c1 w a z b t p n = zRw c w a z b t p n := by
  unfold zRw zMf
  rw [e]
theorem zFls_e {c c1 : zC} (e : c1 146 = c 146) (w : Int → Int) (a z : Int) : ∀ (s : List Int) (v : Int → Int) (t l : Int) (v' : Int → Int), zFls c1 w a z s v t l v' → zFls c w a z s v t l v'
  | [], _, _, _, _, h => h
  | q :: r, v, t, l, v', ⟨h1, h2, at9, v1, h3, h4⟩ => by
    rw [zNx_e e] at h2
    rw [e] at h3 h4
    exact ⟨h1, h2, at9, v1, h3, zFls_e e w a z r _ _ _ _ h4⟩
theorem zPs_fr : ∀ (s : List Int) (cc : zC) (t : Int) (cc' : zC), zPs s cc t cc' → (∀ r, (r < 24 ∨ 28 < r) → cc' r = cc r) ∧ (zBd cc → zBd cc')
  | [], cc, t, cc', h => by
    have h2 : cc' = cc := h
    rw [h2]
    exact ⟨fun _ _ => rfl, fun h => h⟩
  | q :: s, cc, t, cc', ⟨c1, h1, h2⟩ => by
    obtain ⟨f, b⟩ := zPs_fr s c1 _ cc' h2
    exact ⟨fun r hr => (f r hr).trans (h1.2.2.1 r hr), fun _ => b h1.2.2.2.2.2.2.2⟩
section SG
variable {c : zC} {B : Int}
end SG
