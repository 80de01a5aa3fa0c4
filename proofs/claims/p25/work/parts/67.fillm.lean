/-! the model: fill -/
def zPt (v v' : Int → Int) (p s e x at9 : Int) : Prop := (0 ≤ at9 ∧ at9 ≤ v 3) ∧ (at9 = 0 ∨ v (230 + 4 * (at9 - 1) + 1) ≤ s) ∧ (∀ j, at9 ≤ j → j < v 3 → s < v (230 + 4 * j + 1)) ∧ (∀ k, v' k = if k = 3 then v 3 + 1 else if k = 230 + 4 * at9 + 3 then x else if k = 230 + 4 * at9 + 2 then e else if k = 230 + 4 * at9 + 1 then s else if k = 230 + 4 * at9 then p else if 230 + 4 * (at9 + 1) ≤ k ∧ k < 230 + 4 * (v 3 + 1) then v (k - 4) else v k)
theorem zPut.pt {c c' : zC} {p s e x at9 : Int} (h : zPut c c' p s e x at9) : zPt (c 146) (c' 146) p s e x at9 := ⟨h.1, h.2.1, h.2.2.1, h.2.2.2.1⟩
/-- all but the items -/
def zSm (v v' : Int → Int) : Prop := ∀ k, 0 ≤ k → k < 230 → k ≠ 3 → v' k = v k
theorem zSm.rf {v : Int → Int} : zSm v v := fun _ _ _ _ => rfl
theorem zSm.tr {a b c : Int → Int} (h : zSm a b) (h2 : zSm b c) : zSm a c := fun k k1 k2 k3 => (h2 k k1 k2 k3).trans (h k k1 k2 k3)
theorem zPt.sm {v v' : Int → Int} {p s e x at9 : Int} (h : zPt v v' p s e x at9) : zSm v v' := fun k k1 k2 k3 => by
  have := h.1
  rw [h.2.2.2 k, if_neg k3, if_neg (by omega), if_neg (by omega), if_neg (by omega), if_neg (by omega), if_neg (by omega)]
theorem zMf_sm {c c1 : zC} (h : zSm (c 146) (c1 146)) (hn : 0 ≤ c 146 1 ∧ c 146 1 ≤ 10) {p b t z : Int} (hp : 0 ≤ p ∧ p < 16) : zMf c1 p b t z ↔ zMf c p b t z := by
  unfold zMf
  rw [h (10 + 4 * p) (by omega) (by omega) (by omega), h (10 + 4 * p + 1) (by omega) (by omega) (by omega), h (10 + 4 * p + 2) (by omega) (by omega) (by omega), h 1 (by omega) (by omega) (by omega)]
  rw [zDk_congr (fun j j1 j2 => ⟨h (80 + 3 * j) (by omega) (by omega) (by omega), h (80 + 3 * j + 1) (by omega) (by omega) (by omega), h (80 + 3 * j + 2) (by omega) (by omega) (by omega)⟩)]
/-- the next filler -/
def zNxO (c : zC) (w : Int → Int) (a z t l q : Int) : Prop := zMf c q l t z ∧ 1 + w (17 * (t + c 146 (10 + 4 * q + 1) - a) + q) = w (17 * (t - a) + l)
def zNx (c : zC) (w : Int → Int) (a z t l q : Int) : Prop := (0 ≤ q ∧ q < c 146 0) ∧ zNxO c w a z t l q ∧ ∀ q', 0 ≤ q' → q' < q → ¬ zNxO c w a z t l q'
theorem zNxO_sm {c c1 : zC} (h : zSm (c 146) (c1 146)) (hn : 0 ≤ c 146 1 ∧ c 146 1 ≤ 10) {w : Int → Int} {a z t l q : Int} (hp : 0 ≤ q ∧ q < 16) : zNxO c1 w a z t l q ↔ zNxO c w a z t l q := by
  unfold zNxO
  rw [zMf_sm h hn hp, h (10 + 4 * q + 1) (by omega) (by omega) (by omega)]
theorem zNx_sm {c c1 : zC} (h : zSm (c 146) (c1 146)) (hn : 0 ≤ c 146 1 ∧ c 146 1 ≤ 10) (hpn : 0 ≤ c 146 0 ∧ c 146 0 ≤ 16) {w : Int → Int} {a z t l q : Int} (hx : zNx c1 w a z t l q) : zNx c w a z t l q := by
  obtain ⟨h1, h2, h3⟩ := hx
  rw [h 0 (by omega) (by omega) (by omega)] at h1
  exact ⟨h1, (zNxO_sm h hn (by omega)).mp h2, fun q' q1 q2 h9 => h3 q' q1 q2 ((zNxO_sm h hn (by omega)).mpr h9)⟩
/-- the fillers put one after the other -/
def zFls (c : zC) (w : Int → Int) (a z : Int) : List Int → (Int → Int) → Int → Int → (Int → Int) → Prop
  | [], v, t, _, v' => ¬ t < z ∧ v' = v
  | q :: r, v, t, l, v' => t < z ∧ zNx c w a z t l q ∧ ∃ at9 v1, zPt v v1 q t (c 146 (10 + 4 * q + 1)) 0 at9 ∧ zFls c w a z r v1 (t + c 146 (10 + 4 * q + 1)) q v'
def zBf (c : zC) (a n x : Int) : Prop := (x = 16 ∧ ∀ j, 0 ≤ j → j < n → c 146 (230 + 4 * j + 1) + c 146 (230 + 4 * j + 2) ≠ a) ∨ ∃ j, 0 ≤ j ∧ j < n ∧ c 146 (230 + 4 * j + 1) + c 146 (230 + 4 * j + 2) = a ∧ x = c 146 (230 + 4 * j + 0)
def zBh (c : zC) (z n x : Int) : Prop := (x = -1 ∧ ∀ j, 0 ≤ j → j < n → c 146 (230 + 4 * j + 1) ≠ z) ∨ ∃ j, 0 ≤ j ∧ j < n ∧ c 146 (230 + 4 * j + 1) = z ∧ x = c 146 (230 + 4 * j + 0)
def zFlM (c c' : zC) (a z x : Int) : Prop := ∃ (be bh : Int) (c1 : zC), zBf c a (c 146 3) be ∧ zBh c z (c 146 3) bh ∧ zMs c c1 a z bh ∧ ((999 ≤ c1 153 be ∧ x = -9 ∧ c' = c1) ∨ (c1 153 be < 999 ∧ 60 < c 146 3 + c1 153 be ∧ x = -3 ∧ c' = c1) ∨ (c1 153 be < 999 ∧ c 146 3 + c1 153 be ≤ 60 ∧ x = c1 153 be ∧ ∃ (c2 : zC) (l : List Int), zDid c1 c2 ∧ zFls c (c1 153) a z l (c 146) a be (c' 146) ∧ (∀ r, r ≠ 146 → c' r = c2 r) ∧ zBd c'))
theorem zBf_y {c : zC} {a n x : Int} (h : zBf c a n x) (h0 : 0 ≤ n) (e : c 146 (230 + 4 * n + 1) + c 146 (230 + 4 * n + 2) = a) : zBf c a (n + 1) (c 146 (230 + 4 * n + 0)) := Or.inr ⟨n, h0, by omega, e, rfl⟩
theorem zBf_n {c : zC} {a n x : Int} (h : zBf c a n x) (h0 : 0 ≤ n) (e : c 146 (230 + 4 * n + 1) + c 146 (230 + 4 * n + 2) ≠ a) : zBf c a (n + 1) x := by
  rcases h with ⟨h1, h2⟩ | ⟨j, j1, j2, j3, j4⟩
  · refine Or.inl ⟨h1, fun j j1 j2 => ?_⟩
    by_cases e9 : j = n
    · subst e9
      exact e
    · exact h2 j j1 (by omega)
  · exact Or.inr ⟨j, j1, by omega, j3, j4⟩
theorem zBh_y {c : zC} {a n x : Int} (h : zBh c a n x) (h0 : 0 ≤ n) (e : c 146 (230 + 4 * n + 1) = a) : zBh c a (n + 1) (c 146 (230 + 4 * n + 0)) := Or.inr ⟨n, h0, by omega, e, rfl⟩
theorem zBh_n {c : zC} {a n x : Int} (h : zBh c a n x) (h0 : 0 ≤ n) (e : c 146 (230 + 4 * n + 1) ≠ a) : zBh c a (n + 1) x := by
  rcases h with ⟨h1, h2⟩ | ⟨j, j1, j2, j3, j4⟩
  · refine Or.inl ⟨h1, fun j j1 j2 => ?_⟩
    by_cases e9 : j = n
    · subst e9
      exact e
    · exact h2 j j1 (by omega)
  · exact Or.inr ⟨j, j1, by omega, j3, j4⟩
