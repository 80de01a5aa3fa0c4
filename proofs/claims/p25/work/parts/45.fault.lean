/-! the model: whether a programme may start -/
def zMk (c : zC) (l : List zEn) : List zEn := l.map (fun x => (if c 146 (10 + 4 * x.1) = 2 then -9 else x.1, x.2))
theorem zMk_get {c : zC} {l : List zEn} {k : Nat} {x : zEn} (h : l[k]? = some x) : (zMk c l)[k]? = some (if c 146 (10 + 4 * x.1) = 2 then -9 else x.1, x.2) := by
  unfold zMk
  rw [List.getElem?_map, h]
  rfl
theorem zLM_l {c : zC} {l : List zEn} (h : zRepM c l) : ∀ k : Nat, k ≤ l.length → zLM c k = zLfl (zTM c) (zPlM c) ((zMk c l).take k)
  | 0, _ => by simp [zLM, zLf, zLfl]
  | k + 1, hk => by
    have ih := zLM_l h k (by omega)
    have hlt : k < l.length := by omega
    have hx : l[k]? = some l[k] := List.getElem?_eq_getElem hlt
    obtain ⟨e1, e2, e3⟩ := h.2 k _ hx
    rw [List.take_succ, zMk_get hx, Option.toList_some, zLfl_snoc, ← ih]
    unfold zStp
    dsimp only
    rw [← e1, ← e2, show l[k].2.2 = zEeM c k by unfold zEeM; omega]
    rfl
theorem zUM_l {c : zC} {l : List zEn} (h : zRepM c l) {k : Nat} {x : zEn} (hx : l[k]? = some x) : zUM c k = zUsl (zTM c) (zPlM c) (zMk c l) k (if c 146 (10 + 4 * x.1) = 2 then -9 else x.1, x.2) := by
  obtain ⟨e1, e2, e3⟩ := h.2 k x hx
  have e4 := zLM_l h k (Nat.le_of_lt (List.getElem?_eq_some_iff.mp hx).1)
  unfold zUsl
  rw [← e4]
  dsimp only
  rw [← e1, ← e2, show x.2.2 = zEeM c k by unfold zEeM; omega]
  rfl
/-- every entry of a programme finds a right -/
def zOkp (T : zRT) (pl : Int → Int) (p : Int) (l : List zEn) : Prop := ∀ (k : Nat) (x : zEn), l[k]? = some x → x.1 = p → zUsl T pl l k x ≠ -9
theorem zBrk_l {c : zC} {l : List zEn} (h : zRepM c l) {p : Int} (hp : 0 ≤ p) : (∃ j, 0 ≤ j ∧ j < c 145 8 ∧ c 148 j = p ∧ zUM c j.toNat < 0 ∧ c 146 (10 + 4 * p) ≠ 2) ↔ ¬ (c 146 (10 + 4 * p) = 2 ∨ zOkp (zTM c) (zPlM c) p (zMk c l)) := by
  constructor
  · rintro ⟨j, j1, j2, j3, j4, j5⟩ h1
    have hlt : j.toNat < l.length := by rw [h.1] at j2; omega
    have hx : l[j.toNat]? = some l[j.toNat] := List.getElem?_eq_getElem hlt
    have e1 := (h.2 _ _ hx).1
    rw [show ((j.toNat : Nat) : Int) = j by omega] at e1
    have e2 := zUM_l h hx
    rcases h1 with h1 | h1
    · exact j5 h1
    · have h2 := h1 j.toNat _ (zMk_get hx) (by rw [← e1, j3]; dsimp only; rw [if_neg j5])
      rw [← e2] at h2
      have h3 := zBst_in (zTM c) (zLf (zTM c) (zPlM c) (zEpM c) (c 149) (zEeM c) j.toNat) (zEpM c j.toNat) (c 149 j.toNat) (zEeM c j.toNat) (zTM c).1
      have h4 : zUM c j.toNat = zBst (zTM c) (zLf (zTM c) (zPlM c) (zEpM c) (c 149) (zEeM c) j.toNat) (zEpM c j.toNat) (c 149 j.toNat) (zEeM c j.toNat) (zTM c).1 := rfl
      rw [← h4] at h3
      omega
  · intro h1
    refine Classical.byContradiction (fun h2 => h1 (Or.inr (fun k x hx hxp => ?_)))
    intro h3
    unfold zMk at hx
    rw [List.getElem?_map, Option.map_eq_some_iff] at hx
    obtain ⟨y, hy, rfl⟩ := hx
    have hk2 : c 146 (10 + 4 * p) ≠ 2 := fun h => h1 (Or.inl h)
    have e1 := (h.2 _ _ hy).1
    have hlt := (List.getElem?_eq_some_iff.mp hy).1
    dsimp only at hxp
    by_cases e9 : c 146 (10 + 4 * y.1) = 2
    · rw [if_pos e9] at hxp
      omega
    · rw [if_neg e9] at hxp
      have e2 := zUM_l h hy
      exact h2 ⟨k, by omega, by rw [h.1]; omega, by omega, by
        rw [show ((k : Int)).toNat = k by omega, e2, h3]
        decide, hk2⟩
theorem zRepM_len {c : zC} {l : List zEn} (h : zRepM c l) : c 145 8 = l.length := h.1
/-- all items of the model's row -/
def zIt (v : Int → Int) (k : Nat) : zEn := (v (230 + 4 * (k : Int) + 0), (v (230 + 4 * (k : Int) + 1), v (230 + 4 * (k : Int) + 1) + v (230 + 4 * (k : Int) + 2)))
def zAl (v : Int → Int) (n : Nat) : List zEn := (List.range n).map (zIt v)
theorem zAl_get {v : Int → Int} {n k : Nat} {x : zEn} (h : (zAl v n)[k]? = some x) : k < n ∧ x = zIt v k := by
  unfold zAl at h
  rw [List.getElem?_map, Option.map_eq_some_iff] at h
  obtain ⟨j, h1, h2⟩ := h
  have h3 := List.getElem?_eq_some_iff.mp h1
  obtain ⟨h4, h5⟩ := h3
  simp at h4 h5
  subst h5
  exact ⟨h4, h2.symm⟩
def zObM (c : zC) (p s x : Int) : Prop := zFlt (60 ≤ c 146 3) (10080 < s + c 146 (10 + 4 * p + 1) ∨ zHit (c 146 3) (fun j => c 146 (230 + 4 * j + 1)) (fun j => c 146 (230 + 4 * j + 2)) s (s + c 146 (10 + 4 * p + 1))) (c 146 (10 + 4 * p) = 2 ∨ zOkp (zTM c) (zPlM c) p (zMk c (zInsB (zAl (c 146) (c 146 3).toNat) (p, (s, s + c 146 (10 + 4 * p + 1)))))) (zDk (c 146 1) (fun j => c 146 (80 + 3 * j)) (fun j => c 146 (80 + 3 * j + 1)) (fun j => c 146 (80 + 3 * j + 2)) (c 146 (10 + 4 * p + 2)) s (s + c 146 (10 + 4 * p + 1))) x
