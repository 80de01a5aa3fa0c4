/-! a week's cells against a row; what holds of a row -/
def zRep (c : zC) (q : Nat) (v : Int → Int) : Prop := (c (q + 1) 0 = v 0 ∧ c (q + 6) 0 = v 2 ∧ c (q + 11) 0 = v 1 ∧ c (q + 15) 0 = v 3) ∧ (∀ p, 0 ≤ p → p < v 0 → c (q + 2) p = v (10 + 4 * p) ∧ c (q + 3) p = v (10 + 4 * p + 1) ∧ c (q + 4) p = v (10 + 4 * p + 2) ∧ c (q + 5) p = v (10 + 4 * p + 3)) ∧ (∀ r, 0 ≤ r → r < v 2 → c (q + 7) r = v (110 + 4 * r) ∧ c (q + 8) r = v (110 + 4 * r + 1) ∧ c (q + 9) r = v (110 + 4 * r + 2) ∧ c (q + 10) r = v (110 + 4 * r + 3)) ∧ (∀ b, 0 ≤ b → b < v 1 → c (q + 12) b = v (80 + 3 * b) ∧ c (q + 13) b = v (80 + 3 * b + 1) ∧ c (q + 14) b = v (80 + 3 * b + 2)) ∧ (∀ i, 0 ≤ i → i < v 3 → c (q + 16) i = v (230 + 4 * i + 0) ∧ c (q + 17) i = v (230 + 4 * i + 1) ∧ c (q + 18) i = v (230 + 4 * i + 2) ∧ c (q + 19) i = v (230 + 4 * i + 3))
def zInv (B : Int) (v : Int → Int) : Prop := ((0 ≤ v 0 ∧ v 0 ≤ 16) ∧ (0 ≤ v 1 ∧ v 1 ≤ 10) ∧ (0 ≤ v 2 ∧ v 2 ≤ 30) ∧ (0 ≤ v 3 ∧ v 3 ≤ 60)) ∧ (∀ p, 0 ≤ p → p < v 0 → (0 ≤ v (10 + 4 * p) ∧ v (10 + 4 * p) ≤ 3) ∧ (1 ≤ v (10 + 4 * p + 1) ∧ v (10 + 4 * p + 1) ≤ 240) ∧ (0 ≤ v (10 + 4 * p + 2) ∧ v (10 + 4 * p + 2) ≤ 3)) ∧ (∀ p, 0 ≤ p → p < 16 → 0 ≤ v (10 + 4 * p + 3) ∧ v (10 + 4 * p + 3) ≤ B) ∧ (∀ r, 0 ≤ r → r < v 2 → (0 ≤ v (110 + 4 * r) ∧ v (110 + 4 * r) < v 0) ∧ (0 ≤ v (110 + 4 * r + 1) ∧ v (110 + 4 * r + 1) < v (110 + 4 * r + 2) ∧ v (110 + 4 * r + 2) ≤ 10080) ∧ (1 ≤ v (110 + 4 * r + 3) ∧ v (110 + 4 * r + 3) ≤ 50)) ∧ (∀ b, 0 ≤ b → b < v 1 → (0 ≤ v (80 + 3 * b) ∧ v (80 + 3 * b) < v (80 + 3 * b + 1) ∧ v (80 + 3 * b + 1) ≤ 1440) ∧ (0 ≤ v (80 + 3 * b + 2) ∧ v (80 + 3 * b + 2) ≤ 3)) ∧ (∀ i, 0 ≤ i → i < v 3 → (0 ≤ v (230 + 4 * i + 0) ∧ v (230 + 4 * i + 0) < v 0) ∧ 0 ≤ v (230 + 4 * i + 1) ∧ 1 ≤ v (230 + 4 * i + 2) ∧ v (230 + 4 * i + 1) + v (230 + 4 * i + 2) ≤ 10080 ∧ (v (230 + 4 * i + 3) = 0 ∨ v (230 + 4 * i + 3) = 1)) ∧ (∀ i j, 0 ≤ i → i < j → j < v 3 → v (230 + 4 * i + 1) + v (230 + 4 * i + 2) ≤ v (230 + 4 * j + 1))
theorem zInv.up {B B' : Int} {v : Int → Int} (h : zInv B v) (hB : B ≤ B') : zInv B' v :=
  ⟨h.1, h.2.1, fun p p1 p2 => ⟨(h.2.2.1 p p1 p2).1, Int.le_trans (h.2.2.1 p p1 p2).2 hB⟩, h.2.2.2⟩
/-- rows that agree where they are read -/
def zAg (v w : Int → Int) : Prop := ∀ k, 0 ≤ k → k < 480 → w k = v k
theorem zInv_ag {B : Int} {v w : Int → Int} (h : zInv B v) (e : zAg v w) : zInv B w := by
  obtain ⟨⟨a0, a1, a2, a3⟩, h1, h2, h3, h4, h5, h6⟩ := h
  have e0 := e 0 (by omega) (by omega)
  have e1 := e 1 (by omega) (by omega)
  have e2 := e 2 (by omega) (by omega)
  have e3 := e 3 (by omega) (by omega)
  refine ⟨by omega, fun p p1 p2 => ?_, fun p p1 p2 => ?_, fun r r1 r2 => ?_, fun b b1 b2 => ?_, fun i i1 i2 => ?_, fun i j i1 i2 j2 => ?_⟩
  · rw [e _ (by omega) (by omega), e _ (by omega) (by omega), e _ (by omega) (by omega)]
    exact h1 p p1 (by omega)
  · rw [e _ (by omega) (by omega)]
    exact h2 p p1 p2
  · rw [e _ (by omega) (by omega), e _ (by omega) (by omega), e _ (by omega) (by omega), e _ (by omega) (by omega), e _ (by omega) (by omega)]
    exact h3 r r1 (by omega)
  · rw [e _ (by omega) (by omega), e _ (by omega) (by omega), e _ (by omega) (by omega)]
    exact h4 b b1 (by omega)
  · rw [e _ (by omega) (by omega), e _ (by omega) (by omega), e _ (by omega) (by omega), e _ (by omega) (by omega), e _ (by omega) (by omega)]
    exact h5 i i1 (by omega)
  · rw [e _ (by omega) (by omega), e _ (by omega) (by omega), e _ (by omega) (by omega)]
    exact h6 i j i1 i2 (by omega)
theorem zRep_ag {c : zC} {q : Nat} {B : Int} {v w : Int → Int} (I : zInv B v) (h : zRep c q v) (e : zAg v w) : zRep c q w := by
  obtain ⟨⟨a0, a1, a2, a3⟩, -⟩ := I
  obtain ⟨h0, h1, h2, h3, h4⟩ := h
  have e0 := e 0 (by omega) (by omega)
  have e1 := e 1 (by omega) (by omega)
  have e2 := e 2 (by omega) (by omega)
  have e3 := e 3 (by omega) (by omega)
  refine ⟨by omega, fun p p1 p2 => ?_, fun r r1 r2 => ?_, fun b b1 b2 => ?_, fun i i1 i2 => ?_⟩
  · rw [e _ (by omega) (by omega), e _ (by omega) (by omega), e _ (by omega) (by omega), e _ (by omega) (by omega)]
    exact h1 p p1 (by omega)
  · rw [e _ (by omega) (by omega), e _ (by omega) (by omega), e _ (by omega) (by omega), e _ (by omega) (by omega)]
    exact h2 r r1 (by omega)
  · rw [e _ (by omega) (by omega), e _ (by omega) (by omega), e _ (by omega) (by omega)]
    exact h3 b b1 (by omega)
  · rw [e _ (by omega) (by omega), e _ (by omega) (by omega), e _ (by omega) (by omega), e _ (by omega) (by omega)]
    exact h4 i i1 (by omega)
theorem zRep_fr {c c' : zC} {q : Nat} {v : Int → Int} (h : zRep c q v) (e : ∀ r, q < r → r ≤ q + 19 → c' r = c r) : zRep c' q v := by
  unfold zRep
  rw [e (q + 1) (by omega) (by omega), e (q + 2) (by omega) (by omega), e (q + 3) (by omega) (by omega), e (q + 4) (by omega) (by omega), e (q + 5) (by omega) (by omega), e (q + 6) (by omega) (by omega), e (q + 7) (by omega) (by omega), e (q + 8) (by omega) (by omega), e (q + 9) (by omega) (by omega), e (q + 10) (by omega) (by omega), e (q + 11) (by omega) (by omega), e (q + 12) (by omega) (by omega), e (q + 13) (by omega) (by omega), e (q + 14) (by omega) (by omega), e (q + 15) (by omega) (by omega), e (q + 16) (by omega) (by omega), e (q + 17) (by omega) (by omega), e (q + 18) (by omega) (by omega), e (q + 19) (by omega) (by omega)]
  exact h
/-- the week that is now, by its cells -/
theorem zRep_9 {c : zC} {v : Int → Int} (h : zRep c 9 v) : (c 10 0 = v 0 ∧ c 15 0 = v 2 ∧ c 20 0 = v 1 ∧ c 24 0 = v 3) ∧ (∀ p, 0 ≤ p → p < v 0 → c 11 p = v (10 + 4 * p) ∧ c 12 p = v (10 + 4 * p + 1) ∧ c 13 p = v (10 + 4 * p + 2) ∧ c 14 p = v (10 + 4 * p + 3)) ∧ (∀ r, 0 ≤ r → r < v 2 → c 16 r = v (110 + 4 * r) ∧ c 17 r = v (110 + 4 * r + 1) ∧ c 18 r = v (110 + 4 * r + 2) ∧ c 19 r = v (110 + 4 * r + 3)) ∧ (∀ b, 0 ≤ b → b < v 1 → c 21 b = v (80 + 3 * b) ∧ c 22 b = v (80 + 3 * b + 1) ∧ c 23 b = v (80 + 3 * b + 2)) ∧ (∀ i, 0 ≤ i → i < v 3 → c 25 i = v (230 + 4 * i + 0) ∧ c 26 i = v (230 + 4 * i + 1) ∧ c 27 i = v (230 + 4 * i + 2) ∧ c 28 i = v (230 + 4 * i + 3)) := h
section ZX
variable {c : zC} {v : Int → Int} {B : Int}
theorem zX_c (R : zRep c 9 v) (I : zInv B v) : 0 ≤ c 24 0 ∧ c 24 0 ≤ 60 := by
  have := (zRep_9 R).1
  have := I.1
  omega
theorem zX_it (R : zRep c 9 v) (I : zInv B v) : ∀ i, 0 ≤ i → i < c 24 0 → 0 ≤ c 25 i ∧ c 25 i < c 10 0 ∧ 0 ≤ c 26 i ∧ 1 ≤ c 27 i ∧ c 26 i + c 27 i ≤ 10080 := fun i i1 i2 => by
  have a := (zRep_9 R).1
  have b := (zRep_9 R).2.2.2.2 i i1 (by omega)
  have d := I.2.2.2.2.2.1 i i1 (by omega)
  omega
theorem zX_pq (R : zRep c 9 v) (I : zInv B v) : 0 ≤ c 10 0 ∧ c 10 0 ≤ 16 := by
  have := (zRep_9 R).1
  have := I.1
  omega
theorem zX_it2 (R : zRep c 9 v) (I : zInv B v) : ∀ i, 0 ≤ i → i < c 24 0 → 0 ≤ c 25 i ∧ c 25 i < 16 ∧ 0 ≤ c 26 i ∧ c 26 i ≤ 20000 ∧ 0 ≤ c 27 i ∧ c 27 i ≤ 20000 := fun i i1 i2 => by
  have := zX_it R I i i1 i2
  have := zX_pq R I
  omega
theorem zX_r (R : zRep c 9 v) (I : zInv B v) : 0 ≤ c 15 0 ∧ c 15 0 ≤ 30 := by
  have := (zRep_9 R).1
  have := I.1
  omega
theorem zX_pl (R : zRep c 9 v) (I : zInv B v) : ∀ r, 0 ≤ r → r < c 15 0 → 0 ≤ c 19 r ∧ c 19 r ≤ 50 := fun i i1 i2 => by
  have a := (zRep_9 R).1
  have b := (zRep_9 R).2.2.1 i i1 (by omega)
  have d := I.2.2.2.1 i i1 (by omega)
  omega
theorem zX_bl (R : zRep c 9 v) (I : zInv B v) : ∀ j, 0 ≤ j → j < c 20 0 → 0 ≤ c 21 j ∧ c 21 j < c 22 j ∧ c 22 j ≤ 1440 := fun i i1 i2 => by
  have a := (zRep_9 R).1
  have b := (zRep_9 R).2.2.2.1 i i1 (by omega)
  have d := I.2.2.2.2.1 i i1 (by omega)
  omega
theorem zX_n (R : zRep c 9 v) (I : zInv B v) : 0 ≤ c 20 0 ∧ c 20 0 ≤ 10 := by
  have := (zRep_9 R).1
  have := I.1
  omega
theorem zX_ln (R : zRep c 9 v) (I : zInv B v) : ∀ p, 0 ≤ p → p < c 10 0 → 1 ≤ c 12 p ∧ c 12 p ≤ 240 := fun i i1 i2 => by
  have a := (zRep_9 R).1
  have b := (zRep_9 R).2.1 i i1 (by omega)
  have d := I.2.1 i i1 (by omega)
  omega
theorem zX_ow (R : zRep c 9 v) (I : zInv B v) : ∀ p, 0 ≤ p → p < c 10 0 → 0 ≤ c 14 p ∧ c 14 p ≤ B := fun i i1 i2 => by
  have a := (zRep_9 R).1
  have b := (zRep_9 R).2.1 i i1 (by omega)
  have d := I.2.2.1 i i1 (by have := I.1; omega)
  omega
theorem zX_cn (R : zRep c 9 v) (I : zInv B v) : zCnW c 9 := ⟨zX_pq R I, zX_r R I, zX_n R I, zX_c R I⟩
theorem zM_it (I : zInv B v) : ∀ i, 0 ≤ i → i < v 3 → 0 ≤ v (230 + 4 * i + 0) ∧ v (230 + 4 * i + 0) < 16 ∧ 0 ≤ v (230 + 4 * i + 1) ∧ v (230 + 4 * i + 1) ≤ 20000 ∧ 0 ≤ v (230 + 4 * i + 2) ∧ v (230 + 4 * i + 2) ≤ 20000 := fun i i1 i2 => by
  have d := I.2.2.2.2.2.1 i i1 i2
  have := I.1
  omega
theorem zM_it2 (I : zInv B v) : ∀ i, 0 ≤ i → i < v 3 → 0 ≤ v (230 + 4 * i + 0) ∧ v (230 + 4 * i + 0) < 16 ∧ 0 ≤ v (230 + 4 * i + 1) ∧ 0 ≤ v (230 + 4 * i + 2) ∧ v (230 + 4 * i + 1) + v (230 + 4 * i + 2) ≤ 10080 := fun i i1 i2 => by
  have d := I.2.2.2.2.2.1 i i1 i2
  have := I.1
  omega
theorem zM_ip (I : zInv B v) : ∀ i, 0 ≤ i → i < v 3 → 0 ≤ v (230 + 4 * i + 0) ∧ v (230 + 4 * i + 0) < 16 := fun i i1 i2 => by
  have d := zM_it I i i1 i2
  omega
theorem zM_pl (I : zInv B v) : ∀ r, 0 ≤ r → r < v 2 → 0 ≤ v (110 + 4 * r + 3) ∧ v (110 + 4 * r + 3) ≤ 50 ∧ 0 ≤ v (110 + 4 * r) := fun i i1 i2 => by
  have d := I.2.2.2.1 i i1 i2
  omega
theorem zM_bl (I : zInv B v) : ∀ j, 0 ≤ j → j < v 1 → 0 ≤ v (80 + 3 * j) ∧ v (80 + 3 * j) < v (80 + 3 * j + 1) ∧ v (80 + 3 * j + 1) ≤ 1440 := fun i i1 i2 => (I.2.2.2.2.1 i i1 i2).1
theorem zM_ln (I : zInv B v) : ∀ p, 0 ≤ p → p < v 0 → 1 ≤ v (10 + 4 * p + 1) ∧ v (10 + 4 * p + 1) ≤ 240 := fun i i1 i2 => (I.2.1 i i1 i2).2.1
theorem zM_so (I : zInv B v) : zSrt (zAl v (v 3).toNat) := by
  intro j k x y hjk hx hy
  obtain ⟨k1, rfl⟩ := zAl_get hx
  obtain ⟨k2, rfl⟩ := zAl_get hy
  unfold zIt
  dsimp only
  rcases Nat.lt_or_eq_of_le hjk with h | h
  · have a := I.2.2.2.2.2.2 j k (by omega) (by omega) (by omega)
    have b := I.2.2.2.2.2.1 j (by omega) (by omega)
    omega
  · rw [h]
    exact Int.le_refl _
end ZX
/-! what stands in the way: one thing for both -/
theorem zFlt_iff {f a b d f' a' b' d' : Prop} {x : Int} (h1 : f ↔ f') (h2 : a ↔ a') (h3 : ¬ a → (b ↔ b')) (h4 : d ↔ d') : zFlt f a b d x ↔ zFlt f' a' b' d' x := by
  by_cases ha : a
  · unfold zFlt
    constructor
    · rintro (h | h | h | h | h)
      · exact Or.inl ⟨h1.mp h.1, h.2⟩
      · exact Or.inr (Or.inl ⟨fun h9 => h.1 (h1.mpr h9), h2.mp h.2.1, h.2.2⟩)
      · exact absurd ha h.2.1
      · exact absurd ha h.2.1
      · exact absurd ha h.2.1
    · have ha' := h2.mp ha
      rintro (h | h | h | h | h)
      · exact Or.inl ⟨h1.mpr h.1, h.2⟩
      · exact Or.inr (Or.inl ⟨fun h9 => h.1 (h1.mp h9), ha, h.2.2⟩)
      · exact absurd ha' h.2.1
      · exact absurd ha' h.2.1
      · exact absurd ha' h.2.1
  · unfold zFlt
    rw [h1, h2, h3 ha, h4]
theorem zGt_in {c : zC} {p : Int} : ∀ (k : Nat) (y : zEn), y ∈ zGt c p k → y.1 = p
  | 0, y, h => by cases h
  | k + 1, y, h => by
    unfold zGt at h
    split at h
    · rcases zIns_mem.mp h with h | h
      · rw [h]
      · exact zGt_in k y h
    · exact zGt_in k y h
theorem zAl_s (v : Int → Int) (k : Nat) : zAl v (k + 1) = zAl v k ++ [zIt v k] := by
  unfold zAl
  rw [List.range_succ, List.map_append]
  rfl
theorem zGt_pm {c : zC} {v : Int → Int} {p : Int} {n : Nat} (h : ∀ i : Int, 0 ≤ i → i < n → c 25 i = v (230 + 4 * i + 0) ∧ c 26 i = v (230 + 4 * i + 1) ∧ c 27 i = v (230 + 4 * i + 2)) : ∀ k : Nat, k ≤ n → (zGt c p k).Perm ((zAl v k).filter (fun x => decide (x.1 = p)))
  | 0, _ => List.Perm.refl _
  | k + 1, hk => by
    have ih := zGt_pm (p := p) h k (by omega)
    obtain ⟨e1, e2, e3⟩ := h k (by omega) (by omega)
    rw [zAl_s, List.filter_append]
    unfold zGt
    by_cases e : c 25 k = p
    · rw [if_pos e]
      have hf : [zIt v k].filter (fun x => decide (x.1 = p)) = [zIt v k] := by
        rw [List.filter_cons_of_pos (by show decide ((zIt v k).1 = p) = true; exact decide_eq_true (e1.symm.trans e))]
        rfl
      have hz : (p, (c 26 k, c 26 k + c 27 k)) = zIt v k := by
        unfold zIt
        rw [← e1, ← e2, ← e3, e]
      rw [hf, hz]
      refine (zInsL_pm _ _).trans ?_
      refine (List.Perm.cons _ ih).trans ?_
      exact List.perm_append_comm (l₁ := [zIt v k])
    · rw [if_neg e]
      have hf : [zIt v k].filter (fun x => decide (x.1 = p)) = [] := by
        rw [List.filter_cons_of_neg (by show ¬ decide ((zIt v k).1 = p) = true; exact fun h9 => e (e1.trans (of_decide_eq_true h9)))]
        rfl
      rw [hf, List.append_nil]
      exact ih
theorem zMk_f {c : zC} {p : Int} (hp : 0 ≤ p) (hk : c 146 (10 + 4 * p) ≠ 2) : ∀ l : List zEn, (zMk c l).filter (fun x => decide (x.1 = p)) = l.filter (fun x => decide (x.1 = p))
  | [] => rfl
  | y :: l => by
    have ih := zMk_f hp hk l
    unfold zMk at ih ⊢
    rw [List.map_cons]
    by_cases e : y.1 = p
    · rw [List.filter_cons_of_pos (by rw [e, if_neg hk]; simp), List.filter_cons_of_pos (by simpa using e), ih, e, if_neg hk]
      rw [← e]
    · rw [List.filter_cons_of_neg (by
        by_cases e2 : c 146 (10 + 4 * y.1) = 2
        · rw [if_pos e2]
          simp
          omega
        · rw [if_neg e2]
          simpa using e), List.filter_cons_of_neg (by simpa using e), ih]
theorem zMk_so {c : zC} {l : List zEn} (h : zSrt l) : zSrt (zMk c l) := by
  intro j k x y hjk hx hy
  unfold zMk at hx hy
  rw [List.getElem?_map, Option.map_eq_some_iff] at hx hy
  obtain ⟨a, ha, rfl⟩ := hx
  obtain ⟨b, hb, rfl⟩ := hy
  exact h j k a b hjk ha hb
theorem zT_ag {c : zC} {v : Int → Int} (hv : v = c 146) (R : zRep c 9 v) : (zTX c).1 = (zTM c).1 ∧ (∀ j : Int, 0 ≤ j → j < (zTX c).1 → (zTX c).2.1 j = (zTM c).2.1 j ∧ (zTX c).2.2.1 j = (zTM c).2.2.1 j ∧ (zTX c).2.2.2 j = (zTM c).2.2.2 j) ∧ ∀ j : Int, 0 ≤ j → j < (zTX c).1 → c 19 j = zPlM c j := by
  subst hv
  have a := (zRep_9 R).1
  unfold zTX zTM zPlM
  dsimp only
  refine ⟨by rw [a.2.1], fun j j1 j2 => ?_, fun j j1 j2 => ?_⟩
  · have b := (zRep_9 R).2.2.1 j j1 (by omega)
    exact ⟨b.1, b.2.1, b.2.2.1⟩
  · have b := (zRep_9 R).2.2.1 j j1 (by omega)
    exact b.2.2.2
theorem zAlw_iff {c : zC} {B : Int} (R : zRep c 9 (c 146)) (I : zInv B (c 146)) {p s e : Int} (hp : 0 ≤ p) (hk : c 146 (10 + 4 * p) ≠ 2) : zOkl (zTX c) (c 19) (zInsL (zGt c p (c 24 0).toNat) (p, (s, e))) ↔ zOkp (zTM c) (zPlM c) p (zMk c (zInsB (zAl (c 146) (c 146 3).toNat) (p, (s, e)))) := by
  obtain ⟨t1, t2, t3⟩ := zT_ag rfl R
  have a := (zRep_9 R).1
  refine zOk_iff t1 t2 t3 (zSrt_ins (zGt_s c p _).1) (fun y hy => ?_) (zMk_so (zSrt_inB (zM_so I))) ?_
  · rcases zIns_mem.mp hy with h | h
    · rw [h]
    · exact zGt_in _ y h
  · rw [zMk_f hp hk]
    refine (zInsL_pm _ _).trans ?_
    refine List.Perm.trans ?_ ((zInsB_pm _ _).filter _).symm
    rw [List.filter_cons_of_pos (by simp)]
    refine List.Perm.cons _ ?_
    rw [← a.2.2.2]
    exact zGt_pm (n := (c 24 0).toNat) (fun i i1 i2 => by
      have b := (zRep_9 R).2.2.2.2 i i1 (by omega)
      exact ⟨b.1, b.2.1, b.2.2.1⟩) _ (Nat.le_refl _)
theorem zHit_iff {n : Int} {st ln st' ln' : Int → Int} {a b : Int} (h : ∀ j, 0 ≤ j → j < n → st j = st' j ∧ ln j = ln' j) : zHit n st ln a b ↔ zHit n st' ln' a b := by
  constructor
  · rintro ⟨j, j1, j2, j3, j4⟩
    obtain ⟨e1, e2⟩ := h j j1 j2
    exact ⟨j, j1, j2, by omega, by omega⟩
  · rintro ⟨j, j1, j2, j3, j4⟩
    obtain ⟨e1, e2⟩ := h j j1 j2
    exact ⟨j, j1, j2, by omega, by omega⟩
theorem zOb_iff {c : zC} {B : Int} (R : zRep c 9 (c 146)) (I : zInv B (c 146)) {p s x : Int} (hp : 0 ≤ p ∧ p < c 146 0) : zObs c p s x ↔ zObM c p s x := by
  have a := (zRep_9 R).1
  obtain ⟨p1, p2, p3, p4⟩ := (zRep_9 R).2.1 p hp.1 hp.2
  unfold zObs zObM
  rw [p1, p2, p3, a.2.2.2, a.2.2.1]
  refine zFlt_iff Iff.rfl ?_ (fun _ => ?_) ?_
  · rw [zHit_iff (fun j j1 j2 => ⟨((zRep_9 R).2.2.2.2 j j1 j2).2.1, ((zRep_9 R).2.2.2.2 j j1 j2).2.2.1⟩)]
  · by_cases hk : c 146 (10 + 4 * p) = 2
    · exact ⟨fun _ => Or.inl hk, fun _ => Or.inl hk⟩
    · have h9 := zAlw_iff R I (p := p) (s := s) (e := s + c 146 (10 + 4 * p + 1)) hp.1 hk
      rw [a.2.2.2] at h9
      rw [h9]
  · exact zDk_congr (fun j j1 j2 => (zRep_9 R).2.2.2.1 j j1 j2)
/-- between a broken start and the next beginning of a window no start helps -/
theorem zRt_of {c : zC} {p : Int} : zRtH c p := by
  intro s t h0 hst ht hb hw hg
  have hs5 : ¬ (c 11 p = 2 ∨ zOkl (zTX c) (c 19) (zInsL (zGt c p (c 24 0).toNat) (p, (s, s + c 12 p)))) := by
    unfold zObs zFlt at hb
    rcases hb with h | h | h | h | h
    · exact absurd h.2 (by decide)
    · exact absurd h.2.2 (by decide)
    · exact h.2.2.1
    · exact absurd h.2.2.2.2 (by decide)
    · exact absurd h.2.2.2.2 (by decide)
  have hk : c 11 p ≠ 2 := fun h => hs5 (Or.inl h)
  have hal := ((zFlt_0 hg).2.2.1).resolve_left hk
  have hin : ∀ (s e : Int), ∀ y ∈ zInsL (zGt c p (c 24 0).toNat) (p, (s, e)), y.1 = p := fun s e y hy => by
    rcases zIns_mem.mp hy with h | h
    · rw [h]
    · exact zGt_in _ y h
  rw [zGr (p := p) _ _ (zSrt_ins (zGt_s c p _).1) (hin _ _)] at hal
  obtain ⟨r, ⟨r1, r2, r3, r4⟩, r5, r6⟩ := zFe_perm (zInsL_pm _ _) _ hal
  refine hs5 (Or.inr ((zGr (p := p) _ _ (zSrt_ins (zGt_s c p _).1) (hin _ _)).mpr (zFe_perm (zInsL_pm _ _).symm _ ⟨r, ⟨r1, r2, ?_, ?_⟩, r5, r6⟩)))
  · dsimp only at r3 ⊢
    refine Int.not_lt.mp (fun h9 => ?_)
    have h8 := hw r r1.1 (by have := r1.2; unfold zTX at this; dsimp only at this; omega) r2 h9
    have : c 17 r ≤ t := r3
    omega
  · dsimp only at r4 ⊢
    omega
