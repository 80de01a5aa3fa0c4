/-! an item more, an item less: class and model together -/
theorem zSum_at {g : Int → Int} {at9 n : Int} (h0 : 0 ≤ at9 ∧ at9 ≤ n) (h1 : ∀ j, 0 ≤ j → j < at9 → g j = 1) (h2 : ∀ j, at9 ≤ j → j < n → g j = 0) : zSum g n = at9 := by
  have key : ∀ m : Nat, (m : Int) ≤ n → zS g m = if (m : Int) ≤ at9 then (m : Int) else at9 := by
    intro m
    induction m with
    | zero =>
      intro _
      rw [if_pos (by omega)]
      rfl
    | succ m ih =>
      intro hm
      show zS g m + g m = _
      rw [ih (by omega)]
      by_cases e : (m : Int) < at9
      · rw [if_pos (by omega), if_pos (by omega), h1 m (by omega) e]
        omega
      · rw [h2 m (by omega) (by omega)]
        split <;> split <;> omega
  unfold zSum
  rw [key n.toNat (by omega)]
  split <;> omega
theorem ins_rep {B : Int} {ca c1 : zC} {v v' : Int → Int} {p s l f at9 ix : Int} (R : zRep ca 9 v) (I : zInv B v) (h59 : v 3 ≤ 59) (hp : 0 ≤ p ∧ p < v 0) (hs : 0 ≤ s) (hl : 1 ≤ l) (he : s + l ≤ 10080) (hf : f = 0 ∨ f = 1) (hno : ¬ zHit (v 3) (fun j => v (230 + 4 * j + 1)) (fun j => v (230 + 4 * j + 2)) s (s + l)) (hins : zIns ca c1 ix p s l f) (hix : ix = zSum (fun j => if ca 26 j < s then 1 else 0) (ca 24 0)) (hpt : zPt v v' p s l f at9) : ix = at9 ∧ zRep c1 9 v' ∧ zInv B v' := by
  obtain ⟨⟨a0, a1, a2, a3⟩, R1, R2, R3, R4⟩ := zRep_9 R
  obtain ⟨t1, t2, t3, t4⟩ := id hpt
  have hsm := hpt.sm
  obtain ⟨⟨i0, i1, i2, i3⟩, I1, I2, I3, I4, I5, I6⟩ := I
  have hh : ∀ j, 0 ≤ j → j < v 3 → v (230 + 4 * j + 1) + v (230 + 4 * j + 2) ≤ s ∨ s + l ≤ v (230 + 4 * j + 1) := fun j j1 j2 => by
    refine Classical.byContradiction (fun h9 => hno ⟨j, j1, j2, ?_, ?_⟩)
    · show v (230 + 4 * j + 1) < s + l
      omega
    · show s < v (230 + 4 * j + 1) + v (230 + 4 * j + 2)
      omega
  have hlo : ∀ j, 0 ≤ j → j < at9 → v (230 + 4 * j + 1) + v (230 + 4 * j + 2) ≤ s := fun j j1 j2 => by
    have h1 := hh j j1 (by omega)
    have h2 := hh (at9 - 1) (by omega) (by omega)
    have h3 := I5 j j1 (by omega)
    have h4 := I5 (at9 - 1) (by omega) (by omega)
    by_cases e : j = at9 - 1
    · rw [e] at h1 h3 ⊢
      omega
    · have := I6 j (at9 - 1) j1 (by omega) (by omega)
      omega
  have hhi : ∀ j, at9 ≤ j → j < v 3 → s + l ≤ v (230 + 4 * j + 1) := fun j j1 j2 => by
    have h1 := hh j (by omega) j2
    have h2 := t3 j j1 j2
    have h3 := I5 j (by omega) (by omega)
    omega
  have hia : ix = at9 := by
    rw [hix, a3]
    refine zSum_at t1 (fun j j1 j2 => ?_) (fun j j1 j2 => ?_)
    · have := hlo j j1 j2
      have := I5 j j1 (by omega)
      have := (R4 j j1 (by omega)).2.1
      rw [if_pos (by omega)]
    · have := t3 j j1 j2
      have := (R4 j (by omega) (by omega)).2.1
      rw [if_neg (by omega)]
  subst hia
  obtain ⟨m0, m1, m2, m3, m4, m5, m6, m7⟩ := hins
  have va : ∀ i q, 0 ≤ i → i < ix → 0 ≤ q → q ≤ 3 → v' (230 + 4 * i + q) = v (230 + 4 * i + q) := fun i q i1 i2 q1 q2 => by
    rw [t4, if_neg (by omega), if_neg (by omega), if_neg (by omega), if_neg (by omega), if_neg (by omega), if_neg (by omega)]
  have vb0 : v' (230 + 4 * ix + 0) = p := by
    rw [t4, if_neg (by omega), if_neg (by omega), if_neg (by omega), if_neg (by omega), if_pos (by omega)]
  have vb1 : v' (230 + 4 * ix + 1) = s := by
    rw [t4, if_neg (by omega), if_neg (by omega), if_neg (by omega), if_pos (by omega)]
  have vb2 : v' (230 + 4 * ix + 2) = l := by
    rw [t4, if_neg (by omega), if_neg (by omega), if_pos (by omega)]
  have vb3 : v' (230 + 4 * ix + 3) = f := by
    rw [t4, if_neg (by omega), if_pos (by omega)]
  have vc : ∀ i q, ix < i → i ≤ v 3 → 0 ≤ q → q ≤ 3 → v' (230 + 4 * i + q) = v (230 + 4 * (i - 1) + q) := fun i q i1 i2 q1 q2 => by
    rw [t4, if_neg (by omega), if_neg (by omega), if_neg (by omega), if_neg (by omega), if_neg (by omega), if_pos (by omega), show 230 + 4 * i + q - 4 = 230 + 4 * (i - 1) + q by omega]
  have n3 : v' 3 = v 3 + 1 := by rw [t4, if_pos rfl]
  have n0 := hsm 0 (by omega) (by omega) (by omega)
  have n1 := hsm 1 (by omega) (by omega) (by omega)
  have n2 := hsm 2 (by omega) (by omega) (by omega)
  refine ⟨rfl, ⟨⟨?_, ?_, ?_, ?_⟩, fun q p1 p2 => ?_, fun r r1 r2 => ?_, fun b b1 b2 => ?_, fun i i1 i2 => ?_⟩, ⟨by omega, fun q p1 p2 => ?_, fun q p1 p2 => ?_, fun r r1 r2 => ?_, fun b b1 b2 => ?_, fun i i1 i2 => ?_, fun i j i1 i2 j2 => ?_⟩⟩
  · show c1 10 0 = _
    rw [m2 10 (by decide)]
    omega
  · show c1 15 0 = _
    rw [m2 15 (by decide)]
    omega
  · show c1 20 0 = _
    rw [m2 20 (by decide)]
    omega
  · show c1 24 0 = _
    omega
  · show c1 11 q = _ ∧ c1 12 q = _ ∧ c1 13 q = _ ∧ c1 14 q = _
    rw [m2 11 (by decide), m2 12 (by decide), m2 13 (by decide), m2 14 (by decide), hsm _ (by omega) (by omega) (by omega), hsm _ (by omega) (by omega) (by omega), hsm _ (by omega) (by omega) (by omega), hsm _ (by omega) (by omega) (by omega)]
    exact R1 q p1 (by omega)
  · show c1 16 r = _ ∧ c1 17 r = _ ∧ c1 18 r = _ ∧ c1 19 r = _
    rw [m2 16 (by decide), m2 17 (by decide), m2 18 (by decide), m2 19 (by decide), hsm _ (by omega) (by omega) (by omega), hsm _ (by omega) (by omega) (by omega), hsm _ (by omega) (by omega) (by omega), hsm _ (by omega) (by omega) (by omega)]
    exact R2 r r1 (by omega)
  · show c1 21 b = _ ∧ c1 22 b = _ ∧ c1 23 b = _
    rw [m2 21 (by decide), m2 22 (by decide), m2 23 (by decide), hsm _ (by omega) (by omega) (by omega), hsm _ (by omega) (by omega) (by omega), hsm _ (by omega) (by omega) (by omega)]
    exact R3 b b1 (by omega)
  · show c1 25 i = _ ∧ c1 26 i = _ ∧ c1 27 i = _ ∧ c1 28 i = _
    rw [m3, m4, m5, m6]
    rcases Int.lt_trichotomy i ix with h9 | h9 | h9
    · rw [if_neg (by omega), if_neg (by omega), if_neg (by omega), if_neg (by omega), if_neg (by omega), if_neg (by omega), if_neg (by omega), if_neg (by omega), va i 0 i1 h9 (by omega) (by omega), va i 1 i1 h9 (by omega) (by omega), va i 2 i1 h9 (by omega) (by omega), va i 3 i1 h9 (by omega) (by omega)]
      exact R4 i i1 (by omega)
    · rw [h9, if_pos rfl, if_pos rfl, if_pos rfl, if_pos rfl, vb0, vb1, vb2, vb3]
      exact ⟨rfl, rfl, rfl, rfl⟩
    · rw [if_neg (by omega), if_pos (by omega), if_neg (by omega), if_pos (by omega), if_neg (by omega), if_pos (by omega), if_neg (by omega), if_pos (by omega), vc i 0 h9 (by omega) (by omega) (by omega), vc i 1 h9 (by omega) (by omega) (by omega), vc i 2 h9 (by omega) (by omega) (by omega), vc i 3 h9 (by omega) (by omega) (by omega)]
      exact R4 (i - 1) (by omega) (by omega)
  · rw [hsm _ (by omega) (by omega) (by omega), hsm _ (by omega) (by omega) (by omega), hsm _ (by omega) (by omega) (by omega)]
    exact I1 q p1 (by omega)
  · rw [hsm _ (by omega) (by omega) (by omega)]
    exact I2 q p1 p2
  · rw [hsm _ (by omega) (by omega) (by omega), n0, hsm _ (by omega) (by omega) (by omega), hsm _ (by omega) (by omega) (by omega), hsm _ (by omega) (by omega) (by omega)]
    exact I3 r r1 (by omega)
  · rw [hsm _ (by omega) (by omega) (by omega), hsm _ (by omega) (by omega) (by omega), hsm _ (by omega) (by omega) (by omega)]
    exact I4 b b1 (by omega)
  · rw [n0]
    rcases Int.lt_trichotomy i ix with h9 | h9 | h9
    · rw [va i 0 i1 h9 (by omega) (by omega), va i 1 i1 h9 (by omega) (by omega), va i 2 i1 h9 (by omega) (by omega), va i 3 i1 h9 (by omega) (by omega)]
      exact I5 i i1 (by omega)
    · rw [h9, vb0, vb1, vb2, vb3]
      exact ⟨hp, hs, hl, he, hf⟩
    · rw [vc i 0 h9 (by omega) (by omega) (by omega), vc i 1 h9 (by omega) (by omega) (by omega), vc i 2 h9 (by omega) (by omega) (by omega), vc i 3 h9 (by omega) (by omega) (by omega)]
      exact I5 (i - 1) (by omega) (by omega)
  · rcases Int.lt_trichotomy i ix with h9 | h9 | h9
    · rw [va i 1 i1 h9 (by omega) (by omega), va i 2 i1 h9 (by omega) (by omega)]
      rcases Int.lt_trichotomy j ix with h8 | h8 | h8
      · rw [va j 1 (by omega) h8 (by omega) (by omega)]
        exact I6 i j i1 i2 (by omega)
      · rw [h8, vb1]
        exact hlo i i1 h9
      · rw [vc j 1 h8 (by omega) (by omega) (by omega)]
        exact I6 i (j - 1) i1 (by omega) (by omega)
    · rw [h9, vb1, vb2, vc j 1 (by omega) (by omega) (by omega) (by omega)]
      exact hhi (j - 1) (by omega) (by omega)
    · rw [vc i 1 h9 (by omega) (by omega) (by omega), vc i 2 h9 (by omega) (by omega) (by omega), vc j 1 (by omega) (by omega) (by omega) (by omega)]
      exact I6 (i - 1) (j - 1) (by omega) (by omega) (by omega)
theorem del_rep {B : Int} {ca c1 : zC} {v v' : Int → Int} {it : Int} (R : zRep ca 9 v) (I : zInv B v) (hi : 0 ≤ it ∧ it < v 3) (hdel : zDel ca c1 it) (h3 : v' 3 = v 3 - 1) (hk : ∀ k, k ≠ 3 → v' k = if 230 + 4 * it ≤ k ∧ k < 230 + 4 * (v 3 - 1) then v (k + 4) else v k) : zRep c1 9 v' ∧ zInv B v' := by
  obtain ⟨⟨a0, a1, a2, a3⟩, R1, R2, R3, R4⟩ := zRep_9 R
  obtain ⟨m0, m1, m2, m3, m4⟩ := hdel
  obtain ⟨⟨i0, i1, i2, i3⟩, I1, I2, I3, I4, I5, I6⟩ := I
  have hsm : ∀ k, k < 230 → k ≠ 3 → v' k = v k := fun k k1 k2 => by rw [hk k k2, if_neg (by omega)]
  have va : ∀ i q, i < it → 0 ≤ i → 0 ≤ q → q ≤ 3 → v' (230 + 4 * i + q) = v (230 + 4 * i + q) := fun i q i1 i2 q1 q2 => by rw [hk _ (by omega), if_neg (by omega)]
  have vc : ∀ i q, it ≤ i → i < v 3 - 1 → 0 ≤ q → q ≤ 3 → v' (230 + 4 * i + q) = v (230 + 4 * (i + 1) + q) := fun i q i1 i2 q1 q2 => by rw [hk _ (by omega), if_pos (by omega), show 230 + 4 * i + q + 4 = 230 + 4 * (i + 1) + q by omega]
  have n0 := hsm 0 (by omega) (by omega)
  have n1 := hsm 1 (by omega) (by omega)
  have n2 := hsm 2 (by omega) (by omega)
  refine ⟨⟨⟨?_, ?_, ?_, ?_⟩, fun q p1 p2 => ?_, fun r r1 r2 => ?_, fun b b1 b2 => ?_, fun i i1 i2 => ?_⟩, ⟨by omega, fun q p1 p2 => ?_, fun q p1 p2 => ?_, fun r r1 r2 => ?_, fun b b1 b2 => ?_, fun i i1 i2 => ?_, fun i j i1 i2 j2 => ?_⟩⟩
  · show c1 10 0 = _
    rw [m2 10 (by decide)]
    omega
  · show c1 15 0 = _
    rw [m2 15 (by decide)]
    omega
  · show c1 20 0 = _
    rw [m2 20 (by decide)]
    omega
  · show c1 24 0 = _
    omega
  · show c1 11 q = _ ∧ c1 12 q = _ ∧ c1 13 q = _ ∧ c1 14 q = _
    rw [m2 11 (by decide), m2 12 (by decide), m2 13 (by decide), m2 14 (by decide), hsm _ (by omega) (by omega), hsm _ (by omega) (by omega), hsm _ (by omega) (by omega), hsm _ (by omega) (by omega)]
    exact R1 q p1 (by omega)
  · show c1 16 r = _ ∧ c1 17 r = _ ∧ c1 18 r = _ ∧ c1 19 r = _
    rw [m2 16 (by decide), m2 17 (by decide), m2 18 (by decide), m2 19 (by decide), hsm _ (by omega) (by omega), hsm _ (by omega) (by omega), hsm _ (by omega) (by omega), hsm _ (by omega) (by omega)]
    exact R2 r r1 (by omega)
  · show c1 21 b = _ ∧ c1 22 b = _ ∧ c1 23 b = _
    rw [m2 21 (by decide), m2 22 (by decide), m2 23 (by decide), hsm _ (by omega) (by omega), hsm _ (by omega) (by omega), hsm _ (by omega) (by omega)]
    exact R3 b b1 (by omega)
  · show c1 25 i = _ ∧ c1 26 i = _ ∧ c1 27 i = _ ∧ c1 28 i = _
    rw [m3 25 (by decide) (by decide), m3 26 (by decide) (by decide), m3 27 (by decide) (by decide), m3 28 (by decide) (by decide)]
    by_cases h9 : i < it
    · rw [if_neg (by omega), if_neg (by omega), if_neg (by omega), if_neg (by omega), va i 0 h9 i1 (by omega) (by omega), va i 1 h9 i1 (by omega) (by omega), va i 2 h9 i1 (by omega) (by omega), va i 3 h9 i1 (by omega) (by omega)]
      exact R4 i i1 (by omega)
    · rw [if_pos (by omega), if_pos (by omega), if_pos (by omega), if_pos (by omega), vc i 0 (by omega) (by omega) (by omega) (by omega), vc i 1 (by omega) (by omega) (by omega) (by omega), vc i 2 (by omega) (by omega) (by omega) (by omega), vc i 3 (by omega) (by omega) (by omega) (by omega)]
      exact R4 (i + 1) (by omega) (by omega)
  · rw [hsm _ (by omega) (by omega), hsm _ (by omega) (by omega), hsm _ (by omega) (by omega)]
    exact I1 q p1 (by omega)
  · rw [hsm _ (by omega) (by omega)]
    exact I2 q p1 p2
  · rw [hsm _ (by omega) (by omega), n0, hsm _ (by omega) (by omega), hsm _ (by omega) (by omega), hsm _ (by omega) (by omega)]
    exact I3 r r1 (by omega)
  · rw [hsm _ (by omega) (by omega), hsm _ (by omega) (by omega), hsm _ (by omega) (by omega)]
    exact I4 b b1 (by omega)
  · rw [n0]
    by_cases h9 : i < it
    · rw [va i 0 h9 i1 (by omega) (by omega), va i 1 h9 i1 (by omega) (by omega), va i 2 h9 i1 (by omega) (by omega), va i 3 h9 i1 (by omega) (by omega)]
      exact I5 i i1 (by omega)
    · rw [vc i 0 (by omega) (by omega) (by omega) (by omega), vc i 1 (by omega) (by omega) (by omega) (by omega), vc i 2 (by omega) (by omega) (by omega) (by omega), vc i 3 (by omega) (by omega) (by omega) (by omega)]
      exact I5 (i + 1) (by omega) (by omega)
  · by_cases h9 : i < it
    · rw [va i 1 h9 i1 (by omega) (by omega), va i 2 h9 i1 (by omega) (by omega)]
      by_cases h8 : j < it
      · rw [va j 1 h8 (by omega) (by omega) (by omega)]
        exact I6 i j i1 i2 (by omega)
      · rw [vc j 1 (by omega) (by omega) (by omega) (by omega)]
        exact I6 i (j + 1) i1 (by omega) (by omega)
    · rw [vc i 1 (by omega) (by omega) (by omega) (by omega), vc i 2 (by omega) (by omega) (by omega) (by omega), vc j 1 (by omega) (by omega) (by omega) (by omega)]
      exact I6 (i + 1) (j + 1) (by omega) (by omega) (by omega)
/-- what is owed of a programme -/
theorem ow_rep {B B' : Int} {c : zC} {v : Int → Int} {p w : Int} (R : zRep c 9 v) (I : zInv B v) (hp : 0 ≤ p ∧ p < v 0) (hw : 0 ≤ w ∧ w ≤ B') (hB : B ≤ B') {v' : Int → Int} (e1 : v' (10 + 4 * p + 3) = w) (hs : ∀ k, k ≠ 10 + 4 * p + 3 → v' k = v k) : zRep (zup c 14 p w) 9 v' ∧ zInv B' v' := by
  obtain ⟨⟨a0, a1, a2, a3⟩, R1, R2, R3, R4⟩ := zRep_9 R
  obtain ⟨⟨i0, i1, i2, i3⟩, I1, I2, I3, I4, I5, I6⟩ := I
  refine ⟨⟨⟨?_, ?_, ?_, ?_⟩, fun q p1 p2 => ?_, fun r r1 r2 => ?_, fun b b1 b2 => ?_, fun i i1 i2 => ?_⟩, ⟨?_, fun q p1 p2 => ?_, fun q p1 p2 => ?_, fun r r1 r2 => ?_, fun b b1 b2 => ?_, fun i i1 i2 => ?_, fun i j i1 i2 j2 => ?_⟩⟩
  · show zup c 14 p w 10 0 = _
    rw [zup_oth (by decide), hs 0 (by omega)]
    exact a0
  · show zup c 14 p w 15 0 = _
    rw [zup_oth (by decide), hs 2 (by omega)]
    exact a1
  · show zup c 14 p w 20 0 = _
    rw [zup_oth (by decide), hs 1 (by omega)]
    exact a2
  · show zup c 14 p w 24 0 = _
    rw [zup_oth (by decide), hs 3 (by omega)]
    exact a3
  · rw [hs 0 (by omega)] at p2
    show zup c 14 p w 11 q = _ ∧ zup c 14 p w 12 q = _ ∧ zup c 14 p w 13 q = _ ∧ zup c 14 p w 14 q = _
    obtain ⟨q1, q2, q3, q4⟩ := R1 q p1 p2
    rw [zup_oth (by decide), zup_oth (by decide), zup_oth (by decide), zup_q, hs _ (by omega), hs _ (by omega), hs _ (by omega)]
    refine ⟨q1, q2, q3, ?_⟩
    by_cases e : q = p
    · rw [if_pos e, e, e1]
    · rw [if_neg e, hs _ (by omega)]
      exact q4
  · rw [hs 2 (by omega)] at r2
    show zup c 14 p w 16 r = _ ∧ zup c 14 p w 17 r = _ ∧ zup c 14 p w 18 r = _ ∧ zup c 14 p w 19 r = _
    rw [zup_oth (by decide), zup_oth (by decide), zup_oth (by decide), zup_oth (by decide), hs _ (by omega), hs _ (by omega), hs _ (by omega), hs _ (by omega)]
    exact R2 r r1 r2
  · rw [hs 1 (by omega)] at b2
    show zup c 14 p w 21 b = _ ∧ zup c 14 p w 22 b = _ ∧ zup c 14 p w 23 b = _
    rw [zup_oth (by decide), zup_oth (by decide), zup_oth (by decide), hs _ (by omega), hs _ (by omega), hs _ (by omega)]
    exact R3 b b1 b2
  · rw [hs 3 (by omega)] at i2
    show zup c 14 p w 25 i = _ ∧ zup c 14 p w 26 i = _ ∧ zup c 14 p w 27 i = _ ∧ zup c 14 p w 28 i = _
    rw [zup_oth (by decide), zup_oth (by decide), zup_oth (by decide), zup_oth (by decide), hs _ (by omega), hs _ (by omega), hs _ (by omega), hs _ (by omega)]
    exact R4 i i1 i2
  · rw [hs 0 (by omega), hs 1 (by omega), hs 2 (by omega), hs 3 (by omega)]
    exact ⟨i0, i1, i2, i3⟩
  · rw [hs 0 (by omega)] at p2
    rw [hs _ (by omega), hs _ (by omega), hs _ (by omega)]
    exact I1 q p1 p2
  · have := I2 q p1 p2
    by_cases e : q = p
    · rw [e, e1]
      omega
    · rw [hs _ (by omega)]
      omega
  · rw [hs 2 (by omega)] at r2
    rw [hs _ (by omega), hs 0 (by omega), hs _ (by omega), hs _ (by omega), hs _ (by omega)]
    exact I3 r r1 r2
  · rw [hs 1 (by omega)] at b2
    rw [hs _ (by omega), hs _ (by omega), hs _ (by omega)]
    exact I4 b b1 b2
  · rw [hs 3 (by omega)] at i2
    rw [hs _ (by omega), hs 0 (by omega), hs _ (by omega), hs _ (by omega), hs _ (by omega)]
    exact I5 i i1 i2
  · rw [hs 3 (by omega)] at j2
    rw [hs _ (by omega), hs _ (by omega), hs _ (by omega)]
    exact I6 i j i1 i2 j2
