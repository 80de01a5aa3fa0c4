/-! programmes, rights, blackouts added; undo: class and model together -/
def zRo2 (c c2 : zC) (q : Int) (g : Int → Int) : Prop := (∀ k, c2 146 k = if k = q then c 146 q + 1 else g k) ∧ True
section SA
variable {L : Nat} {xs : Nat → Int32} {k : Int}
theorem zDid_fr {d e : zC} (h : zDid d e) : (∀ r, r ≠ 147 → r ≠ 145 → e r = d r) ∧ (∀ k, k ≠ 2 → e 145 k = d 145 k) := h.elim (fun h => ⟨h.2.2.2.1, h.2.2.1⟩) (fun h => ⟨h.2.2.2.1, h.2.2.1⟩)
theorem ad_prog {B : Int} {ca c1 ce cf : zC} {v : Int → Int} {a l e : Int} (R : zRep ca 9 v) (I : zInv B v) (hv : ce 146 = v) (h16 : v 0 < 16) (ha : 0 ≤ a ∧ a ≤ 3) (hl : 1 ≤ l ∧ l ≤ 240) (he : 0 ≤ e ∧ e ≤ 3) (hap : zAp ca c1 10 4 (fun i => if i = 1 then a else if i = 2 then l else if i = 3 then e else 0)) (hrow : zRo2 ce cf 0 (zW4 (ce 146) (10 + 4 * ce 146 0) a l e 0)) : zRep c1 9 (cf 146) ∧ zInv B (cf 146) := by
  obtain ⟨⟨a0, a1, a2, a3⟩, R1, R2, R3, R4⟩ := zRep_9 R
  obtain ⟨m1, m2, m3, m4, m5⟩ := hap
  have f1 : ∀ k, c1 11 k = if k = ca 10 0 then a else ca 11 k := m3 1 (by decide) (by decide)
  have f2 : ∀ k, c1 12 k = if k = ca 10 0 then l else ca 12 k := m3 2 (by decide) (by decide)
  have f3 : ∀ k, c1 13 k = if k = ca 10 0 then e else ca 13 k := m3 3 (by decide) (by decide)
  have f4 : ∀ k, c1 14 k = if k = ca 10 0 then 0 else ca 14 k := m3 4 (by decide) (by decide)
  have hw := hrow.1
  rw [hv] at hw
  obtain ⟨⟨i0, i1, i2, i3⟩, I1, I2, I3, I4, I5, I6⟩ := I
  have hs : ∀ k, k ≠ 0 → (k < 10 + 4 * v 0 ∨ 10 + 4 * v 0 + 3 < k) → cf 146 k = v k := fun k h1 h2 => by
    rw [hw k, if_neg h1]
    unfold zW4
    rw [if_neg (by omega), if_neg (by omega), if_neg (by omega), if_neg (by omega)]
  have n0 : cf 146 0 = v 0 + 1 := by rw [hw 0, if_pos rfl]
  have w0 : cf 146 (10 + 4 * v 0) = a := by
    rw [hw, if_neg (by omega)]
    unfold zW4
    rw [if_neg (by omega), if_neg (by omega), if_neg (by omega), if_pos rfl]
  have w1 : cf 146 (10 + 4 * v 0 + 1) = l := by
    rw [hw, if_neg (by omega)]
    unfold zW4
    rw [if_neg (by omega), if_neg (by omega), if_pos rfl]
  have w2 : cf 146 (10 + 4 * v 0 + 2) = e := by
    rw [hw, if_neg (by omega)]
    unfold zW4
    rw [if_neg (by omega), if_pos rfl]
  have w3 : cf 146 (10 + 4 * v 0 + 3) = 0 := by
    rw [hw, if_neg (by omega)]
    unfold zW4
    rw [if_pos rfl]
  have n1 := hs 1 (by omega) (by omega)
  have n2 := hs 2 (by omega) (by omega)
  have n3 := hs 3 (by omega) (by omega)
  constructor
  · refine ⟨⟨?_, ?_, ?_, ?_⟩, fun p p1 p2 => ?_, fun r r1 r2 => ?_, fun b b1 b2 => ?_, fun i i1 i2 => ?_⟩
    · show c1 10 0 = _
      omega
    · show c1 15 0 = _
      rw [m4 15 (by decide)]
      omega
    · show c1 20 0 = _
      rw [m4 20 (by decide)]
      omega
    · show c1 24 0 = _
      rw [m4 24 (by decide)]
      omega
    · show c1 11 p = _ ∧ c1 12 p = _ ∧ c1 13 p = _ ∧ c1 14 p = _
      rw [f1, f2, f3, f4]
      by_cases ep : p = v 0
      · rw [if_pos (by omega), if_pos (by omega), if_pos (by omega), if_pos (by omega), ep, w0, w1, w2, w3]
        exact ⟨rfl, rfl, rfl, rfl⟩
      · rw [if_neg (by omega), if_neg (by omega), if_neg (by omega), if_neg (by omega), hs _ (by omega) (by omega), hs _ (by omega) (by omega), hs _ (by omega) (by omega), hs _ (by omega) (by omega)]
        exact R1 p p1 (by omega)
    · show c1 16 r = _ ∧ c1 17 r = _ ∧ c1 18 r = _ ∧ c1 19 r = _
      rw [m4 16 (by decide), m4 17 (by decide), m4 18 (by decide), m4 19 (by decide), hs _ (by omega) (by omega), hs _ (by omega) (by omega), hs _ (by omega) (by omega), hs _ (by omega) (by omega)]
      exact R2 r r1 (by omega)
    · show c1 21 b = _ ∧ c1 22 b = _ ∧ c1 23 b = _
      rw [m4 21 (by decide), m4 22 (by decide), m4 23 (by decide), hs _ (by omega) (by omega), hs _ (by omega) (by omega), hs _ (by omega) (by omega)]
      exact R3 b b1 (by omega)
    · show c1 25 i = _ ∧ c1 26 i = _ ∧ c1 27 i = _ ∧ c1 28 i = _
      rw [m4 25 (by decide), m4 26 (by decide), m4 27 (by decide), m4 28 (by decide), hs _ (by omega) (by omega), hs _ (by omega) (by omega), hs _ (by omega) (by omega), hs _ (by omega) (by omega)]
      exact R4 i i1 (by omega)
  · refine ⟨by omega, fun p p1 p2 => ?_, fun p p1 p2 => ?_, fun r r1 r2 => ?_, fun b b1 b2 => ?_, fun i i1 i2 => ?_, fun i j i1 i2 j2 => ?_⟩
    · by_cases ep : p = v 0
      · rw [ep, w0, w1, w2]
        omega
      · rw [hs _ (by omega) (by omega), hs _ (by omega) (by omega), hs _ (by omega) (by omega)]
        exact I1 p p1 (by omega)
    · by_cases ep : p = v 0
      · rw [ep, w3]
        have := I2 p p1 p2
        omega
      · rw [hs _ (by omega) (by omega)]
        exact I2 p p1 p2
    · rw [hs _ (by omega) (by omega), n0, hs _ (by omega) (by omega), hs _ (by omega) (by omega), hs _ (by omega) (by omega)]
      have := I3 r r1 (by omega)
      omega
    · rw [hs _ (by omega) (by omega), hs _ (by omega) (by omega), hs _ (by omega) (by omega)]
      exact I4 b b1 (by omega)
    · rw [hs _ (by omega) (by omega), n0, hs _ (by omega) (by omega), hs _ (by omega) (by omega), hs _ (by omega) (by omega)]
      have := I5 i i1 (by omega)
      omega
    · rw [hs _ (by omega) (by omega), hs _ (by omega) (by omega), hs _ (by omega) (by omega)]
      exact I6 i j i1 i2 (by omega)
theorem ad_right {B : Int} {ca c1 ce cf : zC} {v : Int → Int} {q a b l : Int} (R : zRep ca 9 v) (I : zInv B v) (hv : ce 146 = v) (h30 : v 2 < 30) (hq : 0 ≤ q ∧ q < v 0) (ha : 0 ≤ a ∧ a < b ∧ b ≤ 10080) (hl : 1 ≤ l ∧ l ≤ 50) (hap : zAp ca c1 15 4 (fun i => if i = 1 then q else if i = 2 then a else if i = 3 then b else l)) (hrow : zRo2 ce cf 2 (zW4 (ce 146) (110 + 4 * ce 146 2) q a b l)) : zRep c1 9 (cf 146) ∧ zInv B (cf 146) := by
  obtain ⟨⟨a0, a1, a2, a3⟩, R1, R2, R3, R4⟩ := zRep_9 R
  obtain ⟨m1, m2, m3, m4, m5⟩ := hap
  have f1 : ∀ k, c1 16 k = if k = ca 15 0 then q else ca 16 k := m3 1 (by decide) (by decide)
  have f2 : ∀ k, c1 17 k = if k = ca 15 0 then a else ca 17 k := m3 2 (by decide) (by decide)
  have f3 : ∀ k, c1 18 k = if k = ca 15 0 then b else ca 18 k := m3 3 (by decide) (by decide)
  have f4 : ∀ k, c1 19 k = if k = ca 15 0 then l else ca 19 k := m3 4 (by decide) (by decide)
  have hw := hrow.1
  rw [hv] at hw
  obtain ⟨⟨i0, i1, i2, i3⟩, I1, I2, I3, I4, I5, I6⟩ := I
  have hs : ∀ k, k ≠ 2 → (k < 110 + 4 * v 2 ∨ 110 + 4 * v 2 + 3 < k) → cf 146 k = v k := fun k h1 h2 => by
    rw [hw k, if_neg h1]
    unfold zW4
    rw [if_neg (by omega), if_neg (by omega), if_neg (by omega), if_neg (by omega)]
  have n2 : cf 146 2 = v 2 + 1 := by rw [hw 2, if_pos rfl]
  have w0 : cf 146 (110 + 4 * v 2) = q := by
    rw [hw, if_neg (by omega)]
    unfold zW4
    rw [if_neg (by omega), if_neg (by omega), if_neg (by omega), if_pos rfl]
  have w1 : cf 146 (110 + 4 * v 2 + 1) = a := by
    rw [hw, if_neg (by omega)]
    unfold zW4
    rw [if_neg (by omega), if_neg (by omega), if_pos rfl]
  have w2 : cf 146 (110 + 4 * v 2 + 2) = b := by
    rw [hw, if_neg (by omega)]
    unfold zW4
    rw [if_neg (by omega), if_pos rfl]
  have w3 : cf 146 (110 + 4 * v 2 + 3) = l := by
    rw [hw, if_neg (by omega)]
    unfold zW4
    rw [if_pos rfl]
  have n0 := hs 0 (by omega) (by omega)
  have n1 := hs 1 (by omega) (by omega)
  have n3 := hs 3 (by omega) (by omega)
  constructor
  · refine ⟨⟨?_, ?_, ?_, ?_⟩, fun p p1 p2 => ?_, fun r r1 r2 => ?_, fun b b1 b2 => ?_, fun i i1 i2 => ?_⟩
    · show c1 10 0 = _
      rw [m4 10 (by decide)]
      omega
    · show c1 15 0 = _
      omega
    · show c1 20 0 = _
      rw [m4 20 (by decide)]
      omega
    · show c1 24 0 = _
      rw [m4 24 (by decide)]
      omega
    · show c1 11 p = _ ∧ c1 12 p = _ ∧ c1 13 p = _ ∧ c1 14 p = _
      rw [m4 11 (by decide), m4 12 (by decide), m4 13 (by decide), m4 14 (by decide), hs _ (by omega) (by omega), hs _ (by omega) (by omega), hs _ (by omega) (by omega), hs _ (by omega) (by omega)]
      exact R1 p p1 (by omega)
    · show c1 16 r = _ ∧ c1 17 r = _ ∧ c1 18 r = _ ∧ c1 19 r = _
      rw [f1, f2, f3, f4]
      by_cases ep : r = v 2
      · rw [if_pos (by omega), if_pos (by omega), if_pos (by omega), if_pos (by omega), ep, w0, w1, w2, w3]
        exact ⟨rfl, rfl, rfl, rfl⟩
      · rw [if_neg (by omega), if_neg (by omega), if_neg (by omega), if_neg (by omega), hs _ (by omega) (by omega), hs _ (by omega) (by omega), hs _ (by omega) (by omega), hs _ (by omega) (by omega)]
        exact R2 r r1 (by omega)
    · show c1 21 b = _ ∧ c1 22 b = _ ∧ c1 23 b = _
      rw [m4 21 (by decide), m4 22 (by decide), m4 23 (by decide), hs _ (by omega) (by omega), hs _ (by omega) (by omega), hs _ (by omega) (by omega)]
      exact R3 b b1 (by omega)
    · show c1 25 i = _ ∧ c1 26 i = _ ∧ c1 27 i = _ ∧ c1 28 i = _
      rw [m4 25 (by decide), m4 26 (by decide), m4 27 (by decide), m4 28 (by decide), hs _ (by omega) (by omega), hs _ (by omega) (by omega), hs _ (by omega) (by omega), hs _ (by omega) (by omega)]
      exact R4 i i1 (by omega)
  · refine ⟨by omega, fun p p1 p2 => ?_, fun p p1 p2 => ?_, fun r r1 r2 => ?_, fun b b1 b2 => ?_, fun i i1 i2 => ?_, fun i j i1 i2 j2 => ?_⟩
    · rw [hs _ (by omega) (by omega), hs _ (by omega) (by omega), hs _ (by omega) (by omega)]
      exact I1 p p1 (by omega)
    · rw [hs _ (by omega) (by omega)]
      exact I2 p p1 p2
    · by_cases ep : r = v 2
      · rw [ep, w0, w1, w2, w3, n0]
        omega
      · rw [hs _ (by omega) (by omega), n0, hs _ (by omega) (by omega), hs _ (by omega) (by omega), hs _ (by omega) (by omega)]
        exact I3 r r1 (by omega)
    · rw [hs _ (by omega) (by omega), hs _ (by omega) (by omega), hs _ (by omega) (by omega)]
      exact I4 b b1 (by omega)
    · rw [hs _ (by omega) (by omega), n0, hs _ (by omega) (by omega), hs _ (by omega) (by omega), hs _ (by omega) (by omega)]
      exact I5 i i1 (by omega)
    · rw [hs _ (by omega) (by omega), hs _ (by omega) (by omega), hs _ (by omega) (by omega)]
      exact I6 i j i1 i2 (by omega)
theorem ad_black {B : Int} {ca c1 ce cf : zC} {v : Int → Int} {a b l : Int} (R : zRep ca 9 v) (I : zInv B v) (hv : ce 146 = v) (h10 : v 1 < 10) (ha : 0 ≤ a ∧ a < b ∧ b ≤ 1440) (hl : 0 ≤ l ∧ l ≤ 3) (hap : zAp ca c1 20 3 (fun i => if i = 1 then a else if i = 2 then b else l)) (hrow : zRo2 ce cf 1 (zW3 (ce 146) (80 + 3 * ce 146 1) a b l)) : zRep c1 9 (cf 146) ∧ zInv B (cf 146) := by
  obtain ⟨⟨a0, a1, a2, a3⟩, R1, R2, R3, R4⟩ := zRep_9 R
  obtain ⟨m1, m2, m3, m4, m5⟩ := hap
  have f1 : ∀ k, c1 21 k = if k = ca 20 0 then a else ca 21 k := m3 1 (by decide) (by decide)
  have f2 : ∀ k, c1 22 k = if k = ca 20 0 then b else ca 22 k := m3 2 (by decide) (by decide)
  have f3 : ∀ k, c1 23 k = if k = ca 20 0 then l else ca 23 k := m3 3 (by decide) (by decide)
  have hw := hrow.1
  rw [hv] at hw
  obtain ⟨⟨i0, i1, i2, i3⟩, I1, I2, I3, I4, I5, I6⟩ := I
  have hs : ∀ k, k ≠ 1 → (k < 80 + 3 * v 1 ∨ 80 + 3 * v 1 + 2 < k) → cf 146 k = v k := fun k h1 h2 => by
    rw [hw k, if_neg h1]
    unfold zW3
    rw [if_neg (by omega), if_neg (by omega), if_neg (by omega)]
  have n1 : cf 146 1 = v 1 + 1 := by rw [hw 1, if_pos rfl]
  have w0 : cf 146 (80 + 3 * v 1) = a := by
    rw [hw, if_neg (by omega)]
    unfold zW3
    rw [if_neg (by omega), if_neg (by omega), if_pos rfl]
  have w1 : cf 146 (80 + 3 * v 1 + 1) = b := by
    rw [hw, if_neg (by omega)]
    unfold zW3
    rw [if_neg (by omega), if_pos rfl]
  have w2 : cf 146 (80 + 3 * v 1 + 2) = l := by
    rw [hw, if_neg (by omega)]
    unfold zW3
    rw [if_pos rfl]
  have n0 := hs 0 (by omega) (by omega)
  have n2 := hs 2 (by omega) (by omega)
  have n3 := hs 3 (by omega) (by omega)
  constructor
  · refine ⟨⟨?_, ?_, ?_, ?_⟩, fun p p1 p2 => ?_, fun r r1 r2 => ?_, fun b b1 b2 => ?_, fun i i1 i2 => ?_⟩
    · show c1 10 0 = _
      rw [m4 10 (by decide)]
      omega
    · show c1 15 0 = _
      rw [m4 15 (by decide)]
      omega
    · show c1 20 0 = _
      omega
    · show c1 24 0 = _
      rw [m4 24 (by decide)]
      omega
    · show c1 11 p = _ ∧ c1 12 p = _ ∧ c1 13 p = _ ∧ c1 14 p = _
      rw [m4 11 (by decide), m4 12 (by decide), m4 13 (by decide), m4 14 (by decide), hs _ (by omega) (by omega), hs _ (by omega) (by omega), hs _ (by omega) (by omega), hs _ (by omega) (by omega)]
      exact R1 p p1 (by omega)
    · show c1 16 r = _ ∧ c1 17 r = _ ∧ c1 18 r = _ ∧ c1 19 r = _
      rw [m4 16 (by decide), m4 17 (by decide), m4 18 (by decide), m4 19 (by decide), hs _ (by omega) (by omega), hs _ (by omega) (by omega), hs _ (by omega) (by omega), hs _ (by omega) (by omega)]
      exact R2 r r1 (by omega)
    · show c1 21 b = _ ∧ c1 22 b = _ ∧ c1 23 b = _
      rw [f1, f2, f3]
      by_cases ep : b = v 1
      · rw [if_pos (by omega), if_pos (by omega), if_pos (by omega), ep, w0, w1, w2]
        exact ⟨rfl, rfl, rfl⟩
      · rw [if_neg (by omega), if_neg (by omega), if_neg (by omega), hs _ (by omega) (by omega), hs _ (by omega) (by omega), hs _ (by omega) (by omega)]
        exact R3 b b1 (by omega)
    · show c1 25 i = _ ∧ c1 26 i = _ ∧ c1 27 i = _ ∧ c1 28 i = _
      rw [m4 25 (by decide), m4 26 (by decide), m4 27 (by decide), m4 28 (by decide), hs _ (by omega) (by omega), hs _ (by omega) (by omega), hs _ (by omega) (by omega), hs _ (by omega) (by omega)]
      exact R4 i i1 (by omega)
  · refine ⟨by omega, fun p p1 p2 => ?_, fun p p1 p2 => ?_, fun r r1 r2 => ?_, fun b b1 b2 => ?_, fun i i1 i2 => ?_, fun i j i1 i2 j2 => ?_⟩
    · rw [hs _ (by omega) (by omega), hs _ (by omega) (by omega), hs _ (by omega) (by omega)]
      exact I1 p p1 (by omega)
    · rw [hs _ (by omega) (by omega)]
      exact I2 p p1 p2
    · rw [hs _ (by omega) (by omega), n0, hs _ (by omega) (by omega), hs _ (by omega) (by omega), hs _ (by omega) (by omega)]
      exact I3 r r1 (by omega)
    · by_cases ep : b = v 1
      · rw [ep, w0, w1, w2]
        omega
      · rw [hs _ (by omega) (by omega), hs _ (by omega) (by omega), hs _ (by omega) (by omega)]
        exact I4 b b1 (by omega)
    · rw [hs _ (by omega) (by omega), n0, hs _ (by omega) (by omega), hs _ (by omega) (by omega), hs _ (by omega) (by omega)]
      exact I5 i i1 (by omega)
    · rw [hs _ (by omega) (by omega), hs _ (by omega) (by omega), hs _ (by omega) (by omega)]
      exact I6 i j i1 i2 (by omega)
/-- what the class keeps, is as it was but for the history -/
theorem zKp_r {c ca : zC} {v : Int → Int} (hk : 0 ≤ c 29 0 ∧ c 29 0 ≤ 5) (h : zKpt c ca) (R : zRep c 9 v) : zRep ca 9 v := zRep_fr R (fun r r1 r2 => (zKpt_fr h hk).1 r (by omega) (by omega))
theorem zKp_o {c ca : zC} (hk : 0 ≤ c 29 0 ∧ c 29 0 ≤ 5) (h : zKpt c ca) : ∀ r, zOut r → ca r = c r := fun r hr => (zKpt_fr h hk).1 r (by unfold zOut at hr; omega) (by unfold zOut at hr; omega)
end SA
