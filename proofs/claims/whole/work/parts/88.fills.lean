/-! fill: the two tables, the two searches -/
section SF
variable {c c2 cv : zC} {w : Int → Int} {a z bh n0 : Int}
/-- a programme counts as the same beside the interval -/
def zCmp (v : Int → Int) (x y : Int) : Prop := ∀ q, 0 ≤ q → q < v 0 → v (10 + 4 * q) = 2 → (q = x ↔ q = y)
/-- what both searches stand on: c the class's cells ahead of the search, c2 behind it, the row c 146, the model's table w -/
def zTwo (c c2 : zC) (w : Int → Int) (a z bh : Int) : Prop := (zRep c 9 (c 146) ∧ ∃ B, zInv B (c 146)) ∧ (0 ≤ a ∧ a < z ∧ z ≤ 10080 ∧ z - a ≤ 240) ∧ (∀ r, (r < 137 ∨ 142 < r) → c2 r = c r) ∧ (c2 137 1 = a ∧ c2 137 2 = z - a) ∧ zCmp (c 146) (c2 137 3) bh ∧ (∀ t, 0 ≤ t → t < z - a → zSt c2 t) ∧ (∀ t p, a ≤ t → t ≤ z → 0 ≤ p → p < 17 → zRw c w a z bh t p (c 146 0))
theorem zTwo_ok (h : zTwo c c2 w a z bh) {q t : Int} (hq : 0 ≤ q ∧ q < c 146 0) : zOkF c2 q t ↔ zMf c q (-1) (a + t) z := by
  obtain ⟨⟨R, B, I⟩, hz, hf, ⟨f1, f2⟩, -⟩ := h
  obtain ⟨p1, p2, p3, p4⟩ := (zRep_9 R).2.1 q hq.1 hq.2
  unfold zOkF zMf
  rw [hf 11 (by decide), hf 12 (by decide), hf 13 (by decide), hf 20 (by decide), hf 21 (by decide), hf 22 (by decide), hf 23 (by decide), f1, f2, p1, p2, p3, (zRep_9 R).1.2.2.1, show a + (t + c 146 (10 + 4 * q + 1)) = a + t + c 146 (10 + 4 * q + 1) by omega]
  rw [zDk_congr (fun j j1 j2 => (zRep_9 R).2.2.2.1 j j1 j2)]
  constructor
  · exact fun h => ⟨h.1, by omega, by omega, h.2.2⟩
  · exact fun h => ⟨h.1, by omega, h.2.2.2⟩
def zXv (c2 : zC) (t p x : Int) : Prop := (c2 139 t = p ∧ x = c2 142 t) ∨ (c2 139 t ≠ p ∧ x = c2 140 t)
/-- the class's number and the model's -/
def zSame (x y m : Int) : Prop := (x = y ∧ 0 ≤ y ∧ y ≤ m) ∨ (x = 241 ∧ y = 999)
theorem zTwo_its (h : zTwo c c2 w a z bh) {t : Int} (ht : 0 ≤ t ∧ t < z - a) (ih : ∀ t', t < t' → t' < z - a → ∀ p x, 0 ≤ p → p < 17 → zXv c2 t' p x → zSame x (w (17 * (a + t' - a) + p)) (z - a - t')) {q x : Int} (hq : 0 ≤ q ∧ q < c 146 0) (hx : zIw c2 q t x) : (zMf c q (-1) (a + t) z ∧ x = 1 + w (17 * (a + t + c 146 (10 + 4 * q + 1) - a) + q) ∧ 1 ≤ x ∧ x ≤ z - a - t) ∨ (x = 241 ∧ (¬ zMf c q (-1) (a + t) z ∨ 1000 ≤ 1 + w (17 * (a + t + c 146 (10 + 4 * q + 1) - a) + q))) := by
  have hok := zTwo_ok h (t := t) hq
  obtain ⟨⟨R, B, I⟩, hz, hf, ⟨f1, f2⟩, hA, hst, hw⟩ := h
  obtain ⟨p1, p2, p3, p4⟩ := (zRep_9 R).2.1 q hq.1 hq.2
  have hl := zM_ln I q hq.1 hq.2
  have h16 := I.1
  have e12 : c2 12 q = c 146 (10 + 4 * q + 1) := by rw [hf 12 (by decide)]; exact p2
  unfold zIw at hx
  rw [hok, e12, f2] at hx
  rcases hx with ⟨h1, h2⟩ | ⟨h1, h2, h3, h4⟩ | ⟨h1, h2, h3, h4⟩ | ⟨h1, h2, y, h3, h4⟩
  · exact Or.inr ⟨h2, Or.inl h1⟩
  · have hzw := (hw z q (by omega) (by omega) hq.1 (by omega)).2.2.resolve_right (fun h9 => absurd h9.1 (by omega))
    have hb := (hA q hq.1 hq.2 h1.1).mp h3
    unfold zBs at hzw
    rw [if_neg (by omega)] at hzw
    refine Or.inr ⟨h4, Or.inr ?_⟩
    rw [show a + t + c 146 (10 + 4 * q + 1) = z by omega, hzw]
    decide
  · have hzw := (hw z q (by omega) (by omega) hq.1 (by omega)).2.2.resolve_right (fun h9 => absurd h9.1 (by omega))
    have hb : q ≠ bh := fun h9 => h3 ((hA q hq.1 hq.2 h1.1).mpr h9)
    unfold zBs at hzw
    rw [if_pos ⟨rfl, Or.inr hb⟩] at hzw
    refine Or.inl ⟨h1, ?_, by omega, by omega⟩
    rw [show a + t + c 146 (10 + 4 * q + 1) = z by omega, hzw]
    omega
  · have hs := ih (t + c 146 (10 + 4 * q + 1)) (by omega) h2 q y hq.1 (by omega) h3
    rw [show a + (t + c 146 (10 + 4 * q + 1)) = a + t + c 146 (10 + 4 * q + 1) by omega] at hs
    rcases hs with ⟨s1, s2, s3⟩ | ⟨s1, s2⟩
    · rcases h4 with ⟨k1, k2⟩ | ⟨k1, k2⟩
      · exact Or.inl ⟨h1, by omega, by omega, by omega⟩
      · omega
    · exact Or.inr ⟨by omega, Or.inr (by omega)⟩
theorem zTwo_same (h : zTwo c c2 w a z bh) : ∀ (m : Nat) (t : Int), z - a - t ≤ m → 0 ≤ t → t < z - a → ∀ p x, 0 ≤ p → p < 17 → zXv c2 t p x → zSame x (w (17 * (a + t - a) + p)) (z - a - t) := by
  intro m
  induction m with
  | zero => exact fun t h1 h2 h3 => absurd h3 (by omega)
  | succ m IH =>
    intro t h1 h2 h3 p x p0 p17 hx
    have its := fun {q x : Int} (hq : 0 ≤ q ∧ q < c 146 0) (hx : zIw c2 q t x) => zTwo_its h ⟨h2, h3⟩ (fun t' t1 t2 => IH t' (by omega) (by omega) t2) hq hx
    obtain ⟨⟨R, B, I⟩, hz, hf, ⟨f1, f2⟩, hA, hst, hw⟩ := h
    have hx1 : c2 139 t = p → x = c2 142 t := by
      unfold zXv at hx
      omega
    have hx2 : c2 139 t ≠ p → x = c2 140 t := by
      unfold zXv at hx
      omega
    clear hx
    obtain ⟨N, n1, n2⟩ := hst t h2 h3
    have e10 : c2 10 0 = c 146 0 := by rw [hf 10 (by decide)]; exact (zRep_9 R).1.1
    rw [e10] at n1 n2
    obtain ⟨⟨w1, w2⟩, w3, w4⟩ := hw (a + t) p (by omega) (by omega) p0 p17
    have hbs : zBs z bh (a + t) p = 999 := by unfold zBs; rw [if_neg (by omega)]
    rw [hbs] at w1 w4
    -- every candidate
    have hcand : ∀ q, 0 ≤ q → q < c 146 0 → p ≠ q → N q < 241 → w (17 * (a + t - a) + p) ≤ N q ∧ N q ≤ z - a - t := fun q q1 q2 q3 q4 => by
      clear w4
      rcases its ⟨q1, q2⟩ (n1 q q1 q2) with ⟨k1, k2, k3, k4⟩ | ⟨k1, _⟩
      · have := w3 (by omega) q q1 q2 k1 q3
        omega
      · omega
    have hge : ∀ g, g ≤ 999 → (∀ q, 0 ≤ q → q < c 146 0 → p ≠ q → N q < 241 → g ≤ N q) → g ≤ w (17 * (a + t - a) + p) := fun g g1 g2 => by
      rcases w4 with w4 | ⟨_, q, q1, q2, q3, q4, q5⟩
      · rw [w4]
        exact g1
      · rcases its ⟨q1, q2⟩ (n1 q q1 q2) with ⟨k1, k2, k3, k4⟩ | ⟨k1, k2⟩
        · have := g2 q q1 q2 q4 (by omega)
          omega
        · rcases k2 with k2 | k2
          · exact absurd q3 k2
          · omega
    clear w4
    rcases n2 with ⟨b1, b2, b3, b4, b5⟩ | ⟨⟨b1, b2, b3, b4⟩, b5, b6, b7⟩
    · have hW := hge 999 (by omega) (fun q q1 q2 q3 q4 => by have := b5 q q1 q2; omega)
      refine Or.inr ⟨?_, by omega⟩
      by_cases e : c2 139 t = p
      · rw [hx1 e]
        exact b4
      · rw [hx2 e]
        exact b2
    · by_cases e : c2 139 t = p
      · have hx3 := hx1 e
        rcases b7 with ⟨d1, d2, d3⟩ | ⟨⟨d1, d2, d3, d4, d5⟩, d6, d7⟩
        · have hW := hge 999 (by omega) (fun q q1 q2 q3 q4 => by have := d3 q q1 q2 (by omega); omega)
          exact Or.inr ⟨by omega, by omega⟩
        · have h8 := hcand (c2 141 t) d1 d2 (by omega) (by omega)
          have hW := hge (c2 142 t) (by omega) (fun q q1 q2 q3 q4 => d7 q q1 q2 (by omega))
          exact Or.inl ⟨by omega, by omega, by omega⟩
      · have hx3 := hx2 e
        have h8 := hcand (c2 139 t) b1 b2 (by omega) (by omega)
        have hW := hge (c2 140 t) (by omega) (fun q q1 q2 q3 q4 => b6 q q1 q2)
        exact Or.inl ⟨by omega, by omega, by omega⟩
/-- the next filler of both -/
theorem zTwo_pick (h : zTwo c c2 w a z bh) {t lc lm q : Int} (ht : 0 ≤ t ∧ t < z - a) (hlm : 0 ≤ lm ∧ lm < 17) (hc : zCmp (c 146) lc lm) (hp : zPk c2 t lc q) : (q = -9 ∧ w (17 * (a + t - a) + lm) = 999) ∨ (q ≠ -9 ∧ w (17 * (a + t - a) + lm) < 999 ∧ zNx c w a z (a + t) lm q) := by
  have hsm := fun p x p0 p17 hx => zTwo_same h (z - a - t).toNat t (by omega) ht.1 ht.2 p x p0 p17 hx
  have its := fun {q x : Int} (hq : 0 ≤ q ∧ q < c 146 0) (hx : zIw c2 q t x) => zTwo_its h ht (fun t' t1 t2 => zTwo_same h (z - a - t').toNat t' (by omega) (by omega) t2) hq hx
  obtain ⟨⟨R, B, I⟩, hz, hf, ⟨f1, f2⟩, hA, hst, hw⟩ := h
  obtain ⟨N, n1, n2⟩ := hst t ht.1 ht.2
  have e10 : c2 10 0 = c 146 0 := by rw [hf 10 (by decide)]; exact (zRep_9 R).1.1
  rw [e10] at n1 n2
  have h16 := I.1
  -- a first least one is the next
  have hnext : ∀ q g, 0 ≤ q → q < c 146 0 → q ≠ lm → g = N q → g < 241 → w (17 * (a + t - a) + lm) = g → (∀ q', 0 ≤ q' → q' < q → q' ≠ lm → g < N q') → zNx c w a z (a + t) lm q := fun q g q1 q2 q3 q4 q5 q6 q7 => by
    rcases its ⟨q1, q2⟩ (n1 q q1 q2) with ⟨k1, k2, k3, k4⟩ | ⟨k1, _⟩
    · refine ⟨⟨q1, q2⟩, ⟨⟨k1.1, q3, k1.2.2.1, k1.2.2.2⟩, by omega⟩, fun q' u1 u2 h9 => ?_⟩
      have u3 := h9.1.2.1
      have hn := q7 q' u1 u2 u3
      rcases its ⟨u1, by omega⟩ (n1 q' u1 (by omega)) with ⟨k1', k2', k3', k4'⟩ | ⟨k1', k2' | k2'⟩
      · have := h9.2
        omega
      · exact k2' ⟨h9.1.1, by omega, h9.1.2.2.1, h9.1.2.2.2⟩
      · have := h9.2
        omega
    · omega
  have hfil : ∀ q, 0 ≤ q → q < c 146 0 → N q < 241 → (q = lc ↔ q = lm) := fun q q1 q2 q3 => by
    rcases its ⟨q1, q2⟩ (n1 q q1 q2) with ⟨k1, k2, k3, k4⟩ | ⟨k1, _⟩
    · exact hc q q1 q2 k1.1
    · omega
  have hX := hsm lm (if c2 139 t = lm then c2 142 t else c2 140 t) hlm.1 hlm.2 (by
    unfold zXv
    by_cases e : c2 139 t = lm
    · rw [if_pos e]
      exact Or.inl ⟨e, rfl⟩
    · rw [if_neg e]
      exact Or.inr ⟨e, rfl⟩)
  unfold zPk at hp
  rcases n2 with ⟨b1, b2, b3, b4, b5⟩ | ⟨⟨b1, b2, b3, b4⟩, b5, b6, b7⟩
  · rw [b2, b4, ite_self] at hX
    refine Or.inl ⟨by omega, ?_⟩
    rcases hX with ⟨x1, x2, x3⟩ | ⟨x1, x2⟩
    · omega
    · exact x2
  · have hb := hfil (c2 139 t) b1 b2 (by omega)
    by_cases e : c2 139 t = lc
    · have e2 := hb.mp e
      rw [if_pos e2] at hX
      have hq : q = c2 141 t := by omega
      rcases b7 with ⟨d1, d2, d3⟩ | ⟨⟨d1, d2, d3, d4, d5⟩, d6, d7⟩
      · rcases hX with ⟨x1, x2, x3⟩ | ⟨x1, x2⟩
        · omega
        · exact Or.inl ⟨by omega, x2⟩
      · rcases hX with ⟨x1, x2, x3⟩ | ⟨x1, x2⟩
        · refine Or.inr ⟨by omega, by omega, ?_⟩
          rw [hq]
          exact hnext _ (c2 142 t) d1 d2 (by omega) d4 d5 x1.symm (fun q' u1 u2 u3 => d6 q' u1 u2 (by omega))
        · omega
    · have e2 : c2 139 t ≠ lm := fun h9 => e (hb.mpr h9)
      rw [if_neg e2] at hX
      have hq : q = c2 139 t := by omega
      rcases hX with ⟨x1, x2, x3⟩ | ⟨x1, x2⟩
      · refine Or.inr ⟨by omega, by omega, ?_⟩
        rw [hq]
        exact hnext _ (c2 140 t) b1 b2 e2 b3 b4 x1.symm (fun q' u1 u2 u3 => b5 q' u1 u2)
      · omega
theorem zNx_u {t l q q' : Int} (h : zNx c w a z t l q) (h' : zNx c w a z t l q') : q = q' := by
  rcases Int.lt_trichotomy q q' with h9 | h9 | h9
  · exact absurd h.2.1 (h'.2.2 q h.1.1 h9)
  · exact h9
  · exact absurd h'.2.1 (h.2.2 q' h'.1.1 h9)
theorem zCmp_rf {v : Int → Int} {x : Int} : zCmp v x x := fun _ _ _ _ => Iff.rfl
theorem zTwo_n (h : zTwo c c2 w a z bh) {t lm q : Int} (hx : zNx c w a z (a + t) lm q) : (0 ≤ q ∧ q < 16) ∧ (1 ≤ c 146 (10 + 4 * q + 1) ∧ t + c 146 (10 + 4 * q + 1) ≤ z - a) ∧ c2 12 q = c 146 (10 + 4 * q + 1) ∧ w (17 * (a + t - a) + lm) = 1 + w (17 * (a + (t + c 146 (10 + 4 * q + 1)) - a) + q) := by
  obtain ⟨⟨R, B, I⟩, hz, hf, -⟩ := h
  have hq := hx.1
  have hl := zM_ln I q hq.1 hq.2
  have h16 := I.1
  have hm := hx.2.1.1.2.2.1
  have hw := hx.2.1.2
  refine ⟨⟨hq.1, by omega⟩, ⟨hl.1, by omega⟩, by rw [hf 12 (by decide)]; exact ((zRep_9 R).2.1 q hq.1 hq.2).2.1, ?_⟩
  rw [show a + (t + c 146 (10 + 4 * q + 1)) = a + t + c 146 (10 + 4 * q + 1) by omega]
  exact hw.symm
/-- no sequence in the class, none in the model -/
theorem zTwo_none (h : zTwo c c2 w a z bh) : ∀ (s : List Int) (t lc lm : Int), 0 ≤ t → 0 ≤ lm → lm < 17 → zCmp (c 146) lc lm → zChN c2 s t lc → w (17 * (a + t - a) + lm) = 999
  | [], t, lc, lm, h0, h1, h2, hc, hs => by
    have e := h.2.2.2.1.2
    rcases zTwo_pick h ⟨h0, by have := hs.1; omega⟩ ⟨h1, h2⟩ hc hs.2 with ⟨_, k⟩ | ⟨k, _⟩
    · exact k
    · exact absurd rfl k
  | q :: r, t, lc, lm, h0, h1, h2, hc, ⟨s1, s2, s3, s4⟩ => by
    have e := h.2.2.2.1.2
    rcases zTwo_pick h ⟨h0, by omega⟩ ⟨h1, h2⟩ hc s2 with ⟨k, _⟩ | ⟨_, k1, k2⟩
    · exact absurd k s3
    · obtain ⟨a1, a2, a3, a4⟩ := zTwo_n h k2
      rw [a3] at s4
      have := zTwo_none h r (t + c 146 (10 + 4 * q + 1)) q q (by omega) a1.1 (by omega) zCmp_rf s4
      omega
theorem zTwo_some (h : zTwo c c2 w a z bh) : ∀ (s : List Int) (t lc lm : Int), 0 ≤ t → t ≤ z - a → 0 ≤ lm → lm < 17 → zCmp (c 146) lc lm → zChs c2 s t lc → (t = z - a → w (17 * (a + t - a) + lm) < 999) → w (17 * (a + t - a) + lm) = s.length
  | [], t, lc, lm, h0, h1, h2, h3, hc, hs, hw9 => by
    have e := h.2.2.2.1.2
    have hs2 : ¬ t < c2 137 2 := hs
    have ht : t = z - a := by omega
    obtain ⟨-, hz, -, -, -, -, hw⟩ := h
    have h9 := (hw (a + t) lm (by omega) (by omega) h2 h3).2.2.resolve_right (fun h9 => absurd h9.1 (by omega))
    have h8 := hw9 ht
    unfold zBs at h9
    rw [h9] at h8 ⊢
    split
    · rfl
    · rename_i h7
      rw [if_neg h7] at h8
      omega
  | q :: r, t, lc, lm, h0, h1, h2, h3, hc, ⟨s1, s2, s3, s4⟩, hw9 => by
    have e := h.2.2.2.1.2
    rcases zTwo_pick h ⟨h0, by omega⟩ ⟨h2, h3⟩ hc s2 with ⟨k, _⟩ | ⟨_, k1, k2⟩
    · exact absurd k s3
    · obtain ⟨a1, a2, a3, a4⟩ := zTwo_n h k2
      rw [a3] at s4
      have := zTwo_some h r (t + c 146 (10 + 4 * q + 1)) q q (by omega) a2.2 a1.1 (by omega) zCmp_rf s4 (fun _ => by omega)
      rw [List.length_cons]
      omega
theorem zTwo_seq (h : zTwo c c2 w a z bh) : ∀ (s l : List Int) (t lc lm : Int) (v v' : Int → Int), 0 ≤ t → 0 ≤ lm → lm < 17 → zCmp (c 146) lc lm → zChs c2 s t lc → zFls c w a z l v (a + t) lm v' → s = l
  | [], [], _, _, _, _, _, _, _, _, _, _, _ => rfl
  | [], q :: l, t, lc, lm, v, v', h0, h1, h2, hc, hs, hl => by
    have e := h.2.2.2.1.2
    have hs2 : ¬ t < c2 137 2 := hs
    have := hl.1
    omega
  | q :: r, [], t, lc, lm, v, v', h0, h1, h2, hc, hs, hl => by
    have e := h.2.2.2.1.2
    have hs2 := hs.1
    have := hl.1
    omega
  | q :: r, q' :: l, t, lc, lm, v, v', h0, h1, h2, hc, ⟨s1, s2, s3, s4⟩, ⟨l1, l2, at9, v1, l3, l4⟩ => by
    have e := h.2.2.2.1.2
    rcases zTwo_pick h ⟨h0, by omega⟩ ⟨h1, h2⟩ hc s2 with ⟨k, _⟩ | ⟨_, k1, k2⟩
    · exact absurd k s3
    · have hqq := zNx_u k2 l2
      subst hqq
      obtain ⟨a1, a2, a3, a4⟩ := zTwo_n h k2
      rw [a3] at s4
      rw [show a + t + c 146 (10 + 4 * q + 1) = a + (t + c 146 (10 + 4 * q + 1)) by omega] at l4
      rw [zTwo_seq h r l (t + c 146 (10 + 4 * q + 1)) q q v1 v' (by omega) a1.1 (by omega) zCmp_rf s4 l4]
end SF
