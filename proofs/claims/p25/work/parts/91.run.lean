/-! runOver: class and model together -/
section SR
variable {cc c1 c2 c3 : zC} {v : Int → Int} {i e x B : Int}
/-- the week's cells, but for the item i -/
def zRpx (c : zC) (v : Int → Int) (i : Int) : Prop := (c 10 0 = v 0 ∧ c 15 0 = v 2 ∧ c 20 0 = v 1 ∧ c 24 0 = v 3) ∧ (∀ p, 0 ≤ p → p < v 0 → c 11 p = v (10 + 4 * p) ∧ c 12 p = v (10 + 4 * p + 1) ∧ c 13 p = v (10 + 4 * p + 2) ∧ c 14 p = v (10 + 4 * p + 3)) ∧ (∀ r, 0 ≤ r → r < v 2 → c 16 r = v (110 + 4 * r) ∧ c 17 r = v (110 + 4 * r + 1) ∧ c 18 r = v (110 + 4 * r + 2) ∧ c 19 r = v (110 + 4 * r + 3)) ∧ (∀ b, 0 ≤ b → b < v 1 → c 21 b = v (80 + 3 * b) ∧ c 22 b = v (80 + 3 * b + 1) ∧ c 23 b = v (80 + 3 * b + 2)) ∧ (∀ j, 0 ≤ j → j < v 3 → j ≠ i → c 25 j = v (230 + 4 * j + 0) ∧ c 26 j = v (230 + 4 * j + 1) ∧ c 27 j = v (230 + 4 * j + 2) ∧ c 28 j = v (230 + 4 * j + 3))
theorem zRpx_of (R : zRep cc 9 v) : zRpx cc v i := by
  obtain ⟨a, b, d, f, g⟩ := zRep_9 R
  exact ⟨a, b, d, f, fun j j1 j2 _ => g j j1 j2⟩
theorem kv_rep (R : zRep cc 9 v) (hf : ∀ r, r < 29 → r ≠ 26 → r ≠ 27 → c1 r = cc r) (hj : ∀ j, j ≠ i → c1 26 j = cc 26 j ∧ c1 27 j = cc 27 j) (h26 : c1 26 i = e) (h27 : c1 27 i = zNe v i e - e) (hi : 0 ≤ i ∧ i < v 3) (hv : (0 ≤ v 0 ∧ v 0 ≤ 16) ∧ (0 ≤ v 1 ∧ v 1 ≤ 10) ∧ (0 ≤ v 2 ∧ v 2 ≤ 30)) : zRep c1 9 (zKeV v i e) := by
  obtain ⟨⟨a0, a1, a2, a3⟩, R1, R2, R3, R4⟩ := zRep_9 R
  have ks : ∀ k, k < 230 → zKeV v i e k = v k := fun k hk => by
    unfold zKeV
    rw [if_neg (by omega), if_neg (by omega)]
  have ko : ∀ j q, 0 ≤ q → q ≤ 3 → j ≠ i → zKeV v i e (230 + 4 * j + q) = v (230 + 4 * j + q) := fun j q q1 q2 hj => by
    unfold zKeV
    rw [if_neg (by omega), if_neg (by omega)]
  have k0 : zKeV v i e (230 + 4 * i + 0) = v (230 + 4 * i + 0) := by
    unfold zKeV
    rw [if_neg (by omega), if_neg (by omega)]
  have k1 : zKeV v i e (230 + 4 * i + 1) = e := by
    unfold zKeV
    rw [if_pos rfl]
  have k2 : zKeV v i e (230 + 4 * i + 2) = zNe v i e - e := by
    unfold zKeV
    rw [if_neg (by omega), if_pos rfl]
  have k3 : zKeV v i e (230 + 4 * i + 3) = v (230 + 4 * i + 3) := by
    unfold zKeV
    rw [if_neg (by omega), if_neg (by omega)]
  refine ⟨⟨?_, ?_, ?_, ?_⟩, fun p p1 p2 => ?_, fun r r1 r2 => ?_, fun b b1 b2 => ?_, fun j j1 j2 => ?_⟩
  · show c1 10 0 = _
    rw [hf 10 (by decide) (by decide) (by decide), ks 0 (by omega)]
    exact a0
  · show c1 15 0 = _
    rw [hf 15 (by decide) (by decide) (by decide), ks 2 (by omega)]
    exact a1
  · show c1 20 0 = _
    rw [hf 20 (by decide) (by decide) (by decide), ks 1 (by omega)]
    exact a2
  · show c1 24 0 = _
    rw [hf 24 (by decide) (by decide) (by decide), ks 3 (by omega)]
    exact a3
  · rw [ks 0 (by omega)] at p2
    show c1 11 p = _ ∧ c1 12 p = _ ∧ c1 13 p = _ ∧ c1 14 p = _
    rw [hf 11 (by decide) (by decide) (by decide), hf 12 (by decide) (by decide) (by decide), hf 13 (by decide) (by decide) (by decide), hf 14 (by decide) (by decide) (by decide), ks _ (by omega), ks _ (by omega), ks _ (by omega), ks _ (by omega)]
    exact R1 p p1 p2
  · rw [ks 2 (by omega)] at r2
    show c1 16 r = _ ∧ c1 17 r = _ ∧ c1 18 r = _ ∧ c1 19 r = _
    rw [hf 16 (by decide) (by decide) (by decide), hf 17 (by decide) (by decide) (by decide), hf 18 (by decide) (by decide) (by decide), hf 19 (by decide) (by decide) (by decide), ks _ (by omega), ks _ (by omega), ks _ (by omega), ks _ (by omega)]
    exact R2 r r1 r2
  · rw [ks 1 (by omega)] at b2
    show c1 21 b = _ ∧ c1 22 b = _ ∧ c1 23 b = _
    rw [hf 21 (by decide) (by decide) (by decide), hf 22 (by decide) (by decide) (by decide), hf 23 (by decide) (by decide) (by decide), ks _ (by omega), ks _ (by omega), ks _ (by omega)]
    exact R3 b b1 b2
  · rw [ks 3 (by omega)] at j2
    show c1 25 j = _ ∧ c1 26 j = _ ∧ c1 27 j = _ ∧ c1 28 j = _
    rw [hf 25 (by decide) (by decide) (by decide), hf 28 (by decide) (by decide) (by decide)]
    obtain ⟨b1, b2, b3, b4⟩ := R4 j j1 j2
    by_cases ej : j = i
    · subst ej
      rw [h26, h27, k0, k1, k2, k3]
      exact ⟨b1, rfl, rfl, b4⟩
    · rw [(hj j ej).1, (hj j ej).2, ko j 0 (by omega) (by omega) ej, ko j 1 (by omega) (by omega) ej, ko j 2 (by omega) (by omega) ej, ko j 3 (by omega) (by omega) ej]
      exact ⟨b1, b2, b3, b4⟩
theorem gw_link (R : zRep cc 9 v) (Lp : zLoop B v i e) (hc : i < v 3 ∧ v (230 + 4 * i + 1) < e) (hg : zGw cc i e x c1) : (x ≠ 0 ∧ zYes v i e ∧ zRep c1 9 (zKeV v i e) ∧ c1 26 i + c1 27 i = zNe v i e) ∨ (x = 0 ∧ ¬ zYes v i e ∧ zRpx c1 v i ∧ c1 25 i = v (230 + 4 * i + 0)) := by
  obtain ⟨h0, h1, h2, h3, h4, h5, h6, h7, h8, h9, h10⟩ := Lp
  obtain ⟨⟨a0, a1, a2, a3⟩, R1, R2, R3, R4⟩ := zRep_9 R
  have hi := h5 i (by omega) hc.1
  obtain ⟨b1, b2, b3, b4⟩ := R4 i (by omega) hc.1
  obtain ⟨p1, p2, p3, p4⟩ := R1 (v (230 + 4 * i + 0)) (by omega) (by omega)
  have hdk : zDkX cc (cc 25 i) e (e + cc 27 i) ↔ zDk (v 1) (fun j => v (80 + 3 * j)) (fun j => v (80 + 3 * j + 1)) (fun j => v (80 + 3 * j + 2)) (v (10 + 4 * v (230 + 4 * i + 0) + 2)) e (e + v (230 + 4 * i + 2)) := by
    unfold zDkX
    rw [b1, b3, p3, a2]
    exact zDk_congr (fun j j1 j2 => R3 j j1 j2)
  have hv9 : (0 ≤ v 0 ∧ v 0 ≤ 16) ∧ (0 ≤ v 1 ∧ v 1 ≤ 10) ∧ (0 ≤ v 2 ∧ v 2 ≤ 30) := ⟨h0.1, h0.2.1, h0.2.2.1⟩
  unfold zGw at hg
  rw [b1, p1, b4] at hg
  rcases hg with ⟨k1, k2, k3⟩ | ⟨k1, k2, ⟨k3, k4, k5⟩ | ⟨k3, k4, k5⟩⟩ | ⟨k1, k2, hps⟩
  · rw [k3]
    exact Or.inr ⟨k2, fun h => h.1 k1, zRpx_of R, b1⟩
  · rw [k5]
    exact Or.inr ⟨k4, fun h => h.2.elim (fun h => by have := h.2; omega) (fun h => h.1 k2), zRpx_of R, b1⟩
  · have hne : zNe v i e = v (230 + 4 * i + 1) + v (230 + 4 * i + 2) := by unfold zNe; rw [if_pos k2]
    refine Or.inl ⟨by omega, ⟨k1, Or.inl ⟨k2, by omega⟩⟩, ?_, ?_⟩
    · rw [k5]
      refine kv_rep R (fun r r1 r2 r3 => by rw [zup_ne r3, zup_ne r2]) (fun j hj => ⟨by rw [zup_oth (by decide), zup_k hj], by rw [zup_k hj, zup_oth (by decide)]⟩) (by rw [zup_oth (by decide), zup_same]) (by rw [zup_same]; omega) (by omega) hv9
    · rw [k5, zup_oth (by decide), zup_same, zup_same]
      omega
  · unfold zPsh at hps
    rw [hdk, b1, b3] at hps
    have hpu := zPu_iff R (i := i) (e := e) (p := v (230 + 4 * i + 0)) (by omega) rfl (by omega) k1
    rcases hps with ⟨k3, k4, k5⟩ | ⟨k3, k4, k5⟩
    · rw [k5]
      exact Or.inr ⟨k4, fun h => h.2.elim (fun h => k2 h.1) (fun h => k3 ⟨h.2.1, h.2.2.1⟩), zRpx_of R, b1⟩
    · rw [hpu] at k4
      have hf : ∀ r, r < 29 → r ≠ 26 → r ≠ 27 → c1 r = cc r := fun r r1 r2 _ => by rw [k5 r (by omega), zup_ne r2]
      have e27 : c1 27 = cc 27 := by rw [k5 27 (by omega), zup_ne (by decide)]
      rcases k4 with ⟨q1, q2⟩ | ⟨q1, q2⟩
      · have hne : zNe v i e = e + v (230 + 4 * i + 2) := by unfold zNe; rw [if_neg k2]
        refine Or.inl ⟨by omega, ⟨k1, Or.inr ⟨k2, k3.1, k3.2, Or.inr q2⟩⟩, ?_, ?_⟩
        · refine kv_rep R hf (fun j hj => ⟨by rw [k5 26 (by omega), zup_k hj], by rw [e27]⟩) (by rw [k5 26 (by omega), zup_same]) (by rw [e27]; omega) (by omega) hv9
        · rw [k5 26 (by omega), zup_same, e27]
          omega
      · refine Or.inr ⟨q1, fun h => h.2.elim (fun h => k2 h.1) (fun h => h.2.2.2.elim (fun h9 => k1 h9) q2), ?_, by rw [hf 25 (by decide) (by decide) (by decide)]; exact b1⟩
        unfold zRpx
        rw [hf 10 (by decide) (by decide) (by decide), hf 11 (by decide) (by decide) (by decide), hf 12 (by decide) (by decide) (by decide), hf 13 (by decide) (by decide) (by decide), hf 14 (by decide) (by decide) (by decide), hf 15 (by decide) (by decide) (by decide), hf 16 (by decide) (by decide) (by decide), hf 17 (by decide) (by decide) (by decide), hf 18 (by decide) (by decide) (by decide), hf 19 (by decide) (by decide) (by decide), hf 20 (by decide) (by decide) (by decide), hf 21 (by decide) (by decide) (by decide), hf 22 (by decide) (by decide) (by decide), hf 23 (by decide) (by decide) (by decide), hf 24 (by decide) (by decide) (by decide), hf 25 (by decide) (by decide) (by decide), hf 28 (by decide) (by decide) (by decide), e27]
        refine ⟨⟨a0, a1, a2, a3⟩, R1, R2, R3, fun j j1 j2 j3 => ?_⟩
        rw [k5 26 (by omega), zup_k j3]
        exact R4 j j1 j2
theorem dr_rep (R : zRpx c1 v i) (hv : (0 ≤ v 0 ∧ v 0 ≤ 16) ∧ (0 ≤ v 1 ∧ v 1 ≤ 10) ∧ (0 ≤ v 2 ∧ v 2 ≤ 30)) (hi : 0 ≤ i ∧ i < v 3) (hp : 0 ≤ v (230 + 4 * i + 0) ∧ v (230 + 4 * i + 0) < v 0) (h25 : c1 25 i = v (230 + 4 * i + 0)) (hdp : zDp c1 c2 i) (hdl : zDel c2 c3 i) : zRep c3 9 (zDrV (zOwV v (v (230 + 4 * i + 0))) i) := by
  obtain ⟨⟨a0, a1, a2, a3⟩, R1, R2, R3, R4⟩ := R
  obtain ⟨d1, d2, d3⟩ := zDrO (v := v) (i := i) (p := v (230 + 4 * i + 0)) (by omega)
  have ks : ∀ k, k < 230 → k ≠ 3 → (∀ p, 0 ≤ p → p < 16 → k ≠ 10 + 4 * p + 3) → zDrV (zOwV v (v (230 + 4 * i + 0))) i k = v k := fun k k1 k2 k3 => by
    rw [(d1 k k1 k2).resolve_right (by omega)]
    unfold zOwV
    rw [if_neg (k3 _ (by omega) (by omega))]
  have n0 := ks 0 (by omega) (by omega) (by omega)
  have n1 := ks 1 (by omega) (by omega) (by omega)
  have n2 := ks 2 (by omega) (by omega) (by omega)
  have pk := (R1 _ hp.1 hp.2).1
  have p14 := (R1 _ hp.1 hp.2).2.2.2
  unfold zDp at hdp
  rw [h25, pk, p14] at hdp
  have hf2 : (∀ r, r ≠ 14 → c2 r = c1 r) ∧ ∀ p, 0 ≤ p → p < v 0 → c2 14 p = zOwV v (v (230 + 4 * i + 0)) (10 + 4 * p + 3) := by
    rcases hdp with ⟨q1, q2⟩ | ⟨q1, q2⟩
    · rw [q2]
      refine ⟨fun r hr => zup_ne hr, fun p p1 p2 => ?_⟩
      unfold zOwV
      rw [zup_q]
      by_cases ep : p = v (230 + 4 * i + 0)
      · rw [if_pos ep, if_pos (by omega), if_pos q1, ep]
      · rw [if_neg ep, if_neg (by omega)]
        exact (R1 p p1 p2).2.2.2
    · rw [q2]
      refine ⟨fun r hr => rfl, fun p p1 p2 => ?_⟩
      unfold zOwV
      rw [(R1 p p1 p2).2.2.2]
      by_cases ep : p = v (230 + 4 * i + 0)
      · rw [if_pos (by omega), if_neg q1]
        omega
      · rw [if_neg (by omega)]
  obtain ⟨f2, o2⟩ := hf2
  obtain ⟨m1, m2, m3, m4, m5⟩ := hdl
  have e24 : c2 24 0 = v 3 := by rw [f2 24 (by decide)]; exact a3
  refine ⟨⟨?_, ?_, ?_, ?_⟩, fun p p1 p2 => ?_, fun r r1 r2 => ?_, fun b b1 b2 => ?_, fun j j1 j2 => ?_⟩
  · show c3 10 0 = _
    rw [m3 10 (by decide), f2 10 (by decide), n0]
    exact a0
  · show c3 15 0 = _
    rw [m3 15 (by decide), f2 15 (by decide), n2]
    exact a1
  · show c3 20 0 = _
    rw [m3 20 (by decide), f2 20 (by decide), n1]
    exact a2
  · show c3 24 0 = _
    rw [m1, e24, d2]
  · rw [n0] at p2
    show c3 11 p = _ ∧ c3 12 p = _ ∧ c3 13 p = _ ∧ c3 14 p = _
    obtain ⟨q1, q2, q3, q4⟩ := R1 p p1 p2
    rw [m3 11 (by decide), m3 12 (by decide), m3 13 (by decide), m3 14 (by decide), f2 11 (by decide), f2 12 (by decide), f2 13 (by decide), o2 p p1 p2, ks _ (by omega) (by omega) (by omega), ks _ (by omega) (by omega) (by omega), ks _ (by omega) (by omega) (by omega), (d1 (10 + 4 * p + 3) (by omega) (by omega)).resolve_right (by omega)]
    exact ⟨q1, q2, q3, rfl⟩
  · rw [n2] at r2
    show c3 16 r = _ ∧ c3 17 r = _ ∧ c3 18 r = _ ∧ c3 19 r = _
    rw [m3 16 (by decide), m3 17 (by decide), m3 18 (by decide), m3 19 (by decide), f2 16 (by decide), f2 17 (by decide), f2 18 (by decide), f2 19 (by decide), ks _ (by omega) (by omega) (by omega), ks _ (by omega) (by omega) (by omega), ks _ (by omega) (by omega) (by omega), ks _ (by omega) (by omega) (by omega)]
    exact R2 r r1 r2
  · rw [n1] at b2
    show c3 21 b = _ ∧ c3 22 b = _ ∧ c3 23 b = _
    rw [m3 21 (by decide), m3 22 (by decide), m3 23 (by decide), f2 21 (by decide), f2 22 (by decide), f2 23 (by decide), ks _ (by omega) (by omega) (by omega), ks _ (by omega) (by omega) (by omega), ks _ (by omega) (by omega) (by omega)]
    exact R3 b b1 b2
  · rw [d2] at j2
    show c3 25 j = _ ∧ c3 26 j = _ ∧ c3 27 j = _ ∧ c3 28 j = _
    rw [m4 25 (by decide) (by decide), m4 26 (by decide) (by decide), m4 27 (by decide) (by decide), m4 28 (by decide) (by decide), f2 25 (by decide), f2 26 (by decide), f2 27 (by decide), f2 28 (by decide), e24, d3 _ (by omega), d3 _ (by omega), d3 _ (by omega), d3 _ (by omega)]
    by_cases ej : j < i
    · rw [if_neg (by omega), if_neg (by omega), if_neg (by omega), if_neg (by omega), if_neg (by omega), if_neg (by omega), if_neg (by omega), if_neg (by omega)]
      exact R4 j j1 (by omega) (by omega)
    · rw [if_pos (by omega), if_pos (by omega), if_pos (by omega), if_pos (by omega), if_pos (by omega), if_pos (by omega), if_pos (by omega), if_pos (by omega), show 230 + 4 * j + 0 + 4 = 230 + 4 * (j + 1) + 0 by omega, show 230 + 4 * j + 1 + 4 = 230 + 4 * (j + 1) + 1 by omega, show 230 + 4 * j + 2 + 4 = 230 + 4 * (j + 1) + 2 by omega, show 230 + 4 * j + 3 + 4 = 230 + 4 * (j + 1) + 3 by omega]
      exact R4 (j + 1) (by omega) (by omega) (by omega)
end SR
theorem ro_link : ∀ (f g : Nat) (cc : zC) (v : Int → Int) (i e B : Int) (cc' : zC) (d : Int) (v' : Int → Int) (d' : Int), zRep cc 9 v → zLoop B v i e → zRX f cc i e cc' d → zRO g v i e v' d' → d = d' ∧ zRep cc' 9 v' ∧ zInv (B + 60) v'
  | 0, _, _, _, _, _, _, _, _, _, _, _, _, h, _ => absurd h id
  | _ + 1, 0, _, _, _, _, _, _, _, _, _, _, _, _, h => absurd h id
  | f + 1, g + 1, cc, v, i, e, B, cc', d, v', d', R, Lp, h, k => by
    have a3 := (zRep_9 R).1.2.2.2
    have hcond : (i < cc 24 0 ∧ cc 26 i < e) ↔ (i < v 3 ∧ v (230 + 4 * i + 1) < e) := by
      rw [a3]
      constructor
      · rintro ⟨q1, q2⟩
        exact ⟨q1, by rw [← ((zRep_9 R).2.2.2.2 i (by have := Lp.2.2.2.2.2.2.2.2.2.1; omega) q1).2.1]; exact q2⟩
      · rintro ⟨q1, q2⟩
        exact ⟨q1, by rw [((zRep_9 R).2.2.2.2 i (by have := Lp.2.2.2.2.2.2.2.2.2.1; omega) q1).2.1]; exact q2⟩
    rcases h with ⟨h1, h2, h3⟩ | ⟨h1, x, c1, hg, h2⟩
    · rcases k with ⟨k1, k2, k3⟩ | ⟨k1, _⟩
      · rw [h2, k2]
        exact ⟨by omega, R, zLoop_end Lp k1⟩
      · exact absurd (hcond.mpr k1) h1
    · have hc := hcond.mp h1
      rcases k with ⟨k1, _⟩ | ⟨_, k2⟩
      · exact absurd hc k1
      · rcases gw_link R Lp hc hg with ⟨g1, g2, g3, g4⟩ | ⟨g1, g2, g3, g4⟩
        · rcases h2 with ⟨q1, q2⟩ | ⟨q1, _⟩
          · rcases k2 with ⟨_, u2⟩ | ⟨u1, _⟩
            · rw [g4] at q2
              exact ro_link f g c1 _ _ _ B cc' d v' d' g3 (zLoop_keep Lp hc g2) q2 u2
            · exact absurd g2 u1
          · exact absurd q1 g1
        · rcases h2 with ⟨q1, _⟩ | ⟨_, cx, cy, d1, q2, q3, q4, q5⟩
          · exact absurd g1 q1
          · rcases k2 with ⟨u1, _⟩ | ⟨_, d2, u2, u3⟩
            · exact absurd u1 g2
            · have hi := Lp.2.2.2.2.2.1 i (by have := Lp.2.2.2.2.2.2.2.2.2.1; omega) hc.1
              have h0 := Lp.1
              have R3 := dr_rep g3 ⟨h0.1, h0.2.1, h0.2.2.1⟩ ⟨by have := Lp.2.2.2.2.2.2.2.2.2.1; omega, hc.1⟩ hi.1 g4 q2 q3
              obtain ⟨w1, w2, w3⟩ := ro_link f g cy _ _ _ B cc' d1 v' d2 R3 (zLoop_drop Lp hc) q4 u2
              exact ⟨by omega, w2, w3⟩
theorem lg_rep {cc : zC} {v : Int → Int} {B it mi : Int} (R : zRep cc 9 v) (I : zInv B v) (hi : 0 ≤ it ∧ it < v 3) (hm : 1 ≤ mi) (he : v (230 + 4 * it + 1) + v (230 + 4 * it + 2) + mi ≤ 10080) : zRep (zup cc 27 it (v (230 + 4 * it + 2) + mi)) 9 (zLgV v it mi) ∧ zLoop B (zLgV v it mi) (it + 1) (v (230 + 4 * it + 1) + v (230 + 4 * it + 2) + mi) := by
  obtain ⟨⟨a0, a1, a2, a3⟩, R1, R2, R3, R4⟩ := zRep_9 R
  obtain ⟨⟨i0, i1, i2, i3⟩, I1, I2, I3, I4, I5, I6⟩ := I
  have ks : ∀ k, k ≠ 230 + 4 * it + 2 → zLgV v it mi k = v k := fun k hk => by
    unfold zLgV
    rw [if_neg hk]
  have k2 : zLgV v it mi (230 + 4 * it + 2) = v (230 + 4 * it + 2) + mi := by
    unfold zLgV
    rw [if_pos rfl]
  have hit := I5 it hi.1 hi.2
  have n0 := ks 0 (by omega)
  have n1 := ks 1 (by omega)
  have n2 := ks 2 (by omega)
  have n3 := ks 3 (by omega)
  constructor
  · refine ⟨⟨?_, ?_, ?_, ?_⟩, fun p p1 p2 => ?_, fun r r1 r2 => ?_, fun b b1 b2 => ?_, fun j j1 j2 => ?_⟩
    · show zup cc 27 it _ 10 0 = _
      rw [zup_oth (by decide), n0]
      exact a0
    · show zup cc 27 it _ 15 0 = _
      rw [zup_oth (by decide), n2]
      exact a1
    · show zup cc 27 it _ 20 0 = _
      rw [zup_oth (by decide), n1]
      exact a2
    · show zup cc 27 it _ 24 0 = _
      rw [zup_oth (by decide), n3]
      exact a3
    · rw [n0] at p2
      show zup cc 27 it _ 11 p = _ ∧ zup cc 27 it _ 12 p = _ ∧ zup cc 27 it _ 13 p = _ ∧ zup cc 27 it _ 14 p = _
      rw [zup_oth (by decide), zup_oth (by decide), zup_oth (by decide), zup_oth (by decide), ks _ (by omega), ks _ (by omega), ks _ (by omega), ks _ (by omega)]
      exact R1 p p1 p2
    · rw [n2] at r2
      show zup cc 27 it _ 16 r = _ ∧ zup cc 27 it _ 17 r = _ ∧ zup cc 27 it _ 18 r = _ ∧ zup cc 27 it _ 19 r = _
      rw [zup_oth (by decide), zup_oth (by decide), zup_oth (by decide), zup_oth (by decide), ks _ (by omega), ks _ (by omega), ks _ (by omega), ks _ (by omega)]
      exact R2 r r1 r2
    · rw [n1] at b2
      show zup cc 27 it _ 21 b = _ ∧ zup cc 27 it _ 22 b = _ ∧ zup cc 27 it _ 23 b = _
      rw [zup_oth (by decide), zup_oth (by decide), zup_oth (by decide), ks _ (by omega), ks _ (by omega), ks _ (by omega)]
      exact R3 b b1 b2
    · rw [n3] at j2
      show zup cc 27 it _ 25 j = _ ∧ zup cc 27 it _ 26 j = _ ∧ zup cc 27 it _ 27 j = _ ∧ zup cc 27 it _ 28 j = _
      obtain ⟨b1, b2, b3, b4⟩ := R4 j j1 j2
      rw [zup_oth (show (25 : Nat) ≠ 27 by decide), zup_oth (show (26 : Nat) ≠ 27 by decide), zup_oth (show (28 : Nat) ≠ 27 by decide), ks (230 + 4 * j + 0) (by omega), ks (230 + 4 * j + 1) (by omega), ks (230 + 4 * j + 3) (by omega)]
      refine ⟨b1, b2, ?_, b4⟩
      by_cases ej : j = it
      · rw [ej, zup_same, k2]
      · rw [zup_k ej, ks _ (by omega)]
        exact b3
  · refine ⟨by rw [n0, n1, n2, n3]; exact ⟨i0, i1, i2, i3⟩, fun p p1 p2 => ?_, fun p p1 p2 => ?_, fun r r1 r2 => ?_, fun b b1 b2 => ?_, fun j j1 j2 => ?_, fun j l j1 jl l2 => ?_, fun j j1 j2 => ?_, fun j l j1 jl l2 => ?_, by rw [n3]; omega, by omega⟩
    · rw [n0] at p2
      rw [ks _ (by omega), ks _ (by omega), ks _ (by omega)]
      exact I1 p p1 p2
    · rw [ks _ (by omega), n3]
      have := I2 p p1 p2
      omega
    · rw [n2] at r2
      rw [ks _ (by omega), n0, ks _ (by omega), ks _ (by omega), ks _ (by omega)]
      exact I3 r r1 r2
    · rw [n1] at b2
      rw [ks _ (by omega), ks _ (by omega), ks _ (by omega)]
      exact I4 b b1 b2
    · rw [n3] at j2
      rw [n0, ks (230 + 4 * j + 0) (by omega), ks (230 + 4 * j + 1) (by omega), ks (230 + 4 * j + 3) (by omega)]
      have := I5 j j1 j2
      by_cases ej : j = it
      · subst ej
        rw [k2]
        omega
      · rw [ks _ (by omega)]
        exact this
    · rw [ks (230 + 4 * j + 1) (by omega), ks (230 + 4 * j + 2) (by omega), ks (230 + 4 * l + 1) (by omega)]
      exact I6 j l j1 jl (by omega)
    · rw [ks (230 + 4 * j + 1) (by omega)]
      by_cases ej : j = it
      · subst ej
        rw [k2]
        omega
      · rw [ks _ (by omega)]
        have := I6 j it j1 (by omega) hi.2
        omega
    · rw [n3] at l2
      rw [ks (230 + 4 * j + 1) (by omega), ks (230 + 4 * j + 2) (by omega), ks (230 + 4 * l + 1) (by omega)]
      exact I6 j l (by omega) jl l2
