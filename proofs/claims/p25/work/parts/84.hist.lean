/-! line; the history of both -/
theorem zCp_rep {a c : zC} {t o : Nat} {v : Int → Int} (h : zCpW a c t o) (R : zRep a o v) : zRep c t v := by
  obtain ⟨h1, h2, h3, h4, -, -⟩ := h
  obtain ⟨⟨r0, r1, r2, r3⟩, R1, R2, R3, R4⟩ := R
  refine ⟨⟨h1.1.trans r0, h2.1.trans r1, h3.1.trans r2, h4.1.trans r3⟩, fun p p1 p2 => ?_, fun p p1 p2 => ?_, fun p p1 p2 => ?_, fun p p1 p2 => ?_⟩
  · obtain ⟨q1, q2, q3, q4⟩ := R1 p p1 p2
    have f := h1.2.2
    have f1 := f 1 (by decide) (by decide) p
    have f2 := f 2 (by decide) (by decide) p
    have f3 := f 3 (by decide) (by decide) p
    have f4 := f 4 (by decide) (by decide) p
    rw [if_pos (by omega)] at f1 f2 f3 f4
    exact ⟨f1.trans q1, f2.trans q2, f3.trans q3, f4.trans q4⟩
  · obtain ⟨q1, q2, q3, q4⟩ := R2 p p1 p2
    have f := h2.2.2
    have f1 := f 1 (by decide) (by decide) p
    have f2 := f 2 (by decide) (by decide) p
    have f3 := f 3 (by decide) (by decide) p
    have f4 := f 4 (by decide) (by decide) p
    rw [if_pos (by omega)] at f1 f2 f3 f4
    exact ⟨f1.trans q1, f2.trans q2, f3.trans q3, f4.trans q4⟩
  · obtain ⟨q1, q2, q3⟩ := R3 p p1 p2
    have f := h3.2.2
    have f1 := f 1 (by decide) (by decide) p
    have f2 := f 2 (by decide) (by decide) p
    have f3 := f 3 (by decide) (by decide) p
    rw [if_pos (by omega)] at f1 f2 f3
    exact ⟨f1.trans q1, f2.trans q2, f3.trans q3⟩
  · obtain ⟨q1, q2, q3, q4⟩ := R4 p p1 p2
    have f := h4.2.2
    have f1 := f 1 (by decide) (by decide) p
    have f2 := f 2 (by decide) (by decide) p
    have f3 := f 3 (by decide) (by decide) p
    have f4 := f 4 (by decide) (by decide) p
    rw [if_pos (by omega)] at f1 f2 f3 f4
    exact ⟨f1.trans q1, f2.trans q2, f3.trans q3, f4.trans q4⟩
theorem zCnW_of {c : zC} {q : Nat} {v : Int → Int} {B : Int} (R : zRep c q v) (I : zInv B v) : zCnW c q := by
  obtain ⟨⟨r0, r1, r2, r3⟩, -⟩ := R
  have := I.1
  unfold zCnW
  rw [r0, r1, r2, r3]
  exact ⟨this.1, this.2.2.1, this.2.1, this.2.2.2⟩
/-- the history's share of the relation -/
def zHis (B : Int) (c : zC) : Prop := ((0 ≤ c 29 0 ∧ c 29 0 ≤ 5) ∧ (0 ≤ c 29 1 ∧ c 29 1 ≤ 4) ∧ c 145 2 = c 29 0) ∧ (∀ j : Nat, (j : Int) < c 29 0 → zRep c (31 + 20 * (((c 29 1).toNat + j) % 5)) (zPa c j) ∧ zInv B (zPa c j)) ∧ (∀ j : Nat, j < 5 → zCnW c (31 + 20 * j))
theorem zHis_up {B B' : Int} {c : zC} (h : zHis B c) (hB : B ≤ B') : zHis B' c := ⟨h.1, fun j hj => ⟨(h.2.1 j hj).1, (h.2.1 j hj).2.up hB⟩, h.2.2⟩
theorem zHis_fr {B : Int} {c c' : zC} (h : zHis B c) (e29 : c' 29 = c 29) (e147 : c' 147 = c 147) (e145 : c' 145 2 = c 145 2) (e : ∀ r, 31 ≤ r → r ≤ 130 → c' r = c r) : zHis B c' := by
  obtain ⟨h1, h2, h3⟩ := h
  unfold zHis
  rw [e29, e145]
  refine ⟨h1, fun j hj => ?_, fun j hj => ?_⟩
  · obtain ⟨a, b⟩ := h2 j hj
    have ep : zPa c' j = zPa c j := by unfold zPa; rw [e147]
    rw [ep]
    exact ⟨zRep_fr a (fun r r1 r2 => e r (by omega) (by omega)), b⟩
  · have := h3 j hj
    unfold zCnW at this ⊢
    rw [e _ (by omega) (by omega), e _ (by omega) (by omega), e _ (by omega) (by omega), e _ (by omega) (by omega)]
    exact this
/-- an act: the class keeps its week, the model its row -/
theorem zHis_act {B : Int} {c c1 d e f : zC} (H : zHis B c) (R : zRep c 9 (c 146)) (I : zInv B (c 146)) (hk : zKpt c c1) (hd : zDid d e) (d146 : d 146 = c 146) (d147 : d 147 = c 147) (d145 : d 145 2 = c 145 2) (f29 : f 29 = c1 29) (f147 : f 147 = e 147) (f145 : f 145 2 = e 145 2) (fr : ∀ r, 31 ≤ r → r ≤ 130 → f r = c1 r) : zHis B f := by
  obtain ⟨⟨h1, h2, h3⟩, H2, H3⟩ := H
  have hcn9 : zCnW c 9 := zX_cn R I
  rcases hk with ⟨hm, c2, j, j1, j2, hcp, rfl⟩ | ⟨hm, c2, j, j1, j2, hcp, rfl⟩
  · -- room in the ring
    have hdd := hd.resolve_right (fun h => hm (by rw [← h3, ← d145]; exact h.1))
    obtain ⟨-, g1, g2, g3, g4, g5⟩ := hdd
    rw [d145, h3] at g1 g4
    have hoth := hcp.2.2.2.2.1
    have e0 : f 29 0 = c 29 0 + 1 := by rw [f29, zup_same]
    have e1 : f 29 1 = c 29 1 := by rw [f29, zup_k (by decide), hoth 29 (by omega)]
    have hnew : zRep f (31 + 20 * j) (c 146) := by
      refine zRep_fr (zCp_rep hcp R) (fun r r1 r2 => ?_)
      rw [fr r (by omega) (by omega), zup_ne (by omega)]
    have hold : ∀ i : Nat, i < 5 → i ≠ j → ∀ r, 31 + 20 * i < r → r ≤ 31 + 20 * i + 19 → f r = c r := fun i i1 i2 r r1 r2 => by
      rw [fr r (by omega) (by omega), zup_ne (by omega), hoth r (by omega)]
    have hpa : ∀ k, f 147 k = if 480 * c 29 0 ≤ k ∧ k < 480 * c 29 0 + 480 then c 146 (k - 480 * c 29 0) else c 147 k := fun k => by
      rw [f147, g4 k, d146, d147]
    unfold zHis
    rw [e0, e1, f145, g1]
    refine ⟨⟨by omega, h2, rfl⟩, fun i hi => ?_, fun i hi => ?_⟩
    · by_cases ei : (i : Int) = c 29 0
      · have ej : ((c 29 1).toNat + i) % 5 = j := by omega
        have ha : zAg (c 146) (zPa f i) := fun k k1 k2 => by
          unfold zPa
          rw [hpa, if_pos (by omega), show 480 * (i : Int) + k - 480 * c 29 0 = k by omega]
        rw [ej]
        exact ⟨zRep_ag I hnew ha, zInv_ag I ha⟩
      · obtain ⟨a, b⟩ := H2 i (by omega)
        have ha : zAg (zPa c i) (zPa f i) := fun k k1 k2 => by
          unfold zPa
          rw [hpa, if_neg (by omega)]
        exact ⟨zRep_ag b (zRep_fr a (fun r r1 r2 => hold _ (by omega) (by omega) r r1 r2)) ha, zInv_ag b ha⟩
    · by_cases ei : i = j
      · rw [ei]
        exact zCnW_of hnew I
      · have h9 := H3 i hi
        unfold zCnW at h9 ⊢
        rw [hold i hi ei _ (by omega) (by omega), hold i hi ei _ (by omega) (by omega), hold i hi ei _ (by omega) (by omega), hold i hi ei _ (by omega) (by omega)]
        exact h9
  · -- the oldest goes
    have hdd := hd.resolve_left (fun h => h.1 (by rw [d145, h3]; exact hm))
    obtain ⟨-, g1, g2, g3, g4, g5⟩ := hdd
    rw [zup_same, zup_k (by decide), zup_same] at j2
    have hoth := hcp.2.2.2.2.1
    have e0 : f 29 0 = 5 := by rw [f29, zup_same, zup_same]; rfl
    have e1 : f 29 1 = (c 29 1 + 1) % 5 := by rw [f29, zup_k (by decide), hoth 29 (by omega), zup_k (by decide), zup_same]
    have hR9 : zRep (zup (zup c 29 1 ((c 29 1 + 1) % 5)) 29 0 4) 9 (c 146) := zRep_fr R (fun r r1 r2 => by rw [zup_ne (by omega), zup_ne (by omega)])
    have hnew : zRep f (31 + 20 * j) (c 146) := by
      refine zRep_fr (zCp_rep hcp hR9) (fun r r1 r2 => ?_)
      rw [fr r (by omega) (by omega), zup_ne (by omega)]
    have hold : ∀ i : Nat, i < 5 → i ≠ j → ∀ r, 31 + 20 * i < r → r ≤ 31 + 20 * i + 19 → f r = c r := fun i i1 i2 r r1 r2 => by
      rw [fr r (by omega) (by omega), zup_ne (by omega), hoth r (by omega), zup_ne (by omega), zup_ne (by omega)]
    have hpa : ∀ k, f 147 k = if 1920 ≤ k ∧ k < 2400 then c 146 (k - 1920) else if 0 ≤ k ∧ k < 1920 then c 147 (k + 480) else c 147 k := fun k => by
      rw [f147, g4 k, d146, d147]
      rfl
    unfold zHis
    rw [e0, e1, f145, g1]
    refine ⟨⟨by omega, by omega, rfl⟩, fun i hi => ?_, fun i hi => ?_⟩
    · by_cases ei : i = 4
      · have ej : (((c 29 1 + 1) % 5).toNat + i) % 5 = j := by omega
        have ha : zAg (c 146) (zPa f i) := fun k k1 k2 => by
          unfold zPa
          rw [hpa, if_pos (by omega), show 480 * (i : Int) + k - 1920 = k by omega]
        rw [ej]
        exact ⟨zRep_ag I hnew ha, zInv_ag I ha⟩
      · obtain ⟨a, b⟩ := H2 (i + 1) (by omega)
        have ej : (((c 29 1 + 1) % 5).toNat + i) % 5 = ((c 29 1).toNat + (i + 1)) % 5 := by omega
        have ha : zAg (zPa c (i + 1)) (zPa f i) := fun k k1 k2 => by
          unfold zPa
          rw [hpa, if_neg (by omega), if_pos (by omega), show 480 * (i : Int) + k + 480 = 480 * ((i + 1 : Nat) : Int) + k by omega]
        rw [ej]
        exact ⟨zRep_ag b (zRep_fr a (fun r r1 r2 => hold _ (by omega) (by omega) r r1 r2)) ha, zInv_ag b ha⟩
    · by_cases ei : i = j
      · rw [ei]
        exact zCnW_of hnew I
      · have h9 := H3 i hi
        unfold zCnW at h9 ⊢
        rw [hold i hi ei _ (by omega) (by omega), hold i hi ei _ (by omega) (by omega), hold i hi ei _ (by omega) (by omega), hold i hi ei _ (by omega) (by omega)]
        exact h9
