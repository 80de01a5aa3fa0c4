/-! the class: place, remove -/
theorem zObs_0 {c : zC} {p s : Int} (h : zObs c p s 0) : ¬ 60 ≤ c 24 0 := by
  unfold zObs zFlt at h
  rcases h with h | h | h | h | h
  · exact absurd h.2 (by decide)
  all_goals exact h.1
set_option maxRecDepth 10000 in
set_option maxHeartbeats 2000000 in
theorem e_X8_putOnAir {d n sl : Nat} {S : zSh} {c : zC} (hS : zSok S) (hB : zBd c) (hc : 0 ≤ c 24 0 ∧ c 24 0 ≤ 59) {p s f : Int} (hp : 0 ≤ p ∧ p < 16) (hs : 0 ≤ s ∧ s ≤ 10079) : zE (d + 3) 70 0 (zent 70 [zA 8, zI p, zI s, zI f]) [] ((n, sl), (S, c)) (fun r μ' => ∃ c', r = some (zI (zSum (fun j => if c 26 j < s then 1 else 0) (c 24 0))) ∧ μ' = ((n, sl), (S, c')) ∧ zIns c c' (zSum (fun j => if c 26 j < s then 1 else 0) (c 24 0)) p s (c 12 p) (if f = 0 then 0 else 1)) := by
  show zE (d + 3) 70 0 [some (zA 8), some (zI p), some (zI s), some (zI f), none] [] ((n, sl), (S, c)) _
  refine zl_ald0 I70_0 ?_
  refine zr_getr (j := 0) I70_1 F8_12 rfl (sT8 hS) (sR8_0 hS) ?_
  refine zr_getr (j := 3) I70_4 F8_102 rfl (sT9 hS) (sR9_3 hS) ?_
  refine zl_ild2 I70_7 ?_
  refine zr_callV I70_8 C8_226 ⟨rfl, rfl⟩ ⟨rfl, Nat.le_of_ble_eq_true rfl⟩ (Or.inl ⟨rfl, sT24 hS⟩) (e_X3_indexFor hS hB (by omega)) (fun v8 μ8 hv8 => ?_)
  obtain ⟨rfl, rfl⟩ := hv8
  dsimp only [Option.toList, List.cons_append, List.nil_append]
  have hz := zSum_le (f := fun j => if c 26 j < s then 1 else 0) (lo := 0) (hi := 1) (c 24 0) (by omega) (fun j _ _ => by (try dsimp only); split <;> omega)
  have hl9 := hB 12 p (by decide)
  refine zl_ist4 I70_11 ?_
  refine zl_ald0 I70_13 ?_
  refine zr_getr (j := 0) I70_14 F8_12 rfl (sT8 hS) (sR8_0 hS) ?_
  refine zr_getr (j := 3) I70_17 F8_102 rfl (sT9 hS) (sR9_3 hS) ?_
  refine zl_ild4 I70_20 ?_
  refine zl_ild1 I70_22 ?_
  refine zl_ild2 I70_23 ?_
  refine zl_ald0 I70_24 ?_
  refine zr_getr (j := 0) I70_25 F8_12 rfl (sT8 hS) (sR8_0 hS) ?_
  refine zr_getr (j := 0) I70_28 F8_48 rfl (sT9 hS) (sR9_0 hS) ?_
  refine zr_getr (j := 2) I70_31 F8_130 rfl (sT10 hS) (sR10_2 hS) ?_
  refine zl_ild1 I70_34 ?_
  refine zr_iaB hB (by decide) I70_35 (sT12 hS) (sN12 hS) (by omega) (fun b35 => ?_)
  refine zl_ild3 I70_36 ?_
  refine zr_callV I70_37 C8_229 ⟨rfl, rfl⟩ ⟨rfl, Nat.le_of_ble_eq_true rfl⟩ (Or.inl ⟨rfl, sT24 hS⟩) (e_X3_insert hS hB hc (by omega) (by omega) (by omega) (by omega)) (fun v37 μ37 hv37 => ?_)
  obtain ⟨c37, rfl, rfl, hc37⟩ := hv37
  dsimp only [Option.toList, List.cons_append, List.nil_append]
  refine zl_ild4 I70_40 ?_
  refine zr_iret I70_42 rfl ?_
  exact ⟨_, rfl, rfl, hc37⟩
set_option maxRecDepth 10000 in
set_option maxHeartbeats 2000000 in
theorem e_X8_remove {d n sl : Nat} {S : zSh} {c : zC} (hS : zSok S) (hB : zBd c) (hc : 0 ≤ c 24 0 ∧ c 24 0 ≤ 60) (hk : 0 ≤ c 29 0 ∧ c 29 0 ≤ 5) (ho : 0 ≤ c 29 1 ∧ c 29 1 ≤ 4) (hcn : zCnW c 9) {it : Int} : zE (d + 4) 44 0 (zent 44 [zA 8, zI it]) [] ((n, sl), (S, c)) (fun r μ' => ∃ (x : Int) (c' : zC), r = some (zI x) ∧ μ' = ((n, sl), (S, c')) ∧ ((¬ (0 ≤ it ∧ it < c 24 0) ∧ x = -1 ∧ c' = c) ∨ ((0 ≤ it ∧ it < c 24 0) ∧ x = c 24 0 - 1 ∧ ∃ c1, zKpt c c1 ∧ zDel c1 c' it))) := by
  show zE (d + 4) 44 0 [some (zA 8), some (zI it)] [] ((n, sl), (S, c)) _
  refine zl_ald0 I44_0 ?_
  refine zl_ild1 I44_1 ?_
  refine zr_callV I44_2 C8_99 ⟨rfl, rfl⟩ ⟨rfl, Nat.le_of_ble_eq_true rfl⟩ (Or.inl ⟨rfl, sT8 hS⟩) (e_X8_isItem hS hB) (fun v2 μ2 hv2 => ?_)
  obtain ⟨x2, rfl, hx2, rfl⟩ := hv2
  dsimp only [Option.toList, List.cons_append, List.nil_append]
  unfold zTf at hx2
  refine zr_if_ne (t := 10) I44_5 rfl (fun h5 => ?_) (fun h5 => ?_)
  · refine zl_ald0 I44_10 ?_
    refine zr_getr (j := 1) I44_11 F8_19 rfl (sT8 hS) (sR8_1 hS) ?_
    refine zl_ald0 I44_14 ?_
    refine zr_getr (j := 0) I44_15 F8_12 rfl (sT8 hS) (sR8_0 hS) ?_
    refine zr_callV I44_18 C8_58 ⟨rfl, rfl⟩ ⟨rfl, Nat.le_of_ble_eq_true rfl⟩ (Or.inl ⟨rfl, sT29 hS⟩) (e_X2_keep hS hB hk ho hcn) (fun v18 μ18 hv18 => ?_)
    obtain ⟨c18, rfl, rfl, hc18⟩ := hv18
    dsimp only [Option.toList, List.cons_append, List.nil_append]
    have hkp : zKpt c c18 := hc18
    have fr := zKpt_fr hkp hk
    have eT : c18 24 = c 24 := fr.1 24 (by decide) (by decide)
    refine zl_ald0 I44_21 ?_
    refine zr_getr (j := 0) I44_22 F8_12 rfl (sT8 hS) (sR8_0 hS) ?_
    refine zr_getr (j := 3) I44_25 F8_102 rfl (sT9 hS) (sR9_3 hS) ?_
    refine zl_ild1 I44_28 ?_
    refine zr_callV I44_29 C8_106 ⟨rfl, rfl⟩ ⟨rfl, Nat.le_of_ble_eq_true rfl⟩ (Or.inl ⟨rfl, sT24 hS⟩) (e_X3_delete hS fr.2 (by rw [eT]; exact hc) (by rw [eT]; omega)) (fun v29 μ29 hv29 => ?_)
    obtain ⟨c29, rfl, rfl, hc29⟩ := hv29
    dsimp only [Option.toList, List.cons_append, List.nil_append]
    refine zl_ald0 I44_32 ?_
    refine zr_getr (j := 0) I44_33 F8_12 rfl (sT8 hS) (sR8_0 hS) ?_
    refine zr_getr (j := 3) I44_36 F8_102 rfl (sT9 hS) (sR9_3 hS) ?_
    refine zr_geti (j := 0) I44_39 F8_112 rfl (sT24 hS) ?_
    refine zr_iret I44_42 rfl ?_
    exact ⟨_, _, rfl, rfl, Or.inr ⟨by omega, by rw [hc29.1, eT], c18, hkp, hc29⟩⟩
  · refine zr_iconst I44_8 ?_
    refine zr_iret I44_9 rfl ?_
    exact ⟨_, _, rfl, rfl, Or.inl ⟨by omega, rfl, rfl⟩⟩
set_option maxRecDepth 10000 in
set_option maxHeartbeats 2000000 in
theorem e_X8_place {d n sl : Nat} {S : zSh} {c : zC} (hS : zSok S) (hB : zBd c) (hc : 0 ≤ c 24 0 ∧ c 24 0 ≤ 60) (hit : ∀ i, 0 ≤ i → i < c 24 0 → 0 ≤ c 25 i ∧ c 25 i < 16 ∧ 0 ≤ c 26 i ∧ c 26 i ≤ 20000 ∧ 0 ≤ c 27 i ∧ c 27 i ≤ 20000) (hr : 0 ≤ c 15 0 ∧ c 15 0 ≤ 30) (hpl : ∀ r, 0 ≤ r → r < c 15 0 → 0 ≤ c 19 r ∧ c 19 r ≤ 50) (hbl : ∀ j, 0 ≤ j → j < c 20 0 → 0 ≤ c 21 j ∧ c 21 j < c 22 j ∧ c 22 j ≤ 1440) (hn : 0 ≤ c 20 0 ∧ c 20 0 ≤ 10) (hpq : 0 ≤ c 10 0 ∧ c 10 0 ≤ 16) (hln : ∀ p, 0 ≤ p → p < c 10 0 → 1 ≤ c 12 p ∧ c 12 p ≤ 240) (hk : 0 ≤ c 29 0 ∧ c 29 0 ≤ 5) (ho : 0 ≤ c 29 1 ∧ c 29 1 ≤ 4) (hcn : zCnW c 9) {p s f : Int} : zE (d + 6) 43 0 (zent 43 [zA 8, zI p, zI s, zI f]) [] ((n, sl), (S, c)) (fun r μ' => ∃ (x : Int) (c' : zC), r = some (zI x) ∧ μ' = ((n, sl), (S, c')) ∧ ∃ (y : Int) (c1 : zC), ((¬ (0 ≤ p ∧ p < c 10 0 ∧ 0 ≤ s ∧ s ≤ 10079) ∧ y = -1) ∨ ((0 ≤ p ∧ p < c 10 0 ∧ 0 ≤ s ∧ s ≤ 10079) ∧ zObs c p s y)) ∧ (∀ r, (r < 131 ∨ 136 < r) → c1 r = c r) ∧ zBd c1 ∧ ((y ≠ 0 ∧ x = y ∧ c' = c1) ∨ (y = 0 ∧ x = zSum (fun j => if c 26 j < s then 1 else 0) (c 24 0) ∧ ∃ c2, zKpt c1 c2 ∧ zIns c2 c' (zSum (fun j => if c 26 j < s then 1 else 0) (c 24 0)) p s (c 12 p) (if f = 0 then 0 else 1)))) := by
  show zE (d + 6) 43 0 [some (zA 8), some (zI p), some (zI s), some (zI f), none] [] ((n, sl), (S, c)) _
  refine zl_ald0 I43_0 ?_
  refine zl_ild1 I43_1 ?_
  refine zl_ild2 I43_2 ?_
  refine zr_callV I43_3 C8_91 ⟨rfl, rfl⟩ ⟨rfl, Nat.le_of_ble_eq_true rfl⟩ (Or.inl ⟨rfl, sT8 hS⟩) (e_X8_mayPlace hS hB hc hit hr hpl hbl hn hpq hln) (fun v3 μ3 hv3 => ?_)
  obtain ⟨x3, c3, rfl, rfl, hob, hfr, hB3⟩ := hv3
  dsimp only [Option.toList, List.cons_append, List.nil_append]
  refine zl_ist4 I43_6 ?_
  refine zl_ild4 I43_8 ?_
  refine zr_if_eq (t := 16) I43_10 rfl (fun h10 => ?_) (fun h10 => ?_)
  · refine zl_ald0 I43_16 ?_
    refine zr_getr (j := 1) I43_17 F8_19 rfl (sT8 hS) (sR8_1 hS) ?_
    refine zl_ald0 I43_20 ?_
    refine zr_getr (j := 0) I43_21 F8_12 rfl (sT8 hS) (sR8_0 hS) ?_
    have h30 : x3 = 0 := by omega
    have hok : (0 ≤ p ∧ p < c 10 0 ∧ 0 ≤ s ∧ s ≤ 10079) ∧ zObs c p s 0 := by
      rcases hob with h | h
      · omega
      · exact ⟨h.1, h30 ▸ h.2⟩
    have hn0 := zObs_0 hok.2
    have hok2 := hok.1
    have e29 := hfr 29 (by decide)
    refine zr_callV I43_24 C8_58 ⟨rfl, rfl⟩ ⟨rfl, Nat.le_of_ble_eq_true rfl⟩ (Or.inl ⟨rfl, sT29 hS⟩) (e_X2_keep hS hB3 (by rw [e29]; exact hk) (by rw [e29]; exact ho) ⟨by rw [hfr (9 + 1) (by decide)]; exact hcn.1, by rw [hfr (9 + 6) (by decide)]; exact hcn.2.1, by rw [hfr (9 + 11) (by decide)]; exact hcn.2.2.1, by rw [hfr (9 + 15) (by decide)]; exact hcn.2.2.2⟩) (fun v24 μ24 hv24 => ?_)
    obtain ⟨c24, rfl, rfl, hc24⟩ := hv24
    dsimp only [Option.toList, List.cons_append, List.nil_append]
    have hkp : zKpt c3 c24 := hc24
    have fr := zKpt_fr hkp (by rw [e29]; exact hk)
    have e24 : c24 24 = c 24 := (fr.1 24 (by decide) (by decide)).trans (hfr 24 (by decide))
    have e26 : c24 26 = c 26 := (fr.1 26 (by decide) (by decide)).trans (hfr 26 (by decide))
    have e12 : c24 12 = c 12 := (fr.1 12 (by decide) (by decide)).trans (hfr 12 (by decide))
    refine zl_ald0 I43_27 ?_
    refine zl_ild1 I43_28 ?_
    refine zl_ild2 I43_29 ?_
    refine zl_ild3 I43_30 ?_
    refine zr_callV I43_31 C8_95 ⟨rfl, rfl⟩ ⟨rfl, Nat.le_of_ble_eq_true rfl⟩ (Or.inl ⟨rfl, sT8 hS⟩) (e_X8_putOnAir hS fr.2 (by rw [e24]; omega) (by omega) (by omega)) (fun v31 μ31 hv31 => ?_)
    obtain ⟨c31, rfl, rfl, hv31⟩ := hv31
    rw [e24, e26, e12] at hv31
    rw [e24, e26]
    dsimp only [Option.toList, List.cons_append, List.nil_append]
    refine zr_iret I43_34 rfl ?_
    exact ⟨_, _, rfl, rfl, x3, c3, hob, hfr, hB3, Or.inr ⟨by omega, rfl, c24, hkp, hv31⟩⟩
  · refine zl_ild4 I43_13 ?_
    refine zr_iret I43_15 rfl ?_
    exact ⟨_, _, rfl, rfl, x3, c3, hob, hfr, hB3, Or.inl ⟨by omega, rfl, rfl⟩⟩
