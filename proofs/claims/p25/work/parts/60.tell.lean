/-! the class: onAir, left -/
def zLvX (c : zC) (r : Int) : Int := zLfl (zTX c) (c 19) (zGs c (c 24 0).toNat) r
set_option maxRecDepth 10000 in
set_option maxHeartbeats 2000000 in
theorem e_X8_onAir {d n sl : Nat} {S : zSh} {c : zC} (hS : zSok S) (hB : zBd c) (hc : 0 ≤ c 24 0 ∧ c 24 0 ≤ 60) {t : Int} : zE (d + 2) 51 0 (zent 51 [zA 8, zI t]) [] ((n, sl), (S, c)) (zRp (fun x => (¬ (0 ≤ t ∧ t ≤ 10079) ∧ x = -1) ∨ ((0 ≤ t ∧ t ≤ 10079) ∧ zFst (c 24 0) (c 26) (c 27) t (t + 1) x)) ((n, sl), (S, c))) := by
  show zE (d + 2) 51 0 [some (zA 8), some (zI t)] [] ((n, sl), (S, c)) _
  refine zl_ild1 I51_0 ?_
  refine zr_callS I51_1 C8_113 ⟨rfl, rfl⟩ ⟨by simp, rfl, Nat.le_of_ble_eq_true rfl⟩ (e_X8_isTime ) (fun v1 μ1 hv1 => ?_)
  obtain ⟨x1, rfl, hx1, rfl⟩ := hv1
  dsimp only [Option.toList, List.cons_append, List.nil_append]
  unfold zTf at hx1
  refine zr_if_ne (t := 9) I51_4 rfl (fun h4 => ?_) (fun h4 => ?_)
  · refine zl_ald0 I51_9 ?_
    refine zr_getr (j := 0) I51_10 F8_12 rfl (sT8 hS) (sR8_0 hS) ?_
    refine zr_getr (j := 3) I51_13 F8_102 rfl (sT9 hS) (sR9_3 hS) ?_
    refine zl_ild1 I51_16 ?_
    refine zl_ild1 I51_17 ?_
    refine zr_iconst I51_18 ?_
    refine zr_iadd I51_19 (by unfold zInR; omega) ?_
    refine zr_callV I51_20 C8_119 ⟨rfl, rfl⟩ ⟨rfl, Nat.le_of_ble_eq_true rfl⟩ (Or.inl ⟨rfl, sT24 hS⟩) (e_X3_firstIn hS hB hc) (fun v20 μ20 hv20 => ?_)
    obtain ⟨x20, rfl, hx20, rfl⟩ := hv20
    dsimp only [Option.toList, List.cons_append, List.nil_append]
    refine zr_iret I51_23 rfl ?_
    exact ⟨_, rfl, Or.inr ⟨by omega, hx20⟩, rfl⟩
  · refine zr_iconst I51_7 ?_
    refine zr_iret I51_8 rfl ?_
    exact ⟨_, rfl, Or.inl ⟨by omega, rfl⟩, rfl⟩
set_option maxRecDepth 10000 in
set_option maxHeartbeats 2000000 in
theorem e_X8_left {d n sl : Nat} {S : zSh} {c : zC} (hS : zSok S) (hB : zBd c) (hc : 0 ≤ c 24 0 ∧ c 24 0 ≤ 60) (hit : ∀ i, 0 ≤ i → i < c 24 0 → 0 ≤ c 25 i ∧ c 25 i < 16 ∧ 0 ≤ c 26 i ∧ c 26 i ≤ 20000 ∧ 0 ≤ c 27 i ∧ c 27 i ≤ 20000) (hr : 0 ≤ c 15 0 ∧ c 15 0 ≤ 30) (hpl : ∀ r, 0 ≤ r → r < c 15 0 → 0 ≤ c 19 r ∧ c 19 r ≤ 50) {k9 : Int} : zE (d + 4) 52 0 (zent 52 [zA 8, zI k9]) [] ((n, sl), (S, c)) (fun r μ' => ∃ (x : Int) (c' : zC), r = some (zI x) ∧ μ' = ((n, sl), (S, c')) ∧ ((¬ (0 ≤ k9 ∧ k9 ≤ c 15 0 - 1) ∧ x = -1 ∧ c' = c) ∨ ((0 ≤ k9 ∧ k9 ≤ c 15 0 - 1) ∧ x = zLvX c k9 ∧ (∀ r, (r < 131 ∨ 136 < r) → c' r = c r) ∧ zBd c'))) := by
  show zE (d + 4) 52 0 [some (zA 8), some (zI k9)] [] ((n, sl), (S, c)) _
  refine zl_ild1 I52_0 ?_
  refine zr_iconst I52_1 ?_
  refine zl_ald0 I52_2 ?_
  refine zr_getr (j := 0) I52_3 F8_12 rfl (sT8 hS) (sR8_0 hS) ?_
  refine zr_getr (j := 1) I52_6 F8_73 rfl (sT9 hS) (sR9_1 hS) ?_
  refine zr_giB (j := 0) hB (by decide) I52_9 F8_77 rfl (sT15 hS) (fun b9 => ?_)
  refine zr_iconst I52_12 ?_
  refine zr_isub I52_13 (by unfold zInR; omega) ?_
  refine zr_callS I52_14 C8_44 ⟨rfl, rfl⟩ ⟨by simp, rfl, Nat.le_of_ble_eq_true rfl⟩ (e_X8_within ) (fun v14 μ14 hv14 => ?_)
  obtain ⟨x14, rfl, hx14, rfl⟩ := hv14
  dsimp only [Option.toList, List.cons_append, List.nil_append]
  unfold zTf at hx14
  refine zr_if_ne (t := 22) I52_17 rfl (fun h17 => ?_) (fun h17 => ?_)
  · refine zl_ald0 I52_22 ?_
    refine zr_callV I52_23 C8_156 ⟨rfl, rfl⟩ ⟨rfl, Nat.le_of_ble_eq_true rfl⟩ (Or.inl ⟨rfl, sT8 hS⟩) (e_X8_shareRights hS hB hc hit hr hpl) (fun v23 μ23 hv23 => ?_)
    obtain ⟨c23, rfl, rfl, hc23⟩ := hv23
    dsimp only [Option.toList, List.cons_append, List.nil_append]
    have hB2 := hc23.2.1
    refine zl_ald0 I52_26 ?_
    refine zr_getr (j := 2) I52_27 F8_26 rfl (sT8 hS) (sR8_2 hS) ?_
    refine zr_getr (j := 5) I52_30 F8_162 rfl (sT131 hS) (sR131_5 hS) ?_
    refine zl_ild1 I52_33 ?_
    refine zr_iaB hB2 (by decide) I52_34 (sT136 hS) (sN136 hS) (by omega) (fun b34 => ?_)
    refine zr_iret I52_35 rfl ?_
    exact ⟨_, _, rfl, rfl, Or.inr ⟨by omega, hc23.2.2.2 k9 (by omega) (by omega), hc23.1, hc23.2.1⟩⟩
  · refine zr_iconst I52_20 ?_
    refine zr_iret I52_21 rfl ?_
    exact ⟨_, _, rfl, rfl, Or.inl ⟨by omega, rfl, rfl⟩⟩
