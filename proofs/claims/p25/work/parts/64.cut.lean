/-! the class: an item cut, dropped -/
set_option maxRecDepth 10000 in
set_option maxHeartbeats 2000000 in
theorem e_X8_cut {d n sl : Nat} {S : zSh} {c : zC} (hS : zSok S) (hB : zBd c) (hc : 0 ≤ c 24 0 ∧ c 24 0 ≤ 60) {i a : Int} (hi : 0 ≤ i ∧ i < c 24 0) (ha : 0 ≤ a ∧ a ≤ 20000) : zE (d + 1) 76 0 (zent 76 [zA 8, zI i, zI a]) [] ((n, sl), (S, c)) (fun r μ' => ∃ (x : Int) (c' : zC), r = some (zI x) ∧ μ' = ((n, sl), (S, c')) ∧ ((c 26 i + c 27 i ≤ a ∧ x = 0 ∧ c' = c) ∨ (a < c 26 i + c 27 i ∧ x = 1 ∧ c' = zup (zup c 26 i a) 27 i (c 26 i + c 27 i - a)))) := by
  show zE (d + 1) 76 0 [some (zA 8), some (zI i), some (zI a), none] [] ((n, sl), (S, c)) _
  have h26 := hB 26 i (by decide)
  have h27 := hB 27 i (by decide)
  refine zl_ald0 I76_0 ?_
  refine zr_getr (j := 0) I76_1 F8_12 rfl (sT8 hS) (sR8_0 hS) ?_
  refine zr_getr (j := 3) I76_4 F8_102 rfl (sT9 hS) (sR9_3 hS) ?_
  refine zl_ild1 I76_7 ?_
  refine zr_callV I76_8 C8_137 ⟨rfl, rfl⟩ ⟨rfl, Nat.le_of_ble_eq_true rfl⟩ (Or.inl ⟨rfl, sT24 hS⟩) (e_X3_end hS hB (by omega)) (fun v8 μ8 hv8 => ?_)
  obtain ⟨rfl, rfl⟩ := hv8
  dsimp only [Option.toList, List.cons_append, List.nil_append]
  refine zl_ist3 I76_11 ?_
  refine zl_ild3 I76_12 ?_
  refine zl_ild2 I76_13 ?_
  refine zr_ic_gt (t := 19) I76_14 rfl (fun h14 => ?_) (fun h14 => ?_)
  · refine zl_ald0 I76_19 ?_
    refine zr_getr (j := 0) I76_20 F8_12 rfl (sT8 hS) (sR8_0 hS) ?_
    refine zr_getr (j := 3) I76_23 F8_102 rfl (sT9 hS) (sR9_3 hS) ?_
    refine zr_getr (j := 2) I76_26 F8_150 rfl (sT24 hS) (sR24_2 hS) ?_
    refine zl_ild1 I76_29 ?_
    refine zl_ild2 I76_30 ?_
    refine zr_iast I76_31 (sT26 hS) (sN26 hS) (by omega) ?_
    refine zl_ald0 I76_32 ?_
    refine zr_getr (j := 0) I76_33 F8_12 rfl (sT8 hS) (sR8_0 hS) ?_
    refine zr_getr (j := 3) I76_36 F8_102 rfl (sT9 hS) (sR9_3 hS) ?_
    refine zr_getr (j := 3) I76_39 F8_140 rfl (sT24 hS) (sR24_3 hS) ?_
    refine zl_ild1 I76_42 ?_
    refine zl_ild3 I76_43 ?_
    refine zl_ild2 I76_44 ?_
    refine zr_isub I76_45 (by unfold zInR; omega) ?_
    refine zr_iast I76_46 (sT27 hS) (sN27 hS) (by omega) ?_
    refine zr_iconst I76_47 ?_
    refine zr_zret I76_48 rfl (by decide) ?_
    exact ⟨_, _, rfl, rfl, Or.inr ⟨by omega, rfl, rfl⟩⟩
  · refine zr_iconst I76_17 ?_
    refine zr_zret I76_18 rfl (by decide) ?_
    exact ⟨_, _, rfl, rfl, Or.inl ⟨by omega, rfl, rfl⟩⟩
set_option maxRecDepth 10000 in
set_option maxHeartbeats 2000000 in
theorem e_X8_drop {d n sl : Nat} {S : zSh} {c : zC} (hS : zSok S) (hB : zBd c) (hc : 0 ≤ c 24 0 ∧ c 24 0 ≤ 60) {i : Int} (hi : 0 ≤ i ∧ i < c 24 0) (hp : 0 ≤ c 25 i ∧ c 25 i < 16) (how : -90000 ≤ c 14 (c 25 i) ∧ c 14 (c 25 i) ≤ 90000) : zE (d + 3) 78 0 (zent 78 [zA 8, zI i]) [] ((n, sl), (S, c)) (fun r μ' => ∃ (c1 c' : zC), r = none ∧ μ' = ((n, sl), (S, c')) ∧ ((c 11 (c 25 i) = 3 ∧ c1 = zup c 14 (c 25 i) (c 14 (c 25 i) + 1)) ∨ (c 11 (c 25 i) ≠ 3 ∧ c1 = c)) ∧ zDel c1 c' i) := by
  show zE (d + 3) 78 0 [some (zA 8), some (zI i)] [] ((n, sl), (S, c)) _
  have h14 := how
  refine zl_ald0 I78_0 ?_
  refine zl_ild1 I78_1 ?_
  refine zr_callV I78_2 C8_133 ⟨rfl, rfl⟩ ⟨rfl, Nat.le_of_ble_eq_true rfl⟩ (Or.inl ⟨rfl, sT8 hS⟩) (e_X8_kindOf hS hB (by omega) (by omega)) (fun v2 μ2 hv2 => ?_)
  obtain ⟨rfl, rfl⟩ := hv2
  dsimp only [Option.toList, List.cons_append, List.nil_append]
  refine zr_iconst I78_5 ?_
  refine zr_ic_ne (t := 36) I78_6 rfl (fun h6 => ?_) (fun h6 => ?_)
  · refine zl_ald0 I78_36 ?_
    refine zr_getr (j := 0) I78_37 F8_12 rfl (sT8 hS) (sR8_0 hS) ?_
    refine zr_getr (j := 3) I78_40 F8_102 rfl (sT9 hS) (sR9_3 hS) ?_
    refine zl_ild1 I78_43 ?_
    refine zr_callV I78_44 C8_106 ⟨rfl, rfl⟩ ⟨rfl, Nat.le_of_ble_eq_true rfl⟩ (Or.inl ⟨rfl, sT24 hS⟩) (e_X3_delete hS hB hc hi) (fun v44 μ44 hv44 => ?_)
    obtain ⟨c44, rfl, rfl, hc44⟩ := hv44
    dsimp only [Option.toList, List.cons_append, List.nil_append]
    refine zr_vret I78_47 rfl ?_
    exact ⟨_, _, rfl, rfl, Or.inr ⟨by omega, rfl⟩, hc44⟩
  · refine zl_ald0 I78_9 ?_
    refine zr_getr (j := 0) I78_10 F8_12 rfl (sT8 hS) (sR8_0 hS) ?_
    refine zr_getr (j := 0) I78_13 F8_48 rfl (sT9 hS) (sR9_0 hS) ?_
    refine zr_getr (j := 4) I78_16 F8_144 rfl (sT10 hS) (sR10_4 hS) ?_
    refine zl_ald0 I78_19 ?_
    refine zr_getr (j := 0) I78_20 F8_12 rfl (sT8 hS) (sR8_0 hS) ?_
    refine zr_getr (j := 3) I78_23 F8_102 rfl (sT9 hS) (sR9_3 hS) ?_
    refine zr_getr (j := 1) I78_26 F8_147 rfl (sT24 hS) (sR24_1 hS) ?_
    refine zl_ild1 I78_29 ?_
    refine zr_iald I78_30 (sT25 hS) (sN25 hS) (by omega) ?_
    refine zr_dup2 I78_31 ?_
    refine zr_iald I78_32 (sT14 hS) (sN14 hS) (by omega) ?_
    refine zr_iconst I78_33 ?_
    refine zr_iadd I78_34 (by unfold zInR; omega) ?_
    refine zr_iast I78_35 (sT14 hS) (sN14 hS) (by omega) ?_
    refine zl_ald0 I78_36 ?_
    refine zr_getr (j := 0) I78_37 F8_12 rfl (sT8 hS) (sR8_0 hS) ?_
    refine zr_getr (j := 3) I78_40 F8_102 rfl (sT9 hS) (sR9_3 hS) ?_
    refine zl_ild1 I78_43 ?_
    refine zr_callV I78_44 C8_106 ⟨rfl, rfl⟩ ⟨rfl, Nat.le_of_ble_eq_true rfl⟩ (Or.inl ⟨rfl, sT24 hS⟩) (e_X3_delete hS (zBd_up hB (by omega)) (by rw [zup_oth (by decide)]; exact hc) (by rw [zup_oth (by decide)]; exact hi)) (fun v44 μ44 hv44 => ?_)
    obtain ⟨c44, rfl, rfl, hc44⟩ := hv44
    dsimp only [Option.toList, List.cons_append, List.nil_append]
    refine zr_vret I78_47 rfl ?_
    exact ⟨_, _, rfl, rfl, Or.inl ⟨by omega, rfl⟩, hc44⟩
