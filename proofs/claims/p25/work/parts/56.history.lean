/-! the class: the history -/
def zKp (c c' : zC) : Prop := ∃ (c2 : zC) (j : Nat), j < 5 ∧ (j : Int) = (c 29 1 + c 29 0) % 5 ∧ zCpW c c2 (31 + 20 * j) 9 ∧ c' = zup c2 29 0 (c 29 0 + 1)
def zTk (c c' : zC) : Prop := ∃ j : Nat, j < 5 ∧ (j : Int) = (c 29 1 + (c 29 0 - 1)) % 5 ∧ zCpW (zup c 29 0 (c 29 0 - 1)) c' 9 (31 + 20 * j)
set_option maxRecDepth 10000 in
set_option maxHeartbeats 2000000 in
theorem e_X2_keep_30 {d n sl : Nat} {S : zSh} {c : zC} (hS : zSok S) (hB : zBd c) (hk : 0 ≤ c 29 0 ∧ c 29 0 ≤ 4) (ho : 0 ≤ c 29 1 ∧ c 29 1 ≤ 4) (hcn : zCnW c 9) : zE (d + 3) 11 30 [some (zA 29), some (zA 9)] [] ((n, sl), (S, c)) (fun r μ' => ∃ c', r = none ∧ μ' = ((n, sl), (S, c')) ∧ zKp c c') := by
  refine zl_ald0 I11_30 ?_
  refine zr_getr (j := 2) I11_31 F2_11 rfl (sT29 hS) (sR29_2 hS) ?_
  refine zl_ald0 I11_34 ?_
  refine zr_giB (j := 1) hB (by decide) I11_35 F2_22 rfl (sT29 hS) (fun b35 => ?_)
  refine zl_ald0 I11_38 ?_
  refine zr_giB (j := 0) hB (by decide) I11_39 F2_18 rfl (sT29 hS) (fun b39 => ?_)
  refine zr_iadd I11_42 (by unfold zInR; omega) ?_
  refine zr_iconst I11_43 ?_
  refine zr_irem I11_44 (by omega) ?_
  rcases (show (c 29 1 + c 29 0) % 5 = 0 ∨ (c 29 1 + c 29 0) % 5 = 1 ∨ (c 29 1 + c 29 0) % 5 = 2 ∨ (c 29 1 + c 29 0) % 5 = 3 ∨ (c 29 1 + c 29 0) % 5 = 4 by omega) with hj | hj | hj | hj | hj
  · rw [hj]
    refine zr_aald I11_45 (sT30 hS) (sN30 hS) (by omega) (sR30_0 hS) ?_
    refine zl_ald1 I11_46 ?_
    refine zr_callV I11_47 C2_25 ⟨rfl, rfl⟩ ⟨rfl, Nat.le_of_ble_eq_true rfl⟩ (Or.inl ⟨rfl, sT31 hS⟩) (e_X7_copyFrom_31_9 hS hB hcn) (fun v47 μ47 hv47 => ?_)
    obtain ⟨c47, rfl, rfl, hc47⟩ := hv47
    dsimp only [Option.toList, List.cons_append, List.nil_append]
    refine zl_ald0 I11_50 ?_
    refine zr_dup I11_51 ?_
    refine zr_geti (j := 0) I11_52 F2_18 rfl (sT29 hS) ?_
    rw [hc47.2.2.2.2.1 29 (by omega)]
    refine zr_iconst I11_55 ?_
    refine zr_iadd I11_56 (by unfold zInR; omega) ?_
    refine zr_puti (j := 0) I11_57 F2_18 rfl (sT29 hS) ⟨rfl, fun h => absurd h (by decide)⟩ ?_
    refine zr_vret I11_60 rfl ?_
    exact ⟨_, rfl, rfl, c47, 0, by decide, by omega, hc47, rfl⟩
  · rw [hj]
    refine zr_aald I11_45 (sT30 hS) (sN30 hS) (by omega) (sR30_1 hS) ?_
    refine zl_ald1 I11_46 ?_
    refine zr_callV I11_47 C2_25 ⟨rfl, rfl⟩ ⟨rfl, Nat.le_of_ble_eq_true rfl⟩ (Or.inl ⟨rfl, sT51 hS⟩) (e_X7_copyFrom_51_9 hS hB hcn) (fun v47 μ47 hv47 => ?_)
    obtain ⟨c47, rfl, rfl, hc47⟩ := hv47
    dsimp only [Option.toList, List.cons_append, List.nil_append]
    refine zl_ald0 I11_50 ?_
    refine zr_dup I11_51 ?_
    refine zr_geti (j := 0) I11_52 F2_18 rfl (sT29 hS) ?_
    rw [hc47.2.2.2.2.1 29 (by omega)]
    refine zr_iconst I11_55 ?_
    refine zr_iadd I11_56 (by unfold zInR; omega) ?_
    refine zr_puti (j := 0) I11_57 F2_18 rfl (sT29 hS) ⟨rfl, fun h => absurd h (by decide)⟩ ?_
    refine zr_vret I11_60 rfl ?_
    exact ⟨_, rfl, rfl, c47, 1, by decide, by omega, hc47, rfl⟩
  · rw [hj]
    refine zr_aald I11_45 (sT30 hS) (sN30 hS) (by omega) (sR30_2 hS) ?_
    refine zl_ald1 I11_46 ?_
    refine zr_callV I11_47 C2_25 ⟨rfl, rfl⟩ ⟨rfl, Nat.le_of_ble_eq_true rfl⟩ (Or.inl ⟨rfl, sT71 hS⟩) (e_X7_copyFrom_71_9 hS hB hcn) (fun v47 μ47 hv47 => ?_)
    obtain ⟨c47, rfl, rfl, hc47⟩ := hv47
    dsimp only [Option.toList, List.cons_append, List.nil_append]
    refine zl_ald0 I11_50 ?_
    refine zr_dup I11_51 ?_
    refine zr_geti (j := 0) I11_52 F2_18 rfl (sT29 hS) ?_
    rw [hc47.2.2.2.2.1 29 (by omega)]
    refine zr_iconst I11_55 ?_
    refine zr_iadd I11_56 (by unfold zInR; omega) ?_
    refine zr_puti (j := 0) I11_57 F2_18 rfl (sT29 hS) ⟨rfl, fun h => absurd h (by decide)⟩ ?_
    refine zr_vret I11_60 rfl ?_
    exact ⟨_, rfl, rfl, c47, 2, by decide, by omega, hc47, rfl⟩
  · rw [hj]
    refine zr_aald I11_45 (sT30 hS) (sN30 hS) (by omega) (sR30_3 hS) ?_
    refine zl_ald1 I11_46 ?_
    refine zr_callV I11_47 C2_25 ⟨rfl, rfl⟩ ⟨rfl, Nat.le_of_ble_eq_true rfl⟩ (Or.inl ⟨rfl, sT91 hS⟩) (e_X7_copyFrom_91_9 hS hB hcn) (fun v47 μ47 hv47 => ?_)
    obtain ⟨c47, rfl, rfl, hc47⟩ := hv47
    dsimp only [Option.toList, List.cons_append, List.nil_append]
    refine zl_ald0 I11_50 ?_
    refine zr_dup I11_51 ?_
    refine zr_geti (j := 0) I11_52 F2_18 rfl (sT29 hS) ?_
    rw [hc47.2.2.2.2.1 29 (by omega)]
    refine zr_iconst I11_55 ?_
    refine zr_iadd I11_56 (by unfold zInR; omega) ?_
    refine zr_puti (j := 0) I11_57 F2_18 rfl (sT29 hS) ⟨rfl, fun h => absurd h (by decide)⟩ ?_
    refine zr_vret I11_60 rfl ?_
    exact ⟨_, rfl, rfl, c47, 3, by decide, by omega, hc47, rfl⟩
  · rw [hj]
    refine zr_aald I11_45 (sT30 hS) (sN30 hS) (by omega) (sR30_4 hS) ?_
    refine zl_ald1 I11_46 ?_
    refine zr_callV I11_47 C2_25 ⟨rfl, rfl⟩ ⟨rfl, Nat.le_of_ble_eq_true rfl⟩ (Or.inl ⟨rfl, sT111 hS⟩) (e_X7_copyFrom_111_9 hS hB hcn) (fun v47 μ47 hv47 => ?_)
    obtain ⟨c47, rfl, rfl, hc47⟩ := hv47
    dsimp only [Option.toList, List.cons_append, List.nil_append]
    refine zl_ald0 I11_50 ?_
    refine zr_dup I11_51 ?_
    refine zr_geti (j := 0) I11_52 F2_18 rfl (sT29 hS) ?_
    rw [hc47.2.2.2.2.1 29 (by omega)]
    refine zr_iconst I11_55 ?_
    refine zr_iadd I11_56 (by unfold zInR; omega) ?_
    refine zr_puti (j := 0) I11_57 F2_18 rfl (sT29 hS) ⟨rfl, fun h => absurd h (by decide)⟩ ?_
    refine zr_vret I11_60 rfl ?_
    exact ⟨_, rfl, rfl, c47, 4, by decide, by omega, hc47, rfl⟩
set_option maxRecDepth 10000 in
set_option maxHeartbeats 2000000 in
theorem e_X2_keep {d n sl : Nat} {S : zSh} {c : zC} (hS : zSok S) (hB : zBd c) (hk : 0 ≤ c 29 0 ∧ c 29 0 ≤ 5) (ho : 0 ≤ c 29 1 ∧ c 29 1 ≤ 4) (hcn : zCnW c 9) : zE (d + 3) 11 0 (zent 11 [zA 29, zA 9]) [] ((n, sl), (S, c)) (fun r μ' => ∃ c', r = none ∧ μ' = ((n, sl), (S, c')) ∧ ((c 29 0 ≠ 5 ∧ zKp c c') ∨ (c 29 0 = 5 ∧ zKp (zup (zup c 29 1 ((c 29 1 + 1) % 5)) 29 0 4) c'))) := by
  show zE (d + 3) 11 0 [some (zA 29), some (zA 9)] [] ((n, sl), (S, c)) _
  refine zl_ald0 I11_0 ?_
  refine zr_giB (j := 0) hB (by decide) I11_1 F2_18 rfl (sT29 hS) (fun b1 => ?_)
  refine zr_iconst I11_4 ?_
  refine zr_ic_ne (t := 30) I11_5 rfl (fun h5 => ?_) (fun h5 => ?_)
  · refine zE.mono (e_X2_keep_30 hS hB (by omega) ho hcn) ?_
    rintro r μ' ⟨c', rfl, rfl, h⟩
    exact ⟨c', rfl, rfl, Or.inl ⟨by omega, h⟩⟩
  · refine zl_ald0 I11_8 ?_
    refine zl_ald0 I11_9 ?_
    refine zr_giB (j := 1) hB (by decide) I11_10 F2_22 rfl (sT29 hS) (fun b10 => ?_)
    refine zr_iconst I11_13 ?_
    refine zr_iadd I11_14 (by unfold zInR; omega) ?_
    refine zr_iconst I11_15 ?_
    refine zr_irem I11_16 (by omega) ?_
    refine zr_puti (j := 1) I11_17 F2_22 rfl (sT29 hS) ⟨rfl, fun h => absurd h (by decide)⟩ ?_
    refine zl_ald0 I11_20 ?_
    refine zr_dup I11_21 ?_
    refine zr_geti (j := 0) I11_22 F2_18 rfl (sT29 hS) ?_
    rw [zup_q, if_neg (by decide)]
    refine zr_iconst I11_25 ?_
    refine zr_isub I11_26 (by unfold zInR; omega) ?_
    refine zr_puti (j := 0) I11_27 F2_18 rfl (sT29 hS) ⟨rfl, fun h => absurd h (by decide)⟩ ?_
    rw [show c 29 0 - 1 = 4 by omega]
    refine zE.mono (e_X2_keep_30 hS (zBd_up (zBd_up hB (by omega)) (by omega)) (by rw [zup_same]; omega) (by rw [zup_q, if_neg (by decide), zup_same]; omega) ⟨by rw [zup_oth (by decide), zup_oth (by decide)]; exact hcn.1, by rw [zup_oth (by decide), zup_oth (by decide)]; exact hcn.2.1, by rw [zup_oth (by decide), zup_oth (by decide)]; exact hcn.2.2.1, by rw [zup_oth (by decide), zup_oth (by decide)]; exact hcn.2.2.2⟩) ?_
    rintro r μ' ⟨c', rfl, rfl, h⟩
    exact ⟨c', rfl, rfl, Or.inr ⟨by omega, h⟩⟩
set_option maxRecDepth 10000 in
set_option maxHeartbeats 2000000 in
theorem e_X2_takeBack {d n sl : Nat} {S : zSh} {c : zC} (hS : zSok S) (hB : zBd c) (hk : 1 ≤ c 29 0 ∧ c 29 0 ≤ 5) (ho : 0 ≤ c 29 1 ∧ c 29 1 ≤ 4) (hck : ∀ j : Nat, j < 5 → zCnW c (31 + 20 * j)) : zE (d + 3) 12 0 (zent 12 [zA 29, zA 9]) [] ((n, sl), (S, c)) (fun r μ' => ∃ c', r = none ∧ μ' = ((n, sl), (S, c')) ∧ zTk c c') := by
  show zE (d + 3) 12 0 [some (zA 29), some (zA 9)] [] ((n, sl), (S, c)) _
  refine zl_ald0 I12_0 ?_
  refine zr_dup I12_1 ?_
  refine zr_giB (j := 0) hB (by decide) I12_2 F2_18 rfl (sT29 hS) (fun b2 => ?_)
  refine zr_iconst I12_5 ?_
  refine zr_isub I12_6 (by unfold zInR; omega) ?_
  refine zr_puti (j := 0) I12_7 F2_18 rfl (sT29 hS) ⟨rfl, fun h => absurd h (by decide)⟩ ?_
  refine zl_ald1 I12_10 ?_
  refine zl_ald0 I12_11 ?_
  refine zr_getr (j := 2) I12_12 F2_11 rfl (sT29 hS) (sR29_2 hS) ?_
  refine zl_ald0 I12_15 ?_
  refine zr_geti (j := 1) I12_16 F2_22 rfl (sT29 hS) ?_
  refine zl_ald0 I12_19 ?_
  refine zr_geti (j := 0) I12_20 F2_18 rfl (sT29 hS) ?_
  rw [zup_same, zup_q, if_neg (by decide)]
  refine zr_iadd I12_23 (by unfold zInR; omega) ?_
  refine zr_iconst I12_24 ?_
  refine zr_irem I12_25 (by omega) ?_
  rcases (show (c 29 1 + (c 29 0 - 1)) % 5 = 0 ∨ (c 29 1 + (c 29 0 - 1)) % 5 = 1 ∨ (c 29 1 + (c 29 0 - 1)) % 5 = 2 ∨ (c 29 1 + (c 29 0 - 1)) % 5 = 3 ∨ (c 29 1 + (c 29 0 - 1)) % 5 = 4 by omega) with hj | hj | hj | hj | hj
  · rw [hj]
    refine zr_aald I12_26 (sT30 hS) (sN30 hS) (by omega) (sR30_0 hS) ?_
    refine zr_callV I12_27 C2_25 ⟨rfl, rfl⟩ ⟨rfl, Nat.le_of_ble_eq_true rfl⟩ (Or.inl ⟨rfl, sT9 hS⟩) (e_X7_copyFrom_9_31 hS (zBd_up hB (by omega)) (by have h9 := hck 0 (by decide); exact ⟨by rw [zup_oth (by decide)]; exact h9.1, by rw [zup_oth (by decide)]; exact h9.2.1, by rw [zup_oth (by decide)]; exact h9.2.2.1, by rw [zup_oth (by decide)]; exact h9.2.2.2⟩)) (fun v27 μ27 hv27 => ?_)
    obtain ⟨c27, rfl, rfl, hc27⟩ := hv27
    dsimp only [Option.toList, List.cons_append, List.nil_append]
    refine zr_vret I12_30 rfl ?_
    exact ⟨_, rfl, rfl, 0, by decide, by omega, hc27⟩
  · rw [hj]
    refine zr_aald I12_26 (sT30 hS) (sN30 hS) (by omega) (sR30_1 hS) ?_
    refine zr_callV I12_27 C2_25 ⟨rfl, rfl⟩ ⟨rfl, Nat.le_of_ble_eq_true rfl⟩ (Or.inl ⟨rfl, sT9 hS⟩) (e_X7_copyFrom_9_51 hS (zBd_up hB (by omega)) (by have h9 := hck 1 (by decide); exact ⟨by rw [zup_oth (by decide)]; exact h9.1, by rw [zup_oth (by decide)]; exact h9.2.1, by rw [zup_oth (by decide)]; exact h9.2.2.1, by rw [zup_oth (by decide)]; exact h9.2.2.2⟩)) (fun v27 μ27 hv27 => ?_)
    obtain ⟨c27, rfl, rfl, hc27⟩ := hv27
    dsimp only [Option.toList, List.cons_append, List.nil_append]
    refine zr_vret I12_30 rfl ?_
    exact ⟨_, rfl, rfl, 1, by decide, by omega, hc27⟩
  · rw [hj]
    refine zr_aald I12_26 (sT30 hS) (sN30 hS) (by omega) (sR30_2 hS) ?_
    refine zr_callV I12_27 C2_25 ⟨rfl, rfl⟩ ⟨rfl, Nat.le_of_ble_eq_true rfl⟩ (Or.inl ⟨rfl, sT9 hS⟩) (e_X7_copyFrom_9_71 hS (zBd_up hB (by omega)) (by have h9 := hck 2 (by decide); exact ⟨by rw [zup_oth (by decide)]; exact h9.1, by rw [zup_oth (by decide)]; exact h9.2.1, by rw [zup_oth (by decide)]; exact h9.2.2.1, by rw [zup_oth (by decide)]; exact h9.2.2.2⟩)) (fun v27 μ27 hv27 => ?_)
    obtain ⟨c27, rfl, rfl, hc27⟩ := hv27
    dsimp only [Option.toList, List.cons_append, List.nil_append]
    refine zr_vret I12_30 rfl ?_
    exact ⟨_, rfl, rfl, 2, by decide, by omega, hc27⟩
  · rw [hj]
    refine zr_aald I12_26 (sT30 hS) (sN30 hS) (by omega) (sR30_3 hS) ?_
    refine zr_callV I12_27 C2_25 ⟨rfl, rfl⟩ ⟨rfl, Nat.le_of_ble_eq_true rfl⟩ (Or.inl ⟨rfl, sT9 hS⟩) (e_X7_copyFrom_9_91 hS (zBd_up hB (by omega)) (by have h9 := hck 3 (by decide); exact ⟨by rw [zup_oth (by decide)]; exact h9.1, by rw [zup_oth (by decide)]; exact h9.2.1, by rw [zup_oth (by decide)]; exact h9.2.2.1, by rw [zup_oth (by decide)]; exact h9.2.2.2⟩)) (fun v27 μ27 hv27 => ?_)
    obtain ⟨c27, rfl, rfl, hc27⟩ := hv27
    dsimp only [Option.toList, List.cons_append, List.nil_append]
    refine zr_vret I12_30 rfl ?_
    exact ⟨_, rfl, rfl, 3, by decide, by omega, hc27⟩
  · rw [hj]
    refine zr_aald I12_26 (sT30 hS) (sN30 hS) (by omega) (sR30_4 hS) ?_
    refine zr_callV I12_27 C2_25 ⟨rfl, rfl⟩ ⟨rfl, Nat.le_of_ble_eq_true rfl⟩ (Or.inl ⟨rfl, sT9 hS⟩) (e_X7_copyFrom_9_111 hS (zBd_up hB (by omega)) (by have h9 := hck 4 (by decide); exact ⟨by rw [zup_oth (by decide)]; exact h9.1, by rw [zup_oth (by decide)]; exact h9.2.1, by rw [zup_oth (by decide)]; exact h9.2.2.1, by rw [zup_oth (by decide)]; exact h9.2.2.2⟩)) (fun v27 μ27 hv27 => ?_)
    obtain ⟨c27, rfl, rfl, hc27⟩ := hv27
    dsimp only [Option.toList, List.cons_append, List.nil_append]
    refine zr_vret I12_30 rfl ?_
    exact ⟨_, rfl, rfl, 4, by decide, by omega, hc27⟩
