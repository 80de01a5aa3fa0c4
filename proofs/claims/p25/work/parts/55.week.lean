/-! the class: a week copied -/
theorem zCpo_tr {a b b' d : zC} {t o m : Nat} (h : zCpo b b' t o m) (e1 : ∀ r, (t ≤ r ∧ r ≤ t + m) ∨ (o ≤ r ∧ r ≤ o + m) → b r = a r) (e2 : ∀ r, t ≤ r → r ≤ t + m → d r = b' r) : zCpo a d t o m := by
  refine ⟨by rw [e2 t (by omega) (by omega), h.1, e1 o (by omega)], fun k hk => by rw [e2 t (by omega) (by omega), h.2.1 k hk, e1 t (by omega)], fun i h1 h2 k => by rw [e2 (t + i) (by omega) (by omega), h.2.2 i h1 h2 k, e1 o (by omega), e1 (o + i) (by omega), e1 (t + i) (by omega)]⟩
/-- the counts of a week -/
def zCnW (c : zC) (o : Nat) : Prop := (0 ≤ c (o + 1) 0 ∧ c (o + 1) 0 ≤ 16) ∧ (0 ≤ c (o + 6) 0 ∧ c (o + 6) 0 ≤ 30) ∧ (0 ≤ c (o + 11) 0 ∧ c (o + 11) 0 ≤ 10) ∧ (0 ≤ c (o + 15) 0 ∧ c (o + 15) 0 ≤ 60)
set_option maxRecDepth 10000 in
set_option maxHeartbeats 2000000 in
theorem e_X7_copyFrom_9_31 {d n sl : Nat} {S : zSh} {c : zC} (hS : zSok S) (hB : zBd c) (hcn : zCnW c 31) : zE (d + 2) 38 0 (zent 38 [zA 9, zA 31]) [] ((n, sl), (S, c)) (fun r μ' => ∃ c', r = none ∧ μ' = ((n, sl), (S, c')) ∧ zCpW c c' 9 31) := by
  show zE (d + 2) 38 0 [some (zA 9), some (zA 31)] [] ((n, sl), (S, c)) _
  refine zl_ald0 I38_0 ?_
  refine zr_getr (j := 0) I38_1 F7_10 rfl (sT9 hS) (sR9_0 hS) ?_
  refine zl_ald1 I38_4 ?_
  refine zr_getr (j := 0) I38_5 F7_10 rfl (sT31 hS) (sR31_0 hS) ?_
  refine zr_callV I38_8 C7_37 ⟨rfl, rfl⟩ ⟨rfl, Nat.le_of_ble_eq_true rfl⟩ (Or.inl ⟨rfl, sT10 hS⟩) (e_X4_copyFrom_10_32 hS hB (by exact hcn.1)) (fun v8 μ8 hv8 => ?_)
  obtain ⟨c8, rfl, rfl, hc8⟩ := hv8
  dsimp only [Option.toList, List.cons_append, List.nil_append]
  refine zl_ald0 I38_11 ?_
  refine zr_getr (j := 1) I38_12 F7_19 rfl (sT9 hS) (sR9_1 hS) ?_
  refine zl_ald1 I38_15 ?_
  refine zr_getr (j := 1) I38_16 F7_19 rfl (sT31 hS) (sR31_1 hS) ?_
  refine zr_callV I38_19 C7_41 ⟨rfl, rfl⟩ ⟨rfl, Nat.le_of_ble_eq_true rfl⟩ (Or.inl ⟨rfl, sT15 hS⟩) (e_X5_copyFrom_15_37 hS hc8.2.2 (by rw [hc8.2.1 37 (by omega)]; exact hcn.2.1)) (fun v19 μ19 hv19 => ?_)
  obtain ⟨c19, rfl, rfl, hc19⟩ := hv19
  dsimp only [Option.toList, List.cons_append, List.nil_append]
  refine zl_ald0 I38_22 ?_
  refine zr_getr (j := 2) I38_23 F7_26 rfl (sT9 hS) (sR9_2 hS) ?_
  refine zl_ald1 I38_26 ?_
  refine zr_getr (j := 2) I38_27 F7_26 rfl (sT31 hS) (sR31_2 hS) ?_
  refine zr_callV I38_30 C7_44 ⟨rfl, rfl⟩ ⟨rfl, Nat.le_of_ble_eq_true rfl⟩ (Or.inl ⟨rfl, sT20 hS⟩) (e_X0_copyFrom_20_42 hS hc19.2.2 (by rw [hc19.2.1 42 (by omega)]; rw [hc8.2.1 42 (by omega)]; exact hcn.2.2.1)) (fun v30 μ30 hv30 => ?_)
  obtain ⟨c30, rfl, rfl, hc30⟩ := hv30
  dsimp only [Option.toList, List.cons_append, List.nil_append]
  refine zl_ald0 I38_33 ?_
  refine zr_getr (j := 3) I38_34 F7_33 rfl (sT9 hS) (sR9_3 hS) ?_
  refine zl_ald1 I38_37 ?_
  refine zr_getr (j := 3) I38_38 F7_33 rfl (sT31 hS) (sR31_3 hS) ?_
  refine zr_callV I38_41 C7_47 ⟨rfl, rfl⟩ ⟨rfl, Nat.le_of_ble_eq_true rfl⟩ (Or.inl ⟨rfl, sT24 hS⟩) (e_X3_copyFrom_24_46 hS hc30.2.2 (by rw [hc30.2.1 46 (by omega)]; rw [hc19.2.1 46 (by omega)]; rw [hc8.2.1 46 (by omega)]; exact hcn.2.2.2)) (fun v41 μ41 hv41 => ?_)
  obtain ⟨c41, rfl, rfl, hc41⟩ := hv41
  dsimp only [Option.toList, List.cons_append, List.nil_append]
  refine zr_vret I38_44 rfl ?_
  exact ⟨_, rfl, rfl, zCpo_tr hc8.1 (fun r hr => rfl) (fun r h1 h2 => ((hc41.2.1 r (by omega)).trans (hc30.2.1 r (by omega))).trans (hc19.2.1 r (by omega))), zCpo_tr hc19.1 (fun r hr => hc8.2.1 r (by omega)) (fun r h1 h2 => (hc41.2.1 r (by omega)).trans (hc30.2.1 r (by omega))), zCpo_tr hc30.1 (fun r hr => (hc19.2.1 r (by omega)).trans (hc8.2.1 r (by omega))) (fun r h1 h2 => hc41.2.1 r (by omega)), zCpo_tr hc41.1 (fun r hr => ((hc30.2.1 r (by omega)).trans (hc19.2.1 r (by omega))).trans (hc8.2.1 r (by omega))) (fun r h1 h2 => rfl), fun r hr => (((hc41.2.1 r (by omega)).trans (hc30.2.1 r (by omega))).trans (hc19.2.1 r (by omega))).trans (hc8.2.1 r (by omega)), hc41.2.2⟩
set_option maxRecDepth 10000 in
set_option maxHeartbeats 2000000 in
theorem e_X7_copyFrom_9_51 {d n sl : Nat} {S : zSh} {c : zC} (hS : zSok S) (hB : zBd c) (hcn : zCnW c 51) : zE (d + 2) 38 0 (zent 38 [zA 9, zA 51]) [] ((n, sl), (S, c)) (fun r μ' => ∃ c', r = none ∧ μ' = ((n, sl), (S, c')) ∧ zCpW c c' 9 51) := by
  show zE (d + 2) 38 0 [some (zA 9), some (zA 51)] [] ((n, sl), (S, c)) _
  refine zl_ald0 I38_0 ?_
  refine zr_getr (j := 0) I38_1 F7_10 rfl (sT9 hS) (sR9_0 hS) ?_
  refine zl_ald1 I38_4 ?_
  refine zr_getr (j := 0) I38_5 F7_10 rfl (sT51 hS) (sR51_0 hS) ?_
  refine zr_callV I38_8 C7_37 ⟨rfl, rfl⟩ ⟨rfl, Nat.le_of_ble_eq_true rfl⟩ (Or.inl ⟨rfl, sT10 hS⟩) (e_X4_copyFrom_10_52 hS hB (by exact hcn.1)) (fun v8 μ8 hv8 => ?_)
  obtain ⟨c8, rfl, rfl, hc8⟩ := hv8
  dsimp only [Option.toList, List.cons_append, List.nil_append]
  refine zl_ald0 I38_11 ?_
  refine zr_getr (j := 1) I38_12 F7_19 rfl (sT9 hS) (sR9_1 hS) ?_
  refine zl_ald1 I38_15 ?_
  refine zr_getr (j := 1) I38_16 F7_19 rfl (sT51 hS) (sR51_1 hS) ?_
  refine zr_callV I38_19 C7_41 ⟨rfl, rfl⟩ ⟨rfl, Nat.le_of_ble_eq_true rfl⟩ (Or.inl ⟨rfl, sT15 hS⟩) (e_X5_copyFrom_15_57 hS hc8.2.2 (by rw [hc8.2.1 57 (by omega)]; exact hcn.2.1)) (fun v19 μ19 hv19 => ?_)
  obtain ⟨c19, rfl, rfl, hc19⟩ := hv19
  dsimp only [Option.toList, List.cons_append, List.nil_append]
  refine zl_ald0 I38_22 ?_
  refine zr_getr (j := 2) I38_23 F7_26 rfl (sT9 hS) (sR9_2 hS) ?_
  refine zl_ald1 I38_26 ?_
  refine zr_getr (j := 2) I38_27 F7_26 rfl (sT51 hS) (sR51_2 hS) ?_
  refine zr_callV I38_30 C7_44 ⟨rfl, rfl⟩ ⟨rfl, Nat.le_of_ble_eq_true rfl⟩ (Or.inl ⟨rfl, sT20 hS⟩) (e_X0_copyFrom_20_62 hS hc19.2.2 (by rw [hc19.2.1 62 (by omega)]; rw [hc8.2.1 62 (by omega)]; exact hcn.2.2.1)) (fun v30 μ30 hv30 => ?_)
  obtain ⟨c30, rfl, rfl, hc30⟩ := hv30
  dsimp only [Option.toList, List.cons_append, List.nil_append]
  refine zl_ald0 I38_33 ?_
  refine zr_getr (j := 3) I38_34 F7_33 rfl (sT9 hS) (sR9_3 hS) ?_
  refine zl_ald1 I38_37 ?_
  refine zr_getr (j := 3) I38_38 F7_33 rfl (sT51 hS) (sR51_3 hS) ?_
  refine zr_callV I38_41 C7_47 ⟨rfl, rfl⟩ ⟨rfl, Nat.le_of_ble_eq_true rfl⟩ (Or.inl ⟨rfl, sT24 hS⟩) (e_X3_copyFrom_24_66 hS hc30.2.2 (by rw [hc30.2.1 66 (by omega)]; rw [hc19.2.1 66 (by omega)]; rw [hc8.2.1 66 (by omega)]; exact hcn.2.2.2)) (fun v41 μ41 hv41 => ?_)
  obtain ⟨c41, rfl, rfl, hc41⟩ := hv41
  dsimp only [Option.toList, List.cons_append, List.nil_append]
  refine zr_vret I38_44 rfl ?_
  exact ⟨_, rfl, rfl, zCpo_tr hc8.1 (fun r hr => rfl) (fun r h1 h2 => ((hc41.2.1 r (by omega)).trans (hc30.2.1 r (by omega))).trans (hc19.2.1 r (by omega))), zCpo_tr hc19.1 (fun r hr => hc8.2.1 r (by omega)) (fun r h1 h2 => (hc41.2.1 r (by omega)).trans (hc30.2.1 r (by omega))), zCpo_tr hc30.1 (fun r hr => (hc19.2.1 r (by omega)).trans (hc8.2.1 r (by omega))) (fun r h1 h2 => hc41.2.1 r (by omega)), zCpo_tr hc41.1 (fun r hr => ((hc30.2.1 r (by omega)).trans (hc19.2.1 r (by omega))).trans (hc8.2.1 r (by omega))) (fun r h1 h2 => rfl), fun r hr => (((hc41.2.1 r (by omega)).trans (hc30.2.1 r (by omega))).trans (hc19.2.1 r (by omega))).trans (hc8.2.1 r (by omega)), hc41.2.2⟩
set_option maxRecDepth 10000 in
set_option maxHeartbeats 2000000 in
theorem e_X7_copyFrom_9_71 {d n sl : Nat} {S : zSh} {c : zC} (hS : zSok S) (hB : zBd c) (hcn : zCnW c 71) : zE (d + 2) 38 0 (zent 38 [zA 9, zA 71]) [] ((n, sl), (S, c)) (fun r μ' => ∃ c', r = none ∧ μ' = ((n, sl), (S, c')) ∧ zCpW c c' 9 71) := by
  show zE (d + 2) 38 0 [some (zA 9), some (zA 71)] [] ((n, sl), (S, c)) _
  refine zl_ald0 I38_0 ?_
  refine zr_getr (j := 0) I38_1 F7_10 rfl (sT9 hS) (sR9_0 hS) ?_
  refine zl_ald1 I38_4 ?_
  refine zr_getr (j := 0) I38_5 F7_10 rfl (sT71 hS) (sR71_0 hS) ?_
  refine zr_callV I38_8 C7_37 ⟨rfl, rfl⟩ ⟨rfl, Nat.le_of_ble_eq_true rfl⟩ (Or.inl ⟨rfl, sT10 hS⟩) (e_X4_copyFrom_10_72 hS hB (by exact hcn.1)) (fun v8 μ8 hv8 => ?_)
  obtain ⟨c8, rfl, rfl, hc8⟩ := hv8
  dsimp only [Option.toList, List.cons_append, List.nil_append]
  refine zl_ald0 I38_11 ?_
  refine zr_getr (j := 1) I38_12 F7_19 rfl (sT9 hS) (sR9_1 hS) ?_
  refine zl_ald1 I38_15 ?_
  refine zr_getr (j := 1) I38_16 F7_19 rfl (sT71 hS) (sR71_1 hS) ?_
  refine zr_callV I38_19 C7_41 ⟨rfl, rfl⟩ ⟨rfl, Nat.le_of_ble_eq_true rfl⟩ (Or.inl ⟨rfl, sT15 hS⟩) (e_X5_copyFrom_15_77 hS hc8.2.2 (by rw [hc8.2.1 77 (by omega)]; exact hcn.2.1)) (fun v19 μ19 hv19 => ?_)
  obtain ⟨c19, rfl, rfl, hc19⟩ := hv19
  dsimp only [Option.toList, List.cons_append, List.nil_append]
  refine zl_ald0 I38_22 ?_
  refine zr_getr (j := 2) I38_23 F7_26 rfl (sT9 hS) (sR9_2 hS) ?_
  refine zl_ald1 I38_26 ?_
  refine zr_getr (j := 2) I38_27 F7_26 rfl (sT71 hS) (sR71_2 hS) ?_
  refine zr_callV I38_30 C7_44 ⟨rfl, rfl⟩ ⟨rfl, Nat.le_of_ble_eq_true rfl⟩ (Or.inl ⟨rfl, sT20 hS⟩) (e_X0_copyFrom_20_82 hS hc19.2.2 (by rw [hc19.2.1 82 (by omega)]; rw [hc8.2.1 82 (by omega)]; exact hcn.2.2.1)) (fun v30 μ30 hv30 => ?_)
  obtain ⟨c30, rfl, rfl, hc30⟩ := hv30
  dsimp only [Option.toList, List.cons_append, List.nil_append]
  refine zl_ald0 I38_33 ?_
  refine zr_getr (j := 3) I38_34 F7_33 rfl (sT9 hS) (sR9_3 hS) ?_
  refine zl_ald1 I38_37 ?_
  refine zr_getr (j := 3) I38_38 F7_33 rfl (sT71 hS) (sR71_3 hS) ?_
  refine zr_callV I38_41 C7_47 ⟨rfl, rfl⟩ ⟨rfl, Nat.le_of_ble_eq_true rfl⟩ (Or.inl ⟨rfl, sT24 hS⟩) (e_X3_copyFrom_24_86 hS hc30.2.2 (by rw [hc30.2.1 86 (by omega)]; rw [hc19.2.1 86 (by omega)]; rw [hc8.2.1 86 (by omega)]; exact hcn.2.2.2)) (fun v41 μ41 hv41 => ?_)
  obtain ⟨c41, rfl, rfl, hc41⟩ := hv41
  dsimp only [Option.toList, List.cons_append, List.nil_append]
  refine zr_vret I38_44 rfl ?_
  exact ⟨_, rfl, rfl, zCpo_tr hc8.1 (fun r hr => rfl) (fun r h1 h2 => ((hc41.2.1 r (by omega)).trans (hc30.2.1 r (by omega))).trans (hc19.2.1 r (by omega))), zCpo_tr hc19.1 (fun r hr => hc8.2.1 r (by omega)) (fun r h1 h2 => (hc41.2.1 r (by omega)).trans (hc30.2.1 r (by omega))), zCpo_tr hc30.1 (fun r hr => (hc19.2.1 r (by omega)).trans (hc8.2.1 r (by omega))) (fun r h1 h2 => hc41.2.1 r (by omega)), zCpo_tr hc41.1 (fun r hr => ((hc30.2.1 r (by omega)).trans (hc19.2.1 r (by omega))).trans (hc8.2.1 r (by omega))) (fun r h1 h2 => rfl), fun r hr => (((hc41.2.1 r (by omega)).trans (hc30.2.1 r (by omega))).trans (hc19.2.1 r (by omega))).trans (hc8.2.1 r (by omega)), hc41.2.2⟩
set_option maxRecDepth 10000 in
set_option maxHeartbeats 2000000 in
theorem e_X7_copyFrom_9_91 {d n sl : Nat} {S : zSh} {c : zC} (hS : zSok S) (hB : zBd c) (hcn : zCnW c 91) : zE (d + 2) 38 0 (zent 38 [zA 9, zA 91]) [] ((n, sl), (S, c)) (fun r μ' => ∃ c', r = none ∧ μ' = ((n, sl), (S, c')) ∧ zCpW c c' 9 91) := by
  show zE (d + 2) 38 0 [some (zA 9), some (zA 91)] [] ((n, sl), (S, c)) _
  refine zl_ald0 I38_0 ?_
  refine zr_getr (j := 0) I38_1 F7_10 rfl (sT9 hS) (sR9_0 hS) ?_
  refine zl_ald1 I38_4 ?_
  refine zr_getr (j := 0) I38_5 F7_10 rfl (sT91 hS) (sR91_0 hS) ?_
  refine zr_callV I38_8 C7_37 ⟨rfl, rfl⟩ ⟨rfl, Nat.le_of_ble_eq_true rfl⟩ (Or.inl ⟨rfl, sT10 hS⟩) (e_X4_copyFrom_10_92 hS hB (by exact hcn.1)) (fun v8 μ8 hv8 => ?_)
  obtain ⟨c8, rfl, rfl, hc8⟩ := hv8
  dsimp only [Option.toList, List.cons_append, List.nil_append]
  refine zl_ald0 I38_11 ?_
  refine zr_getr (j := 1) I38_12 F7_19 rfl (sT9 hS) (sR9_1 hS) ?_
  refine zl_ald1 I38_15 ?_
  refine zr_getr (j := 1) I38_16 F7_19 rfl (sT91 hS) (sR91_1 hS) ?_
  refine zr_callV I38_19 C7_41 ⟨rfl, rfl⟩ ⟨rfl, Nat.le_of_ble_eq_true rfl⟩ (Or.inl ⟨rfl, sT15 hS⟩) (e_X5_copyFrom_15_97 hS hc8.2.2 (by rw [hc8.2.1 97 (by omega)]; exact hcn.2.1)) (fun v19 μ19 hv19 => ?_)
  obtain ⟨c19, rfl, rfl, hc19⟩ := hv19
  dsimp only [Option.toList, List.cons_append, List.nil_append]
  refine zl_ald0 I38_22 ?_
  refine zr_getr (j := 2) I38_23 F7_26 rfl (sT9 hS) (sR9_2 hS) ?_
  refine zl_ald1 I38_26 ?_
  refine zr_getr (j := 2) I38_27 F7_26 rfl (sT91 hS) (sR91_2 hS) ?_
  refine zr_callV I38_30 C7_44 ⟨rfl, rfl⟩ ⟨rfl, Nat.le_of_ble_eq_true rfl⟩ (Or.inl ⟨rfl, sT20 hS⟩) (e_X0_copyFrom_20_102 hS hc19.2.2 (by rw [hc19.2.1 102 (by omega)]; rw [hc8.2.1 102 (by omega)]; exact hcn.2.2.1)) (fun v30 μ30 hv30 => ?_)
  obtain ⟨c30, rfl, rfl, hc30⟩ := hv30
  dsimp only [Option.toList, List.cons_append, List.nil_append]
  refine zl_ald0 I38_33 ?_
  refine zr_getr (j := 3) I38_34 F7_33 rfl (sT9 hS) (sR9_3 hS) ?_
  refine zl_ald1 I38_37 ?_
  refine zr_getr (j := 3) I38_38 F7_33 rfl (sT91 hS) (sR91_3 hS) ?_
  refine zr_callV I38_41 C7_47 ⟨rfl, rfl⟩ ⟨rfl, Nat.le_of_ble_eq_true rfl⟩ (Or.inl ⟨rfl, sT24 hS⟩) (e_X3_copyFrom_24_106 hS hc30.2.2 (by rw [hc30.2.1 106 (by omega)]; rw [hc19.2.1 106 (by omega)]; rw [hc8.2.1 106 (by omega)]; exact hcn.2.2.2)) (fun v41 μ41 hv41 => ?_)
  obtain ⟨c41, rfl, rfl, hc41⟩ := hv41
  dsimp only [Option.toList, List.cons_append, List.nil_append]
  refine zr_vret I38_44 rfl ?_
  exact ⟨_, rfl, rfl, zCpo_tr hc8.1 (fun r hr => rfl) (fun r h1 h2 => ((hc41.2.1 r (by omega)).trans (hc30.2.1 r (by omega))).trans (hc19.2.1 r (by omega))), zCpo_tr hc19.1 (fun r hr => hc8.2.1 r (by omega)) (fun r h1 h2 => (hc41.2.1 r (by omega)).trans (hc30.2.1 r (by omega))), zCpo_tr hc30.1 (fun r hr => (hc19.2.1 r (by omega)).trans (hc8.2.1 r (by omega))) (fun r h1 h2 => hc41.2.1 r (by omega)), zCpo_tr hc41.1 (fun r hr => ((hc30.2.1 r (by omega)).trans (hc19.2.1 r (by omega))).trans (hc8.2.1 r (by omega))) (fun r h1 h2 => rfl), fun r hr => (((hc41.2.1 r (by omega)).trans (hc30.2.1 r (by omega))).trans (hc19.2.1 r (by omega))).trans (hc8.2.1 r (by omega)), hc41.2.2⟩
set_option maxRecDepth 10000 in
set_option maxHeartbeats 2000000 in
theorem e_X7_copyFrom_9_111 {d n sl : Nat} {S : zSh} {c : zC} (hS : zSok S) (hB : zBd c) (hcn : zCnW c 111) : zE (d + 2) 38 0 (zent 38 [zA 9, zA 111]) [] ((n, sl), (S, c)) (fun r μ' => ∃ c', r = none ∧ μ' = ((n, sl), (S, c')) ∧ zCpW c c' 9 111) := by
  show zE (d + 2) 38 0 [some (zA 9), some (zA 111)] [] ((n, sl), (S, c)) _
  refine zl_ald0 I38_0 ?_
  refine zr_getr (j := 0) I38_1 F7_10 rfl (sT9 hS) (sR9_0 hS) ?_
  refine zl_ald1 I38_4 ?_
  refine zr_getr (j := 0) I38_5 F7_10 rfl (sT111 hS) (sR111_0 hS) ?_
  refine zr_callV I38_8 C7_37 ⟨rfl, rfl⟩ ⟨rfl, Nat.le_of_ble_eq_true rfl⟩ (Or.inl ⟨rfl, sT10 hS⟩) (e_X4_copyFrom_10_112 hS hB (by exact hcn.1)) (fun v8 μ8 hv8 => ?_)
  obtain ⟨c8, rfl, rfl, hc8⟩ := hv8
  dsimp only [Option.toList, List.cons_append, List.nil_append]
  refine zl_ald0 I38_11 ?_
  refine zr_getr (j := 1) I38_12 F7_19 rfl (sT9 hS) (sR9_1 hS) ?_
  refine zl_ald1 I38_15 ?_
  refine zr_getr (j := 1) I38_16 F7_19 rfl (sT111 hS) (sR111_1 hS) ?_
  refine zr_callV I38_19 C7_41 ⟨rfl, rfl⟩ ⟨rfl, Nat.le_of_ble_eq_true rfl⟩ (Or.inl ⟨rfl, sT15 hS⟩) (e_X5_copyFrom_15_117 hS hc8.2.2 (by rw [hc8.2.1 117 (by omega)]; exact hcn.2.1)) (fun v19 μ19 hv19 => ?_)
  obtain ⟨c19, rfl, rfl, hc19⟩ := hv19
  dsimp only [Option.toList, List.cons_append, List.nil_append]
  refine zl_ald0 I38_22 ?_
  refine zr_getr (j := 2) I38_23 F7_26 rfl (sT9 hS) (sR9_2 hS) ?_
  refine zl_ald1 I38_26 ?_
  refine zr_getr (j := 2) I38_27 F7_26 rfl (sT111 hS) (sR111_2 hS) ?_
  refine zr_callV I38_30 C7_44 ⟨rfl, rfl⟩ ⟨rfl, Nat.le_of_ble_eq_true rfl⟩ (Or.inl ⟨rfl, sT20 hS⟩) (e_X0_copyFrom_20_122 hS hc19.2.2 (by rw [hc19.2.1 122 (by omega)]; rw [hc8.2.1 122 (by omega)]; exact hcn.2.2.1)) (fun v30 μ30 hv30 => ?_)
  obtain ⟨c30, rfl, rfl, hc30⟩ := hv30
  dsimp only [Option.toList, List.cons_append, List.nil_append]
  refine zl_ald0 I38_33 ?_
  refine zr_getr (j := 3) I38_34 F7_33 rfl (sT9 hS) (sR9_3 hS) ?_
  refine zl_ald1 I38_37 ?_
  refine zr_getr (j := 3) I38_38 F7_33 rfl (sT111 hS) (sR111_3 hS) ?_
  refine zr_callV I38_41 C7_47 ⟨rfl, rfl⟩ ⟨rfl, Nat.le_of_ble_eq_true rfl⟩ (Or.inl ⟨rfl, sT24 hS⟩) (e_X3_copyFrom_24_126 hS hc30.2.2 (by rw [hc30.2.1 126 (by omega)]; rw [hc19.2.1 126 (by omega)]; rw [hc8.2.1 126 (by omega)]; exact hcn.2.2.2)) (fun v41 μ41 hv41 => ?_)
  obtain ⟨c41, rfl, rfl, hc41⟩ := hv41
  dsimp only [Option.toList, List.cons_append, List.nil_append]
  refine zr_vret I38_44 rfl ?_
  exact ⟨_, rfl, rfl, zCpo_tr hc8.1 (fun r hr => rfl) (fun r h1 h2 => ((hc41.2.1 r (by omega)).trans (hc30.2.1 r (by omega))).trans (hc19.2.1 r (by omega))), zCpo_tr hc19.1 (fun r hr => hc8.2.1 r (by omega)) (fun r h1 h2 => (hc41.2.1 r (by omega)).trans (hc30.2.1 r (by omega))), zCpo_tr hc30.1 (fun r hr => (hc19.2.1 r (by omega)).trans (hc8.2.1 r (by omega))) (fun r h1 h2 => hc41.2.1 r (by omega)), zCpo_tr hc41.1 (fun r hr => ((hc30.2.1 r (by omega)).trans (hc19.2.1 r (by omega))).trans (hc8.2.1 r (by omega))) (fun r h1 h2 => rfl), fun r hr => (((hc41.2.1 r (by omega)).trans (hc30.2.1 r (by omega))).trans (hc19.2.1 r (by omega))).trans (hc8.2.1 r (by omega)), hc41.2.2⟩
set_option maxRecDepth 10000 in
set_option maxHeartbeats 2000000 in
theorem e_X7_copyFrom_31_9 {d n sl : Nat} {S : zSh} {c : zC} (hS : zSok S) (hB : zBd c) (hcn : zCnW c 9) : zE (d + 2) 38 0 (zent 38 [zA 31, zA 9]) [] ((n, sl), (S, c)) (fun r μ' => ∃ c', r = none ∧ μ' = ((n, sl), (S, c')) ∧ zCpW c c' 31 9) := by
  show zE (d + 2) 38 0 [some (zA 31), some (zA 9)] [] ((n, sl), (S, c)) _
  refine zl_ald0 I38_0 ?_
  refine zr_getr (j := 0) I38_1 F7_10 rfl (sT31 hS) (sR31_0 hS) ?_
  refine zl_ald1 I38_4 ?_
  refine zr_getr (j := 0) I38_5 F7_10 rfl (sT9 hS) (sR9_0 hS) ?_
  refine zr_callV I38_8 C7_37 ⟨rfl, rfl⟩ ⟨rfl, Nat.le_of_ble_eq_true rfl⟩ (Or.inl ⟨rfl, sT32 hS⟩) (e_X4_copyFrom_32_10 hS hB (by exact hcn.1)) (fun v8 μ8 hv8 => ?_)
  obtain ⟨c8, rfl, rfl, hc8⟩ := hv8
  dsimp only [Option.toList, List.cons_append, List.nil_append]
  refine zl_ald0 I38_11 ?_
  refine zr_getr (j := 1) I38_12 F7_19 rfl (sT31 hS) (sR31_1 hS) ?_
  refine zl_ald1 I38_15 ?_
  refine zr_getr (j := 1) I38_16 F7_19 rfl (sT9 hS) (sR9_1 hS) ?_
  refine zr_callV I38_19 C7_41 ⟨rfl, rfl⟩ ⟨rfl, Nat.le_of_ble_eq_true rfl⟩ (Or.inl ⟨rfl, sT37 hS⟩) (e_X5_copyFrom_37_15 hS hc8.2.2 (by rw [hc8.2.1 15 (by omega)]; exact hcn.2.1)) (fun v19 μ19 hv19 => ?_)
  obtain ⟨c19, rfl, rfl, hc19⟩ := hv19
  dsimp only [Option.toList, List.cons_append, List.nil_append]
  refine zl_ald0 I38_22 ?_
  refine zr_getr (j := 2) I38_23 F7_26 rfl (sT31 hS) (sR31_2 hS) ?_
  refine zl_ald1 I38_26 ?_
  refine zr_getr (j := 2) I38_27 F7_26 rfl (sT9 hS) (sR9_2 hS) ?_
  refine zr_callV I38_30 C7_44 ⟨rfl, rfl⟩ ⟨rfl, Nat.le_of_ble_eq_true rfl⟩ (Or.inl ⟨rfl, sT42 hS⟩) (e_X0_copyFrom_42_20 hS hc19.2.2 (by rw [hc19.2.1 20 (by omega)]; rw [hc8.2.1 20 (by omega)]; exact hcn.2.2.1)) (fun v30 μ30 hv30 => ?_)
  obtain ⟨c30, rfl, rfl, hc30⟩ := hv30
  dsimp only [Option.toList, List.cons_append, List.nil_append]
  refine zl_ald0 I38_33 ?_
  refine zr_getr (j := 3) I38_34 F7_33 rfl (sT31 hS) (sR31_3 hS) ?_
  refine zl_ald1 I38_37 ?_
  refine zr_getr (j := 3) I38_38 F7_33 rfl (sT9 hS) (sR9_3 hS) ?_
  refine zr_callV I38_41 C7_47 ⟨rfl, rfl⟩ ⟨rfl, Nat.le_of_ble_eq_true rfl⟩ (Or.inl ⟨rfl, sT46 hS⟩) (e_X3_copyFrom_46_24 hS hc30.2.2 (by rw [hc30.2.1 24 (by omega)]; rw [hc19.2.1 24 (by omega)]; rw [hc8.2.1 24 (by omega)]; exact hcn.2.2.2)) (fun v41 μ41 hv41 => ?_)
  obtain ⟨c41, rfl, rfl, hc41⟩ := hv41
  dsimp only [Option.toList, List.cons_append, List.nil_append]
  refine zr_vret I38_44 rfl ?_
  exact ⟨_, rfl, rfl, zCpo_tr hc8.1 (fun r hr => rfl) (fun r h1 h2 => ((hc41.2.1 r (by omega)).trans (hc30.2.1 r (by omega))).trans (hc19.2.1 r (by omega))), zCpo_tr hc19.1 (fun r hr => hc8.2.1 r (by omega)) (fun r h1 h2 => (hc41.2.1 r (by omega)).trans (hc30.2.1 r (by omega))), zCpo_tr hc30.1 (fun r hr => (hc19.2.1 r (by omega)).trans (hc8.2.1 r (by omega))) (fun r h1 h2 => hc41.2.1 r (by omega)), zCpo_tr hc41.1 (fun r hr => ((hc30.2.1 r (by omega)).trans (hc19.2.1 r (by omega))).trans (hc8.2.1 r (by omega))) (fun r h1 h2 => rfl), fun r hr => (((hc41.2.1 r (by omega)).trans (hc30.2.1 r (by omega))).trans (hc19.2.1 r (by omega))).trans (hc8.2.1 r (by omega)), hc41.2.2⟩
set_option maxRecDepth 10000 in
set_option maxHeartbeats 2000000 in
theorem e_X7_copyFrom_51_9 {d n sl : Nat} {S : zSh} {c : zC} (hS : zSok S) (hB : zBd c) (hcn : zCnW c 9) : zE (d + 2) 38 0 (zent 38 [zA 51, zA 9]) [] ((n, sl), (S, c)) (fun r μ' => ∃ c', r = none ∧ μ' = ((n, sl), (S, c')) ∧ zCpW c c' 51 9) := by
  show zE (d + 2) 38 0 [some (zA 51), some (zA 9)] [] ((n, sl), (S, c)) _
  refine zl_ald0 I38_0 ?_
  refine zr_getr (j := 0) I38_1 F7_10 rfl (sT51 hS) (sR51_0 hS) ?_
  refine zl_ald1 I38_4 ?_
  refine zr_getr (j := 0) I38_5 F7_10 rfl (sT9 hS) (sR9_0 hS) ?_
  refine zr_callV I38_8 C7_37 ⟨rfl, rfl⟩ ⟨rfl, Nat.le_of_ble_eq_true rfl⟩ (Or.inl ⟨rfl, sT52 hS⟩) (e_X4_copyFrom_52_10 hS hB (by exact hcn.1)) (fun v8 μ8 hv8 => ?_)
  obtain ⟨c8, rfl, rfl, hc8⟩ := hv8
  dsimp only [Option.toList, List.cons_append, List.nil_append]
  refine zl_ald0 I38_11 ?_
  refine zr_getr (j := 1) I38_12 F7_19 rfl (sT51 hS) (sR51_1 hS) ?_
  refine zl_ald1 I38_15 ?_
  refine zr_getr (j := 1) I38_16 F7_19 rfl (sT9 hS) (sR9_1 hS) ?_
  refine zr_callV I38_19 C7_41 ⟨rfl, rfl⟩ ⟨rfl, Nat.le_of_ble_eq_true rfl⟩ (Or.inl ⟨rfl, sT57 hS⟩) (e_X5_copyFrom_57_15 hS hc8.2.2 (by rw [hc8.2.1 15 (by omega)]; exact hcn.2.1)) (fun v19 μ19 hv19 => ?_)
  obtain ⟨c19, rfl, rfl, hc19⟩ := hv19
  dsimp only [Option.toList, List.cons_append, List.nil_append]
  refine zl_ald0 I38_22 ?_
  refine zr_getr (j := 2) I38_23 F7_26 rfl (sT51 hS) (sR51_2 hS) ?_
  refine zl_ald1 I38_26 ?_
  refine zr_getr (j := 2) I38_27 F7_26 rfl (sT9 hS) (sR9_2 hS) ?_
  refine zr_callV I38_30 C7_44 ⟨rfl, rfl⟩ ⟨rfl, Nat.le_of_ble_eq_true rfl⟩ (Or.inl ⟨rfl, sT62 hS⟩) (e_X0_copyFrom_62_20 hS hc19.2.2 (by rw [hc19.2.1 20 (by omega)]; rw [hc8.2.1 20 (by omega)]; exact hcn.2.2.1)) (fun v30 μ30 hv30 => ?_)
  obtain ⟨c30, rfl, rfl, hc30⟩ := hv30
  dsimp only [Option.toList, List.cons_append, List.nil_append]
  refine zl_ald0 I38_33 ?_
  refine zr_getr (j := 3) I38_34 F7_33 rfl (sT51 hS) (sR51_3 hS) ?_
  refine zl_ald1 I38_37 ?_
  refine zr_getr (j := 3) I38_38 F7_33 rfl (sT9 hS) (sR9_3 hS) ?_
  refine zr_callV I38_41 C7_47 ⟨rfl, rfl⟩ ⟨rfl, Nat.le_of_ble_eq_true rfl⟩ (Or.inl ⟨rfl, sT66 hS⟩) (e_X3_copyFrom_66_24 hS hc30.2.2 (by rw [hc30.2.1 24 (by omega)]; rw [hc19.2.1 24 (by omega)]; rw [hc8.2.1 24 (by omega)]; exact hcn.2.2.2)) (fun v41 μ41 hv41 => ?_)
  obtain ⟨c41, rfl, rfl, hc41⟩ := hv41
  dsimp only [Option.toList, List.cons_append, List.nil_append]
  refine zr_vret I38_44 rfl ?_
  exact ⟨_, rfl, rfl, zCpo_tr hc8.1 (fun r hr => rfl) (fun r h1 h2 => ((hc41.2.1 r (by omega)).trans (hc30.2.1 r (by omega))).trans (hc19.2.1 r (by omega))), zCpo_tr hc19.1 (fun r hr => hc8.2.1 r (by omega)) (fun r h1 h2 => (hc41.2.1 r (by omega)).trans (hc30.2.1 r (by omega))), zCpo_tr hc30.1 (fun r hr => (hc19.2.1 r (by omega)).trans (hc8.2.1 r (by omega))) (fun r h1 h2 => hc41.2.1 r (by omega)), zCpo_tr hc41.1 (fun r hr => ((hc30.2.1 r (by omega)).trans (hc19.2.1 r (by omega))).trans (hc8.2.1 r (by omega))) (fun r h1 h2 => rfl), fun r hr => (((hc41.2.1 r (by omega)).trans (hc30.2.1 r (by omega))).trans (hc19.2.1 r (by omega))).trans (hc8.2.1 r (by omega)), hc41.2.2⟩
set_option maxRecDepth 10000 in
set_option maxHeartbeats 2000000 in
theorem e_X7_copyFrom_71_9 {d n sl : Nat} {S : zSh} {c : zC} (hS : zSok S) (hB : zBd c) (hcn : zCnW c 9) : zE (d + 2) 38 0 (zent 38 [zA 71, zA 9]) [] ((n, sl), (S, c)) (fun r μ' => ∃ c', r = none ∧ μ' = ((n, sl), (S, c')) ∧ zCpW c c' 71 9) := by
  show zE (d + 2) 38 0 [some (zA 71), some (zA 9)] [] ((n, sl), (S, c)) _
  refine zl_ald0 I38_0 ?_
  refine zr_getr (j := 0) I38_1 F7_10 rfl (sT71 hS) (sR71_0 hS) ?_
  refine zl_ald1 I38_4 ?_
  refine zr_getr (j := 0) I38_5 F7_10 rfl (sT9 hS) (sR9_0 hS) ?_
  refine zr_callV I38_8 C7_37 ⟨rfl, rfl⟩ ⟨rfl, Nat.le_of_ble_eq_true rfl⟩ (Or.inl ⟨rfl, sT72 hS⟩) (e_X4_copyFrom_72_10 hS hB (by exact hcn.1)) (fun v8 μ8 hv8 => ?_)
  obtain ⟨c8, rfl, rfl, hc8⟩ := hv8
  dsimp only [Option.toList, List.cons_append, List.nil_append]
  refine zl_ald0 I38_11 ?_
  refine zr_getr (j := 1) I38_12 F7_19 rfl (sT71 hS) (sR71_1 hS) ?_
  refine zl_ald1 I38_15 ?_
  refine zr_getr (j := 1) I38_16 F7_19 rfl (sT9 hS) (sR9_1 hS) ?_
  refine zr_callV I38_19 C7_41 ⟨rfl, rfl⟩ ⟨rfl, Nat.le_of_ble_eq_true rfl⟩ (Or.inl ⟨rfl, sT77 hS⟩) (e_X5_copyFrom_77_15 hS hc8.2.2 (by rw [hc8.2.1 15 (by omega)]; exact hcn.2.1)) (fun v19 μ19 hv19 => ?_)
  obtain ⟨c19, rfl, rfl, hc19⟩ := hv19
  dsimp only [Option.toList, List.cons_append, List.nil_append]
  refine zl_ald0 I38_22 ?_
  refine zr_getr (j := 2) I38_23 F7_26 rfl (sT71 hS) (sR71_2 hS) ?_
  refine zl_ald1 I38_26 ?_
  refine zr_getr (j := 2) I38_27 F7_26 rfl (sT9 hS) (sR9_2 hS) ?_
  refine zr_callV I38_30 C7_44 ⟨rfl, rfl⟩ ⟨rfl, Nat.le_of_ble_eq_true rfl⟩ (Or.inl ⟨rfl, sT82 hS⟩) (e_X0_copyFrom_82_20 hS hc19.2.2 (by rw [hc19.2.1 20 (by omega)]; rw [hc8.2.1 20 (by omega)]; exact hcn.2.2.1)) (fun v30 μ30 hv30 => ?_)
  obtain ⟨c30, rfl, rfl, hc30⟩ := hv30
  dsimp only [Option.toList, List.cons_append, List.nil_append]
  refine zl_ald0 I38_33 ?_
  refine zr_getr (j := 3) I38_34 F7_33 rfl (sT71 hS) (sR71_3 hS) ?_
  refine zl_ald1 I38_37 ?_
  refine zr_getr (j := 3) I38_38 F7_33 rfl (sT9 hS) (sR9_3 hS) ?_
  refine zr_callV I38_41 C7_47 ⟨rfl, rfl⟩ ⟨rfl, Nat.le_of_ble_eq_true rfl⟩ (Or.inl ⟨rfl, sT86 hS⟩) (e_X3_copyFrom_86_24 hS hc30.2.2 (by rw [hc30.2.1 24 (by omega)]; rw [hc19.2.1 24 (by omega)]; rw [hc8.2.1 24 (by omega)]; exact hcn.2.2.2)) (fun v41 μ41 hv41 => ?_)
  obtain ⟨c41, rfl, rfl, hc41⟩ := hv41
  dsimp only [Option.toList, List.cons_append, List.nil_append]
  refine zr_vret I38_44 rfl ?_
  exact ⟨_, rfl, rfl, zCpo_tr hc8.1 (fun r hr => rfl) (fun r h1 h2 => ((hc41.2.1 r (by omega)).trans (hc30.2.1 r (by omega))).trans (hc19.2.1 r (by omega))), zCpo_tr hc19.1 (fun r hr => hc8.2.1 r (by omega)) (fun r h1 h2 => (hc41.2.1 r (by omega)).trans (hc30.2.1 r (by omega))), zCpo_tr hc30.1 (fun r hr => (hc19.2.1 r (by omega)).trans (hc8.2.1 r (by omega))) (fun r h1 h2 => hc41.2.1 r (by omega)), zCpo_tr hc41.1 (fun r hr => ((hc30.2.1 r (by omega)).trans (hc19.2.1 r (by omega))).trans (hc8.2.1 r (by omega))) (fun r h1 h2 => rfl), fun r hr => (((hc41.2.1 r (by omega)).trans (hc30.2.1 r (by omega))).trans (hc19.2.1 r (by omega))).trans (hc8.2.1 r (by omega)), hc41.2.2⟩
set_option maxRecDepth 10000 in
set_option maxHeartbeats 2000000 in
theorem e_X7_copyFrom_91_9 {d n sl : Nat} {S : zSh} {c : zC} (hS : zSok S) (hB : zBd c) (hcn : zCnW c 9) : zE (d + 2) 38 0 (zent 38 [zA 91, zA 9]) [] ((n, sl), (S, c)) (fun r μ' => ∃ c', r = none ∧ μ' = ((n, sl), (S, c')) ∧ zCpW c c' 91 9) := by
  show zE (d + 2) 38 0 [some (zA 91), some (zA 9)] [] ((n, sl), (S, c)) _
  refine zl_ald0 I38_0 ?_
  refine zr_getr (j := 0) I38_1 F7_10 rfl (sT91 hS) (sR91_0 hS) ?_
  refine zl_ald1 I38_4 ?_
  refine zr_getr (j := 0) I38_5 F7_10 rfl (sT9 hS) (sR9_0 hS) ?_
  refine zr_callV I38_8 C7_37 ⟨rfl, rfl⟩ ⟨rfl, Nat.le_of_ble_eq_true rfl⟩ (Or.inl ⟨rfl, sT92 hS⟩) (e_X4_copyFrom_92_10 hS hB (by exact hcn.1)) (fun v8 μ8 hv8 => ?_)
  obtain ⟨c8, rfl, rfl, hc8⟩ := hv8
  dsimp only [Option.toList, List.cons_append, List.nil_append]
  refine zl_ald0 I38_11 ?_
  refine zr_getr (j := 1) I38_12 F7_19 rfl (sT91 hS) (sR91_1 hS) ?_
  refine zl_ald1 I38_15 ?_
  refine zr_getr (j := 1) I38_16 F7_19 rfl (sT9 hS) (sR9_1 hS) ?_
  refine zr_callV I38_19 C7_41 ⟨rfl, rfl⟩ ⟨rfl, Nat.le_of_ble_eq_true rfl⟩ (Or.inl ⟨rfl, sT97 hS⟩) (e_X5_copyFrom_97_15 hS hc8.2.2 (by rw [hc8.2.1 15 (by omega)]; exact hcn.2.1)) (fun v19 μ19 hv19 => ?_)
  obtain ⟨c19, rfl, rfl, hc19⟩ := hv19
  dsimp only [Option.toList, List.cons_append, List.nil_append]
  refine zl_ald0 I38_22 ?_
  refine zr_getr (j := 2) I38_23 F7_26 rfl (sT91 hS) (sR91_2 hS) ?_
  refine zl_ald1 I38_26 ?_
  refine zr_getr (j := 2) I38_27 F7_26 rfl (sT9 hS) (sR9_2 hS) ?_
  refine zr_callV I38_30 C7_44 ⟨rfl, rfl⟩ ⟨rfl, Nat.le_of_ble_eq_true rfl⟩ (Or.inl ⟨rfl, sT102 hS⟩) (e_X0_copyFrom_102_20 hS hc19.2.2 (by rw [hc19.2.1 20 (by omega)]; rw [hc8.2.1 20 (by omega)]; exact hcn.2.2.1)) (fun v30 μ30 hv30 => ?_)
  obtain ⟨c30, rfl, rfl, hc30⟩ := hv30
  dsimp only [Option.toList, List.cons_append, List.nil_append]
  refine zl_ald0 I38_33 ?_
  refine zr_getr (j := 3) I38_34 F7_33 rfl (sT91 hS) (sR91_3 hS) ?_
  refine zl_ald1 I38_37 ?_
  refine zr_getr (j := 3) I38_38 F7_33 rfl (sT9 hS) (sR9_3 hS) ?_
  refine zr_callV I38_41 C7_47 ⟨rfl, rfl⟩ ⟨rfl, Nat.le_of_ble_eq_true rfl⟩ (Or.inl ⟨rfl, sT106 hS⟩) (e_X3_copyFrom_106_24 hS hc30.2.2 (by rw [hc30.2.1 24 (by omega)]; rw [hc19.2.1 24 (by omega)]; rw [hc8.2.1 24 (by omega)]; exact hcn.2.2.2)) (fun v41 μ41 hv41 => ?_)
  obtain ⟨c41, rfl, rfl, hc41⟩ := hv41
  dsimp only [Option.toList, List.cons_append, List.nil_append]
  refine zr_vret I38_44 rfl ?_
  exact ⟨_, rfl, rfl, zCpo_tr hc8.1 (fun r hr => rfl) (fun r h1 h2 => ((hc41.2.1 r (by omega)).trans (hc30.2.1 r (by omega))).trans (hc19.2.1 r (by omega))), zCpo_tr hc19.1 (fun r hr => hc8.2.1 r (by omega)) (fun r h1 h2 => (hc41.2.1 r (by omega)).trans (hc30.2.1 r (by omega))), zCpo_tr hc30.1 (fun r hr => (hc19.2.1 r (by omega)).trans (hc8.2.1 r (by omega))) (fun r h1 h2 => hc41.2.1 r (by omega)), zCpo_tr hc41.1 (fun r hr => ((hc30.2.1 r (by omega)).trans (hc19.2.1 r (by omega))).trans (hc8.2.1 r (by omega))) (fun r h1 h2 => rfl), fun r hr => (((hc41.2.1 r (by omega)).trans (hc30.2.1 r (by omega))).trans (hc19.2.1 r (by omega))).trans (hc8.2.1 r (by omega)), hc41.2.2⟩
set_option maxRecDepth 10000 in
set_option maxHeartbeats 2000000 in
theorem e_X7_copyFrom_111_9 {d n sl : Nat} {S : zSh} {c : zC} (hS : zSok S) (hB : zBd c) (hcn : zCnW c 9) : zE (d + 2) 38 0 (zent 38 [zA 111, zA 9]) [] ((n, sl), (S, c)) (fun r μ' => ∃ c', r = none ∧ μ' = ((n, sl), (S, c')) ∧ zCpW c c' 111 9) := by
  show zE (d + 2) 38 0 [some (zA 111), some (zA 9)] [] ((n, sl), (S, c)) _
  refine zl_ald0 I38_0 ?_
  refine zr_getr (j := 0) I38_1 F7_10 rfl (sT111 hS) (sR111_0 hS) ?_
  refine zl_ald1 I38_4 ?_
  refine zr_getr (j := 0) I38_5 F7_10 rfl (sT9 hS) (sR9_0 hS) ?_
  refine zr_callV I38_8 C7_37 ⟨rfl, rfl⟩ ⟨rfl, Nat.le_of_ble_eq_true rfl⟩ (Or.inl ⟨rfl, sT112 hS⟩) (e_X4_copyFrom_112_10 hS hB (by exact hcn.1)) (fun v8 μ8 hv8 => ?_)
  obtain ⟨c8, rfl, rfl, hc8⟩ := hv8
  dsimp only [Option.toList, List.cons_append, List.nil_append]
  refine zl_ald0 I38_11 ?_
  refine zr_getr (j := 1) I38_12 F7_19 rfl (sT111 hS) (sR111_1 hS) ?_
  refine zl_ald1 I38_15 ?_
  refine zr_getr (j := 1) I38_16 F7_19 rfl (sT9 hS) (sR9_1 hS) ?_
  refine zr_callV I38_19 C7_41 ⟨rfl, rfl⟩ ⟨rfl, Nat.le_of_ble_eq_true rfl⟩ (Or.inl ⟨rfl, sT117 hS⟩) (e_X5_copyFrom_117_15 hS hc8.2.2 (by rw [hc8.2.1 15 (by omega)]; exact hcn.2.1)) (fun v19 μ19 hv19 => ?_)
  obtain ⟨c19, rfl, rfl, hc19⟩ := hv19
  dsimp only [Option.toList, List.cons_append, List.nil_append]
  refine zl_ald0 I38_22 ?_
  refine zr_getr (j := 2) I38_23 F7_26 rfl (sT111 hS) (sR111_2 hS) ?_
  refine zl_ald1 I38_26 ?_
  refine zr_getr (j := 2) I38_27 F7_26 rfl (sT9 hS) (sR9_2 hS) ?_
  refine zr_callV I38_30 C7_44 ⟨rfl, rfl⟩ ⟨rfl, Nat.le_of_ble_eq_true rfl⟩ (Or.inl ⟨rfl, sT122 hS⟩) (e_X0_copyFrom_122_20 hS hc19.2.2 (by rw [hc19.2.1 20 (by omega)]; rw [hc8.2.1 20 (by omega)]; exact hcn.2.2.1)) (fun v30 μ30 hv30 => ?_)
  obtain ⟨c30, rfl, rfl, hc30⟩ := hv30
  dsimp only [Option.toList, List.cons_append, List.nil_append]
  refine zl_ald0 I38_33 ?_
  refine zr_getr (j := 3) I38_34 F7_33 rfl (sT111 hS) (sR111_3 hS) ?_
  refine zl_ald1 I38_37 ?_
  refine zr_getr (j := 3) I38_38 F7_33 rfl (sT9 hS) (sR9_3 hS) ?_
  refine zr_callV I38_41 C7_47 ⟨rfl, rfl⟩ ⟨rfl, Nat.le_of_ble_eq_true rfl⟩ (Or.inl ⟨rfl, sT126 hS⟩) (e_X3_copyFrom_126_24 hS hc30.2.2 (by rw [hc30.2.1 24 (by omega)]; rw [hc19.2.1 24 (by omega)]; rw [hc8.2.1 24 (by omega)]; exact hcn.2.2.2)) (fun v41 μ41 hv41 => ?_)
  obtain ⟨c41, rfl, rfl, hc41⟩ := hv41
  dsimp only [Option.toList, List.cons_append, List.nil_append]
  refine zr_vret I38_44 rfl ?_
  exact ⟨_, rfl, rfl, zCpo_tr hc8.1 (fun r hr => rfl) (fun r h1 h2 => ((hc41.2.1 r (by omega)).trans (hc30.2.1 r (by omega))).trans (hc19.2.1 r (by omega))), zCpo_tr hc19.1 (fun r hr => hc8.2.1 r (by omega)) (fun r h1 h2 => (hc41.2.1 r (by omega)).trans (hc30.2.1 r (by omega))), zCpo_tr hc30.1 (fun r hr => (hc19.2.1 r (by omega)).trans (hc8.2.1 r (by omega))) (fun r h1 h2 => hc41.2.1 r (by omega)), zCpo_tr hc41.1 (fun r hr => ((hc30.2.1 r (by omega)).trans (hc19.2.1 r (by omega))).trans (hc8.2.1 r (by omega))) (fun r h1 h2 => rfl), fun r hr => (((hc41.2.1 r (by omega)).trans (hc30.2.1 r (by omega))).trans (hc19.2.1 r (by omega))).trans (hc8.2.1 r (by omega)), hc41.2.2⟩
