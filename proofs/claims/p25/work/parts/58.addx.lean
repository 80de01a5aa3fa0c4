/-! the class: programmes, rights, blackouts added; undo -/
set_option maxRecDepth 10000 in
set_option maxHeartbeats 2000000 in
theorem e_X8_addProgramme {d n sl : Nat} {S : zSh} {c : zC} (hS : zSok S) (hB : zBd c) (hk : 0 ≤ c 29 0 ∧ c 29 0 ≤ 5) (ho : 0 ≤ c 29 1 ∧ c 29 1 ≤ 4) (hcn : zCnW c 9) (hq : 0 ≤ c 10 0 ∧ c 10 0 ≤ 16) (hpn : 0 ≤ c 10 0 ∧ c 10 0 ≤ 16) {a l e : Int} : zE (d + 4) 40 0 (zent 40 [zA 8, zI a, zI l, zI e]) [] ((n, sl), (S, c)) (fun r μ' => ∃ (x : Int) (c' : zC), r = some (zI x) ∧ μ' = ((n, sl), (S, c')) ∧ ((¬ ((0 ≤ a ∧ a ≤ 3) ∧ (1 ≤ l ∧ l ≤ 240) ∧ (0 ≤ e ∧ e ≤ 3)) ∧ x = -1 ∧ c' = c) ∨ (((0 ≤ a ∧ a ≤ 3) ∧ (1 ≤ l ∧ l ≤ 240) ∧ (0 ≤ e ∧ e ≤ 3)) ∧ ¬ c 10 0 < 16 ∧ x = -3 ∧ c' = c) ∨ (((0 ≤ a ∧ a ≤ 3) ∧ (1 ≤ l ∧ l ≤ 240) ∧ (0 ≤ e ∧ e ≤ 3)) ∧ c 10 0 < 16 ∧ x = c 10 0 ∧ ∃ c1, zKpt c c1 ∧ zAp c1 c' 10 4 (fun i => if i = 1 then a else if i = 2 then l else if i = 3 then e else 0)))) := by
  show zE (d + 4) 40 0 [some (zA 8), some (zI a), some (zI l), some (zI e)] [] ((n, sl), (S, c)) _
  refine zl_ild1 I40_0 ?_
  refine zr_iconst I40_1 ?_
  refine zr_iconst I40_2 ?_
  refine zr_callS I40_3 C8_44 ⟨rfl, rfl⟩ ⟨by simp, rfl, Nat.le_of_ble_eq_true rfl⟩ (e_X8_within ) (fun v3 μ3 hv3 => ?_)
  obtain ⟨x3, rfl, hx3, rfl⟩ := hv3
  dsimp only [Option.toList, List.cons_append, List.nil_append]
  unfold zTf at hx3
  refine zr_if_eq (t := 29) I40_6 rfl (fun h6 => ?_) (fun h6 => ?_)
  · refine zr_iconst I40_29 ?_
    refine zr_iret I40_30 rfl ?_
    exact ⟨_, _, rfl, rfl, Or.inl ⟨by omega, rfl, rfl⟩⟩
  · refine zl_ild2 I40_9 ?_
    refine zr_iconst I40_10 ?_
    refine zr_sipush I40_11 ?_
    refine zr_callS I40_14 C8_44 ⟨rfl, rfl⟩ ⟨by simp, rfl, Nat.le_of_ble_eq_true rfl⟩ (e_X8_within ) (fun v14 μ14 hv14 => ?_)
    obtain ⟨x14, rfl, hx14, rfl⟩ := hv14
    dsimp only [Option.toList, List.cons_append, List.nil_append]
    unfold zTf at hx14
    refine zr_if_eq (t := 29) I40_17 rfl (fun h17 => ?_) (fun h17 => ?_)
    · refine zr_iconst I40_29 ?_
      refine zr_iret I40_30 rfl ?_
      exact ⟨_, _, rfl, rfl, Or.inl ⟨by omega, rfl, rfl⟩⟩
    · refine zl_ild3 I40_20 ?_
      refine zr_iconst I40_21 ?_
      refine zr_iconst I40_22 ?_
      refine zr_callS I40_23 C8_44 ⟨rfl, rfl⟩ ⟨by simp, rfl, Nat.le_of_ble_eq_true rfl⟩ (e_X8_within ) (fun v23 μ23 hv23 => ?_)
      obtain ⟨x23, rfl, hx23, rfl⟩ := hv23
      dsimp only [Option.toList, List.cons_append, List.nil_append]
      unfold zTf at hx23
      refine zr_if_ne (t := 31) I40_26 rfl (fun h26 => ?_) (fun h26 => ?_)
      · refine zl_ald0 I40_31 ?_
        refine zr_getr (j := 0) I40_32 F8_12 rfl (sT8 hS) (sR8_0 hS) ?_
        refine zr_getr (j := 0) I40_35 F8_48 rfl (sT9 hS) (sR9_0 hS) ?_
        refine zr_giB (j := 0) hB (by decide) I40_38 F8_52 rfl (sT10 hS) (fun b38 => ?_)
        refine zr_bipush I40_41 ?_
        refine zr_ic_lt (t := 49) I40_43 rfl (fun h43 => ?_) (fun h43 => ?_)
        · refine zl_ald0 I40_49 ?_
          refine zr_getr (j := 1) I40_50 F8_19 rfl (sT8 hS) (sR8_1 hS) ?_
          refine zl_ald0 I40_53 ?_
          refine zr_getr (j := 0) I40_54 F8_12 rfl (sT8 hS) (sR8_0 hS) ?_
          refine zr_callV I40_57 C8_58 ⟨rfl, rfl⟩ ⟨rfl, Nat.le_of_ble_eq_true rfl⟩ (Or.inl ⟨rfl, sT29 hS⟩) (e_X2_keep hS hB hk ho hcn) (fun v57 μ57 hv57 => ?_)
          obtain ⟨c57, rfl, rfl, hc57⟩ := hv57
          dsimp only [Option.toList, List.cons_append, List.nil_append]
          have hkp : zKpt c c57 := hc57
          have fr := zKpt_fr hkp hk
          have eT : c57 10 = c 10 := fr.1 10 (by decide) (by decide)
          refine zl_ald0 I40_60 ?_
          refine zr_getr (j := 0) I40_61 F8_12 rfl (sT8 hS) (sR8_0 hS) ?_
          refine zr_getr (j := 0) I40_64 F8_48 rfl (sT9 hS) (sR9_0 hS) ?_
          refine zl_ild1 I40_67 ?_
          refine zl_ild2 I40_68 ?_
          refine zl_ild3 I40_69 ?_
          refine zr_callV I40_70 C8_62 ⟨rfl, rfl⟩ ⟨rfl, Nat.le_of_ble_eq_true rfl⟩ (Or.inl ⟨rfl, sT10 hS⟩) (e_X4_append hS fr.2 (by rw [eT]; omega) (by omega) (by omega) (by omega)) (fun v70 μ70 hv70 => ?_)
          obtain ⟨c70, rfl, rfl, hc70⟩ := hv70
          dsimp only [Option.toList, List.cons_append, List.nil_append]
          refine zr_iret I40_73 rfl ?_
          exact ⟨_, _, rfl, rfl, Or.inr (Or.inr ⟨by omega, by omega, by rw [eT], c57, hkp, hc70⟩)⟩
        · refine zr_bipush I40_46 ?_
          refine zr_iret I40_48 rfl ?_
          exact ⟨_, _, rfl, rfl, Or.inr (Or.inl ⟨by omega, by omega, rfl, rfl⟩)⟩
      · refine zr_iconst I40_29 ?_
        refine zr_iret I40_30 rfl ?_
        exact ⟨_, _, rfl, rfl, Or.inl ⟨by omega, rfl, rfl⟩⟩
set_option maxRecDepth 10000 in
set_option maxHeartbeats 2000000 in
theorem e_X8_addRight {d n sl : Nat} {S : zSh} {c : zC} (hS : zSok S) (hB : zBd c) (hk : 0 ≤ c 29 0 ∧ c 29 0 ≤ 5) (ho : 0 ≤ c 29 1 ∧ c 29 1 ≤ 4) (hcn : zCnW c 9) (hq : 0 ≤ c 15 0 ∧ c 15 0 ≤ 30) (hpn : 0 ≤ c 10 0 ∧ c 10 0 ≤ 16) {p a b l : Int} : zE (d + 4) 41 0 (zent 41 [zA 8, zI p, zI a, zI b, zI l]) [] ((n, sl), (S, c)) (fun r μ' => ∃ (x : Int) (c' : zC), r = some (zI x) ∧ μ' = ((n, sl), (S, c')) ∧ ((¬ ((0 ≤ p ∧ p < c 10 0) ∧ (0 ≤ a ∧ a < b ∧ b ≤ 10080) ∧ (1 ≤ l ∧ l ≤ 50)) ∧ x = -1 ∧ c' = c) ∨ (((0 ≤ p ∧ p < c 10 0) ∧ (0 ≤ a ∧ a < b ∧ b ≤ 10080) ∧ (1 ≤ l ∧ l ≤ 50)) ∧ ¬ c 15 0 < 30 ∧ x = -3 ∧ c' = c) ∨ (((0 ≤ p ∧ p < c 10 0) ∧ (0 ≤ a ∧ a < b ∧ b ≤ 10080) ∧ (1 ≤ l ∧ l ≤ 50)) ∧ c 15 0 < 30 ∧ x = c 15 0 ∧ ∃ c1, zKpt c c1 ∧ zAp c1 c' 15 4 (fun i => if i = 1 then p else if i = 2 then a else if i = 3 then b else l)))) := by
  show zE (d + 4) 41 0 [some (zA 8), some (zI p), some (zI a), some (zI b), some (zI l)] [] ((n, sl), (S, c)) _
  refine zl_ald0 I41_0 ?_
  refine zl_ild1 I41_1 ?_
  refine zr_callV I41_2 C8_66 ⟨rfl, rfl⟩ ⟨rfl, Nat.le_of_ble_eq_true rfl⟩ (Or.inl ⟨rfl, sT8 hS⟩) (e_X8_isProgramme hS hB) (fun v2 μ2 hv2 => ?_)
  obtain ⟨x2, rfl, hx2, rfl⟩ := hv2
  dsimp only [Option.toList, List.cons_append, List.nil_append]
  unfold zTf at hx2
  refine zr_if_eq (t := 30) I41_5 rfl (fun h5 => ?_) (fun h5 => ?_)
  · refine zr_iconst I41_30 ?_
    refine zr_iret I41_31 rfl ?_
    exact ⟨_, _, rfl, rfl, Or.inl ⟨by omega, rfl, rfl⟩⟩
  · refine zl_ild2 I41_8 ?_
    refine zl_ild3 I41_9 ?_
    refine zr_sipush I41_10 ?_
    refine zr_callS I41_13 C8_70 ⟨rfl, rfl⟩ ⟨by simp, rfl, Nat.le_of_ble_eq_true rfl⟩ (e_X8_isInterval ) (fun v13 μ13 hv13 => ?_)
    obtain ⟨x13, rfl, hx13, rfl⟩ := hv13
    dsimp only [Option.toList, List.cons_append, List.nil_append]
    unfold zTf at hx13
    refine zr_if_eq (t := 30) I41_16 rfl (fun h16 => ?_) (fun h16 => ?_)
    · refine zr_iconst I41_30 ?_
      refine zr_iret I41_31 rfl ?_
      exact ⟨_, _, rfl, rfl, Or.inl ⟨by omega, rfl, rfl⟩⟩
    · refine zl_ild4 I41_19 ?_
      refine zr_iconst I41_21 ?_
      refine zr_bipush I41_22 ?_
      refine zr_callS I41_24 C8_44 ⟨rfl, rfl⟩ ⟨by simp, rfl, Nat.le_of_ble_eq_true rfl⟩ (e_X8_within ) (fun v24 μ24 hv24 => ?_)
      obtain ⟨x24, rfl, hx24, rfl⟩ := hv24
      dsimp only [Option.toList, List.cons_append, List.nil_append]
      unfold zTf at hx24
      refine zr_if_ne (t := 32) I41_27 rfl (fun h27 => ?_) (fun h27 => ?_)
      · refine zl_ald0 I41_32 ?_
        refine zr_getr (j := 0) I41_33 F8_12 rfl (sT8 hS) (sR8_0 hS) ?_
        refine zr_getr (j := 1) I41_36 F8_73 rfl (sT9 hS) (sR9_1 hS) ?_
        refine zr_giB (j := 0) hB (by decide) I41_39 F8_77 rfl (sT15 hS) (fun b39 => ?_)
        refine zr_bipush I41_42 ?_
        refine zr_ic_lt (t := 50) I41_44 rfl (fun h44 => ?_) (fun h44 => ?_)
        · refine zl_ald0 I41_50 ?_
          refine zr_getr (j := 1) I41_51 F8_19 rfl (sT8 hS) (sR8_1 hS) ?_
          refine zl_ald0 I41_54 ?_
          refine zr_getr (j := 0) I41_55 F8_12 rfl (sT8 hS) (sR8_0 hS) ?_
          refine zr_callV I41_58 C8_58 ⟨rfl, rfl⟩ ⟨rfl, Nat.le_of_ble_eq_true rfl⟩ (Or.inl ⟨rfl, sT29 hS⟩) (e_X2_keep hS hB hk ho hcn) (fun v58 μ58 hv58 => ?_)
          obtain ⟨c58, rfl, rfl, hc58⟩ := hv58
          dsimp only [Option.toList, List.cons_append, List.nil_append]
          have hkp : zKpt c c58 := hc58
          have fr := zKpt_fr hkp hk
          have eT : c58 15 = c 15 := fr.1 15 (by decide) (by decide)
          refine zl_ald0 I41_61 ?_
          refine zr_getr (j := 0) I41_62 F8_12 rfl (sT8 hS) (sR8_0 hS) ?_
          refine zr_getr (j := 1) I41_65 F8_73 rfl (sT9 hS) (sR9_1 hS) ?_
          refine zl_ild1 I41_68 ?_
          refine zl_ild2 I41_69 ?_
          refine zl_ild3 I41_70 ?_
          refine zl_ild4 I41_71 ?_
          refine zr_callV I41_73 C8_80 ⟨rfl, rfl⟩ ⟨rfl, Nat.le_of_ble_eq_true rfl⟩ (Or.inl ⟨rfl, sT15 hS⟩) (e_X5_append hS fr.2 (by rw [eT]; omega) (by omega) (by omega) (by omega) (by omega)) (fun v73 μ73 hv73 => ?_)
          obtain ⟨c73, rfl, rfl, hc73⟩ := hv73
          dsimp only [Option.toList, List.cons_append, List.nil_append]
          refine zr_iret I41_76 rfl ?_
          exact ⟨_, _, rfl, rfl, Or.inr (Or.inr ⟨by omega, by omega, by rw [eT], c58, hkp, hc73⟩)⟩
        · refine zr_bipush I41_47 ?_
          refine zr_iret I41_49 rfl ?_
          exact ⟨_, _, rfl, rfl, Or.inr (Or.inl ⟨by omega, by omega, rfl, rfl⟩)⟩
      · refine zr_iconst I41_30 ?_
        refine zr_iret I41_31 rfl ?_
        exact ⟨_, _, rfl, rfl, Or.inl ⟨by omega, rfl, rfl⟩⟩
set_option maxRecDepth 10000 in
set_option maxHeartbeats 2000000 in
theorem e_X8_addBlackout {d n sl : Nat} {S : zSh} {c : zC} (hS : zSok S) (hB : zBd c) (hk : 0 ≤ c 29 0 ∧ c 29 0 ≤ 5) (ho : 0 ≤ c 29 1 ∧ c 29 1 ≤ 4) (hcn : zCnW c 9) (hq : 0 ≤ c 20 0 ∧ c 20 0 ≤ 10) (hpn : 0 ≤ c 10 0 ∧ c 10 0 ≤ 16) {a b e : Int} : zE (d + 4) 42 0 (zent 42 [zA 8, zI a, zI b, zI e]) [] ((n, sl), (S, c)) (fun r μ' => ∃ (x : Int) (c' : zC), r = some (zI x) ∧ μ' = ((n, sl), (S, c')) ∧ ((¬ ((0 ≤ a ∧ a < b ∧ b ≤ 1440) ∧ (0 ≤ e ∧ e ≤ 3)) ∧ x = -1 ∧ c' = c) ∨ (((0 ≤ a ∧ a < b ∧ b ≤ 1440) ∧ (0 ≤ e ∧ e ≤ 3)) ∧ ¬ c 20 0 < 10 ∧ x = -3 ∧ c' = c) ∨ (((0 ≤ a ∧ a < b ∧ b ≤ 1440) ∧ (0 ≤ e ∧ e ≤ 3)) ∧ c 20 0 < 10 ∧ x = c 20 0 ∧ ∃ c1, zKpt c c1 ∧ zAp c1 c' 20 3 (fun i => if i = 1 then a else if i = 2 then b else e)))) := by
  show zE (d + 4) 42 0 [some (zA 8), some (zI a), some (zI b), some (zI e)] [] ((n, sl), (S, c)) _
  refine zl_ild1 I42_0 ?_
  refine zl_ild2 I42_1 ?_
  refine zr_sipush I42_2 ?_
  refine zr_callS I42_5 C8_70 ⟨rfl, rfl⟩ ⟨by simp, rfl, Nat.le_of_ble_eq_true rfl⟩ (e_X8_isInterval ) (fun v5 μ5 hv5 => ?_)
  obtain ⟨x5, rfl, hx5, rfl⟩ := hv5
  dsimp only [Option.toList, List.cons_append, List.nil_append]
  unfold zTf at hx5
  refine zr_if_eq (t := 20) I42_8 rfl (fun h8 => ?_) (fun h8 => ?_)
  · refine zr_iconst I42_20 ?_
    refine zr_iret I42_21 rfl ?_
    exact ⟨_, _, rfl, rfl, Or.inl ⟨by omega, rfl, rfl⟩⟩
  · refine zl_ild3 I42_11 ?_
    refine zr_iconst I42_12 ?_
    refine zr_iconst I42_13 ?_
    refine zr_callS I42_14 C8_44 ⟨rfl, rfl⟩ ⟨by simp, rfl, Nat.le_of_ble_eq_true rfl⟩ (e_X8_within ) (fun v14 μ14 hv14 => ?_)
    obtain ⟨x14, rfl, hx14, rfl⟩ := hv14
    dsimp only [Option.toList, List.cons_append, List.nil_append]
    unfold zTf at hx14
    refine zr_if_ne (t := 22) I42_17 rfl (fun h17 => ?_) (fun h17 => ?_)
    · refine zl_ald0 I42_22 ?_
      refine zr_getr (j := 0) I42_23 F8_12 rfl (sT8 hS) (sR8_0 hS) ?_
      refine zr_getr (j := 2) I42_26 F8_83 rfl (sT9 hS) (sR9_2 hS) ?_
      refine zr_giB (j := 0) hB (by decide) I42_29 F8_87 rfl (sT20 hS) (fun b29 => ?_)
      refine zr_bipush I42_32 ?_
      refine zr_ic_lt (t := 40) I42_34 rfl (fun h34 => ?_) (fun h34 => ?_)
      · refine zl_ald0 I42_40 ?_
        refine zr_getr (j := 1) I42_41 F8_19 rfl (sT8 hS) (sR8_1 hS) ?_
        refine zl_ald0 I42_44 ?_
        refine zr_getr (j := 0) I42_45 F8_12 rfl (sT8 hS) (sR8_0 hS) ?_
        refine zr_callV I42_48 C8_58 ⟨rfl, rfl⟩ ⟨rfl, Nat.le_of_ble_eq_true rfl⟩ (Or.inl ⟨rfl, sT29 hS⟩) (e_X2_keep hS hB hk ho hcn) (fun v48 μ48 hv48 => ?_)
        obtain ⟨c48, rfl, rfl, hc48⟩ := hv48
        dsimp only [Option.toList, List.cons_append, List.nil_append]
        have hkp : zKpt c c48 := hc48
        have fr := zKpt_fr hkp hk
        have eT : c48 20 = c 20 := fr.1 20 (by decide) (by decide)
        refine zl_ald0 I42_51 ?_
        refine zr_getr (j := 0) I42_52 F8_12 rfl (sT8 hS) (sR8_0 hS) ?_
        refine zr_getr (j := 2) I42_55 F8_83 rfl (sT9 hS) (sR9_2 hS) ?_
        refine zl_ild1 I42_58 ?_
        refine zl_ild2 I42_59 ?_
        refine zl_ild3 I42_60 ?_
        refine zr_callV I42_61 C8_90 ⟨rfl, rfl⟩ ⟨rfl, Nat.le_of_ble_eq_true rfl⟩ (Or.inl ⟨rfl, sT20 hS⟩) (e_X0_append hS fr.2 (by rw [eT]; omega) (by omega) (by omega) (by omega)) (fun v61 μ61 hv61 => ?_)
        obtain ⟨c61, rfl, rfl, hc61⟩ := hv61
        dsimp only [Option.toList, List.cons_append, List.nil_append]
        refine zr_iret I42_64 rfl ?_
        exact ⟨_, _, rfl, rfl, Or.inr (Or.inr ⟨by omega, by omega, by rw [eT], c48, hkp, hc61⟩)⟩
      · refine zr_bipush I42_37 ?_
        refine zr_iret I42_39 rfl ?_
        exact ⟨_, _, rfl, rfl, Or.inr (Or.inl ⟨by omega, by omega, rfl, rfl⟩)⟩
    · refine zr_iconst I42_20 ?_
      refine zr_iret I42_21 rfl ?_
      exact ⟨_, _, rfl, rfl, Or.inl ⟨by omega, rfl, rfl⟩⟩
set_option maxRecDepth 10000 in
set_option maxHeartbeats 2000000 in
theorem e_X8_undo {d n sl : Nat} {S : zSh} {c : zC} (hS : zSok S) (hB : zBd c) (hk : 0 ≤ c 29 0 ∧ c 29 0 ≤ 5) (ho : 0 ≤ c 29 1 ∧ c 29 1 ≤ 4) (hck : ∀ j : Nat, j < 5 → zCnW c (31 + 20 * j)) : zE (d + 4) 60 0 (zent 60 [zA 8]) [] ((n, sl), (S, c)) (fun r μ' => ∃ (x : Int) (c' : zC), r = some (zI x) ∧ μ' = ((n, sl), (S, c')) ∧ ((c 29 0 = 0 ∧ x = -9 ∧ c' = c) ∨ (c 29 0 ≠ 0 ∧ x = c 29 0 - 1 ∧ zTk c c'))) := by
  show zE (d + 4) 60 0 [some (zA 8)] [] ((n, sl), (S, c)) _
  refine zl_ald0 I60_0 ?_
  refine zr_getr (j := 1) I60_1 F8_19 rfl (sT8 hS) (sR8_1 hS) ?_
  refine zr_giB (j := 0) hB (by decide) I60_4 F8_198 rfl (sT29 hS) (fun b4 => ?_)
  refine zr_if_ne (t := 13) I60_7 rfl (fun h7 => ?_) (fun h7 => ?_)
  · refine zl_ald0 I60_13 ?_
    refine zr_getr (j := 1) I60_14 F8_19 rfl (sT8 hS) (sR8_1 hS) ?_
    refine zl_ald0 I60_17 ?_
    refine zr_getr (j := 0) I60_18 F8_12 rfl (sT8 hS) (sR8_0 hS) ?_
    refine zr_callV I60_21 C8_199 ⟨rfl, rfl⟩ ⟨rfl, Nat.le_of_ble_eq_true rfl⟩ (Or.inl ⟨rfl, sT29 hS⟩) (e_X2_takeBack hS hB (by omega) ho hck) (fun v21 μ21 hv21 => ?_)
    obtain ⟨c21, rfl, rfl, hc21⟩ := hv21
    dsimp only [Option.toList, List.cons_append, List.nil_append]
    refine zl_ald0 I60_24 ?_
    refine zr_getr (j := 1) I60_25 F8_19 rfl (sT8 hS) (sR8_1 hS) ?_
    refine zr_geti (j := 0) I60_28 F8_198 rfl (sT29 hS) ?_
    refine zr_iret I60_31 rfl ?_
    obtain ⟨j, j1, j2, j3⟩ := id hc21
    have e := j3.2.2.2.2.1 29 (by omega)
    exact ⟨_, _, rfl, rfl, Or.inr ⟨by omega, by rw [e, zup_same], hc21⟩⟩
  · refine zr_bipush I60_10 ?_
    refine zr_iret I60_12 rfl ?_
    exact ⟨_, _, rfl, rfl, Or.inl ⟨by omega, rfl, rfl⟩⟩
