/-! the model: items asked; minutes of a kind -/
set_option maxRecDepth 10000 in
set_option maxHeartbeats 2000000 in
theorem e_X8_minutes_l {d n sl : Nat} {S : zSh} {c : zC} (hS : zSok S) (hB : zBd c) (hc : 0 ≤ c 24 0 ∧ c 24 0 ≤ 60) (hp : ∀ i, 0 ≤ i → i < c 24 0 → 0 ≤ c 25 i ∧ c 25 i < 16) {k a b : Int} (ha : 0 ≤ a ∧ a < b ∧ b ≤ 10080) : ∀ i : Int, i ≤ c 24 0 → ∀ y : Int, ∀ z : Int, ∀ w7 : Option zV, (0 ≤ i) → (y = zSum (fun j => if c 11 (c 25 j) = k then zMin (c 26 j) (c 26 j + c 27 j) a b else 0) i) → (z = zSum (fun j => zMin (c 26 j) (c 26 j + c 27 j) a b) i) → zE (d + 2) 55 31 [some (zA 8), some (zI k), some (zI a), some (zI b), some (zI y), some (zI z), some (zI i), w7] [] ((n, sl), (S, c)) (zRd (if k = 4 then b - a - zSum (fun j => zMin (c 26 j) (c 26 j + c 27 j) a b) (c 24 0) else zSum (fun j => if c 11 (c 25 j) = k then zMin (c 26 j) (c 26 j + c 27 j) a b else 0) (c 24 0)) ((n, sl), (S, c))) := by
  refine zind _ (fun i ih hN => ?_)
  intro y z w7 h0 hy hz
  have hb0 : ∀ j, 0 ≤ zMin (c 26 j) (c 26 j + c 27 j) a b ∧ zMin (c 26 j) (c 26 j + c 27 j) a b ≤ 10080 := fun j => by
    unfold zMin
    omega
  have hma := zSum_le (f := (fun j => zMin (c 26 j) (c 26 j + c 27 j) a b)) (lo := 0) (hi := 10080) i h0 (fun j _ _ => hb0 j)
  have hmk := zSum_le (f := (fun j => if c 11 (c 25 j) = k then zMin (c 26 j) (c 26 j + c 27 j) a b else 0)) (lo := 0) (hi := 10080) i h0 (fun j _ _ => by have := hb0 j; (try dsimp only); split <;> omega)
  have hbi := hb0 i
  refine zl_ild6 I55_31 ?_
  refine zl_ald0 I55_33 ?_
  refine zr_getr (j := 0) I55_34 F8_12 rfl (sT8 hS) (sR8_0 hS) ?_
  refine zr_getr (j := 3) I55_37 F8_102 rfl (sT9 hS) (sR9_3 hS) ?_
  refine zr_giB (j := 0) hB (by decide) I55_40 F8_112 rfl (sT24 hS) (fun b40 => ?_)
  refine zr_ic_ge (t := 92) I55_43 rfl (fun h43 => ?_) (fun h43 => ?_)
  · refine zl_ild1 I55_92 ?_
    refine zr_iconst I55_93 ?_
    refine zr_ic_ne (t := 106) I55_94 rfl (fun h94 => ?_) (fun h94 => ?_)
    · refine zl_ild4 I55_106 ?_
      refine zr_iret I55_108 rfl ?_
      refine ⟨congrArg (fun z => some (zI z)) ?_, rfl⟩
      rw [if_neg (by omega), hy, show i = c 24 0 by omega]
    · refine zl_ild3 I55_97 ?_
      refine zl_ild2 I55_98 ?_
      refine zr_isub I55_99 (by unfold zInR; omega) ?_
      refine zl_ild5 I55_100 ?_
      refine zr_isub I55_102 (by unfold zInR; omega) ?_
      refine zr_goto (t := 108) I55_103 rfl ?_
      refine zr_iret I55_108 rfl ?_
      refine ⟨congrArg (fun z => some (zI z)) ?_, rfl⟩
      rw [if_pos (by omega), hz, show i = c 24 0 by omega]
  · have hpi := hp i h0 (by omega)
    refine zl_ald0 I55_46 ?_
    refine zr_getr (j := 0) I55_47 F8_12 rfl (sT8 hS) (sR8_0 hS) ?_
    refine zr_getr (j := 3) I55_50 F8_102 rfl (sT9 hS) (sR9_3 hS) ?_
    refine zl_ild6 I55_53 ?_
    refine zl_ild2 I55_55 ?_
    refine zl_ild3 I55_56 ?_
    refine zr_callV I55_57 C8_168 ⟨rfl, rfl⟩ ⟨rfl, Nat.le_of_ble_eq_true rfl⟩ (Or.inl ⟨rfl, sT24 hS⟩) (e_X3_minutesIn hS hB (by omega) (by omega) (by omega)) (fun v57 μ57 hv57 => ?_)
    obtain ⟨rfl, rfl⟩ := hv57
    dsimp only [Option.toList, List.cons_append, List.nil_append]
    refine zl_ist7 I55_60 ?_
    refine zl_ild5 I55_62 ?_
    refine zl_ild7 I55_64 ?_
    refine zr_iadd I55_66 (by unfold zInR; omega) ?_
    refine zl_ist5 I55_67 ?_
    refine zl_ald0 I55_69 ?_
    refine zl_ild6 I55_70 ?_
    refine zr_callV I55_72 C8_133 ⟨rfl, rfl⟩ ⟨rfl, Nat.le_of_ble_eq_true rfl⟩ (Or.inl ⟨rfl, sT8 hS⟩) (e_X8_kindOf hS hB (by omega) (by omega)) (fun v72 μ72 hv72 => ?_)
    obtain ⟨rfl, rfl⟩ := hv72
    dsimp only [Option.toList, List.cons_append, List.nil_append]
    refine zl_ild1 I55_75 ?_
    refine zr_ic_ne (t := 86) I55_76 rfl (fun h76 => ?_) (fun h76 => ?_)
    · refine zl_iinc6 I55_86 (by unfold zInR; omega) ?_
      refine zr_goto (t := 31) I55_89 rfl ?_
      refine ih _ (by omega) (by omega) _ _ _ (by omega) ?_ ?_
      · rw [zSum_s _ h0, hy]
        split <;> omega
      · rw [zSum_s _ h0, hz]
    · refine zl_ild4 I55_79 ?_
      refine zl_ild7 I55_81 ?_
      refine zr_iadd I55_83 (by unfold zInR; omega) ?_
      refine zl_ist4 I55_84 ?_
      refine zl_iinc6 I55_86 (by unfold zInR; omega) ?_
      refine zr_goto (t := 31) I55_89 rfl ?_
      refine ih _ (by omega) (by omega) _ _ _ (by omega) ?_ ?_
      · rw [zSum_s _ h0, hy]
        split <;> omega
      · rw [zSum_s _ h0, hz]
set_option maxRecDepth 10000 in
set_option maxHeartbeats 2000000 in
theorem e_X8_minutes {d n sl : Nat} {S : zSh} {c : zC} (hS : zSok S) (hB : zBd c) (hc : 0 ≤ c 24 0 ∧ c 24 0 ≤ 60) (hp : ∀ i, 0 ≤ i → i < c 24 0 → 0 ≤ c 25 i ∧ c 25 i < 16) {k a b : Int} : zE (d + 2) 55 0 (zent 55 [zA 8, zI k, zI a, zI b]) [] ((n, sl), (S, c)) (fun r μ' => ((¬ (0 ≤ k ∧ k ≤ 4 ∧ 0 ≤ a ∧ a < b ∧ b ≤ 10080) ∧ zRd (-1) ((n, sl), (S, c)) r μ') ∨ ((0 ≤ k ∧ k ≤ 4 ∧ 0 ≤ a ∧ a < b ∧ b ≤ 10080) ∧ zRd (if k = 4 then b - a - zSum (fun j => zMin (c 26 j) (c 26 j + c 27 j) a b) (c 24 0) else zSum (fun j => if c 11 (c 25 j) = k then zMin (c 26 j) (c 26 j + c 27 j) a b else 0) (c 24 0)) ((n, sl), (S, c)) r μ'))) := by
  show zE (d + 2) 55 0 [some (zA 8), some (zI k), some (zI a), some (zI b), none, none, none, none] [] ((n, sl), (S, c)) _
  refine zl_ild1 I55_0 ?_
  refine zr_iconst I55_1 ?_
  refine zr_iconst I55_2 ?_
  refine zr_callS I55_3 C8_44 ⟨rfl, rfl⟩ ⟨by simp, rfl, Nat.le_of_ble_eq_true rfl⟩ (e_X8_within ) (fun v3 μ3 hv3 => ?_)
  obtain ⟨x3, rfl, hx3, rfl⟩ := hv3
  dsimp only [Option.toList, List.cons_append, List.nil_append]
  unfold zTf at hx3
  refine zr_if_eq (t := 20) I55_6 rfl (fun h6 => ?_) (fun h6 => ?_)
  · refine zr_iconst I55_20 ?_
    refine zr_iret I55_21 rfl ?_
    exact Or.inl ⟨by omega, rfl, rfl⟩
  · refine zl_ild2 I55_9 ?_
    refine zl_ild3 I55_10 ?_
    refine zr_sipush I55_11 ?_
    refine zr_callS I55_14 C8_70 ⟨rfl, rfl⟩ ⟨by simp, rfl, Nat.le_of_ble_eq_true rfl⟩ (e_X8_isInterval ) (fun v14 μ14 hv14 => ?_)
    obtain ⟨x14, rfl, hx14, rfl⟩ := hv14
    dsimp only [Option.toList, List.cons_append, List.nil_append]
    unfold zTf at hx14
    refine zr_if_ne (t := 22) I55_17 rfl (fun h17 => ?_) (fun h17 => ?_)
    · refine zr_iconst I55_22 ?_
      refine zl_ist4 I55_23 ?_
      refine zr_iconst I55_25 ?_
      refine zl_ist5 I55_26 ?_
      refine zr_iconst I55_28 ?_
      refine zl_ist6 I55_29 ?_
      refine zE.mono (e_X8_minutes_l hS hB hc hp (by omega) 0 (by omega) 0 0 _ (by omega) rfl rfl) (fun r μ' h => Or.inr ⟨by omega, h⟩)
    · refine zr_iconst I55_20 ?_
      refine zr_iret I55_21 rfl ?_
      exact Or.inl ⟨by omega, rfl, rfl⟩
