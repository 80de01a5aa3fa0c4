/-! the model: items asked; minutes of a kind -/
set_option maxRecDepth 10000 in
set_option maxHeartbeats 2000000 in
theorem e_X9_isTaken_l {d n sl : Nat} {S : zSh} {c : zC} (hS : zSok S) (hB : zBd c) (hc : 0 ≤ c 146 3 ∧ c 146 3 ≤ 60) {a b : Int} : ∀ i : Int, i ≤ c 146 3 → ∀ y : Int, (0 ≤ i) → (zTf (∃ j, 0 ≤ j ∧ j < i ∧ (c 146 (230 + 4 * j + 1) < b ∧ a < c 146 (230 + 4 * j + 1) + c 146 (230 + 4 * j + 2))) y) → zE (d + 2) 102 5 [some (zA 145), some (zI a), some (zI b), some (zI y), some (zI i)] [] ((n, sl), (S, c)) (zRp (zTf (∃ j, 0 ≤ j ∧ j < c 146 3 ∧ (c 146 (230 + 4 * j + 1) < b ∧ a < c 146 (230 + 4 * j + 1) + c 146 (230 + 4 * j + 2)))) ((n, sl), (S, c))) := by
  refine zind _ (fun i ih hN => ?_)
  intro y h0 hy
  refine zl_ild4 I102_5 ?_
  refine zl_ald0 I102_7 ?_
  refine zr_getr (j := 0) I102_8 F9_7 rfl (sT145 hS) (sR145_0 hS) ?_
  refine zr_iconst I102_11 ?_
  refine zr_iaB hB (by decide) I102_12 (sT146 hS) (sN146 hS) (by omega) (fun b12 => ?_)
  refine zr_ic_ge (t := 53) I102_13 rfl (fun h13 => ?_) (fun h13 => ?_)
  · refine zl_ild3 I102_53 ?_
    refine zr_zret I102_54 rfl (by unfold zTf at hy; omega) ?_
    exact ⟨_, rfl, by rw [show c 146 3 = i by omega]; exact hy, rfl⟩
  · refine zl_ild3 I102_16 ?_
    have g0 := hB 146 (230 + 4 * i + 0) (by decide)
    have g1 := hB 146 (230 + 4 * i + 1) (by decide)
    have g2 := hB 146 (230 + 4 * i + 2) (by decide)
    refine zr_if_ne (t := 41) I102_17 rfl (fun h17 => ?_) (fun h17 => ?_)
    · refine zr_iconst I102_41 ?_
      refine zr_goto (t := 46) I102_42 rfl ?_
      refine zl_ist3 I102_46 ?_
      refine zl_iinc4 I102_47 (by unfold zInR; omega) ?_
      refine zr_goto (t := 5) I102_50 rfl ?_
      refine ih _ (by omega) (by omega) _ (by omega) ?_
      unfold zTf at hy ⊢
      rcases hy with ⟨e1, j, j1, j2, j3⟩ | ⟨e1, e2⟩
      · exact Or.inl ⟨by omega, j, j1, by omega, j3⟩
      · omega
    · refine zl_ald0 I102_20 ?_
      refine zl_ild4 I102_21 ?_
      refine zr_iconst I102_23 ?_
      refine zr_callV I102_24 C9_45 ⟨rfl, rfl⟩ ⟨rfl, Nat.le_of_ble_eq_true rfl⟩ (Or.inl ⟨rfl, sT145 hS⟩) (e_X9_of hS hB (by omega) (by omega)) (fun v24 μ24 hv24 => ?_)
      obtain ⟨rfl, rfl⟩ := hv24
      dsimp only [Option.toList, List.cons_append, List.nil_append]
      refine zl_ild2 I102_27 ?_
      refine zr_ic_ge (t := 45) I102_28 rfl (fun h28 => ?_) (fun h28 => ?_)
      · refine zr_iconst I102_45 ?_
        refine zl_ist3 I102_46 ?_
        refine zl_iinc4 I102_47 (by unfold zInR; omega) ?_
        refine zr_goto (t := 5) I102_50 rfl ?_
        refine ih _ (by omega) (by omega) _ (by omega) ?_
        unfold zTf at hy ⊢
        rcases hy with ⟨e1, e2⟩ | ⟨e1, e2⟩
        · omega
        · refine Or.inr ⟨by omega, fun ⟨j, j1, j2, j3⟩ => ?_⟩
          by_cases e : j = i
          · subst e; omega
          · exact e2 ⟨j, j1, by omega, j3⟩
      · refine zl_ild1 I102_31 ?_
        refine zl_ald0 I102_32 ?_
        refine zl_ild4 I102_33 ?_
        refine zr_callV I102_35 C9_70 ⟨rfl, rfl⟩ ⟨rfl, Nat.le_of_ble_eq_true rfl⟩ (Or.inl ⟨rfl, sT145 hS⟩) (e_X9_end hS hB (by omega)) (fun v35 μ35 hv35 => ?_)
        obtain ⟨rfl, rfl⟩ := hv35
        dsimp only [Option.toList, List.cons_append, List.nil_append]
        refine zr_ic_ge (t := 45) I102_38 rfl (fun h38 => ?_) (fun h38 => ?_)
        · refine zr_iconst I102_45 ?_
          refine zl_ist3 I102_46 ?_
          refine zl_iinc4 I102_47 (by unfold zInR; omega) ?_
          refine zr_goto (t := 5) I102_50 rfl ?_
          refine ih _ (by omega) (by omega) _ (by omega) ?_
          unfold zTf at hy ⊢
          rcases hy with ⟨e1, e2⟩ | ⟨e1, e2⟩
          · omega
          · refine Or.inr ⟨by omega, fun ⟨j, j1, j2, j3⟩ => ?_⟩
            by_cases e : j = i
            · subst e; omega
            · exact e2 ⟨j, j1, by omega, j3⟩
        · refine zr_iconst I102_41 ?_
          refine zr_goto (t := 46) I102_42 rfl ?_
          refine zl_ist3 I102_46 ?_
          refine zl_iinc4 I102_47 (by unfold zInR; omega) ?_
          refine zr_goto (t := 5) I102_50 rfl ?_
          refine ih _ (by omega) (by omega) _ (by omega) ?_
          unfold zTf at hy ⊢
          rcases hy with ⟨e1, e2⟩ | ⟨e1, e2⟩
          · omega
          · exact Or.inl ⟨by omega, i, h0, by omega, by omega, by omega⟩
set_option maxRecDepth 10000 in
set_option maxHeartbeats 2000000 in
theorem e_X9_isTaken {d n sl : Nat} {S : zSh} {c : zC} (hS : zSok S) (hB : zBd c) (hc : 0 ≤ c 146 3 ∧ c 146 3 ≤ 60) {a b : Int} : zE (d + 2) 102 0 (zent 102 [zA 145, zI a, zI b]) [] ((n, sl), (S, c)) (zRp (zTf (∃ j, 0 ≤ j ∧ j < c 146 3 ∧ (c 146 (230 + 4 * j + 1) < b ∧ a < c 146 (230 + 4 * j + 1) + c 146 (230 + 4 * j + 2)))) ((n, sl), (S, c))) := by
  show zE (d + 2) 102 0 [some (zA 145), some (zI a), some (zI b), none, none] [] ((n, sl), (S, c)) _
  refine zr_iconst I102_0 ?_
  refine zl_ist3 I102_1 ?_
  refine zr_iconst I102_2 ?_
  refine zl_ist4 I102_3 ?_
  exact e_X9_isTaken_l hS hB hc 0 (by omega) 0 (by omega) (Or.inr ⟨rfl, fun ⟨j, j1, j2, j3⟩ => absurd j1 (by omega)⟩)
set_option maxRecDepth 10000 in
set_option maxHeartbeats 2000000 in
theorem e_X9_itemAt_l {d n sl : Nat} {S : zSh} {c : zC} (hS : zSok S) (hB : zBd c) (hc : 0 ≤ c 146 3 ∧ c 146 3 ≤ 60) {t : Int} (ht : 0 ≤ t ∧ t ≤ 10079) : ∀ i : Int, i ≤ c 146 3 → (0 ≤ i) → (∀ j, 0 ≤ j → j < i → ¬ (c 146 (230 + 4 * j + 1) < t + 1 ∧ t < c 146 (230 + 4 * j + 1) + c 146 (230 + 4 * j + 2))) → zE (d + 2) 120 2 [some (zA 145), some (zI t), some (zI i)] [] ((n, sl), (S, c)) (zRp (zFst (c 146 3) (fun j => c 146 (230 + 4 * j + 1)) (fun j => c 146 (230 + 4 * j + 2)) t (t + 1)) ((n, sl), (S, c))) := by
  refine zind _ (fun i ih hN => ?_)
  intro h0 hp
  refine zl_ild2 I120_2 ?_
  refine zl_ald0 I120_3 ?_
  refine zr_getr (j := 0) I120_4 F9_7 rfl (sT145 hS) (sR145_0 hS) ?_
  refine zr_iconst I120_7 ?_
  refine zr_iaB hB (by decide) I120_8 (sT146 hS) (sN146 hS) (by omega) (fun b8 => ?_)
  refine zr_ic_ge (t := 40) I120_9 rfl (fun h9 => ?_) (fun h9 => ?_)
  · refine zr_bipush I120_40 ?_
    refine zr_iret I120_42 rfl ?_
    exact ⟨_, rfl, Or.inr ⟨rfl, fun j h1 h2 => hp j h1 (by omega)⟩, rfl⟩
  · have g0 := hB 146 (230 + 4 * i + 0) (by decide)
    have g1 := hB 146 (230 + 4 * i + 1) (by decide)
    have g2 := hB 146 (230 + 4 * i + 2) (by decide)
    refine zl_ild1 I120_12 ?_
    refine zl_ald0 I120_13 ?_
    refine zl_ild2 I120_14 ?_
    refine zr_iconst I120_15 ?_
    refine zr_callV I120_16 C9_45 ⟨rfl, rfl⟩ ⟨rfl, Nat.le_of_ble_eq_true rfl⟩ (Or.inl ⟨rfl, sT145 hS⟩) (e_X9_of hS hB (by omega) (by omega)) (fun v16 μ16 hv16 => ?_)
    obtain ⟨rfl, rfl⟩ := hv16
    dsimp only [Option.toList, List.cons_append, List.nil_append]
    refine zl_ald0 I120_19 ?_
    refine zl_ild2 I120_20 ?_
    refine zr_callV I120_21 C9_70 ⟨rfl, rfl⟩ ⟨rfl, Nat.le_of_ble_eq_true rfl⟩ (Or.inl ⟨rfl, sT145 hS⟩) (e_X9_end hS hB (by omega)) (fun v21 μ21 hv21 => ?_)
    obtain ⟨rfl, rfl⟩ := hv21
    dsimp only [Option.toList, List.cons_append, List.nil_append]
    refine zr_iconst I120_24 ?_
    refine zr_isub I120_25 (by unfold zInR; omega) ?_
    refine zr_callS I120_26 C9_41 ⟨rfl, rfl⟩ ⟨by simp, rfl, Nat.le_of_ble_eq_true rfl⟩ (e_X9_in ) (fun v26 μ26 hv26 => ?_)
    obtain ⟨x26, rfl, hx26, rfl⟩ := hv26
    dsimp only [Option.toList, List.cons_append, List.nil_append]
    unfold zTf at hx26
    refine zr_if_eq (t := 34) I120_29 rfl (fun h29 => ?_) (fun h29 => ?_)
    · refine zl_iinc2 I120_34 (by unfold zInR; omega) ?_
      refine zr_goto (t := 2) I120_37 rfl ?_
      refine ih _ (by omega) (by omega) (by omega) (fun j hj1 hj2 => ?_)
      by_cases e : j = i
      · subst e; omega
      · exact hp j hj1 (by omega)
    · refine zl_ild2 I120_32 ?_
      refine zr_iret I120_33 rfl ?_
      exact ⟨_, rfl, Or.inl ⟨h0, by omega, by dsimp only; omega, by dsimp only; omega, hp⟩, rfl⟩
set_option maxRecDepth 10000 in
set_option maxHeartbeats 2000000 in
theorem e_X9_itemAt {d n sl : Nat} {S : zSh} {c : zC} (hS : zSok S) (hB : zBd c) (hc : 0 ≤ c 146 3 ∧ c 146 3 ≤ 60) {t : Int} (ht : 0 ≤ t ∧ t ≤ 10079) : zE (d + 2) 120 0 (zent 120 [zA 145, zI t]) [] ((n, sl), (S, c)) (zRp (zFst (c 146 3) (fun j => c 146 (230 + 4 * j + 1)) (fun j => c 146 (230 + 4 * j + 2)) t (t + 1)) ((n, sl), (S, c))) := by
  show zE (d + 2) 120 0 [some (zA 145), some (zI t), none] [] ((n, sl), (S, c)) _
  refine zr_iconst I120_0 ?_
  refine zl_ist2 I120_1 ?_
  exact e_X9_itemAt_l hS hB hc ht 0 (by omega) (by omega) (fun j h1 h2 => absurd h1 (by omega))
set_option maxRecDepth 10000 in
set_option maxHeartbeats 2000000 in
theorem e_X9_airTime_l {d n sl : Nat} {S : zSh} {c : zC} (hS : zSok S) (hB : zBd c) (hc : 0 ≤ c 146 3 ∧ c 146 3 ≤ 60) {p : Int} : ∀ i : Int, i ≤ c 146 3 → ∀ m : Int, (0 ≤ i) → (m = zSum (fun j => if c 146 (230 + 4 * j + 0) = p then c 146 (230 + 4 * j + 2) else 0) i) → zE (d + 1) 129 4 [some (zA 145), some (zI p), some (zI m), some (zI i)] [] ((n, sl), (S, c)) (zRd (zSum (fun j => if c 146 (230 + 4 * j + 0) = p then c 146 (230 + 4 * j + 2) else 0) (c 146 3)) ((n, sl), (S, c))) := by
  refine zind _ (fun i ih hN => ?_)
  intro m h0 hm
  have hmb := zSum_le (f := (fun j => if c 146 (230 + 4 * j + 0) = p then c 146 (230 + 4 * j + 2) else 0)) (lo := -100000) (hi := 100000) i h0 (fun j _ _ => by have := hB 146 (230 + 4 * j + 2) (by decide); (try dsimp only); split <;> omega)
  refine zl_ild3 I129_4 ?_
  refine zl_ald0 I129_5 ?_
  refine zr_getr (j := 0) I129_6 F9_7 rfl (sT145 hS) (sR145_0 hS) ?_
  refine zr_iconst I129_9 ?_
  refine zr_iaB hB (by decide) I129_10 (sT146 hS) (sN146 hS) (by omega) (fun b10 => ?_)
  refine zr_ic_ge (t := 43) I129_11 rfl (fun h11 => ?_) (fun h11 => ?_)
  · refine zl_ild2 I129_43 ?_
    refine zr_iret I129_44 rfl ?_
    exact ⟨by rw [hm, show i = c 146 3 by omega], rfl⟩
  · have g0 := hB 146 (230 + 4 * i + 0) (by decide)
    have g1 := hB 146 (230 + 4 * i + 1) (by decide)
    have g2 := hB 146 (230 + 4 * i + 2) (by decide)
    refine zl_ild2 I129_14 ?_
    refine zl_ald0 I129_15 ?_
    refine zl_ild3 I129_16 ?_
    refine zr_iconst I129_17 ?_
    refine zr_callV I129_18 C9_45 ⟨rfl, rfl⟩ ⟨rfl, Nat.le_of_ble_eq_true rfl⟩ (Or.inl ⟨rfl, sT145 hS⟩) (e_X9_of hS hB (by omega) (by omega)) (fun v18 μ18 hv18 => ?_)
    obtain ⟨rfl, rfl⟩ := hv18
    dsimp only [Option.toList, List.cons_append, List.nil_append]
    refine zl_ild1 I129_21 ?_
    refine zr_ic_ne (t := 34) I129_22 rfl (fun h22 => ?_) (fun h22 => ?_)
    · refine zr_iconst I129_34 ?_
      refine zr_iadd I129_35 (by unfold zInR; omega) ?_
      refine zl_ist2 I129_36 ?_
      refine zl_iinc3 I129_37 (by unfold zInR; omega) ?_
      refine zr_goto (t := 4) I129_40 rfl ?_
      refine ih _ (by omega) (by omega) _ (by omega) ?_
      rw [zSum_s _ h0, hm]
      split <;> omega
    · refine zl_ald0 I129_25 ?_
      refine zl_ild3 I129_26 ?_
      refine zr_iconst I129_27 ?_
      refine zr_callV I129_28 C9_45 ⟨rfl, rfl⟩ ⟨rfl, Nat.le_of_ble_eq_true rfl⟩ (Or.inl ⟨rfl, sT145 hS⟩) (e_X9_of hS hB (by omega) (by omega)) (fun v28 μ28 hv28 => ?_)
      obtain ⟨rfl, rfl⟩ := hv28
      dsimp only [Option.toList, List.cons_append, List.nil_append]
      refine zr_goto (t := 35) I129_31 rfl ?_
      refine zr_iadd I129_35 (by unfold zInR; omega) ?_
      refine zl_ist2 I129_36 ?_
      refine zl_iinc3 I129_37 (by unfold zInR; omega) ?_
      refine zr_goto (t := 4) I129_40 rfl ?_
      refine ih _ (by omega) (by omega) _ (by omega) ?_
      rw [zSum_s _ h0, hm]
      split <;> omega
set_option maxRecDepth 10000 in
set_option maxHeartbeats 2000000 in
theorem e_X9_airTime {d n sl : Nat} {S : zSh} {c : zC} (hS : zSok S) (hB : zBd c) (hc : 0 ≤ c 146 3 ∧ c 146 3 ≤ 60) {p : Int} : zE (d + 1) 129 0 (zent 129 [zA 145, zI p]) [] ((n, sl), (S, c)) (zRd (zSum (fun j => if c 146 (230 + 4 * j + 0) = p then c 146 (230 + 4 * j + 2) else 0) (c 146 3)) ((n, sl), (S, c))) := by
  show zE (d + 1) 129 0 [some (zA 145), some (zI p), none, none] [] ((n, sl), (S, c)) _
  refine zr_iconst I129_0 ?_
  refine zl_ist2 I129_1 ?_
  refine zr_iconst I129_2 ?_
  refine zl_ist3 I129_3 ?_
  exact e_X9_airTime_l hS hB hc 0 (by omega) 0 (by omega) rfl
set_option maxRecDepth 10000 in
set_option maxHeartbeats 2000000 in
theorem e_X8_minutes_l {d n sl : Nat} {S : zSh} {c : zC} (hS : zSok S) (hB : zBd c) (hc : 0 ≤ c 24 0 ∧ c 24 0 ≤ 60) (hp : ∀ i, 0 ≤ i → i < c 24 0 → 0 ≤ c 25 i ∧ c 25 i < 16) {k a b : Int} (ha : 0 ≤ a ∧ a < b ∧ b ≤ 10080) : ∀ i : Int, i ≤ c 24 0 → ∀ y : Int, ∀ z : Int, ∀ w7 : Option zV, (0 ≤ i) → (y = zSum (fun j => if c 11 (c 25 j) = k then zMin (c 26 j) (c 26 j + c 27 j) a b else 0) i) → (z = zSum (fun j => zMin (c 26 j) (c 26 j + c 27 j) a b) i) → zE (d + 2) 55 31 [some (zA 8), some (zI k), some (zI a), some (zI b), some (zI y), some (zI z), some (zI i), w7] [] ((n, sl), (S, c)) (zRd (if k = 4 then b - a - zSum (fun j => zMin (c 26 j) (c 26 j + c 27 j) a b) (c 24 0) else zSum (fun j => if c 11 (c 25 j) = k then zMin (c 26 j) (c 26 j + c 27 j) a b else 0) (c 24 0)) ((n, sl), (S, c))) := by
  refine zind _ (fun i ih hN => ?_)
  intro y z w7 h0 hy hz
  have hb0 : ∀ j, 0 ≤ zMin (c 26 j) (c 26 j + c 27 j) a b ∧ zMin (c 26 j) (c 26 j + c 27 j) a b ≤ 10080 := fun j => by
    unfold zMin
    omega
  have hma := zSum_le (f := (fun j => zMin (c 26 j) (c 26 j + c 27 j) a b)) (lo := 0) (hi := 10080) i h0 (fun j _ _ => hb0 j)
  have hmk := zSum_le (f := (fun j => if c 11 (c 25 j) = k then zMin (c 26 j) (c 26 j + c 27 j) a b else 0)) (lo := 0) (hi := 10080) i h0 (fun j _ _ => by have := hb0 j; (try dsimp only); split <;> omega)
  have hbi := hb0 i
  refine zl_ild6 I55_31 ?_
  refine zl_ald0 I55_33 ?_
  refine zr_getr (j := 0) I55_34 F8_12 rfl (sT8 hS) (sR8_0 hS) ?_
  refine zr_getr (j := 3) I55_37 F8_102 rfl (sT9 hS) (sR9_3 hS) ?_
  refine zr_giB (j := 0) hB (by decide) I55_40 F8_112 rfl (sT24 hS) (fun b40 => ?_)
  refine zr_ic_ge (t := 92) I55_43 rfl (fun h43 => ?_) (fun h43 => ?_)
  · refine zl_ild1 I55_92 ?_
    refine zr_iconst I55_93 ?_
    refine zr_ic_ne (t := 106) I55_94 rfl (fun h94 => ?_) (fun h94 => ?_)
    · refine zl_ild4 I55_106 ?_
      refine zr_iret I55_108 rfl ?_
      refine ⟨congrArg (fun z => some (zI z)) ?_, rfl⟩
      rw [if_neg (by omega), hy, show i = c 24 0 by omega]
    · refine zl_ild3 I55_97 ?_
      refine zl_ild2 I55_98 ?_
      refine zr_isub I55_99 (by unfold zInR; omega) ?_
      refine zl_ild5 I55_100 ?_
      refine zr_isub I55_102 (by unfold zInR; omega) ?_
      refine zr_goto (t := 108) I55_103 rfl ?_
      refine zr_iret I55_108 rfl ?_
      refine ⟨congrArg (fun z => some (zI z)) ?_, rfl⟩
      rw [if_pos (by omega), hz, show i = c 24 0 by omega]
  · have hpi := hp i h0 (by omega)
    refine zl_ald0 I55_46 ?_
    refine zr_getr (j := 0) I55_47 F8_12 rfl (sT8 hS) (sR8_0 hS) ?_
    refine zr_getr (j := 3) I55_50 F8_102 rfl (sT9 hS) (sR9_3 hS) ?_
    refine zl_ild6 I55_53 ?_
    refine zl_ild2 I55_55 ?_
    refine zl_ild3 I55_56 ?_
    refine zr_callV I55_57 C8_168 ⟨rfl, rfl⟩ ⟨rfl, Nat.le_of_ble_eq_true rfl⟩ (Or.inl ⟨rfl, sT24 hS⟩) (e_X3_minutesIn hS hB (by omega) (by omega) (by omega)) (fun v57 μ57 hv57 => ?_)
    obtain ⟨rfl, rfl⟩ := hv57
    dsimp only [Option.toList, List.cons_append, List.nil_append]
    refine zl_ist7 I55_60 ?_
    refine zl_ild5 I55_62 ?_
    refine zl_ild7 I55_64 ?_
    refine zr_iadd I55_66 (by unfold zInR; omega) ?_
    refine zl_ist5 I55_67 ?_
    refine zl_ald0 I55_69 ?_
    refine zl_ild6 I55_70 ?_
    refine zr_callV I55_72 C8_133 ⟨rfl, rfl⟩ ⟨rfl, Nat.le_of_ble_eq_true rfl⟩ (Or.inl ⟨rfl, sT8 hS⟩) (e_X8_kindOf hS hB (by omega) (by omega)) (fun v72 μ72 hv72 => ?_)
    obtain ⟨rfl, rfl⟩ := hv72
    dsimp only [Option.toList, List.cons_append, List.nil_append]
    refine zl_ild1 I55_75 ?_
    refine zr_ic_ne (t := 86) I55_76 rfl (fun h76 => ?_) (fun h76 => ?_)
    · refine zl_iinc6 I55_86 (by unfold zInR; omega) ?_
      refine zr_goto (t := 31) I55_89 rfl ?_
      refine ih _ (by omega) (by omega) _ _ _ (by omega) ?_ ?_
      · rw [zSum_s _ h0, hy]
        split <;> omega
      · rw [zSum_s _ h0, hz]
    · refine zl_ild4 I55_79 ?_
      refine zl_ild7 I55_81 ?_
      refine zr_iadd I55_83 (by unfold zInR; omega) ?_
      refine zl_ist4 I55_84 ?_
      refine zl_iinc6 I55_86 (by unfold zInR; omega) ?_
      refine zr_goto (t := 31) I55_89 rfl ?_
      refine ih _ (by omega) (by omega) _ _ _ (by omega) ?_ ?_
      · rw [zSum_s _ h0, hy]
        split <;> omega
      · rw [zSum_s _ h0, hz]
set_option maxRecDepth 10000 in
set_option maxHeartbeats 2000000 in
theorem e_X8_minutes {d n sl : Nat} {S : zSh} {c : zC} (hS : zSok S) (hB : zBd c) (hc : 0 ≤ c 24 0 ∧ c 24 0 ≤ 60) (hp : ∀ i, 0 ≤ i → i < c 24 0 → 0 ≤ c 25 i ∧ c 25 i < 16) {k a b : Int} : zE (d + 2) 55 0 (zent 55 [zA 8, zI k, zI a, zI b]) [] ((n, sl), (S, c)) (fun r μ' => ((¬ (0 ≤ k ∧ k ≤ 4 ∧ 0 ≤ a ∧ a < b ∧ b ≤ 10080) ∧ zRd (-1) ((n, sl), (S, c)) r μ') ∨ ((0 ≤ k ∧ k ≤ 4 ∧ 0 ≤ a ∧ a < b ∧ b ≤ 10080) ∧ zRd (if k = 4 then b - a - zSum (fun j => zMin (c 26 j) (c 26 j + c 27 j) a b) (c 24 0) else zSum (fun j => if c 11 (c 25 j) = k then zMin (c 26 j) (c 26 j + c 27 j) a b else 0) (c 24 0)) ((n, sl), (S, c)) r μ'))) := by
  show zE (d + 2) 55 0 [some (zA 8), some (zI k), some (zI a), some (zI b), none, none, none, none] [] ((n, sl), (S, c)) _
  refine zl_ild1 I55_0 ?_
  refine zr_iconst I55_1 ?_
  refine zr_iconst I55_2 ?_
  refine zr_callS I55_3 C8_44 ⟨rfl, rfl⟩ ⟨by simp, rfl, Nat.le_of_ble_eq_true rfl⟩ (e_X8_within ) (fun v3 μ3 hv3 => ?_)
  obtain ⟨x3, rfl, hx3, rfl⟩ := hv3
  dsimp only [Option.toList, List.cons_append, List.nil_append]
  unfold zTf at hx3
  refine zr_if_eq (t := 20) I55_6 rfl (fun h6 => ?_) (fun h6 => ?_)
  · refine zr_iconst I55_20 ?_
    refine zr_iret I55_21 rfl ?_
    exact Or.inl ⟨by omega, rfl, rfl⟩
  · refine zl_ild2 I55_9 ?_
    refine zl_ild3 I55_10 ?_
    refine zr_sipush I55_11 ?_
    refine zr_callS I55_14 C8_70 ⟨rfl, rfl⟩ ⟨by simp, rfl, Nat.le_of_ble_eq_true rfl⟩ (e_X8_isInterval ) (fun v14 μ14 hv14 => ?_)
    obtain ⟨x14, rfl, hx14, rfl⟩ := hv14
    dsimp only [Option.toList, List.cons_append, List.nil_append]
    unfold zTf at hx14
    refine zr_if_ne (t := 22) I55_17 rfl (fun h17 => ?_) (fun h17 => ?_)
    · refine zr_iconst I55_22 ?_
      refine zl_ist4 I55_23 ?_
      refine zr_iconst I55_25 ?_
      refine zl_ist5 I55_26 ?_
      refine zr_iconst I55_28 ?_
      refine zl_ist6 I55_29 ?_
      refine zE.mono (e_X8_minutes_l hS hB hc hp (by omega) 0 (by omega) 0 0 _ (by omega) rfl rfl) (fun r μ' h => Or.inr ⟨by omega, h⟩)
    · refine zr_iconst I55_20 ?_
      refine zr_iret I55_21 rfl ?_
      exact Or.inl ⟨by omega, rfl, rfl⟩
