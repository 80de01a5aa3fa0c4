/-! what arguments may be; small reads of both classes -/
def zTf (P : Prop) (x : Int) : Prop := (x = 1 ∧ P) ∨ (x = 0 ∧ ¬ P)
set_option maxRecDepth 10000 in
set_option maxHeartbeats 2000000 in
theorem e_X8_within {d n sl : Nat} {S : zSh} {c : zC} {x a b : Int} : zE (d + 0) 62 0 (zent 62 [zI x, zI a, zI b]) [] ((n, sl), (S, c)) (zRp (zTf (a ≤ x ∧ x ≤ b)) ((n, sl), (S, c))) := by
  show zE (d + 0) 62 0 [some (zI x), some (zI a), some (zI b)] [] ((n, sl), (S, c)) _
  refine zl_ild0 I62_0 ?_
  refine zl_ild1 I62_1 ?_
  refine zr_ic_lt (t := 14) I62_2 rfl (fun h2 => ?_) (fun h2 => ?_)
  · refine zr_iconst I62_14 ?_
    refine zr_zret I62_15 rfl (by omega) ?_
    exact ⟨_, rfl, by unfold zTf; omega, rfl⟩
  · refine zl_ild0 I62_5 ?_
    refine zl_ild2 I62_6 ?_
    refine zr_ic_gt (t := 14) I62_7 rfl (fun h7 => ?_) (fun h7 => ?_)
    · refine zr_iconst I62_14 ?_
      refine zr_zret I62_15 rfl (by omega) ?_
      exact ⟨_, rfl, by unfold zTf; omega, rfl⟩
    · refine zr_iconst I62_10 ?_
      refine zr_goto (t := 15) I62_11 rfl ?_
      refine zr_zret I62_15 rfl (by omega) ?_
      exact ⟨_, rfl, by unfold zTf; omega, rfl⟩
set_option maxRecDepth 10000 in
set_option maxHeartbeats 2000000 in
theorem e_X8_isTime {d n sl : Nat} {S : zSh} {c : zC} {x : Int} : zE (d + 1) 63 0 (zent 63 [zI x]) [] ((n, sl), (S, c)) (zRp (zTf (0 ≤ x ∧ x ≤ 10079)) ((n, sl), (S, c))) := by
  show zE (d + 1) 63 0 [some (zI x)] [] ((n, sl), (S, c)) _
  refine zl_ild0 I63_0 ?_
  refine zr_iconst I63_1 ?_
  refine zr_sipush I63_2 ?_
  refine zr_callS I63_5 C8_44 ⟨rfl, rfl⟩ ⟨by simp, rfl, Nat.le_of_ble_eq_true rfl⟩ (e_X8_within ) (fun v5 μ5 hv5 => ?_)
  obtain ⟨x5, rfl, hx5, rfl⟩ := hv5
  dsimp only [Option.toList, List.cons_append, List.nil_append]
  unfold zTf at hx5
  refine zr_zret I63_8 rfl (by omega) ?_
  exact ⟨_, rfl, by unfold zTf; omega, rfl⟩
set_option maxRecDepth 10000 in
set_option maxHeartbeats 2000000 in
theorem e_X8_isInterval {d n sl : Nat} {S : zSh} {c : zC} {a b g : Int} : zE (d + 0) 64 0 (zent 64 [zI a, zI b, zI g]) [] ((n, sl), (S, c)) (zRp (zTf (0 ≤ a ∧ a < b ∧ b ≤ g)) ((n, sl), (S, c))) := by
  show zE (d + 0) 64 0 [some (zI a), some (zI b), some (zI g)] [] ((n, sl), (S, c)) _
  refine zl_ild0 I64_0 ?_
  refine zr_if_lt (t := 18) I64_1 rfl (fun h1 => ?_) (fun h1 => ?_)
  · refine zr_iconst I64_18 ?_
    refine zr_zret I64_19 rfl (by omega) ?_
    exact ⟨_, rfl, by unfold zTf; omega, rfl⟩
  · refine zl_ild0 I64_4 ?_
    refine zl_ild1 I64_5 ?_
    refine zr_ic_ge (t := 18) I64_6 rfl (fun h6 => ?_) (fun h6 => ?_)
    · refine zr_iconst I64_18 ?_
      refine zr_zret I64_19 rfl (by omega) ?_
      exact ⟨_, rfl, by unfold zTf; omega, rfl⟩
    · refine zl_ild1 I64_9 ?_
      refine zl_ild2 I64_10 ?_
      refine zr_ic_gt (t := 18) I64_11 rfl (fun h11 => ?_) (fun h11 => ?_)
      · refine zr_iconst I64_18 ?_
        refine zr_zret I64_19 rfl (by omega) ?_
        exact ⟨_, rfl, by unfold zTf; omega, rfl⟩
      · refine zr_iconst I64_14 ?_
        refine zr_goto (t := 19) I64_15 rfl ?_
        refine zr_zret I64_19 rfl (by omega) ?_
        exact ⟨_, rfl, by unfold zTf; omega, rfl⟩
set_option maxRecDepth 10000 in
set_option maxHeartbeats 2000000 in
theorem e_X8_isProgramme {d n sl : Nat} {S : zSh} {c : zC} (hS : zSok S) (hB : zBd c) {p : Int} : zE (d + 1) 65 0 (zent 65 [zA 8, zI p]) [] ((n, sl), (S, c)) (zRp (zTf (0 ≤ p ∧ p < c 10 0)) ((n, sl), (S, c))) := by
  show zE (d + 1) 65 0 [some (zA 8), some (zI p)] [] ((n, sl), (S, c)) _
  refine zl_ild1 I65_0 ?_
  refine zr_iconst I65_1 ?_
  refine zl_ald0 I65_2 ?_
  refine zr_getr (j := 0) I65_3 F8_12 rfl (sT8 hS) (sR8_0 hS) ?_
  refine zr_getr (j := 0) I65_6 F8_48 rfl (sT9 hS) (sR9_0 hS) ?_
  refine zr_giB (j := 0) hB (by decide) I65_9 F8_52 rfl (sT10 hS) (fun b9 => ?_)
  refine zr_iconst I65_12 ?_
  refine zr_isub I65_13 (by unfold zInR; omega) ?_
  refine zr_callS I65_14 C8_44 ⟨rfl, rfl⟩ ⟨by simp, rfl, Nat.le_of_ble_eq_true rfl⟩ (e_X8_within ) (fun v14 μ14 hv14 => ?_)
  obtain ⟨x14, rfl, hx14, rfl⟩ := hv14
  dsimp only [Option.toList, List.cons_append, List.nil_append]
  unfold zTf at hx14
  refine zr_zret I65_17 rfl (by omega) ?_
  exact ⟨_, rfl, by unfold zTf; omega, rfl⟩
set_option maxRecDepth 10000 in
set_option maxHeartbeats 2000000 in
theorem e_X8_isItem {d n sl : Nat} {S : zSh} {c : zC} (hS : zSok S) (hB : zBd c) {p : Int} : zE (d + 1) 66 0 (zent 66 [zA 8, zI p]) [] ((n, sl), (S, c)) (zRp (zTf (0 ≤ p ∧ p < c 24 0)) ((n, sl), (S, c))) := by
  show zE (d + 1) 66 0 [some (zA 8), some (zI p)] [] ((n, sl), (S, c)) _
  refine zl_ild1 I66_0 ?_
  refine zr_iconst I66_1 ?_
  refine zl_ald0 I66_2 ?_
  refine zr_getr (j := 0) I66_3 F8_12 rfl (sT8 hS) (sR8_0 hS) ?_
  refine zr_getr (j := 3) I66_6 F8_102 rfl (sT9 hS) (sR9_3 hS) ?_
  refine zr_giB (j := 0) hB (by decide) I66_9 F8_112 rfl (sT24 hS) (fun b9 => ?_)
  refine zr_iconst I66_12 ?_
  refine zr_isub I66_13 (by unfold zInR; omega) ?_
  refine zr_callS I66_14 C8_44 ⟨rfl, rfl⟩ ⟨by simp, rfl, Nat.le_of_ble_eq_true rfl⟩ (e_X8_within ) (fun v14 μ14 hv14 => ?_)
  obtain ⟨x14, rfl, hx14, rfl⟩ := hv14
  dsimp only [Option.toList, List.cons_append, List.nil_append]
  unfold zTf at hx14
  refine zr_zret I66_17 rfl (by omega) ?_
  exact ⟨_, rfl, by unfold zTf; omega, rfl⟩
set_option maxRecDepth 10000 in
set_option maxHeartbeats 2000000 in
theorem e_X8_kindOf {d n sl : Nat} {S : zSh} {c : zC} (hS : zSok S) (hB : zBd c) {i : Int} (hi : 0 ≤ i ∧ i < 60) (hp : 0 ≤ c 25 i ∧ c 25 i < 16) : zE (d + 0) 79 0 (zent 79 [zA 8, zI i]) [] ((n, sl), (S, c)) (zRd (c 11 (c 25 i)) ((n, sl), (S, c))) := by
  show zE (d + 0) 79 0 [some (zA 8), some (zI i)] [] ((n, sl), (S, c)) _
  refine zl_ald0 I79_0 ?_
  refine zr_getr (j := 0) I79_1 F8_12 rfl (sT8 hS) (sR8_0 hS) ?_
  refine zr_getr (j := 0) I79_4 F8_48 rfl (sT9 hS) (sR9_0 hS) ?_
  refine zr_getr (j := 1) I79_7 F8_209 rfl (sT10 hS) (sR10_1 hS) ?_
  refine zl_ald0 I79_10 ?_
  refine zr_getr (j := 0) I79_11 F8_12 rfl (sT8 hS) (sR8_0 hS) ?_
  refine zr_getr (j := 3) I79_14 F8_102 rfl (sT9 hS) (sR9_3 hS) ?_
  refine zr_getr (j := 1) I79_17 F8_147 rfl (sT24 hS) (sR24_1 hS) ?_
  refine zl_ild1 I79_20 ?_
  refine zr_iaB hB (by decide) I79_21 (sT25 hS) (sN25 hS) (by omega) (fun b21 => ?_)
  refine zr_iaB hB (by decide) I79_22 (sT11 hS) (sN11 hS) (by omega) (fun b22 => ?_)
  refine zr_iret I79_23 rfl ?_
  exact ⟨rfl, rfl⟩
