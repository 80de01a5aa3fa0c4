/-! what arguments may be; small reads of both classes -/
def zTf (P : Prop) (x : Int) : Prop := (x = 1 ∧ P) ∨ (x = 0 ∧ ¬ P)
set_option maxRecDepth 10000 in
set_option maxHeartbeats 2000000 in
theorem e_X8_within {d n sl : Nat} {S : zSh} {c : zC} {x a b : Int} : zE (d + 0) 62 0 (zent 62 [zI x, zI a, zI b]) [] ((n, sl), (S, c)) (zRp (zTf (a ≤ x ∧ x ≤ b)) ((n, sl), (S, c))) := by
  show zE (d + 0) 62 0 [some (zI x), some (zI a), some (zI b)] [] ((n, sl), (S, c)) _
  refine zl_ild0 I62_0 ?_
  refine zl_ild1 I62_1 ?_
  refine zr_ic_lt (t := 14) I62_2 rfl (fun h2 => ?_) (fun h2 => ?_)
  · refine zr_iconst I62_14 ?_
    refine zr_zret I62_15 rfl (by omega) ?_
    exact ⟨_, rfl, by unfold zTf; omega, rfl⟩
  · refine zl_ild0 I62_5 ?_
    refine zl_ild2 I62_6 ?_
    refine zr_ic_gt (t := 14) I62_7 rfl (fun h7 => ?_) (fun h7 => ?_)
    · refine zr_iconst I62_14 ?_
      refine zr_zret I62_15 rfl (by omega) ?_
      exact ⟨_, rfl, by unfold zTf; omega, rfl⟩
    · refine zr_iconst I62_10 ?_
      refine zr_goto (t := 15) I62_11 rfl ?_
      refine zr_zret I62_15 rfl (by omega) ?_
      exact ⟨_, rfl, by unfold zTf; omega, rfl⟩
set_option maxRecDepth 10000 in
set_option maxHeartbeats 2000000 in
theorem e_X9_in {d n sl : Nat} {S : zSh} {c : zC} {x a b : Int} : zE (d + 0) 85 0 (zent 85 [zI x, zI a, zI b]) [] ((n, sl), (S, c)) (zRp (zTf (a ≤ x ∧ x ≤ b)) ((n, sl), (S, c))) := by
  show zE (d + 0) 85 0 [some (zI x), some (zI a), some (zI b)] [] ((n, sl), (S, c)) _
  refine zl_ild0 I85_0 ?_
  refine zl_ild1 I85_1 ?_
  refine zr_ic_lt (t := 14) I85_2 rfl (fun h2 => ?_) (fun h2 => ?_)
  · refine zr_iconst I85_14 ?_
    refine zr_zret I85_15 rfl (by omega) ?_
    exact ⟨_, rfl, by unfold zTf; omega, rfl⟩
  · refine zl_ild0 I85_5 ?_
    refine zl_ild2 I85_6 ?_
    refine zr_ic_gt (t := 14) I85_7 rfl (fun h7 => ?_) (fun h7 => ?_)
    · refine zr_iconst I85_14 ?_
      refine zr_zret I85_15 rfl (by omega) ?_
      exact ⟨_, rfl, by unfold zTf; omega, rfl⟩
    · refine zr_iconst I85_10 ?_
      refine zr_goto (t := 15) I85_11 rfl ?_
      refine zr_zret I85_15 rfl (by omega) ?_
      exact ⟨_, rfl, by unfold zTf; omega, rfl⟩
set_option maxRecDepth 10000 in
set_option maxHeartbeats 2000000 in
theorem e_X8_isTime {d n sl : Nat} {S : zSh} {c : zC} {x : Int} : zE (d + 1) 63 0 (zent 63 [zI x]) [] ((n, sl), (S, c)) (zRp (zTf (0 ≤ x ∧ x ≤ 10079)) ((n, sl), (S, c))) := by
  show zE (d + 1) 63 0 [some (zI x)] [] ((n, sl), (S, c)) _
  refine zl_ild0 I63_0 ?_
  refine zr_iconst I63_1 ?_
  refine zr_sipush I63_2 ?_
  refine zr_callS I63_5 C8_44 ⟨rfl, rfl⟩ ⟨by simp, rfl, Nat.le_of_ble_eq_true rfl⟩ (e_X8_within ) (fun v5 μ5 hv5 => ?_)
  obtain ⟨x5, rfl, hx5, rfl⟩ := hv5
  dsimp only [Option.toList, List.cons_append, List.nil_append]
  unfold zTf at hx5
  refine zr_zret I63_8 rfl (by omega) ?_
  exact ⟨_, rfl, by unfold zTf; omega, rfl⟩
set_option maxRecDepth 10000 in
set_option maxHeartbeats 2000000 in
theorem e_X8_isInterval {d n sl : Nat} {S : zSh} {c : zC} {a b g : Int} : zE (d + 0) 64 0 (zent 64 [zI a, zI b, zI g]) [] ((n, sl), (S, c)) (zRp (zTf (0 ≤ a ∧ a < b ∧ b ≤ g)) ((n, sl), (S, c))) := by
  show zE (d + 0) 64 0 [some (zI a), some (zI b), some (zI g)] [] ((n, sl), (S, c)) _
  refine zl_ild0 I64_0 ?_
  refine zr_if_lt (t := 18) I64_1 rfl (fun h1 => ?_) (fun h1 => ?_)
  · refine zr_iconst I64_18 ?_
    refine zr_zret I64_19 rfl (by omega) ?_
    exact ⟨_, rfl, by unfold zTf; omega, rfl⟩
  · refine zl_ild0 I64_4 ?_
    refine zl_ild1 I64_5 ?_
    refine zr_ic_ge (t := 18) I64_6 rfl (fun h6 => ?_) (fun h6 => ?_)
    · refine zr_iconst I64_18 ?_
      refine zr_zret I64_19 rfl (by omega) ?_
      exact ⟨_, rfl, by unfold zTf; omega, rfl⟩
    · refine zl_ild1 I64_9 ?_
      refine zl_ild2 I64_10 ?_
      refine zr_ic_gt (t := 18) I64_11 rfl (fun h11 => ?_) (fun h11 => ?_)
      · refine zr_iconst I64_18 ?_
        refine zr_zret I64_19 rfl (by omega) ?_
        exact ⟨_, rfl, by unfold zTf; omega, rfl⟩
      · refine zr_iconst I64_14 ?_
        refine zr_goto (t := 19) I64_15 rfl ?_
        refine zr_zret I64_19 rfl (by omega) ?_
        exact ⟨_, rfl, by unfold zTf; omega, rfl⟩
set_option maxRecDepth 10000 in
set_option maxHeartbeats 2000000 in
theorem e_X8_isProgramme {d n sl : Nat} {S : zSh} {c : zC} (hS : zSok S) (hB : zBd c) {p : Int} : zE (d + 1) 65 0 (zent 65 [zA 8, zI p]) [] ((n, sl), (S, c)) (zRp (zTf (0 ≤ p ∧ p < c 10 0)) ((n, sl), (S, c))) := by
  show zE (d + 1) 65 0 [some (zA 8), some (zI p)] [] ((n, sl), (S, c)) _
  refine zl_ild1 I65_0 ?_
  refine zr_iconst I65_1 ?_
  refine zl_ald0 I65_2 ?_
  refine zr_getr (j := 0) I65_3 F8_12 rfl (sT8 hS) (sR8_0 hS) ?_
  refine zr_getr (j := 0) I65_6 F8_48 rfl (sT9 hS) (sR9_0 hS) ?_
  refine zr_giB (j := 0) hB (by decide) I65_9 F8_52 rfl (sT10 hS) (fun b9 => ?_)
  refine zr_iconst I65_12 ?_
  refine zr_isub I65_13 (by unfold zInR; omega) ?_
  refine zr_callS I65_14 C8_44 ⟨rfl, rfl⟩ ⟨by simp, rfl, Nat.le_of_ble_eq_true rfl⟩ (e_X8_within ) (fun v14 μ14 hv14 => ?_)
  obtain ⟨x14, rfl, hx14, rfl⟩ := hv14
  dsimp only [Option.toList, List.cons_append, List.nil_append]
  unfold zTf at hx14
  refine zr_zret I65_17 rfl (by omega) ?_
  exact ⟨_, rfl, by unfold zTf; omega, rfl⟩
set_option maxRecDepth 10000 in
set_option maxHeartbeats 2000000 in
theorem e_X8_isItem {d n sl : Nat} {S : zSh} {c : zC} (hS : zSok S) (hB : zBd c) {p : Int} : zE (d + 1) 66 0 (zent 66 [zA 8, zI p]) [] ((n, sl), (S, c)) (zRp (zTf (0 ≤ p ∧ p < c 24 0)) ((n, sl), (S, c))) := by
  show zE (d + 1) 66 0 [some (zA 8), some (zI p)] [] ((n, sl), (S, c)) _
  refine zl_ild1 I66_0 ?_
  refine zr_iconst I66_1 ?_
  refine zl_ald0 I66_2 ?_
  refine zr_getr (j := 0) I66_3 F8_12 rfl (sT8 hS) (sR8_0 hS) ?_
  refine zr_getr (j := 3) I66_6 F8_102 rfl (sT9 hS) (sR9_3 hS) ?_
  refine zr_giB (j := 0) hB (by decide) I66_9 F8_112 rfl (sT24 hS) (fun b9 => ?_)
  refine zr_iconst I66_12 ?_
  refine zr_isub I66_13 (by unfold zInR; omega) ?_
  refine zr_callS I66_14 C8_44 ⟨rfl, rfl⟩ ⟨by simp, rfl, Nat.le_of_ble_eq_true rfl⟩ (e_X8_within ) (fun v14 μ14 hv14 => ?_)
  obtain ⟨x14, rfl, hx14, rfl⟩ := hv14
  dsimp only [Option.toList, List.cons_append, List.nil_append]
  unfold zTf at hx14
  refine zr_zret I66_17 rfl (by omega) ?_
  exact ⟨_, rfl, by unfold zTf; omega, rfl⟩
set_option maxRecDepth 10000 in
set_option maxHeartbeats 2000000 in
theorem e_X9_isProgramme {d n sl : Nat} {S : zSh} {c : zC} (hS : zSok S) (hB : zBd c) {p : Int} : zE (d + 1) 87 0 (zent 87 [zA 145, zI p]) [] ((n, sl), (S, c)) (zRp (zTf (0 ≤ p ∧ p < c 146 0)) ((n, sl), (S, c))) := by
  show zE (d + 1) 87 0 [some (zA 145), some (zI p)] [] ((n, sl), (S, c)) _
  refine zl_ild1 I87_0 ?_
  refine zr_iconst I87_1 ?_
  refine zl_ald0 I87_2 ?_
  refine zr_getr (j := 0) I87_3 F9_7 rfl (sT145 hS) (sR145_0 hS) ?_
  refine zr_iconst I87_6 ?_
  refine zr_iaB hB (by decide) I87_7 (sT146 hS) (sN146 hS) (by omega) (fun b7 => ?_)
  refine zr_iconst I87_8 ?_
  refine zr_isub I87_9 (by unfold zInR; omega) ?_
  refine zr_callS I87_10 C9_41 ⟨rfl, rfl⟩ ⟨by simp, rfl, Nat.le_of_ble_eq_true rfl⟩ (e_X9_in ) (fun v10 μ10 hv10 => ?_)
  obtain ⟨x10, rfl, hx10, rfl⟩ := hv10
  dsimp only [Option.toList, List.cons_append, List.nil_append]
  unfold zTf at hx10
  refine zr_zret I87_13 rfl (by omega) ?_
  exact ⟨_, rfl, by unfold zTf; omega, rfl⟩
set_option maxRecDepth 10000 in
set_option maxHeartbeats 2000000 in
theorem e_X9_isItem {d n sl : Nat} {S : zSh} {c : zC} (hS : zSok S) (hB : zBd c) {p : Int} : zE (d + 1) 88 0 (zent 88 [zA 145, zI p]) [] ((n, sl), (S, c)) (zRp (zTf (0 ≤ p ∧ p < c 146 3)) ((n, sl), (S, c))) := by
  show zE (d + 1) 88 0 [some (zA 145), some (zI p)] [] ((n, sl), (S, c)) _
  refine zl_ild1 I88_0 ?_
  refine zr_iconst I88_1 ?_
  refine zl_ald0 I88_2 ?_
  refine zr_getr (j := 0) I88_3 F9_7 rfl (sT145 hS) (sR145_0 hS) ?_
  refine zr_iconst I88_6 ?_
  refine zr_iaB hB (by decide) I88_7 (sT146 hS) (sN146 hS) (by omega) (fun b7 => ?_)
  refine zr_iconst I88_8 ?_
  refine zr_isub I88_9 (by unfold zInR; omega) ?_
  refine zr_callS I88_10 C9_41 ⟨rfl, rfl⟩ ⟨by simp, rfl, Nat.le_of_ble_eq_true rfl⟩ (e_X9_in ) (fun v10 μ10 hv10 => ?_)
  obtain ⟨x10, rfl, hx10, rfl⟩ := hv10
  dsimp only [Option.toList, List.cons_append, List.nil_append]
  unfold zTf at hx10
  refine zr_zret I88_13 rfl (by omega) ?_
  exact ⟨_, rfl, by unfold zTf; omega, rfl⟩
set_option maxRecDepth 10000 in
set_option maxHeartbeats 2000000 in
theorem e_X9_isSpan {d n sl : Nat} {S : zSh} {c : zC} {a b : Int} : zE (d + 1) 126 0 (zent 126 [zI a, zI b]) [] ((n, sl), (S, c)) (zRp (zTf (0 ≤ a ∧ a < b ∧ b ≤ 10080)) ((n, sl), (S, c))) := by
  show zE (d + 1) 126 0 [some (zI a), some (zI b)] [] ((n, sl), (S, c)) _
  refine zl_ild0 I126_0 ?_
  refine zr_iconst I126_1 ?_
  refine zr_sipush I126_2 ?_
  refine zr_callS I126_5 C9_41 ⟨rfl, rfl⟩ ⟨by simp, rfl, Nat.le_of_ble_eq_true rfl⟩ (e_X9_in ) (fun v5 μ5 hv5 => ?_)
  obtain ⟨x5, rfl, hx5, rfl⟩ := hv5
  dsimp only [Option.toList, List.cons_append, List.nil_append]
  unfold zTf at hx5
  refine zr_if_eq (t := 28) I126_8 rfl (fun h8 => ?_) (fun h8 => ?_)
  · refine zr_iconst I126_28 ?_
    refine zr_zret I126_29 rfl (by omega) ?_
    exact ⟨_, rfl, by unfold zTf; omega, rfl⟩
  · refine zl_ild1 I126_11 ?_
    refine zl_ild0 I126_12 ?_
    refine zr_iconst I126_13 ?_
    refine zr_iadd I126_14 (by unfold zInR; omega) ?_
    refine zr_sipush I126_15 ?_
    refine zr_callS I126_18 C9_41 ⟨rfl, rfl⟩ ⟨by simp, rfl, Nat.le_of_ble_eq_true rfl⟩ (e_X9_in ) (fun v18 μ18 hv18 => ?_)
    obtain ⟨x18, rfl, hx18, rfl⟩ := hv18
    dsimp only [Option.toList, List.cons_append, List.nil_append]
    unfold zTf at hx18
    refine zr_if_eq (t := 28) I126_21 rfl (fun h21 => ?_) (fun h21 => ?_)
    · refine zr_iconst I126_28 ?_
      refine zr_zret I126_29 rfl (by omega) ?_
      exact ⟨_, rfl, by unfold zTf; omega, rfl⟩
    · refine zr_iconst I126_24 ?_
      refine zr_goto (t := 29) I126_25 rfl ?_
      refine zr_zret I126_29 rfl (by omega) ?_
      exact ⟨_, rfl, by unfold zTf; omega, rfl⟩
set_option maxRecDepth 10000 in
set_option maxHeartbeats 2000000 in
theorem e_X8_kindOf {d n sl : Nat} {S : zSh} {c : zC} (hS : zSok S) (hB : zBd c) {i : Int} (hi : 0 ≤ i ∧ i < 60) (hp : 0 ≤ c 25 i ∧ c 25 i < 16) : zE (d + 0) 79 0 (zent 79 [zA 8, zI i]) [] ((n, sl), (S, c)) (zRd (c 11 (c 25 i)) ((n, sl), (S, c))) := by
  show zE (d + 0) 79 0 [some (zA 8), some (zI i)] [] ((n, sl), (S, c)) _
  refine zl_ald0 I79_0 ?_
  refine zr_getr (j := 0) I79_1 F8_12 rfl (sT8 hS) (sR8_0 hS) ?_
  refine zr_getr (j := 0) I79_4 F8_48 rfl (sT9 hS) (sR9_0 hS) ?_
  refine zr_getr (j := 1) I79_7 F8_209 rfl (sT10 hS) (sR10_1 hS) ?_
  refine zl_ald0 I79_10 ?_
  refine zr_getr (j := 0) I79_11 F8_12 rfl (sT8 hS) (sR8_0 hS) ?_
  refine zr_getr (j := 3) I79_14 F8_102 rfl (sT9 hS) (sR9_3 hS) ?_
  refine zr_getr (j := 1) I79_17 F8_147 rfl (sT24 hS) (sR24_1 hS) ?_
  refine zl_ild1 I79_20 ?_
  refine zr_iaB hB (by decide) I79_21 (sT25 hS) (sN25 hS) (by omega) (fun b21 => ?_)
  refine zr_iaB hB (by decide) I79_22 (sT11 hS) (sN11 hS) (by omega) (fun b22 => ?_)
  refine zr_iret I79_23 rfl ?_
  exact ⟨rfl, rfl⟩
set_option maxRecDepth 10000 in
set_option maxHeartbeats 2000000 in
theorem e_X9_kind {d n sl : Nat} {S : zSh} {c : zC} (hS : zSok S) (hB : zBd c) {p : Int} (hi : 0 ≤ p ∧ p < 16) : zE (d + 0) 89 0 (zent 89 [zA 145, zI p]) [] ((n, sl), (S, c)) (zRd (c 146 (10 + 4 * p)) ((n, sl), (S, c))) := by
  show zE (d + 0) 89 0 [some (zA 145), some (zI p)] [] ((n, sl), (S, c)) _
  refine zl_ald0 I89_0 ?_
  refine zr_getr (j := 0) I89_1 F9_7 rfl (sT145 hS) (sR145_0 hS) ?_
  refine zr_bipush I89_4 ?_
  refine zr_iconst I89_6 ?_
  refine zl_ild1 I89_7 ?_
  refine zr_imul I89_8 (by unfold zInR; omega) ?_
  refine zr_iadd I89_9 (by unfold zInR; omega) ?_
  refine zr_iaB hB (by decide) I89_10 (sT146 hS) (sN146 hS) (by omega) (fun b10 => ?_)
  refine zr_iret I89_11 rfl ?_
  exact ⟨rfl, rfl⟩
set_option maxRecDepth 10000 in
set_option maxHeartbeats 2000000 in
theorem e_X9_length {d n sl : Nat} {S : zSh} {c : zC} (hS : zSok S) (hB : zBd c) {p : Int} (hi : 0 ≤ p ∧ p < 16) : zE (d + 0) 90 0 (zent 90 [zA 145, zI p]) [] ((n, sl), (S, c)) (zRd (c 146 (10 + 4 * p + 1)) ((n, sl), (S, c))) := by
  show zE (d + 0) 90 0 [some (zA 145), some (zI p)] [] ((n, sl), (S, c)) _
  refine zl_ald0 I90_0 ?_
  refine zr_getr (j := 0) I90_1 F9_7 rfl (sT145 hS) (sR145_0 hS) ?_
  refine zr_bipush I90_4 ?_
  refine zr_iconst I90_6 ?_
  refine zl_ild1 I90_7 ?_
  refine zr_imul I90_8 (by unfold zInR; omega) ?_
  refine zr_iadd I90_9 (by unfold zInR; omega) ?_
  refine zr_iconst I90_10 ?_
  refine zr_iadd I90_11 (by unfold zInR; omega) ?_
  refine zr_iaB hB (by decide) I90_12 (sT146 hS) (sN146 hS) (by omega) (fun b12 => ?_)
  refine zr_iret I90_13 rfl ?_
  exact ⟨rfl, rfl⟩
set_option maxRecDepth 10000 in
set_option maxHeartbeats 2000000 in
theorem e_X9_of {d n sl : Nat} {S : zSh} {c : zC} (hS : zSok S) (hB : zBd c) {i k : Int} (hi : 0 ≤ i ∧ i < 60) (hk : 0 ≤ k ∧ k < 4) : zE (d + 0) 91 0 (zent 91 [zA 145, zI i, zI k]) [] ((n, sl), (S, c)) (zRd (c 146 (230 + 4 * i + k)) ((n, sl), (S, c))) := by
  show zE (d + 0) 91 0 [some (zA 145), some (zI i), some (zI k)] [] ((n, sl), (S, c)) _
  refine zl_ald0 I91_0 ?_
  refine zr_getr (j := 0) I91_1 F9_7 rfl (sT145 hS) (sR145_0 hS) ?_
  refine zr_sipush I91_4 ?_
  refine zr_iconst I91_7 ?_
  refine zl_ild1 I91_8 ?_
  refine zr_imul I91_9 (by unfold zInR; omega) ?_
  refine zr_iadd I91_10 (by unfold zInR; omega) ?_
  refine zl_ild2 I91_11 ?_
  refine zr_iadd I91_12 (by unfold zInR; omega) ?_
  refine zr_iaB hB (by decide) I91_13 (sT146 hS) (sN146 hS) (by omega) (fun b13 => ?_)
  refine zr_iret I91_14 rfl ?_
  exact ⟨rfl, rfl⟩
set_option maxRecDepth 10000 in
set_option maxHeartbeats 2000000 in
theorem e_X9_end {d n sl : Nat} {S : zSh} {c : zC} (hS : zSok S) (hB : zBd c) {i : Int} (hi : 0 ≤ i ∧ i < 60) : zE (d + 1) 92 0 (zent 92 [zA 145, zI i]) [] ((n, sl), (S, c)) (zRd (c 146 (230 + 4 * i + 1) + c 146 (230 + 4 * i + 2)) ((n, sl), (S, c))) := by
  show zE (d + 1) 92 0 [some (zA 145), some (zI i)] [] ((n, sl), (S, c)) _
  refine zl_ald0 I92_0 ?_
  refine zl_ild1 I92_1 ?_
  refine zr_iconst I92_2 ?_
  refine zr_callV I92_3 C9_45 ⟨rfl, rfl⟩ ⟨rfl, Nat.le_of_ble_eq_true rfl⟩ (Or.inl ⟨rfl, sT145 hS⟩) (e_X9_of hS hB (by omega) (by omega)) (fun v3 μ3 hv3 => ?_)
  obtain ⟨rfl, rfl⟩ := hv3
  dsimp only [Option.toList, List.cons_append, List.nil_append]
  refine zl_ald0 I92_6 ?_
  refine zl_ild1 I92_7 ?_
  refine zr_iconst I92_8 ?_
  have b6 := hB 146 (230 + 4 * i + 1) (by decide)
  have b12 := hB 146 (230 + 4 * i + 2) (by decide)
  refine zr_callV I92_9 C9_45 ⟨rfl, rfl⟩ ⟨rfl, Nat.le_of_ble_eq_true rfl⟩ (Or.inl ⟨rfl, sT145 hS⟩) (e_X9_of hS hB (by omega) (by omega)) (fun v9 μ9 hv9 => ?_)
  obtain ⟨rfl, rfl⟩ := hv9
  dsimp only [Option.toList, List.cons_append, List.nil_append]
  have b6 := hB 146 (230 + 4 * i + 1) (by decide)
  have b12 := hB 146 (230 + 4 * i + 2) (by decide)
  refine zr_iadd I92_12 (by unfold zInR; omega) ?_
  refine zr_iret I92_13 rfl ?_
  exact ⟨rfl, rfl⟩
