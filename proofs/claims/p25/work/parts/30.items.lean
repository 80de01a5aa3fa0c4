/-! Items: what is asked of them -/
set_option maxRecDepth 10000 in
set_option maxHeartbeats 2000000 in
theorem e_X3_end {d n sl : Nat} {S : zSh} {c : zC} (hS : zSok S) (hB : zBd c) {i : Int} (hi : 0 ≤ i ∧ i < 60) : zE (d + 0) 14 0 (zent 14 [zA 24, zI i]) [] ((n, sl), (S, c)) (zRd (c 26 i + c 27 i) ((n, sl), (S, c))) := by
  show zE (d + 0) 14 0 [some (zA 24), some (zI i)] [] ((n, sl), (S, c)) _
  refine zl_ald0 I14_0 ?_
  refine zr_getr (j := 2) I14_1 F3_15 rfl (sT24 hS) (sR24_2 hS) ?_
  refine zl_ild1 I14_4 ?_
  refine zr_iaB hB (by decide) I14_5 (sT26 hS) (sN26 hS) (by omega) (fun b5 => ?_)
  refine zl_ald0 I14_6 ?_
  refine zr_getr (j := 3) I14_7 F3_18 rfl (sT24 hS) (sR24_3 hS) ?_
  refine zl_ild1 I14_10 ?_
  refine zr_iaB hB (by decide) I14_11 (sT27 hS) (sN27 hS) (by omega) (fun b11 => ?_)
  refine zr_iadd I14_12 (by unfold zInR; omega) ?_
  refine zr_iret I14_13 rfl ?_
  exact ⟨rfl, rfl⟩
/-- the first of n items with a minute from a to b, or -9 -/
def zFst (n : Int) (st ln : Int → Int) (a b : Int) (x : Int) : Prop := (0 ≤ x ∧ x < n ∧ st x < b ∧ a < st x + ln x ∧ ∀ j, 0 ≤ j → j < x → ¬ (st j < b ∧ a < st j + ln j)) ∨ (x = -9 ∧ ∀ j, 0 ≤ j → j < n → ¬ (st j < b ∧ a < st j + ln j))
set_option maxRecDepth 10000 in
theorem e_X3_firstIn_l {d n sl : Nat} {S : zSh} {c : zC} (hS : zSok S) (hB : zBd c) (hc : 0 ≤ c 24 0 ∧ c 24 0 ≤ 60) {a b : Int} : ∀ i : Int, i ≤ c 24 0 → 0 ≤ i → (∀ j, 0 ≤ j → j < i → ¬ (c 26 j < b ∧ a < c 26 j + c 27 j)) → zE (d + 1) 15 2 [some (zA 24), some (zI a), some (zI b), some (zI i)] [] ((n, sl), (S, c)) (zRp (zFst (c 24 0) (c 26) (c 27) a b) ((n, sl), (S, c))) := by
  refine zind _ (fun i ih hN h0 hp => ?_)
  refine zl_ild3 I15_2 ?_
  refine zl_ald0 I15_3 ?_
  refine zr_giB (j := 0) hB (by decide) I15_4 F3_24 rfl (sT24 hS) (fun b4 => ?_)
  refine zr_ic_ge (t := 37) I15_7 rfl (fun h7 => ?_) (fun h7 => ?_)
  · refine zr_bipush I15_37 ?_
    refine zr_iret I15_39 rfl ?_
    exact ⟨_, rfl, Or.inr ⟨rfl, fun j h1 h2 => hp j h1 (by omega)⟩, rfl⟩
  · refine zl_ald0 I15_10 ?_
    refine zr_getr (j := 2) I15_11 F3_15 rfl (sT24 hS) (sR24_2 hS) ?_
    refine zl_ild3 I15_14 ?_
    refine zr_iaB hB (by decide) I15_15 (sT26 hS) (sN26 hS) (by omega) (fun b15 => ?_)
    refine zl_ild2 I15_16 ?_
    refine zr_ic_ge (t := 31) I15_17 rfl (fun h17 => ?_) (fun h17 => ?_)
    · refine zl_iinc3 I15_31 (by unfold zInR; omega) ?_
      refine zr_goto (t := 2) I15_34 rfl ?_
      exact ih _ (by omega) (by omega) (by omega) (fun j hj1 hj2 => (Int.lt_or_eq_of_le (Int.lt_add_one_iff.mp hj2)).elim (fun h => hp j hj1 h) (fun h => by subst h; omega))
    · refine zl_ald0 I15_20 ?_
      refine zl_ild3 I15_21 ?_
      refine zr_callV I15_22 C3_28 ⟨rfl, rfl⟩ ⟨rfl, Nat.le_of_ble_eq_true rfl⟩ (Or.inl ⟨rfl, sT24 hS⟩) (e_X3_end hS hB (by omega)) (fun v22 μ22 hv22 => ?_)
      obtain ⟨rfl, rfl⟩ := hv22
      dsimp only [Option.toList, List.cons_append, List.nil_append]
      refine zl_ild1 I15_25 ?_
      refine zr_ic_le (t := 31) I15_26 rfl (fun h26 => ?_) (fun h26 => ?_)
      · refine zl_iinc3 I15_31 (by unfold zInR; omega) ?_
        refine zr_goto (t := 2) I15_34 rfl ?_
        exact ih _ (by omega) (by omega) (by omega) (fun j hj1 hj2 => (Int.lt_or_eq_of_le (Int.lt_add_one_iff.mp hj2)).elim (fun h => hp j hj1 h) (fun h => by subst h; omega))
      · refine zl_ild3 I15_29 ?_
        refine zr_iret I15_30 rfl ?_
        exact ⟨_, rfl, Or.inl ⟨h0, by omega, by omega, by omega, hp⟩, rfl⟩
set_option maxRecDepth 10000 in
set_option maxHeartbeats 2000000 in
theorem e_X3_firstIn {d n sl : Nat} {S : zSh} {c : zC} (hS : zSok S) (hB : zBd c) (hc : 0 ≤ c 24 0 ∧ c 24 0 ≤ 60) {a b : Int} : zE (d + 1) 15 0 (zent 15 [zA 24, zI a, zI b]) [] ((n, sl), (S, c)) (zRp (zFst (c 24 0) (c 26) (c 27) a b) ((n, sl), (S, c))) := by
  show zE (d + 1) 15 0 [some (zA 24), some (zI a), some (zI b), none] [] ((n, sl), (S, c)) _
  refine zr_iconst I15_0 ?_
  refine zl_ist3 I15_1 ?_
  exact e_X3_firstIn_l hS hB hc 0 (by omega) (by omega) (fun j h1 h2 => absurd h1 (by omega))
