/-! ranks, broken blackouts -/
def zAh (f : Int → Int) (n p : Int) : Int := zSum (fun q => if f p < f q ∨ (f q = f p ∧ q < p) then 1 else 0) n
set_option maxRecDepth 10000 in
set_option maxHeartbeats 2000000 in
theorem e_X8_programmesAhead_l {d n sl : Nat} {S : zSh} {c : zC} (hS : zSok S) (hB : zBd c) (hc : 0 ≤ c 24 0 ∧ c 24 0 ≤ 60) (hpn : 0 ≤ c 10 0 ∧ c 10 0 ≤ 16) {p : Int} : ∀ i : Int, i ≤ c 10 0 → ∀ y : Int, ∀ w5 : Option zV, (0 ≤ i) → (y = zSum (fun q => if (fun p => zSum (fun j => if c 25 j = p then c 27 j else 0) (c 24 0)) p < (fun p => zSum (fun j => if c 25 j = p then c 27 j else 0) (c 24 0)) q ∨ ((fun p => zSum (fun j => if c 25 j = p then c 27 j else 0) (c 24 0)) q = (fun p => zSum (fun j => if c 25 j = p then c 27 j else 0) (c 24 0)) p ∧ q < p) then 1 else 0) i) → zE (d + 2) 81 17 [some (zA 8), some (zI p), some (zI ((fun p => zSum (fun j => if c 25 j = p then c 27 j else 0) (c 24 0)) p)), some (zI y), some (zI i), w5] [] ((n, sl), (S, c)) (zRd (zAh (fun p => zSum (fun j => if c 25 j = p then c 27 j else 0) (c 24 0)) (c 10 0) p) ((n, sl), (S, c))) := by
  refine zind _ (fun i ih hN => ?_)
  intro y w5 h0 hy
  have hmb := zSum_le (f := (fun q => if (fun p => zSum (fun j => if c 25 j = p then c 27 j else 0) (c 24 0)) p < (fun p => zSum (fun j => if c 25 j = p then c 27 j else 0) (c 24 0)) q ∨ ((fun p => zSum (fun j => if c 25 j = p then c 27 j else 0) (c 24 0)) q = (fun p => zSum (fun j => if c 25 j = p then c 27 j else 0) (c 24 0)) p ∧ q < p) then 1 else 0)) (lo := 0) (hi := 1) i h0 (fun j _ _ => by (try dsimp only); split <;> omega)
  refine zl_ild4 I81_17 ?_
  refine zl_ald0 I81_19 ?_
  refine zr_getr (j := 0) I81_20 F8_12 rfl (sT8 hS) (sR8_0 hS) ?_
  refine zr_getr (j := 0) I81_23 F8_48 rfl (sT9 hS) (sR9_0 hS) ?_
  refine zr_giB (j := 0) hB (by decide) I81_26 F8_52 rfl (sT10 hS) (fun b26 => ?_)
  refine zr_ic_ge (t := 73) I81_29 rfl (fun h29 => ?_) (fun h29 => ?_)
  · refine zl_ild3 I81_73 ?_
    refine zr_iret I81_74 rfl ?_
    exact ⟨by rw [hy, show i = c 10 0 by omega]; rfl, rfl⟩
  · refine zl_ald0 I81_32 ?_
    refine zr_getr (j := 0) I81_33 F8_12 rfl (sT8 hS) (sR8_0 hS) ?_
    refine zr_getr (j := 3) I81_36 F8_102 rfl (sT9 hS) (sR9_3 hS) ?_
    refine zl_ild4 I81_39 ?_
    refine zr_callV I81_41 C8_256 ⟨rfl, rfl⟩ ⟨rfl, Nat.le_of_ble_eq_true rfl⟩ (Or.inl ⟨rfl, sT24 hS⟩) (e_X3_minutesOf hS hB hc) (fun v41 μ41 hv41 => ?_)
    obtain ⟨rfl, rfl⟩ := hv41
    dsimp only [Option.toList, List.cons_append, List.nil_append]
    refine zl_ist5 I81_44 ?_
    refine zl_ild5 I81_46 ?_
    refine zl_ild2 I81_48 ?_
    refine zr_ic_gt (t := 64) I81_49 rfl (fun h49 => ?_) (fun h49 => ?_)
    · refine zl_iinc3 I81_64 (by unfold zInR; omega) ?_
      refine zl_iinc4 I81_67 (by unfold zInR; omega) ?_
      refine zr_goto (t := 17) I81_70 rfl ?_
      refine ih _ (by omega) (by omega) _ _ (by omega) ?_
      rw [zSum_s _ h0, hy]
      (try dsimp only at *)
      split <;> omega
    · refine zl_ild5 I81_52 ?_
      refine zl_ild2 I81_54 ?_
      refine zr_ic_ne (t := 67) I81_55 rfl (fun h55 => ?_) (fun h55 => ?_)
      · refine zl_iinc4 I81_67 (by unfold zInR; omega) ?_
        refine zr_goto (t := 17) I81_70 rfl ?_
        refine ih _ (by omega) (by omega) _ _ (by omega) ?_
        rw [zSum_s _ h0, hy]
        (try dsimp only at *)
        split <;> omega
      · refine zl_ild4 I81_58 ?_
        refine zl_ild1 I81_60 ?_
        refine zr_ic_ge (t := 67) I81_61 rfl (fun h61 => ?_) (fun h61 => ?_)
        · refine zl_iinc4 I81_67 (by unfold zInR; omega) ?_
          refine zr_goto (t := 17) I81_70 rfl ?_
          refine ih _ (by omega) (by omega) _ _ (by omega) ?_
          rw [zSum_s _ h0, hy]
          (try dsimp only at *)
          split <;> omega
        · refine zl_iinc3 I81_64 (by unfold zInR; omega) ?_
          refine zl_iinc4 I81_67 (by unfold zInR; omega) ?_
          refine zr_goto (t := 17) I81_70 rfl ?_
          refine ih _ (by omega) (by omega) _ _ (by omega) ?_
          rw [zSum_s _ h0, hy]
          (try dsimp only at *)
          split <;> omega
set_option maxRecDepth 10000 in
set_option maxHeartbeats 2000000 in
theorem e_X8_programmesAhead {d n sl : Nat} {S : zSh} {c : zC} (hS : zSok S) (hB : zBd c) (hc : 0 ≤ c 24 0 ∧ c 24 0 ≤ 60) (hpn : 0 ≤ c 10 0 ∧ c 10 0 ≤ 16) {p : Int} : zE (d + 2) 81 0 (zent 81 [zA 8, zI p]) [] ((n, sl), (S, c)) (zRd (zAh (fun p => zSum (fun j => if c 25 j = p then c 27 j else 0) (c 24 0)) (c 10 0) p) ((n, sl), (S, c))) := by
  show zE (d + 2) 81 0 [some (zA 8), some (zI p), none, none, none, none] [] ((n, sl), (S, c)) _
  refine zl_ald0 I81_0 ?_
  refine zr_getr (j := 0) I81_1 F8_12 rfl (sT8 hS) (sR8_0 hS) ?_
  refine zr_getr (j := 3) I81_4 F8_102 rfl (sT9 hS) (sR9_3 hS) ?_
  refine zl_ild1 I81_7 ?_
  refine zr_callV I81_8 C8_256 ⟨rfl, rfl⟩ ⟨rfl, Nat.le_of_ble_eq_true rfl⟩ (Or.inl ⟨rfl, sT24 hS⟩) (e_X3_minutesOf hS hB hc) (fun v8 μ8 hv8 => ?_)
  obtain ⟨rfl, rfl⟩ := hv8
  dsimp only [Option.toList, List.cons_append, List.nil_append]
  refine zl_ist2 I81_11 ?_
  refine zr_iconst I81_12 ?_
  refine zl_ist3 I81_13 ?_
  refine zr_iconst I81_14 ?_
  refine zl_ist4 I81_15 ?_
  exact e_X8_programmesAhead_l hS hB hc hpn 0 (by omega) 0 _ (by omega) rfl
set_option maxRecDepth 10000 in
set_option maxHeartbeats 2000000 in
theorem e_X8_ranked_l {d n sl : Nat} {S : zSh} {c : zC} (hS : zSok S) (hB : zBd c) (hc : 0 ≤ c 24 0 ∧ c 24 0 ≤ 60) (hpn : 0 ≤ c 10 0 ∧ c 10 0 ≤ 16) {k : Int} (hex : ∃ q, 0 ≤ q ∧ q < c 10 0 ∧ zAh (fun p => zSum (fun j => if c 25 j = p then c 27 j else 0) (c 24 0)) (c 10 0) q = k) : ∀ i : Int, i ≤ c 10 0 → (0 ≤ i) → (∀ j, 0 ≤ j → j < i → zAh (fun p => zSum (fun j => if c 25 j = p then c 27 j else 0) (c 24 0)) (c 10 0) j ≠ k) → zE (d + 3) 57 24 [some (zA 8), some (zI k), some (zI i)] [] ((n, sl), (S, c)) (zRp (zFind (c 10 0) (zAh (fun p => zSum (fun j => if c 25 j = p then c 27 j else 0) (c 24 0)) (c 10 0)) k) ((n, sl), (S, c))) := by
  refine zind _ (fun i ih hN => ?_)
  intro h0 hp
  refine zl_ild2 I57_24 ?_
  refine zl_ald0 I57_25 ?_
  refine zr_getr (j := 0) I57_26 F8_12 rfl (sT8 hS) (sR8_0 hS) ?_
  refine zr_getr (j := 0) I57_29 F8_48 rfl (sT9 hS) (sR9_0 hS) ?_
  refine zr_giB (j := 0) hB (by decide) I57_32 F8_52 rfl (sT10 hS) (fun b32 => ?_)
  refine zr_ic_ge (t := 55) I57_35 rfl (fun h35 => ?_) (fun h35 => ?_)
  · refine zr_iconst I57_55 ?_
    refine zr_iret I57_56 rfl ?_
    obtain ⟨q, q1, q2, q3⟩ := hex
    exact absurd q3 (hp q q1 (by omega))
  · refine zl_ald0 I57_38 ?_
    refine zl_ild2 I57_39 ?_
    refine zr_callV I57_40 C8_179 ⟨rfl, rfl⟩ ⟨rfl, Nat.le_of_ble_eq_true rfl⟩ (Or.inl ⟨rfl, sT8 hS⟩) (e_X8_programmesAhead hS hB hc hpn) (fun v40 μ40 hv40 => ?_)
    obtain ⟨rfl, rfl⟩ := hv40
    dsimp only [Option.toList, List.cons_append, List.nil_append]
    refine zl_ild1 I57_43 ?_
    refine zr_ic_ne (t := 49) I57_44 rfl (fun h44 => ?_) (fun h44 => ?_)
    · refine zl_iinc2 I57_49 (by unfold zInR; omega) ?_
      refine zr_goto (t := 24) I57_52 rfl ?_
      refine ih _ (by omega) (by omega) (by omega) (fun j j1 j2 => ?_)
      by_cases e : j = i
      · subst e; assumption
      · exact hp j j1 (by omega)
    · refine zl_ild2 I57_47 ?_
      refine zr_iret I57_48 rfl ?_
      exact ⟨_, rfl, Or.inl ⟨h0, by omega, by assumption, hp⟩, rfl⟩
set_option maxRecDepth 10000 in
set_option maxHeartbeats 2000000 in
theorem e_X8_ranked {d n sl : Nat} {S : zSh} {c : zC} (hS : zSok S) (hB : zBd c) (hc : 0 ≤ c 24 0 ∧ c 24 0 ≤ 60) (hpn : 0 ≤ c 10 0 ∧ c 10 0 ≤ 16) {k : Int} (hex : 0 ≤ k → k < c 10 0 → ∃ q, 0 ≤ q ∧ q < c 10 0 ∧ zAh (fun p => zSum (fun j => if c 25 j = p then c 27 j else 0) (c 24 0)) (c 10 0) q = k) : zE (d + 3) 57 0 (zent 57 [zA 8, zI k]) [] ((n, sl), (S, c)) (fun r μ' => (¬ (0 ≤ k ∧ k < c 10 0) ∧ zRd (-1) ((n, sl), (S, c)) r μ') ∨ ((0 ≤ k ∧ k < c 10 0) ∧ zRp (zFind (c 10 0) (zAh (fun p => zSum (fun j => if c 25 j = p then c 27 j else 0) (c 24 0)) (c 10 0)) k) ((n, sl), (S, c)) r μ')) := by
  show zE (d + 3) 57 0 [some (zA 8), some (zI k), none] [] ((n, sl), (S, c)) _
  refine zl_ild1 I57_0 ?_
  refine zr_iconst I57_1 ?_
  refine zl_ald0 I57_2 ?_
  refine zr_getr (j := 0) I57_3 F8_12 rfl (sT8 hS) (sR8_0 hS) ?_
  refine zr_getr (j := 0) I57_6 F8_48 rfl (sT9 hS) (sR9_0 hS) ?_
  refine zr_giB (j := 0) hB (by decide) I57_9 F8_52 rfl (sT10 hS) (fun b9 => ?_)
  refine zr_iconst I57_12 ?_
  refine zr_isub I57_13 (by unfold zInR; omega) ?_
  refine zr_callS I57_14 C8_44 ⟨rfl, rfl⟩ ⟨by simp, rfl, Nat.le_of_ble_eq_true rfl⟩ (e_X8_within ) (fun v14 μ14 hv14 => ?_)
  obtain ⟨x14, rfl, hx14, rfl⟩ := hv14
  dsimp only [Option.toList, List.cons_append, List.nil_append]
  unfold zTf at hx14
  refine zr_if_ne (t := 22) I57_17 rfl (fun h17 => ?_) (fun h17 => ?_)
  · refine zr_iconst I57_22 ?_
    refine zl_ist2 I57_23 ?_
    exact zE.mono (e_X8_ranked_l hS hB hc hpn (hex (by omega) (by omega)) 0 (by omega) (by omega) (fun j j1 j2 => absurd j1 (by omega))) (fun r μ' h => Or.inr ⟨by omega, h⟩)
  · refine zr_iconst I57_20 ?_
    refine zr_iret I57_21 rfl ?_
    exact Or.inl ⟨by omega, rfl, rfl⟩
set_option maxRecDepth 10000 in
set_option maxHeartbeats 2000000 in
theorem e_X9_ranked_m {d n sl : Nat} {S : zSh} {c : zC} (hS : zSok S) (hB : zBd c) (hc : 0 ≤ c 146 3 ∧ c 146 3 ≤ 60) (hpn : 0 ≤ c 146 0 ∧ c 146 0 ≤ 16) {k p : Int} (hex : ∀ w4 w5, zE (d + 2) 130 90 [some (zA 145), some (zI k), some (zI p), some (zI (zAh (fun p => zSum (fun j => if c 146 (230 + 4 * j + 0) = p then c 146 (230 + 4 * j + 2) else 0) (c 146 3)) (c 146 0) p)), w4, w5] [] ((n, sl), (S, c)) (zRp (zFind (c 146 0) (zAh (fun p => zSum (fun j => if c 146 (230 + 4 * j + 0) = p then c 146 (230 + 4 * j + 2) else 0) (c 146 3)) (c 146 0)) k) ((n, sl), (S, c)))) : ∀ i : Int, i ≤ c 146 0 → ∀ y : Int, ∀ w5 : Option zV, (0 ≤ i) → (y = zSum (fun q => if (fun p => zSum (fun j => if c 146 (230 + 4 * j + 0) = p then c 146 (230 + 4 * j + 2) else 0) (c 146 3)) p < (fun p => zSum (fun j => if c 146 (230 + 4 * j + 0) = p then c 146 (230 + 4 * j + 2) else 0) (c 146 3)) q ∨ ((fun p => zSum (fun j => if c 146 (230 + 4 * j + 0) = p then c 146 (230 + 4 * j + 2) else 0) (c 146 3)) q = (fun p => zSum (fun j => if c 146 (230 + 4 * j + 0) = p then c 146 (230 + 4 * j + 2) else 0) (c 146 3)) p ∧ q < p) then 1 else 0) i) → zE (d + 2) 130 35 [some (zA 145), some (zI k), some (zI p), some (zI y), some (zI i), w5] [] ((n, sl), (S, c)) (zRp (zFind (c 146 0) (zAh (fun p => zSum (fun j => if c 146 (230 + 4 * j + 0) = p then c 146 (230 + 4 * j + 2) else 0) (c 146 3)) (c 146 0)) k) ((n, sl), (S, c))) := by
  refine zind _ (fun i ih hN => ?_)
  intro y w5 h0 hy
  have hmb := zSum_le (f := (fun q => if (fun p => zSum (fun j => if c 146 (230 + 4 * j + 0) = p then c 146 (230 + 4 * j + 2) else 0) (c 146 3)) p < (fun p => zSum (fun j => if c 146 (230 + 4 * j + 0) = p then c 146 (230 + 4 * j + 2) else 0) (c 146 3)) q ∨ ((fun p => zSum (fun j => if c 146 (230 + 4 * j + 0) = p then c 146 (230 + 4 * j + 2) else 0) (c 146 3)) q = (fun p => zSum (fun j => if c 146 (230 + 4 * j + 0) = p then c 146 (230 + 4 * j + 2) else 0) (c 146 3)) p ∧ q < p) then 1 else 0)) (lo := 0) (hi := 1) i h0 (fun j _ _ => by (try dsimp only); split <;> omega)
  have hmo : ∀ p, -6000000 ≤ (fun p => zSum (fun j => if c 146 (230 + 4 * j + 0) = p then c 146 (230 + 4 * j + 2) else 0) (c 146 3)) p ∧ (fun p => zSum (fun j => if c 146 (230 + 4 * j + 0) = p then c 146 (230 + 4 * j + 2) else 0) (c 146 3)) p ≤ 6000000 := fun p => by
    have h9 := zSum_le (f := fun j => if c 146 (230 + 4 * j + 0) = p then c 146 (230 + 4 * j + 2) else 0) (lo := -100000) (hi := 100000) (c 146 3) (by omega) (fun j _ _ => by have := hB 146 (230 + 4 * j + 2) (by decide); (try dsimp only); split <;> omega)
    dsimp only
    omega
  refine zl_ild4 I130_35 ?_
  refine zl_ald0 I130_37 ?_
  refine zr_getr (j := 0) I130_38 F9_7 rfl (sT145 hS) (sR145_0 hS) ?_
  refine zr_iconst I130_41 ?_
  refine zr_iaB hB (by decide) I130_42 (sT146 hS) (sN146 hS) (by omega) (fun b42 => ?_)
  refine zr_ic_ge (t := 90) I130_43 rfl (fun h43 => ?_) (fun h43 => ?_)
  · have e9 := hex (some (zI i)) w5
    unfold zAh at e9
    rw [show c 146 0 = i by omega, ← hy] at e9
    rw [show c 146 0 = i by omega]
    exact e9
  · have hm1 := hmo i
    have hm2 := hmo p
    dsimp only at hm1 hm2
    refine zl_ald0 I130_46 ?_
    refine zl_ild4 I130_47 ?_
    refine zr_callV I130_49 C9_135 ⟨rfl, rfl⟩ ⟨rfl, Nat.le_of_ble_eq_true rfl⟩ (Or.inl ⟨rfl, sT145 hS⟩) (e_X9_airTime hS hB hc) (fun v49 μ49 hv49 => ?_)
    obtain ⟨rfl, rfl⟩ := hv49
    dsimp only [Option.toList, List.cons_append, List.nil_append]
    refine zl_ald0 I130_52 ?_
    refine zl_ild2 I130_53 ?_
    refine zr_callV I130_54 C9_135 ⟨rfl, rfl⟩ ⟨rfl, Nat.le_of_ble_eq_true rfl⟩ (Or.inl ⟨rfl, sT145 hS⟩) (e_X9_airTime hS hB hc) (fun v54 μ54 hv54 => ?_)
    obtain ⟨rfl, rfl⟩ := hv54
    dsimp only [Option.toList, List.cons_append, List.nil_append]
    refine zr_isub I130_57 (by unfold zInR; omega) ?_
    refine zl_ist5 I130_58 ?_
    refine zl_ild3 I130_60 ?_
    refine zl_ild5 I130_61 ?_
    refine zr_if_gt (t := 77) I130_63 rfl (fun h63 => ?_) (fun h63 => ?_)
    · refine zr_iconst I130_77 ?_
      refine zr_goto (t := 82) I130_78 rfl ?_
      refine zr_iadd I130_82 (by unfold zInR; omega) ?_
      refine zl_ist3 I130_83 ?_
      refine zl_iinc4 I130_84 (by unfold zInR; omega) ?_
      refine zr_goto (t := 35) I130_87 rfl ?_
      refine ih _ (by omega) (by omega) _ _ (by omega) ?_
      rw [zSum_s _ h0, hy]
      (try dsimp only at *)
      split <;> omega
    · refine zl_ild5 I130_66 ?_
      refine zr_if_ne (t := 81) I130_68 rfl (fun h68 => ?_) (fun h68 => ?_)
      · refine zr_iconst I130_81 ?_
        refine zr_iadd I130_82 (by unfold zInR; omega) ?_
        refine zl_ist3 I130_83 ?_
        refine zl_iinc4 I130_84 (by unfold zInR; omega) ?_
        refine zr_goto (t := 35) I130_87 rfl ?_
        refine ih _ (by omega) (by omega) _ _ (by omega) ?_
        rw [zSum_s _ h0, hy]
        (try dsimp only at *)
        split <;> omega
      · refine zl_ild4 I130_71 ?_
        refine zl_ild2 I130_73 ?_
        refine zr_ic_ge (t := 81) I130_74 rfl (fun h74 => ?_) (fun h74 => ?_)
        · refine zr_iconst I130_81 ?_
          refine zr_iadd I130_82 (by unfold zInR; omega) ?_
          refine zl_ist3 I130_83 ?_
          refine zl_iinc4 I130_84 (by unfold zInR; omega) ?_
          refine zr_goto (t := 35) I130_87 rfl ?_
          refine ih _ (by omega) (by omega) _ _ (by omega) ?_
          rw [zSum_s _ h0, hy]
          (try dsimp only at *)
          split <;> omega
        · refine zr_iconst I130_77 ?_
          refine zr_goto (t := 82) I130_78 rfl ?_
          refine zr_iadd I130_82 (by unfold zInR; omega) ?_
          refine zl_ist3 I130_83 ?_
          refine zl_iinc4 I130_84 (by unfold zInR; omega) ?_
          refine zr_goto (t := 35) I130_87 rfl ?_
          refine ih _ (by omega) (by omega) _ _ (by omega) ?_
          rw [zSum_s _ h0, hy]
          (try dsimp only at *)
          split <;> omega
set_option maxRecDepth 10000 in
set_option maxHeartbeats 2000000 in
theorem e_X9_ranked_l {d n sl : Nat} {S : zSh} {c : zC} (hS : zSok S) (hB : zBd c) (hc : 0 ≤ c 146 3 ∧ c 146 3 ≤ 60) (hpn : 0 ≤ c 146 0 ∧ c 146 0 ≤ 16) {k : Int} (hex : ∃ q, 0 ≤ q ∧ q < c 146 0 ∧ zAh (fun p => zSum (fun j => if c 146 (230 + 4 * j + 0) = p then c 146 (230 + 4 * j + 2) else 0) (c 146 3)) (c 146 0) q = k) : ∀ i : Int, i ≤ c 146 0 → ∀ w3 : Option zV, ∀ w4 : Option zV, ∀ w5 : Option zV, (0 ≤ i) → (∀ j, 0 ≤ j → j < i → zAh (fun p => zSum (fun j => if c 146 (230 + 4 * j + 0) = p then c 146 (230 + 4 * j + 2) else 0) (c 146 3)) (c 146 0) j ≠ k) → zE (d + 2) 130 20 [some (zA 145), some (zI k), some (zI i), w3, w4, w5] [] ((n, sl), (S, c)) (zRp (zFind (c 146 0) (zAh (fun p => zSum (fun j => if c 146 (230 + 4 * j + 0) = p then c 146 (230 + 4 * j + 2) else 0) (c 146 3)) (c 146 0)) k) ((n, sl), (S, c))) := by
  refine zind _ (fun i ih hN => ?_)
  intro w3 w4 w5 h0 hp
  refine zl_ild2 I130_20 ?_
  refine zl_ald0 I130_21 ?_
  refine zr_getr (j := 0) I130_22 F9_7 rfl (sT145 hS) (sR145_0 hS) ?_
  refine zr_iconst I130_25 ?_
  refine zr_iaB hB (by decide) I130_26 (sT146 hS) (sN146 hS) (by omega) (fun b26 => ?_)
  refine zr_ic_ge (t := 103) I130_27 rfl (fun h27 => ?_) (fun h27 => ?_)
  · refine zr_bipush I130_103 ?_
    refine zr_iret I130_105 rfl ?_
    obtain ⟨q, q1, q2, q3⟩ := hex
    exact absurd q3 (hp q q1 (by omega))
  · refine zr_iconst I130_30 ?_
    refine zl_ist3 I130_31 ?_
    refine zr_iconst I130_32 ?_
    refine zl_ist4 I130_33 ?_
    refine e_X9_ranked_m hS hB hc hpn (fun w4 w5 => ?_) 0 (by omega) 0 _ (by omega) rfl
    refine zl_ild3 I130_90 ?_
    refine zl_ild1 I130_91 ?_
    refine zr_ic_ne (t := 97) I130_92 rfl (fun h92 => ?_) (fun h92 => ?_)
    · refine zl_iinc2 I130_97 (by unfold zInR; omega) ?_
      refine zr_goto (t := 20) I130_100 rfl ?_
      refine ih _ (by omega) (by omega) _ _ _ (by omega) (fun j j1 j2 => ?_)
      by_cases e : j = i
      · subst e; assumption
      · exact hp j j1 (by omega)
    · refine zl_ild2 I130_95 ?_
      refine zr_iret I130_96 rfl ?_
      exact ⟨_, rfl, Or.inl ⟨h0, by omega, by assumption, hp⟩, rfl⟩
set_option maxRecDepth 10000 in
set_option maxHeartbeats 2000000 in
theorem e_X9_ranked {d n sl : Nat} {S : zSh} {c : zC} (hS : zSok S) (hB : zBd c) (hc : 0 ≤ c 146 3 ∧ c 146 3 ≤ 60) (hpn : 0 ≤ c 146 0 ∧ c 146 0 ≤ 16) {k : Int} (hex : 0 ≤ k → k < c 146 0 → ∃ q, 0 ≤ q ∧ q < c 146 0 ∧ zAh (fun p => zSum (fun j => if c 146 (230 + 4 * j + 0) = p then c 146 (230 + 4 * j + 2) else 0) (c 146 3)) (c 146 0) q = k) : zE (d + 2) 130 0 (zent 130 [zA 145, zI k]) [] ((n, sl), (S, c)) (fun r μ' => (¬ (0 ≤ k ∧ k < c 146 0) ∧ zRd (-1) ((n, sl), (S, c)) r μ') ∨ ((0 ≤ k ∧ k < c 146 0) ∧ zRp (zFind (c 146 0) (zAh (fun p => zSum (fun j => if c 146 (230 + 4 * j + 0) = p then c 146 (230 + 4 * j + 2) else 0) (c 146 3)) (c 146 0)) k) ((n, sl), (S, c)) r μ')) := by
  show zE (d + 2) 130 0 [some (zA 145), some (zI k), none, none, none, none] [] ((n, sl), (S, c)) _
  refine zl_ild1 I130_0 ?_
  refine zr_iconst I130_1 ?_
  refine zl_ald0 I130_2 ?_
  refine zr_getr (j := 0) I130_3 F9_7 rfl (sT145 hS) (sR145_0 hS) ?_
  refine zr_iconst I130_6 ?_
  refine zr_iaB hB (by decide) I130_7 (sT146 hS) (sN146 hS) (by omega) (fun b7 => ?_)
  refine zr_iconst I130_8 ?_
  refine zr_isub I130_9 (by unfold zInR; omega) ?_
  refine zr_callS I130_10 C9_41 ⟨rfl, rfl⟩ ⟨by simp, rfl, Nat.le_of_ble_eq_true rfl⟩ (e_X9_in ) (fun v10 μ10 hv10 => ?_)
  obtain ⟨x10, rfl, hx10, rfl⟩ := hv10
  dsimp only [Option.toList, List.cons_append, List.nil_append]
  unfold zTf at hx10
  refine zr_if_ne (t := 18) I130_13 rfl (fun h13 => ?_) (fun h13 => ?_)
  · refine zr_iconst I130_18 ?_
    refine zl_ist2 I130_19 ?_
    exact zE.mono (e_X9_ranked_l hS hB hc hpn (hex (by omega) (by omega)) 0 (by omega) _ _ _ (by omega) (fun j j1 j2 => absurd j1 (by omega))) (fun r μ' h => Or.inr ⟨by omega, h⟩)
  · refine zr_iconst I130_16 ?_
    refine zr_iret I130_17 rfl ?_
    exact Or.inl ⟨by omega, rfl, rfl⟩
/-- y is the number of the first i items that break a blackout -/
def zCnt8 (c : zC) : Nat → Int → Prop
  | 0, y => y = 0
  | j + 1, y => (zDk (c 20 0) (c 21) (c 22) (c 23) (c 13 (c 25 (j : Int))) (c 26 (j : Int)) (c 26 (j : Int) + c 27 (j : Int)) ∧ zCnt8 c j (y - 1)) ∨ (¬ zDk (c 20 0) (c 21) (c 22) (c 23) (c 13 (c 25 (j : Int))) (c 26 (j : Int)) (c 26 (j : Int) + c 27 (j : Int)) ∧ zCnt8 c j y)
theorem zCnt8_b (c : zC) : ∀ (k : Nat) (y : Int), zCnt8 c k y → 0 ≤ y ∧ y ≤ k
  | 0, y, h => by
    have h : y = 0 := h
    omega
  | k + 1, y, h => by
    rcases h with ⟨-, h⟩ | ⟨-, h⟩
    · have := zCnt8_b c k _ h
      omega
    · have := zCnt8_b c k _ h
      omega
set_option maxRecDepth 10000 in
set_option maxHeartbeats 2000000 in
theorem e_X8_broken_l {d n sl : Nat} {S : zSh} {c : zC} (hS : zSok S) (hB : zBd c) (hc : 0 ≤ c 24 0 ∧ c 24 0 ≤ 60) (hbl : ∀ j, 0 ≤ j → j < c 20 0 → 0 ≤ c 21 j ∧ c 21 j < c 22 j ∧ c 22 j ≤ 1440) (hn : 0 ≤ c 20 0 ∧ c 20 0 ≤ 10) (hit : ∀ i, 0 ≤ i → i < c 24 0 → 0 ≤ c 25 i ∧ c 25 i < 16 ∧ 0 ≤ c 26 i ∧ c 26 i + c 27 i ≤ 10080 ∧ c 26 i < c 26 i + c 27 i) : ∀ i : Int, i ≤ c 24 0 → ∀ y : Int, ∀ w3 : Option zV, (0 ≤ i) → (zCnt8 c i.toNat y) → zE (d + 1) 58 4 [some (zA 8), some (zI y), some (zI i), w3] [] ((n, sl), (S, c)) (zRp (zCnt8 c (c 24 0).toNat) ((n, sl), (S, c))) := by
  refine zind _ (fun i ih hN => ?_)
  intro y w3 h0 hy
  refine zl_ild2 I58_4 ?_
  refine zl_ald0 I58_5 ?_
  refine zr_getr (j := 0) I58_6 F8_12 rfl (sT8 hS) (sR8_0 hS) ?_
  refine zr_getr (j := 3) I58_9 F8_102 rfl (sT9 hS) (sR9_3 hS) ?_
  refine zr_giB (j := 0) hB (by decide) I58_12 F8_112 rfl (sT24 hS) (fun b12 => ?_)
  refine zr_ic_ge (t := 90) I58_15 rfl (fun h15 => ?_) (fun h15 => ?_)
  · refine zl_ild1 I58_90 ?_
    refine zr_iret I58_91 rfl ?_
    exact ⟨_, rfl, by rw [show c 24 0 = i by omega]; exact hy, rfl⟩
  · have hit1 := hit i h0 (by omega)
    have hyb := zCnt8_b c _ _ hy
    refine zl_ald0 I58_18 ?_
    refine zr_getr (j := 0) I58_19 F8_12 rfl (sT8 hS) (sR8_0 hS) ?_
    refine zr_getr (j := 0) I58_22 F8_48 rfl (sT9 hS) (sR9_0 hS) ?_
    refine zr_getr (j := 3) I58_25 F8_182 rfl (sT10 hS) (sR10_3 hS) ?_
    refine zl_ald0 I58_28 ?_
    refine zr_getr (j := 0) I58_29 F8_12 rfl (sT8 hS) (sR8_0 hS) ?_
    refine zr_getr (j := 3) I58_32 F8_102 rfl (sT9 hS) (sR9_3 hS) ?_
    refine zr_getr (j := 1) I58_35 F8_147 rfl (sT24 hS) (sR24_1 hS) ?_
    refine zl_ild2 I58_38 ?_
    refine zr_iaB hB (by decide) I58_39 (sT25 hS) (sN25 hS) (by omega) (fun b39 => ?_)
    refine zr_iaB hB (by decide) I58_40 (sT13 hS) (sN13 hS) (by omega) (fun b40 => ?_)
    refine zl_ist3 I58_41 ?_
    refine zl_ald0 I58_42 ?_
    refine zr_getr (j := 0) I58_43 F8_12 rfl (sT8 hS) (sR8_0 hS) ?_
    refine zr_getr (j := 2) I58_46 F8_83 rfl (sT9 hS) (sR9_2 hS) ?_
    refine zl_ild3 I58_49 ?_
    refine zl_ald0 I58_50 ?_
    refine zr_getr (j := 0) I58_51 F8_12 rfl (sT8 hS) (sR8_0 hS) ?_
    refine zr_getr (j := 3) I58_54 F8_102 rfl (sT9 hS) (sR9_3 hS) ?_
    refine zr_getr (j := 2) I58_57 F8_150 rfl (sT24 hS) (sR24_2 hS) ?_
    refine zl_ild2 I58_60 ?_
    refine zr_iaB hB (by decide) I58_61 (sT26 hS) (sN26 hS) (by omega) (fun b61 => ?_)
    refine zl_ald0 I58_62 ?_
    refine zr_getr (j := 0) I58_63 F8_12 rfl (sT8 hS) (sR8_0 hS) ?_
    refine zr_getr (j := 3) I58_66 F8_102 rfl (sT9 hS) (sR9_3 hS) ?_
    refine zl_ild2 I58_69 ?_
    refine zr_callV I58_70 C8_137 ⟨rfl, rfl⟩ ⟨rfl, Nat.le_of_ble_eq_true rfl⟩ (Or.inl ⟨rfl, sT24 hS⟩) (e_X3_end hS hB (by omega)) (fun v70 μ70 hv70 => ?_)
    obtain ⟨rfl, rfl⟩ := hv70
    dsimp only [Option.toList, List.cons_append, List.nil_append]
    refine zr_callV I58_73 C8_185 ⟨rfl, rfl⟩ ⟨rfl, Nat.le_of_ble_eq_true rfl⟩ (Or.inl ⟨rfl, sT20 hS⟩) (e_X0_darkUntil hS hB hbl hn (by omega) (by omega)) (fun v73 μ73 hv73 => ?_)
    obtain ⟨x73, rfl, hx73, rfl⟩ := hv73
    dsimp only [Option.toList, List.cons_append, List.nil_append]
    refine zr_bipush I58_76 ?_
    refine zr_ic_eq (t := 84) I58_78 rfl (fun h78 => ?_) (fun h78 => ?_)
    · refine zl_iinc2 I58_84 (by unfold zInR; omega) ?_
      refine zr_goto (t := 4) I58_87 rfl ?_
      refine ih _ (by omega) (by omega) _ _ (by omega) ?_
      rw [show (i + 1).toNat = i.toNat + 1 by omega]
      unfold zCnt8
      rw [show ((i.toNat : Nat) : Int) = i by omega]
      have hz := zDkU_hit hbl (by omega) hx73
      exact Or.inr ⟨hz.mp (by omega), hy⟩
    · refine zl_iinc1 I58_81 (by unfold zInR; omega) ?_
      refine zl_iinc2 I58_84 (by unfold zInR; omega) ?_
      refine zr_goto (t := 4) I58_87 rfl ?_
      refine ih _ (by omega) (by omega) _ _ (by omega) ?_
      rw [show (i + 1).toNat = i.toNat + 1 by omega]
      unfold zCnt8
      rw [show ((i.toNat : Nat) : Int) = i by omega]
      have hz := zDkU_hit hbl (by omega) hx73
      exact Or.inl ⟨Classical.byContradiction (fun h => by have := hz.mpr h; omega), by rw [show y + 1 - 1 = y by omega]; exact hy⟩
set_option maxRecDepth 10000 in
set_option maxHeartbeats 2000000 in
theorem e_X8_broken {d n sl : Nat} {S : zSh} {c : zC} (hS : zSok S) (hB : zBd c) (hc : 0 ≤ c 24 0 ∧ c 24 0 ≤ 60) (hbl : ∀ j, 0 ≤ j → j < c 20 0 → 0 ≤ c 21 j ∧ c 21 j < c 22 j ∧ c 22 j ≤ 1440) (hn : 0 ≤ c 20 0 ∧ c 20 0 ≤ 10) (hit : ∀ i, 0 ≤ i → i < c 24 0 → 0 ≤ c 25 i ∧ c 25 i < 16 ∧ 0 ≤ c 26 i ∧ c 26 i + c 27 i ≤ 10080 ∧ c 26 i < c 26 i + c 27 i) : zE (d + 1) 58 0 (zent 58 [zA 8]) [] ((n, sl), (S, c)) (zRp (zCnt8 c (c 24 0).toNat) ((n, sl), (S, c))) := by
  show zE (d + 1) 58 0 [some (zA 8), none, none, none] [] ((n, sl), (S, c)) _
  refine zr_iconst I58_0 ?_
  refine zl_ist1 I58_1 ?_
  refine zr_iconst I58_2 ?_
  refine zl_ist2 I58_3 ?_
  exact e_X8_broken_l hS hB hc hbl hn hit 0 (by omega) 0 _ (by omega) rfl
/-- y is the number of the first i items that break a blackout -/
def zCnt145 (c : zC) : Nat → Int → Prop
  | 0, y => y = 0
  | j + 1, y => (zDk (c 146 1) (fun j => c 146 (80 + 3 * j)) (fun j => c 146 (80 + 3 * j + 1)) (fun j => c 146 (80 + 3 * j + 2)) (c 146 (10 + 4 * c 146 (230 + 4 * (j : Int) + 0) + 2)) (c 146 (230 + 4 * (j : Int) + 1)) (c 146 (230 + 4 * (j : Int) + 1) + c 146 (230 + 4 * (j : Int) + 2)) ∧ zCnt145 c j (y - 1)) ∨ (¬ zDk (c 146 1) (fun j => c 146 (80 + 3 * j)) (fun j => c 146 (80 + 3 * j + 1)) (fun j => c 146 (80 + 3 * j + 2)) (c 146 (10 + 4 * c 146 (230 + 4 * (j : Int) + 0) + 2)) (c 146 (230 + 4 * (j : Int) + 1)) (c 146 (230 + 4 * (j : Int) + 1) + c 146 (230 + 4 * (j : Int) + 2)) ∧ zCnt145 c j y)
theorem zCnt145_b (c : zC) : ∀ (k : Nat) (y : Int), zCnt145 c k y → 0 ≤ y ∧ y ≤ k
  | 0, y, h => by
    have h : y = 0 := h
    omega
  | k + 1, y, h => by
    rcases h with ⟨-, h⟩ | ⟨-, h⟩
    · have := zCnt145_b c k _ h
      omega
    · have := zCnt145_b c k _ h
      omega
set_option maxRecDepth 10000 in
set_option maxHeartbeats 2000000 in
theorem e_X9_broken_l {d n sl : Nat} {S : zSh} {c : zC} (hS : zSok S) (hB : zBd c) (hc : 0 ≤ c 146 3 ∧ c 146 3 ≤ 60) (hbl : ∀ j, 0 ≤ j → j < c 146 1 → 0 ≤ c 146 (80 + 3 * j) ∧ c 146 (80 + 3 * j) < c 146 (80 + 3 * j + 1) ∧ c 146 (80 + 3 * j + 1) ≤ 1440) (hn : 0 ≤ c 146 1 ∧ c 146 1 ≤ 10) (hit : ∀ i, 0 ≤ i → i < c 146 3 → 0 ≤ c 146 (230 + 4 * i + 0) ∧ c 146 (230 + 4 * i + 0) < 16 ∧ 0 ≤ c 146 (230 + 4 * i + 1) ∧ c 146 (230 + 4 * i + 1) + c 146 (230 + 4 * i + 2) ≤ 10080 ∧ c 146 (230 + 4 * i + 1) < c 146 (230 + 4 * i + 1) + c 146 (230 + 4 * i + 2)) : ∀ i : Int, i ≤ c 146 3 → ∀ y : Int, (0 ≤ i) → (zCnt145 c i.toNat y) → zE (d + 2) 131 4 [some (zA 145), some (zI y), some (zI i)] [] ((n, sl), (S, c)) (zRp (zCnt145 c (c 146 3).toNat) ((n, sl), (S, c))) := by
  refine zind _ (fun i ih hN => ?_)
  intro y h0 hy
  refine zl_ild2 I131_4 ?_
  refine zl_ald0 I131_5 ?_
  refine zr_getr (j := 0) I131_6 F9_7 rfl (sT145 hS) (sR145_0 hS) ?_
  refine zr_iconst I131_9 ?_
  refine zr_iaB hB (by decide) I131_10 (sT146 hS) (sN146 hS) (by omega) (fun b10 => ?_)
  refine zr_ic_ge (t := 52) I131_11 rfl (fun h11 => ?_) (fun h11 => ?_)
  · refine zl_ild1 I131_52 ?_
    refine zr_iret I131_53 rfl ?_
    exact ⟨_, rfl, by rw [show c 146 3 = i by omega]; exact hy, rfl⟩
  · have g0 := hB 146 (230 + 4 * i + 0) (by decide)
    have g1 := hB 146 (230 + 4 * i + 1) (by decide)
    have g2 := hB 146 (230 + 4 * i + 2) (by decide)
    have hit1 := hit i h0 (by omega)
    have hyb := zCnt145_b c _ _ hy
    refine zl_ild1 I131_14 ?_
    refine zl_ald0 I131_15 ?_
    refine zl_ald0 I131_16 ?_
    refine zl_ild2 I131_17 ?_
    refine zr_iconst I131_18 ?_
    refine zr_callV I131_19 C9_45 ⟨rfl, rfl⟩ ⟨rfl, Nat.le_of_ble_eq_true rfl⟩ (Or.inl ⟨rfl, sT145 hS⟩) (e_X9_of hS hB (by omega) (by omega)) (fun v19 μ19 hv19 => ?_)
    obtain ⟨rfl, rfl⟩ := hv19
    dsimp only [Option.toList, List.cons_append, List.nil_append]
    refine zl_ald0 I131_22 ?_
    refine zl_ild2 I131_23 ?_
    refine zr_iconst I131_24 ?_
    refine zr_callV I131_25 C9_45 ⟨rfl, rfl⟩ ⟨rfl, Nat.le_of_ble_eq_true rfl⟩ (Or.inl ⟨rfl, sT145 hS⟩) (e_X9_of hS hB (by omega) (by omega)) (fun v25 μ25 hv25 => ?_)
    obtain ⟨rfl, rfl⟩ := hv25
    dsimp only [Option.toList, List.cons_append, List.nil_append]
    refine zl_ald0 I131_28 ?_
    refine zl_ild2 I131_29 ?_
    refine zr_callV I131_30 C9_70 ⟨rfl, rfl⟩ ⟨rfl, Nat.le_of_ble_eq_true rfl⟩ (Or.inl ⟨rfl, sT145 hS⟩) (e_X9_end hS hB (by omega)) (fun v30 μ30 hv30 => ?_)
    obtain ⟨rfl, rfl⟩ := hv30
    dsimp only [Option.toList, List.cons_append, List.nil_append]
    refine zr_callV I131_33 C9_90 ⟨rfl, rfl⟩ ⟨rfl, Nat.le_of_ble_eq_true rfl⟩ (Or.inl ⟨rfl, sT145 hS⟩) (e_X9_isDark hS hB hbl hn (by omega) (by omega) (by omega)) (fun v33 μ33 hv33 => ?_)
    obtain ⟨x33, rfl, hx33, rfl⟩ := hv33
    dsimp only [Option.toList, List.cons_append, List.nil_append]
    unfold zTf at hx33
    refine zr_if_eq (t := 43) I131_36 rfl (fun h36 => ?_) (fun h36 => ?_)
    · refine zr_iconst I131_43 ?_
      refine zr_iadd I131_44 (by unfold zInR; omega) ?_
      refine zl_ist1 I131_45 ?_
      refine zl_iinc2 I131_46 (by unfold zInR; omega) ?_
      refine zr_goto (t := 4) I131_49 rfl ?_
      refine ih _ (by omega) (by omega) _ (by omega) ?_
      rw [show (i + 1).toNat = i.toNat + 1 by omega]
      unfold zCnt145
      rw [show ((i.toNat : Nat) : Int) = i by omega]
      rcases hx33 with ⟨e1, e2⟩ | ⟨e1, e2⟩
      · omega
      · exact Or.inr ⟨e2, by rw [show y + 0 = y by omega]; exact hy⟩
    · refine zr_iconst I131_39 ?_
      refine zr_goto (t := 44) I131_40 rfl ?_
      refine zr_iadd I131_44 (by unfold zInR; omega) ?_
      refine zl_ist1 I131_45 ?_
      refine zl_iinc2 I131_46 (by unfold zInR; omega) ?_
      refine zr_goto (t := 4) I131_49 rfl ?_
      refine ih _ (by omega) (by omega) _ (by omega) ?_
      rw [show (i + 1).toNat = i.toNat + 1 by omega]
      unfold zCnt145
      rw [show ((i.toNat : Nat) : Int) = i by omega]
      rcases hx33 with ⟨e1, e2⟩ | ⟨e1, e2⟩
      · exact Or.inl ⟨e2, by rw [show y + 1 - 1 = y by omega]; exact hy⟩
      · omega
set_option maxRecDepth 10000 in
set_option maxHeartbeats 2000000 in
theorem e_X9_broken {d n sl : Nat} {S : zSh} {c : zC} (hS : zSok S) (hB : zBd c) (hc : 0 ≤ c 146 3 ∧ c 146 3 ≤ 60) (hbl : ∀ j, 0 ≤ j → j < c 146 1 → 0 ≤ c 146 (80 + 3 * j) ∧ c 146 (80 + 3 * j) < c 146 (80 + 3 * j + 1) ∧ c 146 (80 + 3 * j + 1) ≤ 1440) (hn : 0 ≤ c 146 1 ∧ c 146 1 ≤ 10) (hit : ∀ i, 0 ≤ i → i < c 146 3 → 0 ≤ c 146 (230 + 4 * i + 0) ∧ c 146 (230 + 4 * i + 0) < 16 ∧ 0 ≤ c 146 (230 + 4 * i + 1) ∧ c 146 (230 + 4 * i + 1) + c 146 (230 + 4 * i + 2) ≤ 10080 ∧ c 146 (230 + 4 * i + 1) < c 146 (230 + 4 * i + 1) + c 146 (230 + 4 * i + 2)) : zE (d + 2) 131 0 (zent 131 [zA 145]) [] ((n, sl), (S, c)) (zRp (zCnt145 c (c 146 3).toNat) ((n, sl), (S, c))) := by
  show zE (d + 2) 131 0 [some (zA 145), none, none] [] ((n, sl), (S, c)) _
  refine zr_iconst I131_0 ?_
  refine zl_ist1 I131_1 ?_
  refine zr_iconst I131_2 ?_
  refine zl_ist2 I131_3 ?_
  exact e_X9_broken_l hS hB hc hbl hn hit 0 (by omega) 0 (by omega) rfl
