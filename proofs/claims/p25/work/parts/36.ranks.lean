/-! ranks, broken blackouts -/
def zAh (f : Int → Int) (n p : Int) : Int := zSum (fun q => if f p < f q ∨ (f q = f p ∧ q < p) then 1 else 0) n
set_option maxRecDepth 10000 in
set_option maxHeartbeats 2000000 in
theorem e_X8_programmesAhead_l {d n sl : Nat} {S : zSh} {c : zC} (hS : zSok S) (hB : zBd c) (hc : 0 ≤ c 24 0 ∧ c 24 0 ≤ 60) (hpn : 0 ≤ c 10 0 ∧ c 10 0 ≤ 16) {p : Int} : ∀ i : Int, i ≤ c 10 0 → ∀ y : Int, ∀ w5 : Option zV, (0 ≤ i) → (y = zSum (fun q => if (fun p => zSum (fun j => if c 25 j = p then c 27 j else 0) (c 24 0)) p < (fun p => zSum (fun j => if c 25 j = p then c 27 j else 0) (c 24 0)) q ∨ ((fun p => zSum (fun j => if c 25 j = p then c 27 j else 0) (c 24 0)) q = (fun p => zSum (fun j => if c 25 j = p then c 27 j else 0) (c 24 0)) p ∧ q < p) then 1 else 0) i) → zE (d + 2) 81 17 [some (zA 8), some (zI p), some (zI ((fun p => zSum (fun j => if c 25 j = p then c 27 j else 0) (c 24 0)) p)), some (zI y), some (zI i), w5] [] ((n, sl), (S, c)) (zRd (zAh (fun p => zSum (fun j => if c 25 j = p then c 27 j else 0) (c 24 0)) (c 10 0) p) ((n, sl), (S, c))) := by
  refine zind _ (fun i ih hN => ?_)
  intro y w5 h0 hy
  have hmb := zSum_le (f := (fun q => if (fun p => zSum (fun j => if c 25 j = p then c 27 j else 0) (c 24 0)) p < (fun p => zSum (fun j => if c 25 j = p then c 27 j else 0) (c 24 0)) q ∨ ((fun p => zSum (fun j => if c 25 j = p then c 27 j else 0) (c 24 0)) q = (fun p => zSum (fun j => if c 25 j = p then c 27 j else 0) (c 24 0)) p ∧ q < p) then 1 else 0)) (lo := 0) (hi := 1) i h0 (fun j _ _ => by (try dsimp only); split <;> omega)
  refine zl_ild4 I81_17 ?_
  refine zl_ald0 I81_19 ?_
  refine zr_getr (j := 0) I81_20 F8_12 rfl (sT8 hS) (sR8_0 hS) ?_
  refine zr_getr (j := 0) I81_23 F8_48 rfl (sT9 hS) (sR9_0 hS) ?_
  refine zr_giB (j := 0) hB (by decide) I81_26 F8_52 rfl (sT10 hS) (fun b26 => ?_)
  refine zr_ic_ge (t := 73) I81_29 rfl (fun h29 => ?_) (fun h29 => ?_)
  · refine zl_ild3 I81_73 ?_
    refine zr_iret I81_74 rfl ?_
    exact ⟨by rw [hy, show i = c 10 0 by omega]; rfl, rfl⟩
  · refine zl_ald0 I81_32 ?_
    refine zr_getr (j := 0) I81_33 F8_12 rfl (sT8 hS) (sR8_0 hS) ?_
    refine zr_getr (j := 3) I81_36 F8_102 rfl (sT9 hS) (sR9_3 hS) ?_
    refine zl_ild4 I81_39 ?_
    refine zr_callV I81_41 C8_256 ⟨rfl, rfl⟩ ⟨rfl, Nat.le_of_ble_eq_true rfl⟩ (Or.inl ⟨rfl, sT24 hS⟩) (e_X3_minutesOf hS hB hc) (fun v41 μ41 hv41 => ?_)
    obtain ⟨rfl, rfl⟩ := hv41
    dsimp only [Option.toList, List.cons_append, List.nil_append]
    refine zl_ist5 I81_44 ?_
    refine zl_ild5 I81_46 ?_
    refine zl_ild2 I81_48 ?_
    refine zr_ic_gt (t := 64) I81_49 rfl (fun h49 => ?_) (fun h49 => ?_)
    · refine zl_iinc3 I81_64 (by unfold zInR; omega) ?_
      refine zl_iinc4 I81_67 (by unfold zInR; omega) ?_
      refine zr_goto (t := 17) I81_70 rfl ?_
      refine ih _ (by omega) (by omega) _ _ (by omega) ?_
      rw [zSum_s _ h0, hy]
      (try dsimp only at *)
      split <;> omega
    · refine zl_ild5 I81_52 ?_
      refine zl_ild2 I81_54 ?_
      refine zr_ic_ne (t := 67) I81_55 rfl (fun h55 => ?_) (fun h55 => ?_)
      · refine zl_iinc4 I81_67 (by unfold zInR; omega) ?_
        refine zr_goto (t := 17) I81_70 rfl ?_
        refine ih _ (by omega) (by omega) _ _ (by omega) ?_
        rw [zSum_s _ h0, hy]
        (try dsimp only at *)
        split <;> omega
      · refine zl_ild4 I81_58 ?_
        refine zl_ild1 I81_60 ?_
        refine zr_ic_ge (t := 67) I81_61 rfl (fun h61 => ?_) (fun h61 => ?_)
        · refine zl_iinc4 I81_67 (by unfold zInR; omega) ?_
          refine zr_goto (t := 17) I81_70 rfl ?_
          refine ih _ (by omega) (by omega) _ _ (by omega) ?_
          rw [zSum_s _ h0, hy]
          (try dsimp only at *)
          split <;> omega
        · refine zl_iinc3 I81_64 (by unfold zInR; omega) ?_
          refine zl_iinc4 I81_67 (by unfold zInR; omega) ?_
          refine zr_goto (t := 17) I81_70 rfl ?_
          refine ih _ (by omega) (by omega) _ _ (by omega) ?_
          rw [zSum_s _ h0, hy]
          (try dsimp only at *)
          split <;> omega
set_option maxRecDepth 10000 in
set_option maxHeartbeats 2000000 in
theorem e_X8_programmesAhead {d n sl : Nat} {S : zSh} {c : zC} (hS : zSok S) (hB : zBd c) (hc : 0 ≤ c 24 0 ∧ c 24 0 ≤ 60) (hpn : 0 ≤ c 10 0 ∧ c 10 0 ≤ 16) {p : Int} : zE (d + 2) 81 0 (zent 81 [zA 8, zI p]) [] ((n, sl), (S, c)) (zRd (zAh (fun p => zSum (fun j => if c 25 j = p then c 27 j else 0) (c 24 0)) (c 10 0) p) ((n, sl), (S, c))) := by
  show zE (d + 2) 81 0 [some (zA 8), some (zI p), none, none, none, none] [] ((n, sl), (S, c)) _
  refine zl_ald0 I81_0 ?_
  refine zr_getr (j := 0) I81_1 F8_12 rfl (sT8 hS) (sR8_0 hS) ?_
  refine zr_getr (j := 3) I81_4 F8_102 rfl (sT9 hS) (sR9_3 hS) ?_
  refine zl_ild1 I81_7 ?_
  refine zr_callV I81_8 C8_256 ⟨rfl, rfl⟩ ⟨rfl, Nat.le_of_ble_eq_true rfl⟩ (Or.inl ⟨rfl, sT24 hS⟩) (e_X3_minutesOf hS hB hc) (fun v8 μ8 hv8 => ?_)
  obtain ⟨rfl, rfl⟩ := hv8
  dsimp only [Option.toList, List.cons_append, List.nil_append]
  refine zl_ist2 I81_11 ?_
  refine zr_iconst I81_12 ?_
  refine zl_ist3 I81_13 ?_
  refine zr_iconst I81_14 ?_
  refine zl_ist4 I81_15 ?_
  exact e_X8_programmesAhead_l hS hB hc hpn 0 (by omega) 0 _ (by omega) rfl
set_option maxRecDepth 10000 in
set_option maxHeartbeats 2000000 in
theorem e_X8_ranked_l {d n sl : Nat} {S : zSh} {c : zC} (hS : zSok S) (hB : zBd c) (hc : 0 ≤ c 24 0 ∧ c 24 0 ≤ 60) (hpn : 0 ≤ c 10 0 ∧ c 10 0 ≤ 16) {k : Int} (hex : ∃ q, 0 ≤ q ∧ q < c 10 0 ∧ zAh (fun p => zSum (fun j => if c 25 j = p then c 27 j else 0) (c 24 0)) (c 10 0) q = k) : ∀ i : Int, i ≤ c 10 0 → (0 ≤ i) → (∀ j, 0 ≤ j → j < i → zAh (fun p => zSum (fun j => if c 25 j = p then c 27 j else 0) (c 24 0)) (c 10 0) j ≠ k) → zE (d + 3) 57 24 [some (zA 8), some (zI k), some (zI i)] [] ((n, sl), (S, c)) (zRp (zFind (c 10 0) (zAh (fun p => zSum (fun j => if c 25 j = p then c 27 j else 0) (c 24 0)) (c 10 0)) k) ((n, sl), (S, c))) := by
  refine zind _ (fun i ih hN => ?_)
  intro h0 hp
  refine zl_ild2 I57_24 ?_
  refine zl_ald0 I57_25 ?_
  refine zr_getr (j := 0) I57_26 F8_12 rfl (sT8 hS) (sR8_0 hS) ?_
  refine zr_getr (j := 0) I57_29 F8_48 rfl (sT9 hS) (sR9_0 hS) ?_
  refine zr_giB (j := 0) hB (by decide) I57_32 F8_52 rfl (sT10 hS) (fun b32 => ?_)
  refine zr_ic_ge (t := 55) I57_35 rfl (fun h35 => ?_) (fun h35 => ?_)
  · refine zr_iconst I57_55 ?_
    refine zr_iret I57_56 rfl ?_
    obtain ⟨q, q1, q2, q3⟩ := hex
    exact absurd q3 (hp q q1 (by omega))
  · refine zl_ald0 I57_38 ?_
    refine zl_ild2 I57_39 ?_
    refine zr_callV I57_40 C8_179 ⟨rfl, rfl⟩ ⟨rfl, Nat.le_of_ble_eq_true rfl⟩ (Or.inl ⟨rfl, sT8 hS⟩) (e_X8_programmesAhead hS hB hc hpn) (fun v40 μ40 hv40 => ?_)
    obtain ⟨rfl, rfl⟩ := hv40
    dsimp only [Option.toList, List.cons_append, List.nil_append]
    refine zl_ild1 I57_43 ?_
    refine zr_ic_ne (t := 49) I57_44 rfl (fun h44 => ?_) (fun h44 => ?_)
    · refine zl_iinc2 I57_49 (by unfold zInR; omega) ?_
      refine zr_goto (t := 24) I57_52 rfl ?_
      refine ih _ (by omega) (by omega) (by omega) (fun j j1 j2 => ?_)
      by_cases e : j = i
      · subst e; assumption
      · exact hp j j1 (by omega)
    · refine zl_ild2 I57_47 ?_
      refine zr_iret I57_48 rfl ?_
      exact ⟨_, rfl, Or.inl ⟨h0, by omega, by assumption, hp⟩, rfl⟩
set_option maxRecDepth 10000 in
set_option maxHeartbeats 2000000 in
theorem e_X8_ranked {d n sl : Nat} {S : zSh} {c : zC} (hS : zSok S) (hB : zBd c) (hc : 0 ≤ c 24 0 ∧ c 24 0 ≤ 60) (hpn : 0 ≤ c 10 0 ∧ c 10 0 ≤ 16) {k : Int} (hex : 0 ≤ k → k < c 10 0 → ∃ q, 0 ≤ q ∧ q < c 10 0 ∧ zAh (fun p => zSum (fun j => if c 25 j = p then c 27 j else 0) (c 24 0)) (c 10 0) q = k) : zE (d + 3) 57 0 (zent 57 [zA 8, zI k]) [] ((n, sl), (S, c)) (fun r μ' => (¬ (0 ≤ k ∧ k < c 10 0) ∧ zRd (-1) ((n, sl), (S, c)) r μ') ∨ ((0 ≤ k ∧ k < c 10 0) ∧ zRp (zFind (c 10 0) (zAh (fun p => zSum (fun j => if c 25 j = p then c 27 j else 0) (c 24 0)) (c 10 0)) k) ((n, sl), (S, c)) r μ')) := by
  show zE (d + 3) 57 0 [some (zA 8), some (zI k), none] [] ((n, sl), (S, c)) _
  refine zl_ild1 I57_0 ?_
  refine zr_iconst I57_1 ?_
  refine zl_ald0 I57_2 ?_
  refine zr_getr (j := 0) I57_3 F8_12 rfl (sT8 hS) (sR8_0 hS) ?_
  refine zr_getr (j := 0) I57_6 F8_48 rfl (sT9 hS) (sR9_0 hS) ?_
  refine zr_giB (j := 0) hB (by decide) I57_9 F8_52 rfl (sT10 hS) (fun b9 => ?_)
  refine zr_iconst I57_12 ?_
  refine zr_isub I57_13 (by unfold zInR; omega) ?_
  refine zr_callS I57_14 C8_44 ⟨rfl, rfl⟩ ⟨by simp, rfl, Nat.le_of_ble_eq_true rfl⟩ (e_X8_within ) (fun v14 μ14 hv14 => ?_)
  obtain ⟨x14, rfl, hx14, rfl⟩ := hv14
  dsimp only [Option.toList, List.cons_append, List.nil_append]
  unfold zTf at hx14
  refine zr_if_ne (t := 22) I57_17 rfl (fun h17 => ?_) (fun h17 => ?_)
  · refine zr_iconst I57_22 ?_
    refine zl_ist2 I57_23 ?_
    exact zE.mono (e_X8_ranked_l hS hB hc hpn (hex (by omega) (by omega)) 0 (by omega) (by omega) (fun j j1 j2 => absurd j1 (by omega))) (fun r μ' h => Or.inr ⟨by omega, h⟩)
  · refine zr_iconst I57_20 ?_
    refine zr_iret I57_21 rfl ?_
    exact Or.inl ⟨by omega, rfl, rfl⟩
/-- y is the number of the first i items that break a blackout -/
def zCnt8 (c : zC) : Nat → Int → Prop
  | 0, y => y = 0
  | j + 1, y => (zDk (c 20 0) (c 21) (c 22) (c 23) (c 13 (c 25 (j : Int))) (c 26 (j : Int)) (c 26 (j : Int) + c 27 (j : Int)) ∧ zCnt8 c j (y - 1)) ∨ (¬ zDk (c 20 0) (c 21) (c 22) (c 23) (c 13 (c 25 (j : Int))) (c 26 (j : Int)) (c 26 (j : Int) + c 27 (j : Int)) ∧ zCnt8 c j y)
theorem zCnt8_b (c : zC) : ∀ (k : Nat) (y : Int), zCnt8 c k y → 0 ≤ y ∧ y ≤ k
  | 0, y, h => by
    have h : y = 0 := h
    omega
  | k + 1, y, h => by
    rcases h with ⟨-, h⟩ | ⟨-, h⟩
    · have := zCnt8_b c k _ h
      omega
    · have := zCnt8_b c k _ h
      omega
set_option maxRecDepth 10000 in
set_option maxHeartbeats 2000000 in
theorem e_X8_broken_l {d n sl : Nat} {S : zSh} {c : zC} (hS : zSok S) (hB : zBd c) (hc : 0 ≤ c 24 0 ∧ c 24 0 ≤ 60) (hbl : ∀ j, 0 ≤ j → j < c 20 0 → 0 ≤ c 21 j ∧ c 21 j < c 22 j ∧ c 22 j ≤ 1440) (hn : 0 ≤ c 20 0 ∧ c 20 0 ≤ 10) (hit : ∀ i, 0 ≤ i → i < c 24 0 → 0 ≤ c 25 i ∧ c 25 i < 16 ∧ 0 ≤ c 26 i ∧ c 26 i + c 27 i ≤ 10080 ∧ c 26 i < c 26 i + c 27 i) : ∀ i : Int, i ≤ c 24 0 → ∀ y : Int, ∀ w3 : Option zV, (0 ≤ i) → (zCnt8 c i.toNat y) → zE (d + 1) 58 4 [some (zA 8), some (zI y), some (zI i), w3] [] ((n, sl), (S, c)) (zRp (zCnt8 c (c 24 0).toNat) ((n, sl), (S, c))) := by
  refine zind _ (fun i ih hN => ?_)
  intro y w3 h0 hy
  refine zl_ild2 I58_4 ?_
  refine zl_ald0 I58_5 ?_
  refine zr_getr (j := 0) I58_6 F8_12 rfl (sT8 hS) (sR8_0 hS) ?_
  refine zr_getr (j := 3) I58_9 F8_102 rfl (sT9 hS) (sR9_3 hS) ?_
  refine zr_giB (j := 0) hB (by decide) I58_12 F8_112 rfl (sT24 hS) (fun b12 => ?_)
  refine zr_ic_ge (t := 90) I58_15 rfl (fun h15 => ?_) (fun h15 => ?_)
  · refine zl_ild1 I58_90 ?_
    refine zr_iret I58_91 rfl ?_
    exact ⟨_, rfl, by rw [show c 24 0 = i by omega]; exact hy, rfl⟩
  · have hit1 := hit i h0 (by omega)
    have hyb := zCnt8_b c _ _ hy
    refine zl_ald0 I58_18 ?_
    refine zr_getr (j := 0) I58_19 F8_12 rfl (sT8 hS) (sR8_0 hS) ?_
    refine zr_getr (j := 0) I58_22 F8_48 rfl (sT9 hS) (sR9_0 hS) ?_
    refine zr_getr (j := 3) I58_25 F8_182 rfl (sT10 hS) (sR10_3 hS) ?_
    refine zl_ald0 I58_28 ?_
    refine zr_getr (j := 0) I58_29 F8_12 rfl (sT8 hS) (sR8_0 hS) ?_
    refine zr_getr (j := 3) I58_32 F8_102 rfl (sT9 hS) (sR9_3 hS) ?_
    refine zr_getr (j := 1) I58_35 F8_147 rfl (sT24 hS) (sR24_1 hS) ?_
    refine zl_ild2 I58_38 ?_
    refine zr_iaB hB (by decide) I58_39 (sT25 hS) (sN25 hS) (by omega) (fun b39 => ?_)
    refine zr_iaB hB (by decide) I58_40 (sT13 hS) (sN13 hS) (by omega) (fun b40 => ?_)
    refine zl_ist3 I58_41 ?_
    refine zl_ald0 I58_42 ?_
    refine zr_getr (j := 0) I58_43 F8_12 rfl (sT8 hS) (sR8_0 hS) ?_
    refine zr_getr (j := 2) I58_46 F8_83 rfl (sT9 hS) (sR9_2 hS) ?_
    refine zl_ild3 I58_49 ?_
    refine zl_ald0 I58_50 ?_
    refine zr_getr (j := 0) I58_51 F8_12 rfl (sT8 hS) (sR8_0 hS) ?_
    refine zr_getr (j := 3) I58_54 F8_102 rfl (sT9 hS) (sR9_3 hS) ?_
    refine zr_getr (j := 2) I58_57 F8_150 rfl (sT24 hS) (sR24_2 hS) ?_
    refine zl_ild2 I58_60 ?_
    refine zr_iaB hB (by decide) I58_61 (sT26 hS) (sN26 hS) (by omega) (fun b61 => ?_)
    refine zl_ald0 I58_62 ?_
    refine zr_getr (j := 0) I58_63 F8_12 rfl (sT8 hS) (sR8_0 hS) ?_
    refine zr_getr (j := 3) I58_66 F8_102 rfl (sT9 hS) (sR9_3 hS) ?_
    refine zl_ild2 I58_69 ?_
    refine zr_callV I58_70 C8_137 ⟨rfl, rfl⟩ ⟨rfl, Nat.le_of_ble_eq_true rfl⟩ (Or.inl ⟨rfl, sT24 hS⟩) (e_X3_end hS hB (by omega)) (fun v70 μ70 hv70 => ?_)
    obtain ⟨rfl, rfl⟩ := hv70
    dsimp only [Option.toList, List.cons_append, List.nil_append]
    refine zr_callV I58_73 C8_185 ⟨rfl, rfl⟩ ⟨rfl, Nat.le_of_ble_eq_true rfl⟩ (Or.inl ⟨rfl, sT20 hS⟩) (e_X0_darkUntil hS hB hbl hn (by omega) (by omega)) (fun v73 μ73 hv73 => ?_)
    obtain ⟨x73, rfl, hx73, rfl⟩ := hv73
    dsimp only [Option.toList, List.cons_append, List.nil_append]
    refine zr_bipush I58_76 ?_
    refine zr_ic_eq (t := 84) I58_78 rfl (fun h78 => ?_) (fun h78 => ?_)
    · refine zl_iinc2 I58_84 (by unfold zInR; omega) ?_
      refine zr_goto (t := 4) I58_87 rfl ?_
      refine ih _ (by omega) (by omega) _ _ (by omega) ?_
      rw [show (i + 1).toNat = i.toNat + 1 by omega]
      unfold zCnt8
      rw [show ((i.toNat : Nat) : Int) = i by omega]
      have hz := zDkU_hit hbl (by omega) hx73
      exact Or.inr ⟨hz.mp (by omega), hy⟩
    · refine zl_iinc1 I58_81 (by unfold zInR; omega) ?_
      refine zl_iinc2 I58_84 (by unfold zInR; omega) ?_
      refine zr_goto (t := 4) I58_87 rfl ?_
      refine ih _ (by omega) (by omega) _ _ (by omega) ?_
      rw [show (i + 1).toNat = i.toNat + 1 by omega]
      unfold zCnt8
      rw [show ((i.toNat : Nat) : Int) = i by omega]
      have hz := zDkU_hit hbl (by omega) hx73
      exact Or.inl ⟨Classical.byContradiction (fun h => by have := hz.mpr h; omega), by rw [show y + 1 - 1 = y by omega]; exact hy⟩
set_option maxRecDepth 10000 in
set_option maxHeartbeats 2000000 in
theorem e_X8_broken {d n sl : Nat} {S : zSh} {c : zC} (hS : zSok S) (hB : zBd c) (hc : 0 ≤ c 24 0 ∧ c 24 0 ≤ 60) (hbl : ∀ j, 0 ≤ j → j < c 20 0 → 0 ≤ c 21 j ∧ c 21 j < c 22 j ∧ c 22 j ≤ 1440) (hn : 0 ≤ c 20 0 ∧ c 20 0 ≤ 10) (hit : ∀ i, 0 ≤ i → i < c 24 0 → 0 ≤ c 25 i ∧ c 25 i < 16 ∧ 0 ≤ c 26 i ∧ c 26 i + c 27 i ≤ 10080 ∧ c 26 i < c 26 i + c 27 i) : zE (d + 1) 58 0 (zent 58 [zA 8]) [] ((n, sl), (S, c)) (zRp (zCnt8 c (c 24 0).toNat) ((n, sl), (S, c))) := by
  show zE (d + 1) 58 0 [some (zA 8), none, none, none] [] ((n, sl), (S, c)) _
  refine zr_iconst I58_0 ?_
  refine zl_ist1 I58_1 ?_
  refine zr_iconst I58_2 ?_
  refine zl_ist2 I58_3 ?_
  exact e_X8_broken_l hS hB hc hbl hn hit 0 (by omega) 0 _ (by omega) rfl
/-- y is the number of the first i items that break a blackout -/
def zCnt145 (c : zC) : Nat → Int → Prop
  | 0, y => y = 0
  | j + 1, y => (zDk (c 146 1) (fun j => c 146 (80 + 3 * j)) (fun j => c 146 (80 + 3 * j + 1)) (fun j => c 146 (80 + 3 * j + 2)) (c 146 (10 + 4 * c 146 (230 + 4 * (j : Int) + 0) + 2)) (c 146 (230 + 4 * (j : Int) + 1)) (c 146 (230 + 4 * (j : Int) + 1) + c 146 (230 + 4 * (j : Int) + 2)) ∧ zCnt145 c j (y - 1)) ∨ (¬ zDk (c 146 1) (fun j => c 146 (80 + 3 * j)) (fun j => c 146 (80 + 3 * j + 1)) (fun j => c 146 (80 + 3 * j + 2)) (c 146 (10 + 4 * c 146 (230 + 4 * (j : Int) + 0) + 2)) (c 146 (230 + 4 * (j : Int) + 1)) (c 146 (230 + 4 * (j : Int) + 1) + c 146 (230 + 4 * (j : Int) + 2)) ∧ zCnt145 c j y)
theorem zCnt145_b (c : zC) : ∀ (k : Nat) (y : Int), zCnt145 c k y → 0 ≤ y ∧ y ≤ k
  | 0, y, h => by
    have h : y = 0 := h
    omega
  | k + 1, y, h => by
    rcases h with ⟨-, h⟩ | ⟨-, h⟩
    · have := zCnt145_b c k _ h
      omega
    · have := zCnt145_b c k _ h
      omega
