/-! the model: all items listed; rights given -/
def zPlM (c : zC) : Int → Int := fun r => c 146 (110 + 4 * r + 3)
def zEpM (c : zC) : Int → Int := fun k => if c 146 (10 + 4 * c 148 k) = 2 then -9 else c 148 k
def zEeM (c : zC) : Int → Int := fun k => c 149 k + c 150 k
theorem zBst_no (T : zRT) (left : Int → Int) (s e : Int) : ∀ k : Nat, (∀ j : Int, 0 ≤ j → j < k → 0 ≤ T.2.1 j) → zBst T left (-9) s e k = -9
  | 0, _ => rfl
  | k + 1, h => by
    have ih := zBst_no T left s e k (fun j h1 h2 => h j h1 (by omega))
    have hk := h k (by omega) (by omega)
    unfold zBst
    rw [if_neg (by omega)]
    exact ih
set_option maxRecDepth 10000 in
set_option maxHeartbeats 2000000 in
theorem e_X9_listsAll_l {d n sl : Nat} {S : zSh} {c : zC} (hS : zSok S) (hc : 0 ≤ c 146 3 ∧ c 146 3 ≤ 60) : ∀ i : Int, i ≤ c 146 3 → ∀ c1 : zC, (0 ≤ i) → (c1 145 8 = i) → (zFm c c1) → (zBd c1) → (∀ k, 0 ≤ k → k < i → c1 148 k = c 146 (230 + 4 * k + 0) ∧ c1 149 k = c 146 (230 + 4 * k + 1) ∧ c1 150 k = c 146 (230 + 4 * k + 2)) → zE (d + 1) 97 7 [some (zA 145), some (zI i)] [] ((n, sl), (S, c1)) (fun r μ' => ∃ c', r = none ∧ μ' = ((n, sl), (S, c')) ∧ (c' 145 8 = c 146 3 ∧ (∀ k, 0 ≤ k → k < c 146 3 → c' 148 k = c 146 (230 + 4 * k + 0) ∧ c' 149 k = c 146 (230 + 4 * k + 1) ∧ c' 150 k = c 146 (230 + 4 * k + 2)) ∧ zFm c c' ∧ zBd c')) := by
  refine zind _ (fun i ih hN => ?_)
  intro c1 h0 hcn hfr hBd hls
  have e146 := hfr.1 146 (by omega)
  have m146 : ∀ k, c1 146 k = c 146 k := fun k => by rw [e146]
  have g0 := hBd 146 (230 + 4 * i + 0) (by decide)
  have g1 := hBd 146 (230 + 4 * i + 1) (by decide)
  have g2 := hBd 146 (230 + 4 * i + 2) (by decide)
  have n3 := m146 3
  refine zl_ild1 I97_7 ?_
  refine zl_ald0 I97_8 ?_
  refine zr_getr (j := 0) I97_9 F9_7 rfl (sT145 hS) (sR145_0 hS) ?_
  refine zr_iconst I97_12 ?_
  refine zr_iaB hBd (by decide) I97_13 (sT146 hS) (sN146 hS) (by omega) (fun b13 => ?_)
  refine zr_ic_ge (t := 69) I97_14 rfl (fun h14 => ?_) (fun h14 => ?_)
  · refine zr_vret I97_69 rfl ?_
    exact ⟨_, rfl, rfl, by omega, fun k k1 k2 => hls k k1 (by omega), hfr, hBd⟩
  · refine zl_ald0 I97_17 ?_
    refine zr_getr (j := 3) I97_18 F9_16 rfl (sT145 hS) (sR145_3 hS) ?_
    refine zl_ild1 I97_21 ?_
    refine zl_ald0 I97_22 ?_
    refine zl_ild1 I97_23 ?_
    refine zr_iconst I97_24 ?_
    refine zr_callV I97_25 C9_45 ⟨rfl, rfl⟩ ⟨rfl, Nat.le_of_ble_eq_true rfl⟩ (Or.inl ⟨rfl, sT145 hS⟩) (e_X9_of hS hBd (by omega) (by omega)) (fun v25 μ25 hv25 => ?_)
    obtain ⟨rfl, rfl⟩ := hv25
    dsimp only [Option.toList, List.cons_append, List.nil_append]
    refine zr_iast I97_28 (sT148 hS) (sN148 hS) (by omega) ?_
    have hBd1 := zBd_up (q := 148) (k := i) hBd g0
    refine zl_ald0 I97_29 ?_
    refine zr_getr (j := 4) I97_30 F9_19 rfl (sT145 hS) (sR145_4 hS) ?_
    refine zl_ild1 I97_33 ?_
    refine zl_ald0 I97_34 ?_
    refine zl_ild1 I97_35 ?_
    refine zr_iconst I97_36 ?_
    refine zr_callV I97_37 C9_45 ⟨rfl, rfl⟩ ⟨rfl, Nat.le_of_ble_eq_true rfl⟩ (Or.inl ⟨rfl, sT145 hS⟩) (e_X9_of hS hBd1 (by omega) (by omega)) (fun v37 μ37 hv37 => ?_)
    obtain ⟨rfl, rfl⟩ := hv37
    dsimp only [Option.toList, List.cons_append, List.nil_append]
    simp only [zup_oth (show (148 : Nat) ≠ 149 by decide), zup_oth (show (148 : Nat) ≠ 150 by decide), zup_oth (show (148 : Nat) ≠ 145 by decide), zup_oth (show (149 : Nat) ≠ 148 by decide), zup_oth (show (149 : Nat) ≠ 150 by decide), zup_oth (show (149 : Nat) ≠ 145 by decide), zup_oth (show (150 : Nat) ≠ 148 by decide), zup_oth (show (150 : Nat) ≠ 149 by decide), zup_oth (show (150 : Nat) ≠ 145 by decide), zup_oth (show (145 : Nat) ≠ 148 by decide), zup_oth (show (145 : Nat) ≠ 149 by decide), zup_oth (show (145 : Nat) ≠ 150 by decide), zup_oth (show (146 : Nat) ≠ 148 by decide), zup_oth (show (146 : Nat) ≠ 149 by decide), zup_oth (show (146 : Nat) ≠ 150 by decide), zup_q, if_true]
    refine zr_iast I97_40 (sT149 hS) (sN149 hS) (by omega) ?_
    have hBd2 := zBd_up (q := 149) (k := i) hBd1 (v := c1 146 (230 + 4 * i + 1)) g1
    refine zl_ald0 I97_41 ?_
    refine zr_getr (j := 5) I97_42 F9_22 rfl (sT145 hS) (sR145_5 hS) ?_
    refine zl_ild1 I97_45 ?_
    refine zl_ald0 I97_46 ?_
    refine zl_ild1 I97_47 ?_
    refine zr_iconst I97_48 ?_
    refine zr_callV I97_49 C9_45 ⟨rfl, rfl⟩ ⟨rfl, Nat.le_of_ble_eq_true rfl⟩ (Or.inl ⟨rfl, sT145 hS⟩) (e_X9_of hS hBd2 (by omega) (by omega)) (fun v49 μ49 hv49 => ?_)
    obtain ⟨rfl, rfl⟩ := hv49
    dsimp only [Option.toList, List.cons_append, List.nil_append]
    simp only [zup_oth (show (148 : Nat) ≠ 149 by decide), zup_oth (show (148 : Nat) ≠ 150 by decide), zup_oth (show (148 : Nat) ≠ 145 by decide), zup_oth (show (149 : Nat) ≠ 148 by decide), zup_oth (show (149 : Nat) ≠ 150 by decide), zup_oth (show (149 : Nat) ≠ 145 by decide), zup_oth (show (150 : Nat) ≠ 148 by decide), zup_oth (show (150 : Nat) ≠ 149 by decide), zup_oth (show (150 : Nat) ≠ 145 by decide), zup_oth (show (145 : Nat) ≠ 148 by decide), zup_oth (show (145 : Nat) ≠ 149 by decide), zup_oth (show (145 : Nat) ≠ 150 by decide), zup_oth (show (146 : Nat) ≠ 148 by decide), zup_oth (show (146 : Nat) ≠ 149 by decide), zup_oth (show (146 : Nat) ≠ 150 by decide), zup_q, if_true]
    refine zr_iast I97_52 (sT150 hS) (sN150 hS) (by omega) ?_
    have hBd3 := zBd_up (q := 150) (k := i) hBd2 (v := c1 146 (230 + 4 * i + 2)) g2
    refine zl_ald0 I97_53 ?_
    refine zr_dup I97_54 ?_
    refine zr_geti (j := 8) I97_55 F9_56 rfl (sT145 hS) ?_
    simp only [zup_oth (show (148 : Nat) ≠ 149 by decide), zup_oth (show (148 : Nat) ≠ 150 by decide), zup_oth (show (148 : Nat) ≠ 145 by decide), zup_oth (show (149 : Nat) ≠ 148 by decide), zup_oth (show (149 : Nat) ≠ 150 by decide), zup_oth (show (149 : Nat) ≠ 145 by decide), zup_oth (show (150 : Nat) ≠ 148 by decide), zup_oth (show (150 : Nat) ≠ 149 by decide), zup_oth (show (150 : Nat) ≠ 145 by decide), zup_oth (show (145 : Nat) ≠ 148 by decide), zup_oth (show (145 : Nat) ≠ 149 by decide), zup_oth (show (145 : Nat) ≠ 150 by decide), zup_oth (show (146 : Nat) ≠ 148 by decide), zup_oth (show (146 : Nat) ≠ 149 by decide), zup_oth (show (146 : Nat) ≠ 150 by decide), zup_q, if_true]
    rw [hcn]
    refine zr_iconst I97_58 ?_
    refine zr_iadd I97_59 (by unfold zInR; omega) ?_
    refine zr_puti (j := 8) I97_60 F9_56 rfl (sT145 hS) ⟨rfl, fun h => absurd h (by decide)⟩ ?_
    refine zl_iinc1 I97_63 (by unfold zInR; omega) ?_
    refine zr_goto (t := 7) I97_66 rfl ?_
    refine ih _ (by omega) (by omega) _ (by omega) ?_ ((((hfr.up (by omega)).up (by omega)).up (by omega)).up (by omega)) (zBd_up hBd3 (by omega)) (fun k k1 k2 => ?_)
    · simp only [zup_oth (show (148 : Nat) ≠ 149 by decide), zup_oth (show (148 : Nat) ≠ 150 by decide), zup_oth (show (148 : Nat) ≠ 145 by decide), zup_oth (show (149 : Nat) ≠ 148 by decide), zup_oth (show (149 : Nat) ≠ 150 by decide), zup_oth (show (149 : Nat) ≠ 145 by decide), zup_oth (show (150 : Nat) ≠ 148 by decide), zup_oth (show (150 : Nat) ≠ 149 by decide), zup_oth (show (150 : Nat) ≠ 145 by decide), zup_oth (show (145 : Nat) ≠ 148 by decide), zup_oth (show (145 : Nat) ≠ 149 by decide), zup_oth (show (145 : Nat) ≠ 150 by decide), zup_oth (show (146 : Nat) ≠ 148 by decide), zup_oth (show (146 : Nat) ≠ 149 by decide), zup_oth (show (146 : Nat) ≠ 150 by decide), zup_q, if_true]
    · simp only [zup_oth (show (148 : Nat) ≠ 149 by decide), zup_oth (show (148 : Nat) ≠ 150 by decide), zup_oth (show (148 : Nat) ≠ 145 by decide), zup_oth (show (149 : Nat) ≠ 148 by decide), zup_oth (show (149 : Nat) ≠ 150 by decide), zup_oth (show (149 : Nat) ≠ 145 by decide), zup_oth (show (150 : Nat) ≠ 148 by decide), zup_oth (show (150 : Nat) ≠ 149 by decide), zup_oth (show (150 : Nat) ≠ 145 by decide), zup_oth (show (145 : Nat) ≠ 148 by decide), zup_oth (show (145 : Nat) ≠ 149 by decide), zup_oth (show (145 : Nat) ≠ 150 by decide), zup_oth (show (146 : Nat) ≠ 148 by decide), zup_oth (show (146 : Nat) ≠ 149 by decide), zup_oth (show (146 : Nat) ≠ 150 by decide), zup_q, if_true]
      by_cases e9 : k = i
      · subst e9
        rw [if_pos rfl, if_pos rfl, if_pos rfl, m146, m146, m146]
        exact ⟨rfl, rfl, rfl⟩
      · rw [if_neg e9, if_neg e9, if_neg e9]
        exact hls k k1 (by omega)
set_option maxRecDepth 10000 in
set_option maxHeartbeats 2000000 in
theorem e_X9_listsAll {d n sl : Nat} {S : zSh} {c : zC} (hS : zSok S) (hB : zBd c) (hc : 0 ≤ c 146 3 ∧ c 146 3 ≤ 60) : zE (d + 1) 97 0 (zent 97 [zA 145]) [] ((n, sl), (S, c)) (fun r μ' => ∃ c', r = none ∧ μ' = ((n, sl), (S, c')) ∧ (c' 145 8 = c 146 3 ∧ (∀ k, 0 ≤ k → k < c 146 3 → c' 148 k = c 146 (230 + 4 * k + 0) ∧ c' 149 k = c 146 (230 + 4 * k + 1) ∧ c' 150 k = c 146 (230 + 4 * k + 2)) ∧ zFm c c' ∧ zBd c')) := by
  show zE (d + 1) 97 0 [some (zA 145), none] [] ((n, sl), (S, c)) _
  refine zl_ald0 I97_0 ?_
  refine zr_iconst I97_1 ?_
  refine zr_puti (j := 8) I97_2 F9_56 rfl (sT145 hS) ⟨rfl, fun h => absurd h (by decide)⟩ ?_
  refine zr_iconst I97_5 ?_
  refine zl_ist1 I97_6 ?_
  exact e_X9_listsAll_l hS hc 0 (by omega) _ (by omega) zup_same (zFm.rf.up (by omega)) (zBd_up hB (by omega)) (fun k k1 k2 => absurd k1 (by omega))
set_option maxRecDepth 10000 in
set_option maxHeartbeats 2000000 in
theorem e_X9_rightFor_l {d n sl : Nat} {S : zSh} {c : zC} (hS : zSok S) (hB : zBd c) (hr : 0 ≤ c 146 2 ∧ c 146 2 ≤ 30) {p s e : Int} : ∀ i : Int, i ≤ c 146 2 → ∀ b : Int, ∀ w6 : Option zV, ∀ w7 : Option zV, (0 ≤ i) → (b = zBst (zTM c) (c 152) p s e i.toNat) → zE (d + 0) 98 7 [some (zA 145), some (zI p), some (zI s), some (zI e), some (zI b), some (zI i), w6, w7] [] ((n, sl), (S, c)) (zRd (zBst (zTM c) (c 152) p s e (c 146 2).toNat) ((n, sl), (S, c))) := by
  refine zind _ (fun i ih hN => ?_)
  intro b w6 w7 h0 hb
  have hs := zBst_s (zTM c) (c 152) p s e h0
  have hbi := zBst_in (zTM c) (c 152) p s e i.toNat
  rw [← hb] at hbi
  refine zl_ild5 I98_7 ?_
  refine zl_ald0 I98_9 ?_
  refine zr_getr (j := 0) I98_10 F9_7 rfl (sT145 hS) (sR145_0 hS) ?_
  refine zr_iconst I98_13 ?_
  refine zr_iaB hB (by decide) I98_14 (sT146 hS) (sN146 hS) (by omega) (fun b14 => ?_)
  refine zr_ic_ge (t := 132) I98_15 rfl (fun h15 => ?_) (fun h15 => ?_)
  · refine zl_ild4 I98_132 ?_
    refine zr_iret I98_134 rfl ?_
    exact ⟨by rw [hb, show i = c 146 2 by omega], rfl⟩
  · refine zr_bipush I98_18 ?_
    refine zr_iconst I98_20 ?_
    refine zl_ild5 I98_21 ?_
    refine zr_imul I98_23 (by unfold zInR; omega) ?_
    refine zr_iadd I98_24 (by unfold zInR; omega) ?_
    refine zl_ist6 I98_25 ?_
    refine zl_ald0 I98_27 ?_
    refine zr_getr (j := 0) I98_28 F9_7 rfl (sT145 hS) (sR145_0 hS) ?_
    refine zl_ild6 I98_31 ?_
    refine zr_iaB hB (by decide) I98_33 (sT146 hS) (sN146 hS) (by omega) (fun b33 => ?_)
    refine zl_ild1 I98_34 ?_
    refine zr_ic_ne (t := 78) I98_35 rfl (fun h35 => ?_) (fun h35 => ?_)
    · refine zr_iconst I98_78 ?_
      refine zl_ist7 I98_79 ?_
      refine zl_ild7 I98_81 ?_
      refine zr_if_eq (t := 122) I98_83 rfl (fun h83 => ?_) (fun h83 => absurd h83 (by omega))
      refine zl_ild4 I98_122 ?_
      refine zl_ist4 I98_124 ?_
      refine zl_iinc5 I98_126 (by unfold zInR; omega) ?_
      refine zr_goto (t := 7) I98_129 rfl ?_
      refine ih _ (by omega) (by omega) _ _ _ (by omega) ?_
      rw [hs, ← hb]
      unfold zTM
      dsimp only
      split <;> omega
    · refine zl_ild2 I98_38 ?_
      refine zl_ald0 I98_39 ?_
      refine zr_getr (j := 0) I98_40 F9_7 rfl (sT145 hS) (sR145_0 hS) ?_
      refine zl_ild6 I98_43 ?_
      refine zr_iconst I98_45 ?_
      refine zr_iadd I98_46 (by unfold zInR; omega) ?_
      refine zr_iaB hB (by decide) I98_47 (sT146 hS) (sN146 hS) (by omega) (fun b47 => ?_)
      refine zr_ic_lt (t := 78) I98_48 rfl (fun h48 => ?_) (fun h48 => ?_)
      · refine zr_iconst I98_78 ?_
        refine zl_ist7 I98_79 ?_
        refine zl_ild7 I98_81 ?_
        refine zr_if_eq (t := 122) I98_83 rfl (fun h83 => ?_) (fun h83 => absurd h83 (by omega))
        refine zl_ild4 I98_122 ?_
        refine zl_ist4 I98_124 ?_
        refine zl_iinc5 I98_126 (by unfold zInR; omega) ?_
        refine zr_goto (t := 7) I98_129 rfl ?_
        refine ih _ (by omega) (by omega) _ _ _ (by omega) ?_
        rw [hs, ← hb]
        unfold zTM
        dsimp only
        split <;> omega
      · refine zl_ild3 I98_51 ?_
        refine zl_ald0 I98_52 ?_
        refine zr_getr (j := 0) I98_53 F9_7 rfl (sT145 hS) (sR145_0 hS) ?_
        refine zl_ild6 I98_56 ?_
        refine zr_iconst I98_58 ?_
        refine zr_iadd I98_59 (by unfold zInR; omega) ?_
        refine zr_iaB hB (by decide) I98_60 (sT146 hS) (sN146 hS) (by omega) (fun b60 => ?_)
        refine zr_ic_gt (t := 78) I98_61 rfl (fun h61 => ?_) (fun h61 => ?_)
        · refine zr_iconst I98_78 ?_
          refine zl_ist7 I98_79 ?_
          refine zl_ild7 I98_81 ?_
          refine zr_if_eq (t := 122) I98_83 rfl (fun h83 => ?_) (fun h83 => absurd h83 (by omega))
          refine zl_ild4 I98_122 ?_
          refine zl_ist4 I98_124 ?_
          refine zl_iinc5 I98_126 (by unfold zInR; omega) ?_
          refine zr_goto (t := 7) I98_129 rfl ?_
          refine ih _ (by omega) (by omega) _ _ _ (by omega) ?_
          rw [hs, ← hb]
          unfold zTM
          dsimp only
          split <;> omega
        · refine zl_ald0 I98_64 ?_
          refine zr_getr (j := 7) I98_65 F9_28 rfl (sT145 hS) (sR145_7 hS) ?_
          refine zl_ild5 I98_68 ?_
          refine zr_iaB hB (by decide) I98_70 (sT152 hS) (sN152 hS) (by omega) (fun b70 => ?_)
          refine zr_if_le (t := 78) I98_71 rfl (fun h71 => ?_) (fun h71 => ?_)
          · refine zr_iconst I98_78 ?_
            refine zl_ist7 I98_79 ?_
            refine zl_ild7 I98_81 ?_
            refine zr_if_eq (t := 122) I98_83 rfl (fun h83 => ?_) (fun h83 => absurd h83 (by omega))
            refine zl_ild4 I98_122 ?_
            refine zl_ist4 I98_124 ?_
            refine zl_iinc5 I98_126 (by unfold zInR; omega) ?_
            refine zr_goto (t := 7) I98_129 rfl ?_
            refine ih _ (by omega) (by omega) _ _ _ (by omega) ?_
            rw [hs, ← hb]
            unfold zTM
            dsimp only
            split <;> omega
          · refine zr_iconst I98_74 ?_
            refine zr_goto (t := 79) I98_75 rfl ?_
            refine zl_ist7 I98_79 ?_
            refine zl_ild7 I98_81 ?_
            refine zr_if_eq (t := 122) I98_83 rfl (fun h83 => absurd h83 (by omega)) (fun h83 => ?_)
            refine zl_ild4 I98_86 ?_
            refine zr_if_lt (t := 117) I98_88 rfl (fun h88 => ?_) (fun h88 => ?_)
            · refine zl_ild5 I98_117 ?_
              refine zr_goto (t := 124) I98_119 rfl ?_
              refine zl_ist4 I98_124 ?_
              refine zl_iinc5 I98_126 (by unfold zInR; omega) ?_
              refine zr_goto (t := 7) I98_129 rfl ?_
              refine ih _ (by omega) (by omega) _ _ _ (by omega) ?_
              rw [hs, ← hb]
              unfold zTM
              dsimp only
              split <;> omega
            · refine zl_ald0 I98_91 ?_
              refine zr_getr (j := 0) I98_92 F9_7 rfl (sT145 hS) (sR145_0 hS) ?_
              refine zl_ild6 I98_95 ?_
              refine zr_iconst I98_97 ?_
              refine zr_iadd I98_98 (by unfold zInR; omega) ?_
              refine zr_iaB hB (by decide) I98_99 (sT146 hS) (sN146 hS) (by omega) (fun b99 => ?_)
              refine zl_ald0 I98_100 ?_
              refine zr_getr (j := 0) I98_101 F9_7 rfl (sT145 hS) (sR145_0 hS) ?_
              refine zr_bipush I98_104 ?_
              refine zr_iconst I98_106 ?_
              refine zl_ild4 I98_107 ?_
              refine zr_imul I98_109 (by unfold zInR; omega) ?_
              refine zr_iadd I98_110 (by unfold zInR; omega) ?_
              refine zr_iconst I98_111 ?_
              refine zr_iadd I98_112 (by unfold zInR; omega) ?_
              refine zr_iaB hB (by decide) I98_113 (sT146 hS) (sN146 hS) (by omega) (fun b113 => ?_)
              refine zr_ic_ge (t := 122) I98_114 rfl (fun h114 => ?_) (fun h114 => ?_)
              · refine zl_ild4 I98_122 ?_
                refine zl_ist4 I98_124 ?_
                refine zl_iinc5 I98_126 (by unfold zInR; omega) ?_
                refine zr_goto (t := 7) I98_129 rfl ?_
                refine ih _ (by omega) (by omega) _ _ _ (by omega) ?_
                rw [hs, ← hb]
                unfold zTM
                dsimp only
                split <;> omega
              · refine zl_ild5 I98_117 ?_
                refine zr_goto (t := 124) I98_119 rfl ?_
                refine zl_ist4 I98_124 ?_
                refine zl_iinc5 I98_126 (by unfold zInR; omega) ?_
                refine zr_goto (t := 7) I98_129 rfl ?_
                refine ih _ (by omega) (by omega) _ _ _ (by omega) ?_
                rw [hs, ← hb]
                unfold zTM
                dsimp only
                split <;> omega
set_option maxRecDepth 10000 in
set_option maxHeartbeats 2000000 in
theorem e_X9_rightFor {d n sl : Nat} {S : zSh} {c : zC} (hS : zSok S) (hB : zBd c) (hr : 0 ≤ c 146 2 ∧ c 146 2 ≤ 30) {p s e : Int} : zE (d + 0) 98 0 (zent 98 [zA 145, zI p, zI s, zI e]) [] ((n, sl), (S, c)) (zRd (zBst (zTM c) (c 152) p s e (c 146 2).toNat) ((n, sl), (S, c))) := by
  show zE (d + 0) 98 0 [some (zA 145), some (zI p), some (zI s), some (zI e), none, none, none, none] [] ((n, sl), (S, c)) _
  refine zr_bipush I98_0 ?_
  refine zl_ist4 I98_2 ?_
  refine zr_iconst I98_4 ?_
  refine zl_ist5 I98_5 ?_
  exact e_X9_rightFor_l hS hB hr 0 (by omega) _ _ _ (by omega) rfl
