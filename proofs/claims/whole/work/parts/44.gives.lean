/-! the model: rights given; whether broken -/
def zUM (c : zC) (k : Nat) : Int := zUs (zTM c) (zPlM c) (zEpM c) (c 149) (zEeM c) k
def zLM (c : zC) (k : Nat) : Int → Int := zLf (zTM c) (zPlM c) (zEpM c) (c 149) (zEeM c) k
def zGvn (c c' : zC) : Prop := (∀ r, r ≠ 151 → r ≠ 152 → c' r = c r) ∧ zBd c' ∧ (∀ j, 0 ≤ j → j < c 145 8 → c' 151 j = zUM c j.toNat) ∧ (∀ r, 0 ≤ r → r < c 146 2 → c' 152 r = zLM c (c 145 8).toNat r)
set_option maxRecDepth 10000 in
set_option maxHeartbeats 2000000 in
theorem e_X9_gives_m {d n sl : Nat} {S : zSh} {c : zC} (hS : zSok S) (hr : 0 ≤ c 146 2 ∧ c 146 2 ≤ 30) (he : 0 ≤ c 145 8 ∧ c 145 8 ≤ 61) (hep : ∀ k, 0 ≤ k → k < c 145 8 → 0 ≤ c 148 k ∧ c 148 k < 16) (hpl : ∀ r, 0 ≤ r → r < c 146 2 → 0 ≤ c 146 (110 + 4 * r + 3) ∧ c 146 (110 + 4 * r + 3) ≤ 50 ∧ 0 ≤ c 146 (110 + 4 * r)) : ∀ i : Int, i ≤ c 145 8 → ∀ c1 : zC, (0 ≤ i) → (∀ r, r ≠ 151 → r ≠ 152 → c1 r = c r) → (zBd c1) → (∀ j, 0 ≤ j → j < i → c1 151 j = zUM c j.toNat) → (∀ r, 0 ≤ r → r < c 146 2 → c1 152 r = zLM c i.toNat r) → zE (d + 1) 99 39 [some (zA 145), some (zI i)] [] ((n, sl), (S, c1)) (fun r μ' => ∃ c', r = none ∧ μ' = ((n, sl), (S, c')) ∧ zGvn c c') := by
  refine zind _ (fun i ih hN => ?_)
  intro c1 h0 hfr hBd hus hlf
  have e145 := hfr 145 (by decide) (by decide)
  have e146 := hfr 146 (by decide) (by decide)
  have e148 := hfr 148 (by decide) (by decide)
  have e149 := hfr 149 (by decide) (by decide)
  have e150 := hfr 150 (by decide) (by decide)
  have n145 : c1 145 8 = c 145 8 := by rw [e145]
  have n2 : c1 146 2 = c 146 2 := by rw [e146]
  have n148 : c1 148 i = c 148 i := by rw [e148]
  have hT1 : ((zTM c).1 : Int) = c 146 2 := by
    unfold zTM
    dsimp only
    omega
  have eT : zTM c1 = zTM c := by
    unfold zTM
    rw [e146]
  have hbs : ∀ pp, zBst (zTM c1) (c1 152) pp (c1 149 i) (c1 149 i + c1 150 i) (c1 146 2).toNat = zBst (zTM c) (zLM c i.toNat) pp (c 149 i) (c 149 i + c 150 i) (zTM c).1 := fun pp => by
    rw [e149, e150, eT, n2, show (zTM c).1 = (c 146 2).toNat from rfl]
    exact zBst_congr _ (fun j j1 j2 => ⟨rfl, rfl, rfl, hlf j j1 (by omega)⟩)
  have hu0 : zUM c i.toNat = zBst (zTM c) (zLM c i.toNat) (if c 146 (10 + 4 * c 148 i) = 2 then -9 else c 148 i) (c 149 i) (c 149 i + c 150 i) (zTM c).1 := by
    unfold zUM zUs zEpM zEeM
    (try dsimp only)
    rw [show ((i.toNat : Nat) : Int) = i by omega]
    rfl
  have hub := zBst_in (zTM c) (zLM c i.toNat) (if c 146 (10 + 4 * c 148 i) = 2 then -9 else c 148 i) (c 149 i) (c 149 i + c 150 i) (zTM c).1
  rw [← hu0, hT1] at hub
  have hlb : ∀ r : Int, 0 ≤ r → r < c 146 2 → 0 ≤ zLM c i.toNat r ∧ zLM c i.toNat r ≤ 50 := fun r r1 r2 => zLf_b (zTM c) (fun q q1 q2 => by have := hpl q q1 (by omega); unfold zPlM; omega) i.toNat r r1 (by omega)
  refine zl_ild1 I99_39 ?_
  refine zl_ald0 I99_40 ?_
  refine zr_giB (j := 8) hBd (by decide) I99_41 F9_56 rfl (sT145 hS) (fun b41 => ?_)
  refine zr_ic_ge (t := 131) I99_44 rfl (fun h44 => ?_) (fun h44 => ?_)
  · refine zr_vret I99_131 rfl ?_
    exact ⟨_, rfl, rfl, hfr, hBd, fun j j1 j2 => hus j j1 (by omega), fun r r1 r2 => by rw [show c 145 8 = i by omega]; exact hlf r r1 r2⟩
  · have hep1 := hep i h0 (by omega)
    refine zl_ald0 I99_47 ?_
    refine zr_getr (j := 6) I99_48 F9_25 rfl (sT145 hS) (sR145_6 hS) ?_
    refine zl_ild1 I99_51 ?_
    refine zl_ald0 I99_52 ?_
    refine zl_ald0 I99_53 ?_
    refine zr_getr (j := 3) I99_54 F9_16 rfl (sT145 hS) (sR145_3 hS) ?_
    refine zl_ild1 I99_57 ?_
    refine zr_iaB hBd (by decide) I99_58 (sT148 hS) (sN148 hS) (by omega) (fun b58 => ?_)
    refine zr_callV I99_59 C9_59 ⟨rfl, rfl⟩ ⟨rfl, Nat.le_of_ble_eq_true rfl⟩ (Or.inl ⟨rfl, sT145 hS⟩) (e_X9_kind hS hBd (by omega)) (fun v59 μ59 hv59 => ?_)
    obtain ⟨rfl, rfl⟩ := hv59
    dsimp only [Option.toList, List.cons_append, List.nil_append]
    rw [show c1 146 (10 + 4 * c1 148 i) = c 146 (10 + 4 * c 148 i) by rw [e146, e148]]
    refine zr_iconst I99_62 ?_
    refine zr_ic_ne (t := 71) I99_63 rfl (fun h63 => ?_) (fun h63 => ?_)
    · refine zl_ald0 I99_71 ?_
      refine zl_ald0 I99_72 ?_
      refine zr_getr (j := 3) I99_73 F9_16 rfl (sT145 hS) (sR145_3 hS) ?_
      refine zl_ild1 I99_76 ?_
      refine zr_iaB hBd (by decide) I99_77 (sT148 hS) (sN148 hS) (by omega) (fun b77 => ?_)
      refine zl_ald0 I99_78 ?_
      refine zr_getr (j := 4) I99_79 F9_19 rfl (sT145 hS) (sR145_4 hS) ?_
      refine zl_ild1 I99_82 ?_
      refine zr_iaB hBd (by decide) I99_83 (sT149 hS) (sN149 hS) (by omega) (fun b83 => ?_)
      refine zl_ald0 I99_84 ?_
      refine zr_getr (j := 4) I99_85 F9_19 rfl (sT145 hS) (sR145_4 hS) ?_
      refine zl_ild1 I99_88 ?_
      refine zr_iaB hBd (by decide) I99_89 (sT149 hS) (sN149 hS) (by omega) (fun b89 => ?_)
      refine zl_ald0 I99_90 ?_
      refine zr_getr (j := 5) I99_91 F9_22 rfl (sT145 hS) (sR145_5 hS) ?_
      refine zl_ild1 I99_94 ?_
      refine zr_iaB hBd (by decide) I99_95 (sT150 hS) (sN150 hS) (by omega) (fun b95 => ?_)
      refine zr_iadd I99_96 (by have := hBd 149 i (by decide); have := hBd 150 i (by decide); unfold zInR; omega) ?_
      refine zr_callV I99_97 C9_63 ⟨rfl, rfl⟩ ⟨rfl, Nat.le_of_ble_eq_true rfl⟩ (Or.inl ⟨rfl, sT145 hS⟩) (e_X9_rightFor hS hBd (by omega)) (fun v97 μ97 hv97 => ?_)
      obtain ⟨rfl, rfl⟩ := hv97
      dsimp only [Option.toList, List.cons_append, List.nil_append]
      have hu1 : zBst (zTM c1) (c1 152) (c1 148 i) (c1 149 i) (c1 149 i + c1 150 i) (c1 146 2).toNat = zUM c i.toNat := by
        rw [hbs, hu0, if_neg (by omega), e148]
      rw [hu1]
      refine zr_iast I99_100 (sT151 hS) (sN151 hS) (by omega) ?_
      refine zl_ald0 I99_101 ?_
      refine zr_getr (j := 6) I99_102 F9_25 rfl (sT145 hS) (sR145_6 hS) ?_
      refine zl_ild1 I99_105 ?_
      refine zr_iald I99_106 (sT151 hS) (sN151 hS) (by omega) ?_
      simp only [zup_same]
      refine zr_if_lt (t := 125) I99_107 rfl (fun h107 => ?_) (fun h107 => ?_)
      · refine zl_iinc1 I99_125 (by unfold zInR; omega) ?_
        refine zr_goto (t := 39) I99_128 rfl ?_
        refine ih _ (by omega) (by omega) _ (by omega) (fun r r1 r2 => ?_) ?_ (fun j j1 j2 => ?_) (fun r r1 r2 => ?_)
        · rw [zup_ne r1, hfr r r1 r2]
        · exact zBd_up hBd (by omega)
        · by_cases e : j = i
          · subst e
            rw [zup_same]
          · rw [zup_q, if_neg e]
            exact hus j j1 (by omega)
        · rw [zup_oth (by decide), show (i + 1).toNat = i.toNat + 1 by omega]
          show _ = (if r = zUM c i.toNat then _ else _)
          rw [if_neg (by omega)]
          exact hlf r r1 r2
      · refine zl_ald0 I99_110 ?_
        refine zr_getr (j := 7) I99_111 F9_28 rfl (sT145 hS) (sR145_7 hS) ?_
        refine zl_ald0 I99_114 ?_
        refine zr_getr (j := 6) I99_115 F9_25 rfl (sT145 hS) (sR145_6 hS) ?_
        refine zl_ild1 I99_118 ?_
        refine zr_iald I99_119 (sT151 hS) (sN151 hS) (by omega) ?_
        simp only [zup_same]
        refine zr_dup2 I99_120 ?_
        refine zr_iald I99_121 (sT152 hS) (sN152 hS) (by omega) ?_
        simp only [zup_oth (show (152 : Nat) ≠ 151 by decide)]
        have hb4 := hlb (zUM c i.toNat) (by omega) (by omega)
        have hb5 := hlf (zUM c i.toNat) (by omega) (by omega)
        refine zr_iconst I99_122 ?_
        refine zr_isub I99_123 (by unfold zInR; omega) ?_
        refine zr_iast I99_124 (sT152 hS) (sN152 hS) (by omega) ?_
        refine zl_iinc1 I99_125 (by unfold zInR; omega) ?_
        refine zr_goto (t := 39) I99_128 rfl ?_
        refine ih _ (by omega) (by omega) _ (by omega) (fun r r1 r2 => ?_) ?_ (fun j j1 j2 => ?_) (fun r r1 r2 => ?_)
        · rw [zup_ne r2, zup_ne r1, hfr r r1 r2]
        · exact zBd_up (zBd_up hBd (by omega)) (by omega)
        · rw [zup_oth (by decide)]
          by_cases e : j = i
          · subst e
            rw [zup_same]
          · rw [zup_q, if_neg e]
            exact hus j j1 (by omega)
        · rw [zup_q, zup_oth (by decide), show (i + 1).toNat = i.toNat + 1 by omega, hlf r r1 r2, hlf _ (by omega) (by omega)]
          show _ = (if r = zUM c i.toNat then zLM c i.toNat r - 1 else zLM c i.toNat r)
          by_cases e : r = zUM c i.toNat
          · rw [if_pos e, if_pos e, e]
          · rw [if_neg e, if_neg e]
    · refine zr_bipush I99_66 ?_
      refine zr_goto (t := 100) I99_68 rfl ?_
      have hu1 : zUM c i.toNat = -9 := by
        rw [hu0, if_pos (by omega)]
        exact zBst_no (zTM c) _ _ _ _ (fun j j1 j2 => (hpl j j1 (by omega)).2.2)
      rw [← hu1]
      refine zr_iast I99_100 (sT151 hS) (sN151 hS) (by omega) ?_
      refine zl_ald0 I99_101 ?_
      refine zr_getr (j := 6) I99_102 F9_25 rfl (sT145 hS) (sR145_6 hS) ?_
      refine zl_ild1 I99_105 ?_
      refine zr_iald I99_106 (sT151 hS) (sN151 hS) (by omega) ?_
      simp only [zup_same]
      refine zr_if_lt (t := 125) I99_107 rfl (fun h107 => ?_) (fun h107 => ?_)
      · refine zl_iinc1 I99_125 (by unfold zInR; omega) ?_
        refine zr_goto (t := 39) I99_128 rfl ?_
        refine ih _ (by omega) (by omega) _ (by omega) (fun r r1 r2 => ?_) ?_ (fun j j1 j2 => ?_) (fun r r1 r2 => ?_)
        · rw [zup_ne r1, hfr r r1 r2]
        · exact zBd_up hBd (by omega)
        · by_cases e : j = i
          · subst e
            rw [zup_same]
          · rw [zup_q, if_neg e]
            exact hus j j1 (by omega)
        · rw [zup_oth (by decide), show (i + 1).toNat = i.toNat + 1 by omega]
          show _ = (if r = zUM c i.toNat then _ else _)
          rw [if_neg (by omega)]
          exact hlf r r1 r2
      · refine zl_ald0 I99_110 ?_
        refine zr_getr (j := 7) I99_111 F9_28 rfl (sT145 hS) (sR145_7 hS) ?_
        refine zl_ald0 I99_114 ?_
        refine zr_getr (j := 6) I99_115 F9_25 rfl (sT145 hS) (sR145_6 hS) ?_
        refine zl_ild1 I99_118 ?_
        refine zr_iald I99_119 (sT151 hS) (sN151 hS) (by omega) ?_
        simp only [zup_same]
        refine zr_dup2 I99_120 ?_
        refine zr_iald I99_121 (sT152 hS) (sN152 hS) (by omega) ?_
        simp only [zup_oth (show (152 : Nat) ≠ 151 by decide)]
        have hb4 := hlb (zUM c i.toNat) (by omega) (by omega)
        have hb5 := hlf (zUM c i.toNat) (by omega) (by omega)
        refine zr_iconst I99_122 ?_
        refine zr_isub I99_123 (by unfold zInR; omega) ?_
        refine zr_iast I99_124 (sT152 hS) (sN152 hS) (by omega) ?_
        refine zl_iinc1 I99_125 (by unfold zInR; omega) ?_
        refine zr_goto (t := 39) I99_128 rfl ?_
        refine ih _ (by omega) (by omega) _ (by omega) (fun r r1 r2 => ?_) ?_ (fun j j1 j2 => ?_) (fun r r1 r2 => ?_)
        · rw [zup_ne r2, zup_ne r1, hfr r r1 r2]
        · exact zBd_up (zBd_up hBd (by omega)) (by omega)
        · rw [zup_oth (by decide)]
          by_cases e : j = i
          · subst e
            rw [zup_same]
          · rw [zup_q, if_neg e]
            exact hus j j1 (by omega)
        · rw [zup_q, zup_oth (by decide), show (i + 1).toNat = i.toNat + 1 by omega, hlf r r1 r2, hlf _ (by omega) (by omega)]
          show _ = (if r = zUM c i.toNat then zLM c i.toNat r - 1 else zLM c i.toNat r)
          by_cases e : r = zUM c i.toNat
          · rw [if_pos e, if_pos e, e]
          · rw [if_neg e, if_neg e]
set_option maxRecDepth 10000 in
set_option maxHeartbeats 2000000 in
theorem e_X9_gives_l {d n sl : Nat} {S : zSh} {c : zC} (hS : zSok S) (hr : 0 ≤ c 146 2 ∧ c 146 2 ≤ 30) (he : 0 ≤ c 145 8 ∧ c 145 8 ≤ 61) (hep : ∀ k, 0 ≤ k → k < c 145 8 → 0 ≤ c 148 k ∧ c 148 k < 16) (hpl : ∀ r, 0 ≤ r → r < c 146 2 → 0 ≤ c 146 (110 + 4 * r + 3) ∧ c 146 (110 + 4 * r + 3) ≤ 50 ∧ 0 ≤ c 146 (110 + 4 * r)) : ∀ i : Int, i ≤ c 146 2 → ∀ c1 : zC, (0 ≤ i) → (∀ r, r ≠ 152 → c1 r = c r) → (zBd c1) → (∀ r, 0 ≤ r → r < i → c1 152 r = zPlM c r) → zE (d + 1) 99 2 [some (zA 145), some (zI i)] [] ((n, sl), (S, c1)) (fun r μ' => ∃ c', r = none ∧ μ' = ((n, sl), (S, c')) ∧ zGvn c c') := by
  refine zind _ (fun i ih hN => ?_)
  intro c1 h0 hfr hBd hlf
  have e146 := hfr 146 (by decide)
  have m146 : ∀ k, c1 146 k = c 146 k := fun k => by rw [e146]
  have n2 := m146 2
  refine zl_ild1 I99_2 ?_
  refine zl_ald0 I99_3 ?_
  refine zr_getr (j := 0) I99_4 F9_7 rfl (sT145 hS) (sR145_0 hS) ?_
  refine zr_iconst I99_7 ?_
  refine zr_iaB hBd (by decide) I99_8 (sT146 hS) (sN146 hS) (by omega) (fun b8 => ?_)
  refine zr_ic_ge (t := 37) I99_9 rfl (fun h9 => ?_) (fun h9 => ?_)
  · refine zr_iconst I99_37 ?_
    refine zl_ist1 I99_38 ?_
    exact e_X9_gives_m hS hr he hep hpl 0 (by omega) _ (by omega) (fun r r1 r2 => hfr r r2) hBd (fun j j1 j2 => absurd j1 (by omega)) (fun r r1 r2 => hlf r r1 (by omega))
  · refine zl_ald0 I99_12 ?_
    refine zr_getr (j := 7) I99_13 F9_28 rfl (sT145 hS) (sR145_7 hS) ?_
    refine zl_ild1 I99_16 ?_
    refine zl_ald0 I99_17 ?_
    refine zr_getr (j := 0) I99_18 F9_7 rfl (sT145 hS) (sR145_0 hS) ?_
    refine zr_bipush I99_21 ?_
    refine zr_iconst I99_23 ?_
    refine zl_ild1 I99_24 ?_
    refine zr_imul I99_25 (by unfold zInR; omega) ?_
    refine zr_iadd I99_26 (by unfold zInR; omega) ?_
    refine zr_iconst I99_27 ?_
    refine zr_iadd I99_28 (by unfold zInR; omega) ?_
    refine zr_iaB hBd (by decide) I99_29 (sT146 hS) (sN146 hS) (by omega) (fun b29 => ?_)
    refine zr_iast I99_30 (sT152 hS) (sN152 hS) (by omega) ?_
    refine zl_iinc1 I99_31 (by unfold zInR; omega) ?_
    refine zr_goto (t := 2) I99_34 rfl ?_
    refine ih _ (by omega) (by omega) _ (by omega) (fun r r1 => by rw [zup_ne r1]; exact hfr r r1) (zBd_up hBd (hBd 146 _ (by decide))) (fun r r1 r2 => ?_)
    rw [zup_q]
    by_cases e : r = i
    · rw [if_pos e, e, m146]; rfl
    · rw [if_neg e]; exact hlf r r1 (by omega)
set_option maxRecDepth 10000 in
set_option maxHeartbeats 2000000 in
theorem e_X9_gives {d n sl : Nat} {S : zSh} {c : zC} (hS : zSok S) (hB : zBd c) (hr : 0 ≤ c 146 2 ∧ c 146 2 ≤ 30) (he : 0 ≤ c 145 8 ∧ c 145 8 ≤ 61) (hep : ∀ k, 0 ≤ k → k < c 145 8 → 0 ≤ c 148 k ∧ c 148 k < 16) (hpl : ∀ r, 0 ≤ r → r < c 146 2 → 0 ≤ c 146 (110 + 4 * r + 3) ∧ c 146 (110 + 4 * r + 3) ≤ 50 ∧ 0 ≤ c 146 (110 + 4 * r)) : zE (d + 1) 99 0 (zent 99 [zA 145]) [] ((n, sl), (S, c)) (fun r μ' => ∃ c', r = none ∧ μ' = ((n, sl), (S, c')) ∧ zGvn c c') := by
  show zE (d + 1) 99 0 [some (zA 145), none] [] ((n, sl), (S, c)) _
  refine zr_iconst I99_0 ?_
  refine zl_ist1 I99_1 ?_
  exact e_X9_gives_l hS hr he hep hpl 0 (by omega) _ (by omega) (fun r r1 => rfl) hB (fun r r1 r2 => absurd r1 (by omega))
set_option maxRecDepth 10000 in
set_option maxHeartbeats 2000000 in
theorem e_X9_isBroken_l {d n sl : Nat} {S : zSh} {c : zC} {c1 : zC} (hS : zSok S) (he : 0 ≤ c 145 8 ∧ c 145 8 ≤ 61) (hep : ∀ k, 0 ≤ k → k < c 145 8 → 0 ≤ c 148 k ∧ c 148 k < 16) (hgv : zGvn c c1) {p : Int} (hp : 0 ≤ p ∧ p < 16) : ∀ i : Int, i ≤ c 145 8 → ∀ y : Int, (0 ≤ i) → (zTf (∃ j, 0 ≤ j ∧ j < i ∧ c 148 j = p ∧ zUM c j.toNat < 0 ∧ c 146 (10 + 4 * p) ≠ 2) y) → zE (d + 1) 100 8 [some (zA 145), some (zI p), some (zI y), some (zI i)] [] ((n, sl), (S, c1)) (fun r μ' => ∃ (x : Int) (c' : zC), r = some (zI x) ∧ μ' = ((n, sl), (S, c')) ∧ (zTf (∃ j, 0 ≤ j ∧ j < c 145 8 ∧ c 148 j = p ∧ zUM c j.toNat < 0 ∧ c 146 (10 + 4 * p) ≠ 2) x ∧ zGvn c c')) := by
  refine zind _ (fun i ih hN => ?_)
  intro y h0 hy
  have e145 := hgv.1 145 (by decide) (by decide)
  have e146 := hgv.1 146 (by decide) (by decide)
  have e148 := hgv.1 148 (by decide) (by decide)
  have n145 : c1 145 8 = c 145 8 := by rw [e145]
  have n148 : c1 148 i = c 148 i := by rw [e148]
  have nk : c1 146 (10 + 4 * p) = c 146 (10 + 4 * p) := by rw [e146]
  refine zl_ild3 I100_8 ?_
  refine zl_ald0 I100_9 ?_
  refine zr_giB (j := 8) hgv.2.1 (by decide) I100_10 F9_56 rfl (sT145 hS) (fun b10 => ?_)
  refine zr_ic_ge (t := 60) I100_13 rfl (fun h13 => ?_) (fun h13 => ?_)
  · refine zl_ild2 I100_60 ?_
    refine zr_zret I100_61 rfl (by rcases hy with h | h <;> omega) ?_
    exact ⟨_, _, rfl, rfl, by rw [show c 145 8 = i by omega]; exact hy, hgv⟩
  · have hu := hgv.2.2.1 i h0 (by omega)
    refine zl_ild2 I100_16 ?_
    refine zr_if_ne (t := 48) I100_17 rfl (fun h17 => ?_) (fun h17 => ?_)
    · refine zr_iconst I100_48 ?_
      refine zr_goto (t := 53) I100_49 rfl ?_
      refine zl_ist2 I100_53 ?_
      refine zl_iinc3 I100_54 (by unfold zInR; omega) ?_
      refine zr_goto (t := 8) I100_57 rfl ?_
      refine ih _ (by omega) (by omega) _ (by omega) ?_
      rcases hy with ⟨e1, e2⟩ | ⟨e1, e2⟩
      · exact Or.inl ⟨rfl, by obtain ⟨j, j1, j2, j3⟩ := e2; exact ⟨j, j1, by omega, j3⟩⟩
      · omega
    · refine zl_ald0 I100_20 ?_
      refine zr_getr (j := 3) I100_21 F9_16 rfl (sT145 hS) (sR145_3 hS) ?_
      refine zl_ild3 I100_24 ?_
      refine zr_iaB hgv.2.1 (by decide) I100_25 (sT148 hS) (sN148 hS) (by omega) (fun b25 => ?_)
      refine zl_ild1 I100_26 ?_
      refine zr_ic_ne (t := 52) I100_27 rfl (fun h27 => ?_) (fun h27 => ?_)
      · refine zr_iconst I100_52 ?_
        refine zl_ist2 I100_53 ?_
        refine zl_iinc3 I100_54 (by unfold zInR; omega) ?_
        refine zr_goto (t := 8) I100_57 rfl ?_
        refine ih _ (by omega) (by omega) _ (by omega) ?_
        rcases hy with ⟨e1, e2⟩ | ⟨e1, e2⟩
        · omega
        · refine Or.inr ⟨rfl, fun ⟨j, j1, j2, j3, j4, j5⟩ => ?_⟩
          by_cases e9 : j = i
          · subst e9
            omega
          · exact e2 ⟨j, j1, by omega, j3, j4, j5⟩
      · refine zl_ald0 I100_30 ?_
        refine zr_getr (j := 6) I100_31 F9_25 rfl (sT145 hS) (sR145_6 hS) ?_
        refine zl_ild3 I100_34 ?_
        refine zr_iaB hgv.2.1 (by decide) I100_35 (sT151 hS) (sN151 hS) (by omega) (fun b35 => ?_)
        refine zr_if_ge (t := 52) I100_36 rfl (fun h36 => ?_) (fun h36 => ?_)
        · refine zr_iconst I100_52 ?_
          refine zl_ist2 I100_53 ?_
          refine zl_iinc3 I100_54 (by unfold zInR; omega) ?_
          refine zr_goto (t := 8) I100_57 rfl ?_
          refine ih _ (by omega) (by omega) _ (by omega) ?_
          rcases hy with ⟨e1, e2⟩ | ⟨e1, e2⟩
          · omega
          · refine Or.inr ⟨rfl, fun ⟨j, j1, j2, j3, j4, j5⟩ => ?_⟩
            by_cases e9 : j = i
            · subst e9
              omega
            · exact e2 ⟨j, j1, by omega, j3, j4, j5⟩
        · refine zl_ald0 I100_39 ?_
          refine zl_ild1 I100_40 ?_
          refine zr_callV I100_41 C9_59 ⟨rfl, rfl⟩ ⟨rfl, Nat.le_of_ble_eq_true rfl⟩ (Or.inl ⟨rfl, sT145 hS⟩) (e_X9_kind hS hgv.2.1 (by omega)) (fun v41 μ41 hv41 => ?_)
          obtain ⟨rfl, rfl⟩ := hv41
          dsimp only [Option.toList, List.cons_append, List.nil_append]
          refine zr_iconst I100_44 ?_
          refine zr_ic_eq (t := 52) I100_45 rfl (fun h45 => ?_) (fun h45 => ?_)
          · refine zr_iconst I100_52 ?_
            refine zl_ist2 I100_53 ?_
            refine zl_iinc3 I100_54 (by unfold zInR; omega) ?_
            refine zr_goto (t := 8) I100_57 rfl ?_
            refine ih _ (by omega) (by omega) _ (by omega) ?_
            rcases hy with ⟨e1, e2⟩ | ⟨e1, e2⟩
            · omega
            · refine Or.inr ⟨rfl, fun ⟨j, j1, j2, j3, j4, j5⟩ => ?_⟩
              by_cases e9 : j = i
              · subst e9
                omega
              · exact e2 ⟨j, j1, by omega, j3, j4, j5⟩
          · refine zr_iconst I100_48 ?_
            refine zr_goto (t := 53) I100_49 rfl ?_
            refine zl_ist2 I100_53 ?_
            refine zl_iinc3 I100_54 (by unfold zInR; omega) ?_
            refine zr_goto (t := 8) I100_57 rfl ?_
            refine ih _ (by omega) (by omega) _ (by omega) ?_
            rcases hy with ⟨e1, e2⟩ | ⟨e1, e2⟩
            · omega
            · exact Or.inl ⟨rfl, i, h0, by omega, by omega, by omega, by omega⟩
set_option maxRecDepth 10000 in
set_option maxHeartbeats 2000000 in
theorem e_X9_isBroken {d n sl : Nat} {S : zSh} {c : zC} (hS : zSok S) (hB : zBd c) (hr : 0 ≤ c 146 2 ∧ c 146 2 ≤ 30) (he : 0 ≤ c 145 8 ∧ c 145 8 ≤ 61) (hep : ∀ k, 0 ≤ k → k < c 145 8 → 0 ≤ c 148 k ∧ c 148 k < 16) (hpl : ∀ r, 0 ≤ r → r < c 146 2 → 0 ≤ c 146 (110 + 4 * r + 3) ∧ c 146 (110 + 4 * r + 3) ≤ 50 ∧ 0 ≤ c 146 (110 + 4 * r)) {p : Int} (hp : 0 ≤ p ∧ p < 16) : zE (d + 2) 100 0 (zent 100 [zA 145, zI p]) [] ((n, sl), (S, c)) (fun r μ' => ∃ (x : Int) (c' : zC), r = some (zI x) ∧ μ' = ((n, sl), (S, c')) ∧ (zTf (∃ j, 0 ≤ j ∧ j < c 145 8 ∧ c 148 j = p ∧ zUM c j.toNat < 0 ∧ c 146 (10 + 4 * p) ≠ 2) x ∧ zGvn c c')) := by
  show zE (d + 2) 100 0 [some (zA 145), some (zI p), none, none] [] ((n, sl), (S, c)) _
  refine zl_ald0 I100_0 ?_
  refine zr_callV I100_1 C9_67 ⟨rfl, rfl⟩ ⟨rfl, Nat.le_of_ble_eq_true rfl⟩ (Or.inl ⟨rfl, sT145 hS⟩) (e_X9_gives hS hB hr he hep hpl) (fun v1 μ1 hv1 => ?_)
  obtain ⟨c1, rfl, rfl, hc1⟩ := hv1
  dsimp only [Option.toList, List.cons_append, List.nil_append]
  refine zr_iconst I100_4 ?_
  refine zl_ist2 I100_5 ?_
  refine zr_iconst I100_6 ?_
  refine zl_ist3 I100_7 ?_
  exact e_X9_isBroken_l hS he hep hc1 hp 0 (by omega) 0 (by omega) (Or.inr ⟨rfl, fun ⟨j, j1, j2, j3⟩ => absurd j1 (by omega)⟩)
