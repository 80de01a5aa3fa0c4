/-! the model: mayPlace, drops, act, undo -/
def zActed (g : Int → Int) (c c' : zC) (m : Int) : Prop := c' 145 2 = m + 1 ∧ (∀ k, k ≠ 2 → c' 145 k = c 145 k) ∧ (∀ r, r ≠ 147 → r ≠ 145 → c' r = c r) ∧ (∀ k, c' 147 k = if 480 * m ≤ k ∧ k < 480 * m + 480 then c 146 (k - 480 * m) else g k) ∧ zBd c'
set_option maxRecDepth 10000 in
set_option maxHeartbeats 2000000 in
theorem e_X9_mayPlace {d n sl : Nat} {S : zSh} {c : zC} (hS : zSok S) (hB : zBd c) (hc : 0 ≤ c 146 3 ∧ c 146 3 ≤ 60) (hit : ∀ i, 0 ≤ i → i < c 146 3 → 0 ≤ c 146 (230 + 4 * i + 0) ∧ c 146 (230 + 4 * i + 0) < 16 ∧ 0 ≤ c 146 (230 + 4 * i + 1) ∧ c 146 (230 + 4 * i + 1) ≤ 20000 ∧ 0 ≤ c 146 (230 + 4 * i + 2) ∧ c 146 (230 + 4 * i + 2) ≤ 20000) (hso : zSrt (zAl (c 146) (c 146 3).toNat)) (hr : 0 ≤ c 146 2 ∧ c 146 2 ≤ 30) (hpl : ∀ r, 0 ≤ r → r < c 146 2 → 0 ≤ c 146 (110 + 4 * r + 3) ∧ c 146 (110 + 4 * r + 3) ≤ 50 ∧ 0 ≤ c 146 (110 + 4 * r)) (hbl : ∀ j, 0 ≤ j → j < c 146 1 → 0 ≤ c 146 (80 + 3 * j) ∧ c 146 (80 + 3 * j) < c 146 (80 + 3 * j + 1) ∧ c 146 (80 + 3 * j + 1) ≤ 1440) (hn : 0 ≤ c 146 1 ∧ c 146 1 ≤ 10) (hlen : ∀ p, 0 ≤ p → p < c 146 0 → 1 ≤ c 146 (10 + 4 * p + 1) ∧ c 146 (10 + 4 * p + 1) ≤ 240) (hpn : 0 ≤ c 146 0 ∧ c 146 0 ≤ 16) {p s : Int} : zE (d + 4) 124 0 (zent 124 [zA 145, zI p, zI s]) [] ((n, sl), (S, c)) (fun r μ' => ∃ (x : Int) (c' : zC), r = some (zI x) ∧ μ' = ((n, sl), (S, c')) ∧ ((¬ ((0 ≤ p ∧ p < c 146 0) ∧ (0 ≤ s ∧ s ≤ 10079)) ∧ x = -1 ∧ c' = c) ∨ (((0 ≤ p ∧ p < c 146 0) ∧ (0 ≤ s ∧ s ≤ 10079)) ∧ zObM c p s x ∧ zFm c c' ∧ zBd c'))) := by
  show zE (d + 4) 124 0 [some (zA 145), some (zI p), some (zI s)] [] ((n, sl), (S, c)) _
  refine zl_ald0 I124_0 ?_
  refine zl_ild1 I124_1 ?_
  refine zr_callV I124_2 C9_52 ⟨rfl, rfl⟩ ⟨rfl, Nat.le_of_ble_eq_true rfl⟩ (Or.inl ⟨rfl, sT145 hS⟩) (e_X9_isProgramme hS hB) (fun v2 μ2 hv2 => ?_)
  obtain ⟨x2, rfl, hx2, rfl⟩ := hv2
  dsimp only [Option.toList, List.cons_append, List.nil_append]
  unfold zTf at hx2
  refine zr_if_eq (t := 28) I124_5 rfl (fun h5 => ?_) (fun h5 => ?_)
  · refine zr_iconst I124_28 ?_
    refine zr_iret I124_29 rfl ?_
    exact ⟨_, _, rfl, rfl, Or.inl ⟨by omega, rfl, rfl⟩⟩
  · refine zl_ild2 I124_8 ?_
    refine zr_iconst I124_9 ?_
    refine zr_sipush I124_10 ?_
    refine zr_callS I124_13 C9_41 ⟨rfl, rfl⟩ ⟨by simp, rfl, Nat.le_of_ble_eq_true rfl⟩ (e_X9_in ) (fun v13 μ13 hv13 => ?_)
    obtain ⟨x13, rfl, hx13, rfl⟩ := hv13
    dsimp only [Option.toList, List.cons_append, List.nil_append]
    unfold zTf at hx13
    refine zr_if_eq (t := 28) I124_16 rfl (fun h16 => ?_) (fun h16 => ?_)
    · refine zr_iconst I124_28 ?_
      refine zr_iret I124_29 rfl ?_
      exact ⟨_, _, rfl, rfl, Or.inl ⟨by omega, rfl, rfl⟩⟩
    · refine zl_ald0 I124_19 ?_
      refine zl_ild1 I124_20 ?_
      refine zl_ild2 I124_21 ?_
      have hl9 := hlen p (by omega) (by omega)
      refine zr_callV I124_22 C9_93 ⟨rfl, rfl⟩ ⟨rfl, Nat.le_of_ble_eq_true rfl⟩ (Or.inl ⟨rfl, sT145 hS⟩) (e_X9_fault hS hB hc hit hso hr hpl hbl hn (by omega) hl9 (by omega)) (fun v22 μ22 hv22 => ?_)
      obtain ⟨x22, c22, rfl, rfl, hv22⟩ := hv22
      dsimp only [Option.toList, List.cons_append, List.nil_append]
      refine zr_goto (t := 29) I124_25 rfl ?_
      refine zr_iret I124_29 rfl ?_
      exact ⟨_, _, rfl, rfl, Or.inr ⟨⟨by omega, by omega⟩, hv22⟩⟩
set_option maxRecDepth 10000 in
set_option maxHeartbeats 2000000 in
theorem e_X9_drops_l {d n sl : Nat} {S : zSh} {c : zC} (hS : zSok S) (hc : 0 ≤ c 146 3 ∧ c 146 3 ≤ 60) {it : Int} (hi : 0 ≤ it ∧ it < c 146 3) : ∀ i : Int, i ≤ 230 + 4 * (c 146 3 - 1) → ∀ c1 : zC, (230 + 4 * it ≤ i) → (c1 146 3 = c 146 3 - 1) → (∀ r, r ≠ 146 → c1 r = c r) → (zBd c1) → (∀ k, k ≠ 3 → c1 146 k = if 230 + 4 * it ≤ k ∧ k < i then c 146 (k + 4) else c 146 k) → zE (d + 0) 105 18 [some (zA 145), some (zI it), some (zI i)] [] ((n, sl), (S, c1)) (fun r μ' => ∃ c', r = none ∧ μ' = ((n, sl), (S, c')) ∧ (c' 146 3 = c 146 3 - 1 ∧ (∀ k, k ≠ 3 → c' 146 k = if 230 + 4 * it ≤ k ∧ k < 230 + 4 * (c 146 3 - 1) then c 146 (k + 4) else c 146 k) ∧ (∀ r, r ≠ 146 → c' r = c r) ∧ zBd c')) := by
  refine zind _ (fun i ih hN => ?_)
  intro c1 h0 hcn hfr hBd hls
  refine zl_ild2 I105_18 ?_
  refine zr_sipush I105_19 ?_
  refine zr_iconst I105_22 ?_
  refine zl_ald0 I105_23 ?_
  refine zr_getr (j := 0) I105_24 F9_7 rfl (sT145 hS) (sR145_0 hS) ?_
  refine zr_iconst I105_27 ?_
  refine zr_iaB hBd (by decide) I105_28 (sT146 hS) (sN146 hS) (by omega) (fun b28 => ?_)
  refine zr_imul I105_29 (by unfold zInR; omega) ?_
  refine zr_iadd I105_30 (by unfold zInR; omega) ?_
  refine zr_ic_ge (t := 54) I105_31 rfl (fun h31 => ?_) (fun h31 => ?_)
  · refine zr_vret I105_54 rfl ?_
    exact ⟨_, rfl, rfl, hcn, fun k hk => by rw [hls k hk, show i = 230 + 4 * (c 146 3 - 1) by omega], hfr, hBd⟩
  · refine zl_ald0 I105_34 ?_
    refine zr_getr (j := 0) I105_35 F9_7 rfl (sT145 hS) (sR145_0 hS) ?_
    refine zl_ild2 I105_38 ?_
    refine zl_ald0 I105_39 ?_
    refine zr_getr (j := 0) I105_40 F9_7 rfl (sT145 hS) (sR145_0 hS) ?_
    refine zl_ild2 I105_43 ?_
    refine zr_iconst I105_44 ?_
    refine zr_iadd I105_45 (by unfold zInR; omega) ?_
    refine zr_iaB hBd (by decide) I105_46 (sT146 hS) (sN146 hS) (by omega) (fun b46 => ?_)
    refine zr_iast I105_47 (sT146 hS) (sN146 hS) (by omega) ?_
    refine zl_iinc2 I105_48 (by unfold zInR; omega) ?_
    refine zr_goto (t := 18) I105_51 rfl ?_
    refine ih _ (by omega) (by omega) _ (by omega) ?_ (fun r hr => by rw [zup_ne hr]; exact hfr r hr) (zBd_up hBd (hBd 146 (i + 4) (by decide))) (fun k hk => ?_)
    · rw [zup_q, if_neg (by omega)]
      exact hcn
    · rw [zup_q]
      by_cases e : k = i
      · subst e
        rw [if_pos rfl, if_pos (by omega), hls (k + 4) (by omega), if_neg (by omega)]
      · rw [if_neg e, hls k hk]
        by_cases e2 : 230 + 4 * it ≤ k ∧ k < i
        · rw [if_pos e2, if_pos (by omega)]
        · rw [if_neg e2, if_neg (by omega)]
set_option maxRecDepth 10000 in
set_option maxHeartbeats 2000000 in
theorem e_X9_drops {d n sl : Nat} {S : zSh} {c : zC} (hS : zSok S) (hB : zBd c) (hc : 0 ≤ c 146 3 ∧ c 146 3 ≤ 60) {it : Int} (hi : 0 ≤ it ∧ it < c 146 3) : zE (d + 0) 105 0 (zent 105 [zA 145, zI it]) [] ((n, sl), (S, c)) (fun r μ' => ∃ c', r = none ∧ μ' = ((n, sl), (S, c')) ∧ (c' 146 3 = c 146 3 - 1 ∧ (∀ k, k ≠ 3 → c' 146 k = if 230 + 4 * it ≤ k ∧ k < 230 + 4 * (c 146 3 - 1) then c 146 (k + 4) else c 146 k) ∧ (∀ r, r ≠ 146 → c' r = c r) ∧ zBd c')) := by
  show zE (d + 0) 105 0 [some (zA 145), some (zI it), none] [] ((n, sl), (S, c)) _
  refine zl_ald0 I105_0 ?_
  refine zr_getr (j := 0) I105_1 F9_7 rfl (sT145 hS) (sR145_0 hS) ?_
  refine zr_iconst I105_4 ?_
  refine zr_dup2 I105_5 ?_
  refine zr_iaB hB (by decide) I105_6 (sT146 hS) (sN146 hS) (by omega) (fun b6 => ?_)
  refine zr_iconst I105_7 ?_
  refine zr_isub I105_8 (by unfold zInR; omega) ?_
  refine zr_iast I105_9 (sT146 hS) (sN146 hS) (by omega) ?_
  refine zr_sipush I105_10 ?_
  refine zr_iconst I105_13 ?_
  refine zl_ild1 I105_14 ?_
  refine zr_imul I105_15 (by unfold zInR; omega) ?_
  refine zr_iadd I105_16 (by unfold zInR; omega) ?_
  refine zl_ist2 I105_17 ?_
  refine e_X9_drops_l hS hc hi (230 + 4 * it) (by omega) _ (by omega) zup_same (fun r hr => zup_ne hr) (zBd_up hB (by omega)) (fun k hk => ?_)
  rw [zup_q, if_neg hk, if_neg (by omega)]
set_option maxRecDepth 10000 in
set_option maxHeartbeats 2000000 in
theorem e_X9_act_l2 {d n sl : Nat} {S : zSh} {c : zC} (hS : zSok S) (hm : 0 ≤ c 145 2 ∧ c 145 2 ≤ 4) : ∀ i : Int, i ≤ 480 → ∀ c1 : zC, (0 ≤ i) → (∀ r, r ≠ 147 → c1 r = c r) → (zBd c1) → (∀ k, c1 147 k = if 480 * c 145 2 ≤ k ∧ k < 480 * c 145 2 + i then c 146 (k - 480 * c 145 2) else c 147 k) → zE (d + 0) 86 51 [some (zA 145), some (zI i)] [] ((n, sl), (S, c1)) (fun r μ' => ∃ c', r = none ∧ μ' = ((n, sl), (S, c')) ∧ zActed (c 147) c c' (c 145 2)) := by
  refine zind _ (fun i ih hN => ?_)
  intro c1 h0 hfr hBd hls
  have m1 : c1 145 2 = c 145 2 := by rw [hfr 145 (by omega)]
  have m2 : c1 146 i = c 146 i := by rw [hfr 146 (by omega)]
  refine zl_ild1 I86_51 ?_
  refine zr_sipush I86_52 ?_
  refine zr_ic_ge (t := 85) I86_55 rfl (fun h55 => ?_) (fun h55 => ?_)
  · refine zl_ald0 I86_85 ?_
    refine zr_dup I86_86 ?_
    refine zr_giB (j := 2) hBd (by decide) I86_87 F9_37 rfl (sT145 hS) (fun b87 => ?_)
    refine zr_iconst I86_90 ?_
    refine zr_iadd I86_91 (by unfold zInR; omega) ?_
    refine zr_puti (j := 2) I86_92 F9_37 rfl (sT145 hS) ⟨rfl, fun h => absurd h (by decide)⟩ ?_
    refine zr_vret I86_95 rfl ?_
    exact ⟨_, rfl, rfl, by rw [zup_same, m1], fun k hk => by rw [zup_q, if_neg hk, hfr 145 (by omega)], fun r h1 h2 => by rw [zup_ne h2]; exact hfr r h1, fun k => by rw [zup_oth (by decide), hls k, show i = 480 by omega], zBd_up hBd (by omega)⟩
  · refine zl_ald0 I86_58 ?_
    refine zr_getr (j := 1) I86_59 F9_13 rfl (sT145 hS) (sR145_1 hS) ?_
    refine zr_sipush I86_62 ?_
    refine zl_ald0 I86_65 ?_
    refine zr_geti (j := 2) I86_66 F9_37 rfl (sT145 hS) ?_
    refine zr_imul I86_69 (by unfold zInR; omega) ?_
    refine zl_ild1 I86_70 ?_
    refine zr_iadd I86_71 (by unfold zInR; omega) ?_
    refine zl_ald0 I86_72 ?_
    refine zr_getr (j := 0) I86_73 F9_7 rfl (sT145 hS) (sR145_0 hS) ?_
    refine zl_ild1 I86_76 ?_
    refine zr_iald I86_77 (sT146 hS) (sN146 hS) (by omega) ?_
    refine zr_iast I86_78 (sT147 hS) (sN147 hS) (by omega) ?_
    refine zl_iinc1 I86_79 (by unfold zInR; omega) ?_
    refine zr_goto (t := 51) I86_82 rfl ?_
    refine ih _ (by omega) (by omega) _ (by omega) (fun r hr => by rw [zup_ne hr]; exact hfr r hr) (zBd_up hBd (hBd 146 i (by decide))) (fun k => ?_)
    rw [zup_q, m1]
    by_cases e : k = 480 * c 145 2 + i
    · rw [if_pos e, if_pos (by omega), m2, show k - 480 * c 145 2 = i by omega]
    · rw [if_neg e, hls k]
      by_cases e2 : 480 * c 145 2 ≤ k ∧ k < 480 * c 145 2 + i
      · rw [if_pos e2, if_pos (by omega)]
      · rw [if_neg e2, if_neg (by omega)]
set_option maxRecDepth 10000 in
set_option maxHeartbeats 2000000 in
theorem e_X9_act_l1 {d n sl : Nat} {S : zSh} {c : zC} (hS : zSok S) (hm : c 145 2 = 5) : ∀ i : Int, i ≤ 1920 → ∀ c1 : zC, (0 ≤ i) → (∀ r, r ≠ 147 → c1 r = c r) → (zBd c1) → (∀ k, c1 147 k = if 0 ≤ k ∧ k < i then c 147 (k + 480) else c 147 k) → zE (d + 0) 86 10 [some (zA 145), some (zI i)] [] ((n, sl), (S, c1)) (fun r μ' => ∃ c', r = none ∧ μ' = ((n, sl), (S, c')) ∧ zActed (fun k => if 0 ≤ k ∧ k < 1920 then c 147 (k + 480) else c 147 k) c c' 4) := by
  refine zind _ (fun i ih hN => ?_)
  intro c1 h0 hfr hBd hls
  have m1 : c1 145 2 = c 145 2 := by rw [hfr 145 (by omega)]
  refine zl_ild1 I86_10 ?_
  refine zr_sipush I86_11 ?_
  refine zr_ic_ge (t := 39) I86_14 rfl (fun h14 => ?_) (fun h14 => ?_)
  · refine zl_ald0 I86_39 ?_
    refine zr_dup I86_40 ?_
    refine zr_giB (j := 2) hBd (by decide) I86_41 F9_37 rfl (sT145 hS) (fun b41 => ?_)
    refine zr_iconst I86_44 ?_
    refine zr_isub I86_45 (by unfold zInR; omega) ?_
    refine zr_puti (j := 2) I86_46 F9_37 rfl (sT145 hS) ⟨rfl, fun h => absurd h (by decide)⟩ ?_
    refine zr_iconst I86_49 ?_
    refine zl_ist1 I86_50 ?_
    refine zE.mono (e_X9_act_l2 (c := zup c1 145 2 (c1 145 2 - 1)) hS (by rw [zup_same]; omega) 0 (by omega) _ (by omega) (fun r hr => rfl) (zBd_up hBd (by omega)) (fun k => by rw [if_neg (by omega)])) ?_
    rintro r μ' ⟨c', rfl, rfl, a1, a2, a3, a4, a5⟩
    rw [zup_same, show c1 145 2 - 1 = 4 by omega] at a1 a4
    refine ⟨c', rfl, rfl, a1, fun k hk => ?_, fun r h1 h2 => ?_, fun k => ?_, a5⟩
    · rw [a2 k hk, zup_q, if_neg hk, hfr 145 (by omega)]
    · rw [a3 r h1 h2, zup_ne h2, hfr r h1]
    · rw [a4 k, zup_oth (by decide), zup_oth (by decide), hfr 146 (by omega), hls k, show i = 1920 by omega]
  · refine zl_ald0 I86_17 ?_
    refine zr_getr (j := 1) I86_18 F9_13 rfl (sT145 hS) (sR145_1 hS) ?_
    refine zl_ild1 I86_21 ?_
    refine zl_ald0 I86_22 ?_
    refine zr_getr (j := 1) I86_23 F9_13 rfl (sT145 hS) (sR145_1 hS) ?_
    refine zl_ild1 I86_26 ?_
    refine zr_sipush I86_27 ?_
    refine zr_iadd I86_30 (by unfold zInR; omega) ?_
    refine zr_iald I86_31 (sT147 hS) (sN147 hS) (by omega) ?_
    refine zr_iast I86_32 (sT147 hS) (sN147 hS) (by omega) ?_
    refine zl_iinc1 I86_33 (by unfold zInR; omega) ?_
    refine zr_goto (t := 10) I86_36 rfl ?_
    refine ih _ (by omega) (by omega) _ (by omega) (fun r hr => by rw [zup_ne hr]; exact hfr r hr) (zBd_up hBd (hBd 147 (i + 480) (by decide))) (fun k => ?_)
    rw [zup_q]
    by_cases e : k = i
    · subst e
      rw [if_pos rfl, if_pos (by omega), hls (k + 480), if_neg (by omega)]
    · rw [if_neg e, hls k]
      by_cases e2 : 0 ≤ k ∧ k < i
      · rw [if_pos e2, if_pos (by omega)]
      · rw [if_neg e2, if_neg (by omega)]
set_option maxRecDepth 10000 in
set_option maxHeartbeats 2000000 in
theorem e_X9_act {d n sl : Nat} {S : zSh} {c : zC} (hS : zSok S) (hB : zBd c) (hm : 0 ≤ c 145 2 ∧ c 145 2 ≤ 5) : zE (d + 0) 86 0 (zent 86 [zA 145]) [] ((n, sl), (S, c)) (fun r μ' => ∃ c', r = none ∧ μ' = ((n, sl), (S, c')) ∧ ((c 145 2 ≠ 5 ∧ zActed (c 147) c c' (c 145 2)) ∨ (c 145 2 = 5 ∧ zActed (fun k => if 0 ≤ k ∧ k < 1920 then c 147 (k + 480) else c 147 k) c c' 4))) := by
  show zE (d + 0) 86 0 [some (zA 145), none] [] ((n, sl), (S, c)) _
  refine zl_ald0 I86_0 ?_
  refine zr_giB (j := 2) hB (by decide) I86_1 F9_37 rfl (sT145 hS) (fun b1 => ?_)
  refine zr_iconst I86_4 ?_
  refine zr_ic_ne (t := 49) I86_5 rfl (fun h5 => ?_) (fun h5 => ?_)
  · refine zr_iconst I86_49 ?_
    refine zl_ist1 I86_50 ?_
    refine zE.mono (e_X9_act_l2 hS (by omega) 0 (by omega) _ (by omega) (fun r hr => rfl) hB (fun k => by rw [if_neg (by omega)])) ?_
    rintro r μ' ⟨c', rfl, rfl, h⟩
    exact ⟨c', rfl, rfl, Or.inl ⟨by omega, h⟩⟩
  · refine zr_iconst I86_8 ?_
    refine zl_ist1 I86_9 ?_
    refine zE.mono (e_X9_act_l1 hS (by omega) 0 (by omega) _ (by omega) (fun r hr => rfl) hB (fun k => by rw [if_neg (by omega)])) ?_
    rintro r μ' ⟨c', rfl, rfl, h⟩
    exact ⟨c', rfl, rfl, Or.inr ⟨by omega, h⟩⟩
