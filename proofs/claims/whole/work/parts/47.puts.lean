/-! the model: undo, puts, remove -/
def zDid (c c' : zC) : Prop := (c 145 2 ≠ 5 ∧ zActed (c 147) c c' (c 145 2)) ∨ (c 145 2 = 5 ∧ zActed (fun k => if 0 ≤ k ∧ k < 1920 then c 147 (k + 480) else c 147 k) c c' 4)
theorem zDid.v {c c' : zC} (h : zDid c c') : c' 146 = c 146 := h.elim (fun h => h.2.2.2.1 146 (by decide) (by decide)) (fun h => h.2.2.2.1 146 (by decide) (by decide))
theorem zDid.b {c c' : zC} (h : zDid c c') : zBd c' := h.elim (fun h => h.2.2.2.2.2) (fun h => h.2.2.2.2.2)
def zDrp (c c' : zC) (it : Int) : Prop := c' 146 3 = c 146 3 - 1 ∧ (∀ k, k ≠ 3 → c' 146 k = if 230 + 4 * it ≤ k ∧ k < 230 + 4 * (c 146 3 - 1) then c 146 (k + 4) else c 146 k) ∧ (∀ r, r ≠ 146 → c' r = c r) ∧ zBd c'
def zPut (c c' : zC) (p s e x at9 : Int) : Prop := (0 ≤ at9 ∧ at9 ≤ c 146 3) ∧ (at9 = 0 ∨ c 146 (230 + 4 * (at9 - 1) + 1) ≤ s) ∧ (∀ j, at9 ≤ j → j < c 146 3 → s < c 146 (230 + 4 * j + 1)) ∧ (∀ k, c' 146 k = if k = 3 then c 146 3 + 1 else if k = 230 + 4 * at9 + 3 then x else if k = 230 + 4 * at9 + 2 then e else if k = 230 + 4 * at9 + 1 then s else if k = 230 + 4 * at9 then p else if 230 + 4 * (at9 + 1) ≤ k ∧ k < 230 + 4 * (c 146 3 + 1) then c 146 (k - 4) else c 146 k) ∧ (∀ r, r ≠ 146 → c' r = c r) ∧ zBd c'
def zUnd (c c' : zC) : Prop := c' 145 2 = c 145 2 - 1 ∧ (∀ k, k ≠ 2 → c' 145 k = c 145 k) ∧ (∀ r, r ≠ 146 → r ≠ 145 → c' r = c r) ∧ (∀ k, c' 146 k = if 0 ≤ k ∧ k < 480 then c 147 (480 * (c 145 2 - 1) + k) else c 146 k) ∧ zBd c'
set_option maxRecDepth 10000 in
set_option maxHeartbeats 2000000 in
theorem e_X9_undo_l {d n sl : Nat} {S : zSh} {c : zC} (hS : zSok S) (hm : 0 ≤ c 145 2 ∧ c 145 2 ≤ 4) : ∀ i : Int, i ≤ 480 → ∀ c1 : zC, (0 ≤ i) → (∀ r, r ≠ 146 → c1 r = c r) → (zBd c1) → (∀ k, c1 146 k = if 0 ≤ k ∧ k < i then c 147 (480 * c 145 2 + k) else c 146 k) → zE (d + 0) 136 22 [some (zA 145), some (zI i)] [] ((n, sl), (S, c1)) (fun r μ' => ∃ c', r = some (zI (c 145 2)) ∧ μ' = ((n, sl), (S, c')) ∧ ((∀ r, r ≠ 146 → c' r = c r) ∧ (∀ k, c' 146 k = if 0 ≤ k ∧ k < 480 then c 147 (480 * c 145 2 + k) else c 146 k) ∧ zBd c')) := by
  refine zind _ (fun i ih hN => ?_)
  intro c1 h0 hfr hBd hls
  have m1 : c1 145 2 = c 145 2 := by rw [hfr 145 (by omega)]
  refine zl_ild1 I136_22 ?_
  refine zr_sipush I136_23 ?_
  refine zr_ic_ge (t := 56) I136_26 rfl (fun h26 => ?_) (fun h26 => ?_)
  · refine zl_ald0 I136_56 ?_
    refine zr_giB (j := 2) hBd (by decide) I136_57 F9_37 rfl (sT145 hS) (fun b57 => ?_)
    refine zr_iret I136_60 rfl ?_
    exact ⟨_, by rw [m1], rfl, hfr, fun k => by rw [hls k, show i = 480 by omega], hBd⟩
  · refine zl_ald0 I136_29 ?_
    refine zr_getr (j := 0) I136_30 F9_7 rfl (sT145 hS) (sR145_0 hS) ?_
    refine zl_ild1 I136_33 ?_
    refine zl_ald0 I136_34 ?_
    refine zr_getr (j := 1) I136_35 F9_13 rfl (sT145 hS) (sR145_1 hS) ?_
    refine zr_sipush I136_38 ?_
    refine zl_ald0 I136_41 ?_
    refine zr_giB (j := 2) hBd (by decide) I136_42 F9_37 rfl (sT145 hS) (fun b42 => ?_)
    refine zr_imul I136_45 (by unfold zInR; omega) ?_
    refine zl_ild1 I136_46 ?_
    refine zr_iadd I136_47 (by unfold zInR; omega) ?_
    refine zr_iaB hBd (by decide) I136_48 (sT147 hS) (sN147 hS) (by omega) (fun b48 => ?_)
    refine zr_iast I136_49 (sT146 hS) (sN146 hS) (by omega) ?_
    refine zl_iinc1 I136_50 (by unfold zInR; omega) ?_
    refine zr_goto (t := 22) I136_53 rfl ?_
    refine ih _ (by omega) (by omega) _ (by omega) (fun r hr => by rw [zup_ne hr]; exact hfr r hr) (zBd_up hBd (hBd 147 _ (by decide))) (fun k => ?_)
    rw [zup_q]
    by_cases e : k = i
    · subst e
      rw [if_pos rfl, if_pos (by omega), m1, hfr 147 (by omega)]
    · rw [if_neg e, hls k]
      by_cases e2 : 0 ≤ k ∧ k < i
      · rw [if_pos e2, if_pos (by omega)]
      · rw [if_neg e2, if_neg (by omega)]
set_option maxRecDepth 10000 in
set_option maxHeartbeats 2000000 in
theorem e_X9_undo {d n sl : Nat} {S : zSh} {c : zC} (hS : zSok S) (hB : zBd c) (hm : 0 ≤ c 145 2 ∧ c 145 2 ≤ 5) : zE (d + 0) 136 0 (zent 136 [zA 145]) [] ((n, sl), (S, c)) (fun r μ' => ∃ (x : Int) (c' : zC), r = some (zI x) ∧ μ' = ((n, sl), (S, c')) ∧ ((c 145 2 = 0 ∧ x = -9 ∧ c' = c) ∨ (c 145 2 ≠ 0 ∧ x = c 145 2 - 1 ∧ zUnd c c'))) := by
  show zE (d + 0) 136 0 [some (zA 145), none] [] ((n, sl), (S, c)) _
  refine zl_ald0 I136_0 ?_
  refine zr_giB (j := 2) hB (by decide) I136_1 F9_37 rfl (sT145 hS) (fun b1 => ?_)
  refine zr_if_ne (t := 10) I136_4 rfl (fun h4 => ?_) (fun h4 => ?_)
  · refine zl_ald0 I136_10 ?_
    refine zr_dup I136_11 ?_
    refine zr_giB (j := 2) hB (by decide) I136_12 F9_37 rfl (sT145 hS) (fun b12 => ?_)
    refine zr_iconst I136_15 ?_
    refine zr_isub I136_16 (by unfold zInR; omega) ?_
    refine zr_puti (j := 2) I136_17 F9_37 rfl (sT145 hS) ⟨rfl, fun h => absurd h (by decide)⟩ ?_
    refine zr_iconst I136_20 ?_
    refine zl_ist1 I136_21 ?_
    refine zE.mono (e_X9_undo_l (c := zup c 145 2 (c 145 2 - 1)) hS (by rw [zup_same]; omega) 0 (by omega) _ (by omega) (fun r hr => rfl) (zBd_up hB (by omega)) (fun k => by rw [if_neg (by omega)])) ?_
    rintro r μ' ⟨c', rfl, rfl, a3, a4, a5⟩
    rw [zup_same] at a4 ⊢
    refine ⟨_, c', rfl, rfl, Or.inr ⟨by omega, rfl, ?_, fun k hk => ?_, fun r h1 h2 => ?_, fun k => ?_, a5⟩⟩
    · rw [a3 145 (by decide), zup_same]
    · rw [a3 145 (by decide), zup_q, if_neg hk]
    · rw [a3 r h1, zup_ne h2]
    · rw [a4 k, zup_oth (by decide), zup_oth (by decide)]
  · refine zr_bipush I136_7 ?_
    refine zr_iret I136_9 rfl ?_
    exact ⟨_, _, rfl, rfl, Or.inl ⟨by omega, rfl, rfl⟩⟩
set_option maxRecDepth 10000 in
set_option maxHeartbeats 2000000 in
theorem e_X9_puts_i {d n sl : Nat} {S : zSh} {c : zC} (hS : zSok S) (hc : 0 ≤ c 146 3 ∧ c 146 3 ≤ 59) {p s e x at9 : Int} (ha : 1 ≤ at9 ∧ at9 ≤ c 146 3) (hex : ∀ c2 : zC, (∀ r, r ≠ 146 → c2 r = c r) → zBd c2 → (∀ k, c2 146 k = if 230 + 4 * at9 ≤ k ∧ k < 230 + 4 * (c 146 3 + 1) then c 146 (k - 4) else c 146 k) → ∀ w6, zE (d + 1) 104 8 [some (zA 145), some (zI p), some (zI s), some (zI e), some (zI x), some (zI (at9 + (-1))), w6] [] ((n, sl), (S, c2)) (fun r μ' => ∃ (at8 : Int) (c' : zC), r = some (zI at8) ∧ μ' = ((n, sl), (S, c')) ∧ zPut c c' p s e x at8)) : ∀ i : Int, i ≤ 4 → ∀ c1 : zC, (0 ≤ i) → (∀ r, r ≠ 146 → c1 r = c r) → (zBd c1) → (∀ k, c1 146 k = if 230 + 4 * at9 ≤ k ∧ k < 230 + 4 * at9 + i then c 146 (k - 4) else if 230 + 4 * (at9 + 1) ≤ k ∧ k < 230 + 4 * (c 146 3 + 1) then c 146 (k - 4) else c 146 k) → zE (d + 1) 104 29 [some (zA 145), some (zI p), some (zI s), some (zI e), some (zI x), some (zI at9), some (zI i)] [] ((n, sl), (S, c1)) (fun r μ' => ∃ (at8 : Int) (c' : zC), r = some (zI at8) ∧ μ' = ((n, sl), (S, c')) ∧ zPut c c' p s e x at8) := by
  refine zind _ (fun i ih hN => ?_)
  intro c1 h0 hfr hBd hls
  refine zl_ild6 I104_29 ?_
  refine zr_iconst I104_31 ?_
  refine zr_ic_ge (t := 75) I104_32 rfl (fun h32 => ?_) (fun h32 => ?_)
  · refine zl_iinc5 I104_75 (by unfold zInR; omega) ?_
    refine zr_goto (t := 8) I104_78 rfl ?_
    refine hex _ hfr hBd (fun k => ?_) _
    rw [hls k, show i = 4 by omega]
    by_cases e1 : 230 + 4 * at9 ≤ k ∧ k < 230 + 4 * at9 + 4
    · rw [if_pos e1, if_pos (by omega)]
    · rw [if_neg e1]
      by_cases e2 : 230 + 4 * (at9 + 1) ≤ k ∧ k < 230 + 4 * (c 146 3 + 1)
      · rw [if_pos e2, if_pos (by omega)]
      · rw [if_neg e2, if_neg (by omega)]
  · refine zl_ald0 I104_35 ?_
    refine zr_getr (j := 0) I104_36 F9_7 rfl (sT145 hS) (sR145_0 hS) ?_
    refine zr_sipush I104_39 ?_
    refine zr_iconst I104_42 ?_
    refine zl_ild5 I104_43 ?_
    refine zr_imul I104_45 (by unfold zInR; omega) ?_
    refine zr_iadd I104_46 (by unfold zInR; omega) ?_
    refine zl_ild6 I104_47 ?_
    refine zr_iadd I104_49 (by unfold zInR; omega) ?_
    refine zl_ald0 I104_50 ?_
    refine zr_getr (j := 0) I104_51 F9_7 rfl (sT145 hS) (sR145_0 hS) ?_
    refine zr_sipush I104_54 ?_
    refine zr_iconst I104_57 ?_
    refine zl_ild5 I104_58 ?_
    refine zr_imul I104_60 (by unfold zInR; omega) ?_
    refine zr_iadd I104_61 (by unfold zInR; omega) ?_
    refine zr_iconst I104_62 ?_
    refine zr_isub I104_63 (by unfold zInR; omega) ?_
    refine zl_ild6 I104_64 ?_
    refine zr_iadd I104_66 (by unfold zInR; omega) ?_
    refine zr_iaB hBd (by decide) I104_67 (sT146 hS) (sN146 hS) (by omega) (fun b67 => ?_)
    refine zr_iast I104_68 (sT146 hS) (sN146 hS) (by omega) ?_
    refine zl_iinc6 I104_69 (by unfold zInR; omega) ?_
    refine zr_goto (t := 29) I104_72 rfl ?_
    refine ih _ (by omega) (by omega) _ (by omega) (fun r hr => by rw [zup_ne hr]; exact hfr r hr) (zBd_up hBd (hBd 146 _ (by decide))) (fun k => ?_)
    rw [zup_q]
    by_cases e9 : k = 230 + 4 * at9 + i
    · subst e9
      rw [if_pos rfl, if_pos (by omega), hls, if_neg (by omega), if_neg (by omega), show 230 + 4 * at9 - 4 + i = 230 + 4 * at9 + i - 4 by omega]
    · rw [if_neg e9, hls k]
      by_cases e2 : 230 + 4 * at9 ≤ k ∧ k < 230 + 4 * at9 + i
      · rw [if_pos e2, if_pos (by omega)]
      · rw [if_neg e2, if_neg (show ¬ (230 + 4 * at9 ≤ k ∧ k < 230 + 4 * at9 + (i + 1)) by omega)]
set_option maxRecDepth 10000 in
set_option maxHeartbeats 2000000 in
theorem e_X9_puts_l {d n sl : Nat} {S : zSh} {c : zC} (hS : zSok S) (hc : 0 ≤ c 146 3 ∧ c 146 3 ≤ 59) {p s e x : Int} (hpb : -100000 ≤ p ∧ p ≤ 100000) (hsb : -100000 ≤ s ∧ s ≤ 100000) (heb : -100000 ≤ e ∧ e ≤ 100000) (hxb : -100000 ≤ x ∧ x ≤ 100000) : ∀ at9 : Int, 0 ≤ at9 → ∀ c1 : zC, ∀ w6 : Option zV, (at9 ≤ c 146 3) → (∀ r, r ≠ 146 → c1 r = c r) → (zBd c1) → (∀ k, c1 146 k = if 230 + 4 * (at9 + 1) ≤ k ∧ k < 230 + 4 * (c 146 3 + 1) then c 146 (k - 4) else c 146 k) → (∀ j, at9 ≤ j → j < c 146 3 → s < c 146 (230 + 4 * j + 1)) → zE (d + 1) 104 8 [some (zA 145), some (zI p), some (zI s), some (zI e), some (zI x), some (zI at9), w6] [] ((n, sl), (S, c1)) (fun r μ' => ∃ (at8 : Int) (c' : zC), r = some (zI at8) ∧ μ' = ((n, sl), (S, c')) ∧ zPut c c' p s e x at8) := by
  refine zindD (fun at9 ih hN => ?_)
  intro c1 w6 h1 hfr hBd hls hgt
  refine zl_ild5 I104_8 ?_
  refine zr_if_le (t := 81) I104_10 rfl (fun h10 => ?_) (fun h10 => ?_)
  · refine zl_ald0 I104_81 ?_
    refine zr_getr (j := 0) I104_82 F9_7 rfl (sT145 hS) (sR145_0 hS) ?_
    refine zr_sipush I104_85 ?_
    refine zr_iconst I104_88 ?_
    refine zl_ild5 I104_89 ?_
    refine zr_imul I104_91 (by unfold zInR; omega) ?_
    refine zr_iadd I104_92 (by unfold zInR; omega) ?_
    refine zl_ild1 I104_93 ?_
    refine zr_iast I104_94 (sT146 hS) (sN146 hS) (by omega) ?_
    refine zl_ald0 I104_95 ?_
    refine zr_getr (j := 0) I104_96 F9_7 rfl (sT145 hS) (sR145_0 hS) ?_
    refine zr_sipush I104_99 ?_
    refine zr_iconst I104_102 ?_
    refine zl_ild5 I104_103 ?_
    refine zr_imul I104_105 (by unfold zInR; omega) ?_
    refine zr_iadd I104_106 (by unfold zInR; omega) ?_
    refine zr_iconst I104_107 ?_
    refine zr_iadd I104_108 (by unfold zInR; omega) ?_
    refine zl_ild2 I104_109 ?_
    refine zr_iast I104_110 (sT146 hS) (sN146 hS) (by omega) ?_
    refine zl_ald0 I104_111 ?_
    refine zr_getr (j := 0) I104_112 F9_7 rfl (sT145 hS) (sR145_0 hS) ?_
    refine zr_sipush I104_115 ?_
    refine zr_iconst I104_118 ?_
    refine zl_ild5 I104_119 ?_
    refine zr_imul I104_121 (by unfold zInR; omega) ?_
    refine zr_iadd I104_122 (by unfold zInR; omega) ?_
    refine zr_iconst I104_123 ?_
    refine zr_iadd I104_124 (by unfold zInR; omega) ?_
    refine zl_ild3 I104_125 ?_
    refine zr_iast I104_126 (sT146 hS) (sN146 hS) (by omega) ?_
    refine zl_ald0 I104_127 ?_
    refine zr_getr (j := 0) I104_128 F9_7 rfl (sT145 hS) (sR145_0 hS) ?_
    refine zr_sipush I104_131 ?_
    refine zr_iconst I104_134 ?_
    refine zl_ild5 I104_135 ?_
    refine zr_imul I104_137 (by unfold zInR; omega) ?_
    refine zr_iadd I104_138 (by unfold zInR; omega) ?_
    refine zr_iconst I104_139 ?_
    refine zr_iadd I104_140 (by unfold zInR; omega) ?_
    refine zl_ild4 I104_141 ?_
    refine zr_iast I104_143 (sT146 hS) (sN146 hS) (by omega) ?_
    refine zl_ald0 I104_144 ?_
    refine zr_getr (j := 0) I104_145 F9_7 rfl (sT145 hS) (sR145_0 hS) ?_
    refine zr_iconst I104_148 ?_
    refine zr_dup2 I104_149 ?_
    refine zr_iald I104_150 (sT146 hS) (sN146 hS) (by omega) ?_
    rw [zup_q, if_neg (by omega), zup_q, if_neg (by omega), zup_q, if_neg (by omega), zup_q, if_neg (by omega), hls 3, if_neg (by omega)]
    refine zr_iconst I104_151 ?_
    refine zr_iadd I104_152 (by unfold zInR; omega) ?_
    refine zr_iast I104_153 (sT146 hS) (sN146 hS) (by omega) ?_
    refine zl_ild5 I104_154 ?_
    refine zr_iret I104_156 rfl ?_
    exact ⟨at9, _, rfl, rfl, ⟨hN, h1⟩, by omega, hgt, fun k => by rw [zup_q, zup_q, zup_q, zup_q, zup_q, hls k], fun r hr => by rw [zup_ne hr, zup_ne hr, zup_ne hr, zup_ne hr, zup_ne hr]; exact hfr r hr, zBd_up (zBd_up (zBd_up (zBd_up (zBd_up hBd hpb) hsb) heb) hxb) (by omega)⟩
  · refine zl_ald0 I104_13 ?_
    refine zl_ild5 I104_14 ?_
    refine zr_iconst I104_16 ?_
    refine zr_isub I104_17 (by unfold zInR; omega) ?_
    refine zr_iconst I104_18 ?_
    refine zr_callV I104_19 C9_45 ⟨rfl, rfl⟩ ⟨rfl, Nat.le_of_ble_eq_true rfl⟩ (Or.inl ⟨rfl, sT145 hS⟩) (e_X9_of hS hBd (i := at9 - 1) (k := 1) (by omega) (by omega)) (fun v19 μ19 hv19 => ?_)
    obtain ⟨rfl, rfl⟩ := hv19
    dsimp only [Option.toList, List.cons_append, List.nil_append]
    rw [hls (230 + 4 * (at9 - 1) + 1), if_neg (by omega)]
    refine zl_ild2 I104_22 ?_
    refine zr_ic_le (t := 81) I104_23 rfl (fun h23 => ?_) (fun h23 => ?_)
    · refine zl_ald0 I104_81 ?_
      refine zr_getr (j := 0) I104_82 F9_7 rfl (sT145 hS) (sR145_0 hS) ?_
      refine zr_sipush I104_85 ?_
      refine zr_iconst I104_88 ?_
      refine zl_ild5 I104_89 ?_
      refine zr_imul I104_91 (by unfold zInR; omega) ?_
      refine zr_iadd I104_92 (by unfold zInR; omega) ?_
      refine zl_ild1 I104_93 ?_
      refine zr_iast I104_94 (sT146 hS) (sN146 hS) (by omega) ?_
      refine zl_ald0 I104_95 ?_
      refine zr_getr (j := 0) I104_96 F9_7 rfl (sT145 hS) (sR145_0 hS) ?_
      refine zr_sipush I104_99 ?_
      refine zr_iconst I104_102 ?_
      refine zl_ild5 I104_103 ?_
      refine zr_imul I104_105 (by unfold zInR; omega) ?_
      refine zr_iadd I104_106 (by unfold zInR; omega) ?_
      refine zr_iconst I104_107 ?_
      refine zr_iadd I104_108 (by unfold zInR; omega) ?_
      refine zl_ild2 I104_109 ?_
      refine zr_iast I104_110 (sT146 hS) (sN146 hS) (by omega) ?_
      refine zl_ald0 I104_111 ?_
      refine zr_getr (j := 0) I104_112 F9_7 rfl (sT145 hS) (sR145_0 hS) ?_
      refine zr_sipush I104_115 ?_
      refine zr_iconst I104_118 ?_
      refine zl_ild5 I104_119 ?_
      refine zr_imul I104_121 (by unfold zInR; omega) ?_
      refine zr_iadd I104_122 (by unfold zInR; omega) ?_
      refine zr_iconst I104_123 ?_
      refine zr_iadd I104_124 (by unfold zInR; omega) ?_
      refine zl_ild3 I104_125 ?_
      refine zr_iast I104_126 (sT146 hS) (sN146 hS) (by omega) ?_
      refine zl_ald0 I104_127 ?_
      refine zr_getr (j := 0) I104_128 F9_7 rfl (sT145 hS) (sR145_0 hS) ?_
      refine zr_sipush I104_131 ?_
      refine zr_iconst I104_134 ?_
      refine zl_ild5 I104_135 ?_
      refine zr_imul I104_137 (by unfold zInR; omega) ?_
      refine zr_iadd I104_138 (by unfold zInR; omega) ?_
      refine zr_iconst I104_139 ?_
      refine zr_iadd I104_140 (by unfold zInR; omega) ?_
      refine zl_ild4 I104_141 ?_
      refine zr_iast I104_143 (sT146 hS) (sN146 hS) (by omega) ?_
      refine zl_ald0 I104_144 ?_
      refine zr_getr (j := 0) I104_145 F9_7 rfl (sT145 hS) (sR145_0 hS) ?_
      refine zr_iconst I104_148 ?_
      refine zr_dup2 I104_149 ?_
      refine zr_iald I104_150 (sT146 hS) (sN146 hS) (by omega) ?_
      rw [zup_q, if_neg (by omega), zup_q, if_neg (by omega), zup_q, if_neg (by omega), zup_q, if_neg (by omega), hls 3, if_neg (by omega)]
      refine zr_iconst I104_151 ?_
      refine zr_iadd I104_152 (by unfold zInR; omega) ?_
      refine zr_iast I104_153 (sT146 hS) (sN146 hS) (by omega) ?_
      refine zl_ild5 I104_154 ?_
      refine zr_iret I104_156 rfl ?_
      exact ⟨at9, _, rfl, rfl, ⟨hN, h1⟩, by omega, hgt, fun k => by rw [zup_q, zup_q, zup_q, zup_q, zup_q, hls k], fun r hr => by rw [zup_ne hr, zup_ne hr, zup_ne hr, zup_ne hr, zup_ne hr]; exact hfr r hr, zBd_up (zBd_up (zBd_up (zBd_up (zBd_up hBd hpb) hsb) heb) hxb) (by omega)⟩
    · refine zr_iconst I104_26 ?_
      refine zl_ist6 I104_27 ?_
      refine e_X9_puts_i hS hc (at9 := at9) (by omega) (fun c2 f2 b2 l2 w6 => ?_) 0 (by omega) _ (by omega) hfr hBd (fun k => by rw [hls k, if_neg (show ¬ (230 + 4 * at9 ≤ k ∧ k < 230 + 4 * at9 + 0) by omega)])
      refine ih (at9 + (-1)) (by omega) (by omega) c2 w6 (by omega) f2 b2 (fun k => by rw [l2 k, show at9 + (-1) + 1 = at9 by omega]) (fun j j1 j2 => ?_)
      rcases (show j = at9 - 1 ∨ at9 ≤ j by omega) with rfl | e9
      · omega
      · exact hgt j e9 j2
set_option maxRecDepth 10000 in
set_option maxHeartbeats 2000000 in
theorem e_X9_puts {d n sl : Nat} {S : zSh} {c : zC} (hS : zSok S) (hB : zBd c) (hc : 0 ≤ c 146 3 ∧ c 146 3 ≤ 59) {p s e x : Int} (hpb : -100000 ≤ p ∧ p ≤ 100000) (hsb : -100000 ≤ s ∧ s ≤ 100000) (heb : -100000 ≤ e ∧ e ≤ 100000) (hxb : -100000 ≤ x ∧ x ≤ 100000) : zE (d + 1) 104 0 (zent 104 [zA 145, zI p, zI s, zI e, zI x]) [] ((n, sl), (S, c)) (fun r μ' => ∃ (at8 : Int) (c' : zC), r = some (zI at8) ∧ μ' = ((n, sl), (S, c')) ∧ zPut c c' p s e x at8) := by
  show zE (d + 1) 104 0 [some (zA 145), some (zI p), some (zI s), some (zI e), some (zI x), none, none] [] ((n, sl), (S, c)) _
  refine zl_ald0 I104_0 ?_
  refine zr_getr (j := 0) I104_1 F9_7 rfl (sT145 hS) (sR145_0 hS) ?_
  refine zr_iconst I104_4 ?_
  refine zr_iaB hB (by decide) I104_5 (sT146 hS) (sN146 hS) (by omega) (fun b5 => ?_)
  refine zl_ist5 I104_6 ?_
  exact e_X9_puts_l hS hc hpb hsb heb hxb (c 146 3) (by omega) c _ (by omega) (fun r hr => rfl) hB (fun k => by rw [if_neg (by omega)]) (fun j j1 j2 => absurd j1 (by omega))
set_option maxRecDepth 10000 in
set_option maxHeartbeats 2000000 in
theorem e_X9_remove {d n sl : Nat} {S : zSh} {c : zC} (hS : zSok S) (hB : zBd c) (hc : 0 ≤ c 146 3 ∧ c 146 3 ≤ 60) (hm : 0 ≤ c 145 2 ∧ c 145 2 ≤ 5) {it : Int} : zE (d + 2) 107 0 (zent 107 [zA 145, zI it]) [] ((n, sl), (S, c)) (fun r μ' => ∃ (x : Int) (c' : zC), r = some (zI x) ∧ μ' = ((n, sl), (S, c')) ∧ ((¬ (0 ≤ it ∧ it < c 146 3) ∧ x = -1 ∧ c' = c) ∨ ((0 ≤ it ∧ it < c 146 3) ∧ x = c 146 3 - 1 ∧ ∃ c1, zDid c c1 ∧ zDrp c1 c' it))) := by
  show zE (d + 2) 107 0 [some (zA 145), some (zI it)] [] ((n, sl), (S, c)) _
  refine zl_ald0 I107_0 ?_
  refine zl_ild1 I107_1 ?_
  refine zr_callV I107_2 C9_100 ⟨rfl, rfl⟩ ⟨rfl, Nat.le_of_ble_eq_true rfl⟩ (Or.inl ⟨rfl, sT145 hS⟩) (e_X9_isItem hS hB) (fun v2 μ2 hv2 => ?_)
  obtain ⟨x2, rfl, hx2, rfl⟩ := hv2
  dsimp only [Option.toList, List.cons_append, List.nil_append]
  unfold zTf at hx2
  refine zr_if_ne (t := 10) I107_5 rfl (fun h5 => ?_) (fun h5 => ?_)
  · refine zl_ald0 I107_10 ?_
    refine zr_callV I107_11 C9_49 ⟨rfl, rfl⟩ ⟨rfl, Nat.le_of_ble_eq_true rfl⟩ (Or.inl ⟨rfl, sT145 hS⟩) (e_X9_act hS hB hm) (fun v11 μ11 hv11 => ?_)
    obtain ⟨c11, rfl, rfl, hc11⟩ := hv11
    dsimp only [Option.toList, List.cons_append, List.nil_append]
    refine zl_ald0 I107_14 ?_
    refine zl_ild1 I107_15 ?_
    have hd : zDid c c11 := hc11
    have e146 := hd.v
    have hB1 := hd.b
    refine zr_callV I107_16 C9_103 ⟨rfl, rfl⟩ ⟨rfl, Nat.le_of_ble_eq_true rfl⟩ (Or.inl ⟨rfl, sT145 hS⟩) (e_X9_drops hS hB1 (by rw [e146]; exact hc) (by rw [e146]; omega)) (fun v16 μ16 hv16 => ?_)
    obtain ⟨c16, rfl, rfl, hc16⟩ := hv16
    dsimp only [Option.toList, List.cons_append, List.nil_append]
    refine zl_ald0 I107_19 ?_
    refine zr_getr (j := 0) I107_20 F9_7 rfl (sT145 hS) (sR145_0 hS) ?_
    refine zr_iconst I107_23 ?_
    have hB2 := hc16.2.2.2
    refine zr_iaB hB2 (by decide) I107_24 (sT146 hS) (sN146 hS) (by omega) (fun b24 => ?_)
    refine zr_iret I107_25 rfl ?_
    exact ⟨_, _, rfl, rfl, Or.inr ⟨by omega, by rw [hc16.1, e146], c11, hd, hc16⟩⟩
  · refine zr_iconst I107_8 ?_
    refine zr_iret I107_9 rfl ?_
    exact ⟨_, _, rfl, rfl, Or.inl ⟨by omega, rfl, rfl⟩⟩
