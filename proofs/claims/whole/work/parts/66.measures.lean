/-! the model: the table of the fewest fillers -/
def zBs (z b t p : Int) : Int := if t = z ∧ (p = 16 ∨ p ≠ b) then 0 else 999
def zRw (c : zC) (w : Int → Int) (a z b t p n : Int) : Prop := (w (17 * (t - a) + p) ≤ zBs z b t p ∧ 0 ≤ w (17 * (t - a) + p)) ∧ (t < z → ∀ q, 0 ≤ q → q < n → zMf c q (-1) t z → p ≠ q → w (17 * (t - a) + p) ≤ 1 + w (17 * (t + c 146 (10 + 4 * q + 1) - a) + q)) ∧ (w (17 * (t - a) + p) = zBs z b t p ∨ (t < z ∧ ∃ q, 0 ≤ q ∧ q < n ∧ zMf c q (-1) t z ∧ p ≠ q ∧ w (17 * (t - a) + p) = 1 + w (17 * (t + c 146 (10 + 4 * q + 1) - a) + q)))
theorem zMf_c {c c1 : zC} (e : c1 146 = c 146) (p b t z : Int) : zMf c1 p b t z = zMf c p b t z := by
  unfold zMf
  rw [e]
theorem zRw_c {c : zC} {w w' : Int → Int} {a z b t p n : Int} (hlen : ∀ q, 0 ≤ q → q < n → 1 ≤ c 146 (10 + 4 * q + 1)) (hp : 0 ≤ p) (h : ∀ k, 17 * (t - a) ≤ k → w' k = w k) (hr : zRw c w a z b t p n) : zRw c w' a z b t p n := by
  obtain ⟨h1, h2, h3⟩ := hr
  have e1 := h (17 * (t - a) + p) (by omega)
  refine ⟨by omega, fun t1 q q1 q2 q3 q4 => ?_, ?_⟩
  · have e2 := h (17 * (t + c 146 (10 + 4 * q + 1) - a) + q) (by have := hlen q q1 q2; omega)
    have := h2 t1 q q1 q2 q3 q4
    omega
  · rcases h3 with h3 | ⟨t1, q, q1, q2, q3, q4, q5⟩
    · exact Or.inl (by omega)
    · have e2 := h (17 * (t + c 146 (10 + 4 * q + 1) - a) + q) (by have := hlen q q1 q2; omega)
      exact Or.inr ⟨t1, q, q1, q2, q3, q4, by omega⟩
theorem zRw_n {c : zC} {w : Int → Int} {a z b t p q : Int} (hno : t < z → ¬ zMf c q (-1) t z) (hr : zRw c w a z b t p q) : zRw c w a z b t p (q + 1) := by
  obtain ⟨h1, h2, h3⟩ := hr
  refine ⟨h1, fun t1 q' q1 q2 q3 q4 => ?_, ?_⟩
  · by_cases e : q' = q
    · subst e
      exact absurd q3 (hno t1)
    · exact h2 t1 q' q1 (by omega) q3 q4
  · rcases h3 with h3 | ⟨t1, q', q1, q2, q3, q4, q5⟩
    · exact Or.inl h3
    · exact Or.inr ⟨t1, q', q1, by omega, q3, q4, q5⟩
theorem zRw_z {c : zC} {w : Int → Int} {a z b t p q n : Int} (hno : ¬ t < z) (hr : zRw c w a z b t p q) : zRw c w a z b t p n := by
  obtain ⟨h1, h2, h3⟩ := hr
  refine ⟨h1, fun t1 => absurd t1 hno, ?_⟩
  rcases h3 with h3 | ⟨t1, _⟩
  · exact Or.inl h3
  · exact absurd t1 hno
theorem zRw_s {c : zC} {w w' : Int → Int} {a z b t p q e : Int} (hlen : ∀ q', 0 ≤ q' → q' < q + 1 → 1 ≤ c 146 (10 + 4 * q' + 1)) (hp : 0 ≤ p ∧ p < 17) (hq : 0 ≤ q) (hm : zMf c q (-1) t z) (ht : t < z) (he : e = 1 + w (17 * (t + c 146 (10 + 4 * q + 1) - a) + q)) (he0 : 0 ≤ e)
    (hw : ∀ k, w' k = if 17 * (t - a) ≤ k ∧ k < 17 * (t - a) + 17 then (if k ≠ 17 * (t - a) + q ∧ e < w k then e else w k) else w k) (hr : zRw c w a z b t p q) : zRw c w' a z b t p (q + 1) := by
  obtain ⟨h1, h2, h3⟩ := hr
  have e1 := hw (17 * (t - a) + p)
  rw [if_pos (by omega)] at e1
  have eU : ∀ q', 0 ≤ q' → q' < q + 1 → w' (17 * (t + c 146 (10 + 4 * q' + 1) - a) + q') = w (17 * (t + c 146 (10 + 4 * q' + 1) - a) + q') := fun q' q1 q2 => by
    have := hlen q' q1 q2
    rw [hw, if_neg (by omega)]
  have eq := eU q hq (by omega)
  by_cases hc : p ≠ q ∧ e < w (17 * (t - a) + p)
  · rw [if_pos (by omega)] at e1
    refine ⟨by omega, fun t1 q' q1 q2 q3 q4 => ?_, Or.inr ⟨ht, q, hq, by omega, hm, hc.1, by omega⟩⟩
    have e2 := eU q' q1 q2
    by_cases e9 : q' = q
    · subst e9
      omega
    · have := h2 t1 q' q1 (by omega) q3 q4
      omega
  · rw [if_neg (by omega)] at e1
    refine ⟨by omega, fun t1 q' q1 q2 q3 q4 => ?_, ?_⟩
    · have e2 := eU q' q1 q2
      by_cases e9 : q' = q
      · subst e9
        omega
      · have := h2 t1 q' q1 (by omega) q3 q4
        omega
    · rcases h3 with h3 | ⟨t1, q', q1, q2, q3, q4, q5⟩
      · exact Or.inl (by omega)
      · have e2 := eU q' q1 (by omega)
        exact Or.inr ⟨t1, q', q1, by omega, q3, q4, by omega⟩
def zMs (c c' : zC) (a z b : Int) : Prop := (∀ t p, a ≤ t → t ≤ z → 0 ≤ p → p < 17 → zRw c (c' 153) a z b t p (c 146 0)) ∧ (∀ r, r ≠ 153 → c' r = c r) ∧ zBd c'
set_option maxRecDepth 10000 in
set_option maxHeartbeats 2000000 in
theorem e_X9_measures_i {d n sl : Nat} {S : zSh} {c : zC} (hS : zSok S) {a z b t q e : Int} {w : Int → Int} (ha : 0 ≤ a ∧ a ≤ 10079) (hz : a < z ∧ z ≤ 10080 ∧ z - a ≤ 240) (hbb : -1 ≤ b ∧ b < 16) (ht : a ≤ t ∧ t ≤ z) (hq : 0 ≤ q ∧ q < 16) (he : -100000 ≤ e ∧ e ≤ 100000) (hex : ∀ c2 : zC, (∀ r, r ≠ 153 → c2 r = c r) → zBd c2 → (∀ k, c2 153 k = if 17 * (t - a) ≤ k ∧ k < 17 * (t - a) + 17 then (if k ≠ 17 * (t - a) + q ∧ e < w k then e else w k) else w k) → ∀ w6 w7 w8, zE (d + 3) 111 73 [some (zA 145), some (zI a), some (zI z), some (zI b), some (zI t), some (zI (q + 1)), w6, w7, w8] [] ((n, sl), (S, c2)) (fun r μ' => ∃ c', r = none ∧ μ' = ((n, sl), (S, c')) ∧ zMs c c' a z b)) : ∀ i : Int, i ≤ 17 → ∀ c1 : zC, ∀ w8 : Option zV, (0 ≤ i) → (∀ r, r ≠ 153 → c1 r = c r) → (zBd c1) → (∀ k, c1 153 k = if 17 * (t - a) ≤ k ∧ k < 17 * (t - a) + i then (if k ≠ 17 * (t - a) + q ∧ e < w k then e else w k) else w k) → zE (d + 3) 111 132 [some (zA 145), some (zI a), some (zI z), some (zI b), some (zI t), some (zI q), some (zI e), some (zI i), w8] [] ((n, sl), (S, c1)) (fun r μ' => ∃ c', r = none ∧ μ' = ((n, sl), (S, c')) ∧ zMs c c' a z b) := by
  refine zind _ (fun i ih hN => ?_)
  intro c1 w8 h0 hfr hBd hls
  have hb9 := hBd 153 (17 * (t - a) + i) (by decide)
  refine zl_ild7 I111_132 ?_
  refine zr_bipush I111_134 ?_
  refine zr_ic_ge (t := 195) I111_136 rfl (fun h136 => ?_) (fun h136 => ?_)
  · refine zl_iinc5 I111_195 (by unfold zInR; omega) ?_
    refine zr_goto (t := 73) I111_198 rfl ?_
    refine hex _ hfr hBd (fun k => by rw [hls k, show i = 17 by omega]) _ _ _
  · refine zr_bipush I111_139 ?_
    refine zl_ild4 I111_141 ?_
    refine zl_ild1 I111_143 ?_
    refine zr_isub I111_144 (by unfold zInR; omega) ?_
    refine zr_imul I111_145 (by unfold zInR; omega) ?_
    refine zl_ild7 I111_146 ?_
    refine zr_iadd I111_148 (by unfold zInR; omega) ?_
    refine zl_ist8 I111_149 ?_
    refine zl_ald0 I111_151 ?_
    refine zr_getr (j := 9) I111_152 F9_31 rfl (sT145 hS) (sR145_9 hS) ?_
    refine zl_ild8 I111_155 ?_
    refine zl_ild7 I111_157 ?_
    refine zl_ild5 I111_159 ?_
    refine zr_ic_eq (t := 181) I111_161 rfl (fun h161 => ?_) (fun h161 => ?_)
    · refine zl_ald0 I111_181 ?_
      refine zr_getr (j := 9) I111_182 F9_31 rfl (sT145 hS) (sR145_9 hS) ?_
      refine zl_ild8 I111_185 ?_
      refine zr_iaB hBd (by decide) I111_187 (sT153 hS) (sN153 hS) (by omega) (fun b187 => ?_)
      refine zr_iast I111_188 (sT153 hS) (sN153 hS) (by omega) ?_
      refine zl_iinc7 I111_189 (by unfold zInR; omega) ?_
      refine zr_goto (t := 132) I111_192 rfl ?_
      refine ih _ (by omega) (by omega) _ _ (by omega) (fun r hr => by rw [zup_ne hr]; exact hfr r hr) (zBd_up hBd (by omega)) (fun k => ?_)
      rw [zup_q]
      by_cases e9 : k = 17 * (t - a) + i
      · subst e9
        rw [if_pos rfl, if_pos (by omega)]
        have e8 := hls (17 * (t - a) + i)
        rw [if_neg (by omega)] at e8
        rw [if_neg (by omega)]; omega
      · rw [if_neg e9, hls k]
        by_cases e2 : 17 * (t - a) ≤ k ∧ k < 17 * (t - a) + i
        · rw [if_pos e2, if_pos (show 17 * (t - a) ≤ k ∧ k < 17 * (t - a) + (i + 1) by omega)]
        · rw [if_neg e2, if_neg (show ¬ (17 * (t - a) ≤ k ∧ k < 17 * (t - a) + (i + 1)) by omega)]
    · refine zl_ild6 I111_164 ?_
      refine zl_ald0 I111_166 ?_
      refine zr_getr (j := 9) I111_167 F9_31 rfl (sT145 hS) (sR145_9 hS) ?_
      refine zl_ild8 I111_170 ?_
      refine zr_iald I111_172 (sT153 hS) (sN153 hS) (by omega) ?_
      refine zr_ic_ge (t := 181) I111_173 rfl (fun h173 => ?_) (fun h173 => ?_)
      · refine zl_ald0 I111_181 ?_
        refine zr_getr (j := 9) I111_182 F9_31 rfl (sT145 hS) (sR145_9 hS) ?_
        refine zl_ild8 I111_185 ?_
        refine zr_iald I111_187 (sT153 hS) (sN153 hS) (by omega) ?_
        refine zr_iast I111_188 (sT153 hS) (sN153 hS) (by omega) ?_
        refine zl_iinc7 I111_189 (by unfold zInR; omega) ?_
        refine zr_goto (t := 132) I111_192 rfl ?_
        refine ih _ (by omega) (by omega) _ _ (by omega) (fun r hr => by rw [zup_ne hr]; exact hfr r hr) (zBd_up hBd (by omega)) (fun k => ?_)
        rw [zup_q]
        by_cases e9 : k = 17 * (t - a) + i
        · subst e9
          rw [if_pos rfl, if_pos (by omega)]
          have e8 := hls (17 * (t - a) + i)
          rw [if_neg (by omega)] at e8
          rw [if_neg (by omega)]; omega
        · rw [if_neg e9, hls k]
          by_cases e2 : 17 * (t - a) ≤ k ∧ k < 17 * (t - a) + i
          · rw [if_pos e2, if_pos (show 17 * (t - a) ≤ k ∧ k < 17 * (t - a) + (i + 1) by omega)]
          · rw [if_neg e2, if_neg (show ¬ (17 * (t - a) ≤ k ∧ k < 17 * (t - a) + (i + 1)) by omega)]
      · refine zl_ild6 I111_176 ?_
        refine zr_goto (t := 188) I111_178 rfl ?_
        refine zr_iast I111_188 (sT153 hS) (sN153 hS) (by omega) ?_
        refine zl_iinc7 I111_189 (by unfold zInR; omega) ?_
        refine zr_goto (t := 132) I111_192 rfl ?_
        refine ih _ (by omega) (by omega) _ _ (by omega) (fun r hr => by rw [zup_ne hr]; exact hfr r hr) (zBd_up hBd (by omega)) (fun k => ?_)
        rw [zup_q]
        by_cases e9 : k = 17 * (t - a) + i
        · subst e9
          rw [if_pos rfl, if_pos (by omega)]
          have e8 := hls (17 * (t - a) + i)
          rw [if_neg (by omega)] at e8
          rw [if_pos (by omega)]
        · rw [if_neg e9, hls k]
          by_cases e2 : 17 * (t - a) ≤ k ∧ k < 17 * (t - a) + i
          · rw [if_pos e2, if_pos (show 17 * (t - a) ≤ k ∧ k < 17 * (t - a) + (i + 1) by omega)]
          · rw [if_neg e2, if_neg (show ¬ (17 * (t - a) ≤ k ∧ k < 17 * (t - a) + (i + 1)) by omega)]
set_option maxRecDepth 10000 in
set_option maxHeartbeats 2000000 in
theorem e_X9_measures_q {d n sl : Nat} {S : zSh} {c : zC} (hS : zSok S) (hbl : ∀ j, 0 ≤ j → j < c 146 1 → 0 ≤ c 146 (80 + 3 * j) ∧ c 146 (80 + 3 * j) < c 146 (80 + 3 * j + 1) ∧ c 146 (80 + 3 * j + 1) ≤ 1440) (hn : 0 ≤ c 146 1 ∧ c 146 1 ≤ 10)  (hlen : ∀ p, 0 ≤ p → p < c 146 0 → 1 ≤ c 146 (10 + 4 * p + 1) ∧ c 146 (10 + 4 * p + 1) ≤ 240) (hpn : 0 ≤ c 146 0 ∧ c 146 0 ≤ 16) {a z b t : Int} (ha : 0 ≤ a ∧ a ≤ 10079) (hz : a < z ∧ z ≤ 10080 ∧ z - a ≤ 240) (hbb : -1 ≤ b ∧ b < 16) (ht : a ≤ t ∧ t ≤ z) (hex : ∀ c2 : zC, (∀ r, r ≠ 153 → c2 r = c r) → zBd c2 → (∀ t' p, t ≤ t' → t' ≤ z → 0 ≤ p → p < 17 → zRw c (c2 153) a z b t' p (c 146 0)) → ∀ w5 w6 w7 w8, zE (d + 3) 111 3 [some (zA 145), some (zI a), some (zI z), some (zI b), some (zI (t + (-1))), w5, w6, w7, w8] [] ((n, sl), (S, c2)) (fun r μ' => ∃ c', r = none ∧ μ' = ((n, sl), (S, c')) ∧ zMs c c' a z b)) : ∀ q : Int, q ≤ c 146 0 → ∀ c1 : zC, ∀ w6 : Option zV, ∀ w7 : Option zV, ∀ w8 : Option zV, (0 ≤ q) → (∀ r, r ≠ 153 → c1 r = c r) → (zBd c1) → (∀ p, 0 ≤ p → p < 17 → zRw c (c1 153) a z b t p q) → ((∀ t' p, t < t' → t' ≤ z → 0 ≤ p → p < 17 → zRw c (c1 153) a z b t' p (c 146 0))) → zE (d + 3) 111 73 [some (zA 145), some (zI a), some (zI z), some (zI b), some (zI t), some (zI q), w6, w7, w8] [] ((n, sl), (S, c1)) (fun r μ' => ∃ c', r = none ∧ μ' = ((n, sl), (S, c')) ∧ zMs c c' a z b) := by
  refine zind _ (fun q ih hN => ?_)
  intro c1 w6 w7 w8 h0 hfr hBd hrow hup
  have e146 := hfr 146 (by decide)
  have n0 : c1 146 0 = c 146 0 := by rw [e146]
  refine zl_ild5 I111_73 ?_
  refine zl_ald0 I111_75 ?_
  refine zr_getr (j := 0) I111_76 F9_7 rfl (sT145 hS) (sR145_0 hS) ?_
  refine zr_iconst I111_79 ?_
  refine zr_iaB hBd (by decide) I111_80 (sT146 hS) (sN146 hS) (by omega) (fun b80 => ?_)
  refine zr_ic_ge (t := 201) I111_81 rfl (fun h81 => ?_) (fun h81 => ?_)
  · refine zl_iinc4 I111_201 (by unfold zInR; omega) ?_
    refine zr_goto (t := 3) I111_204 rfl ?_
    refine hex _ hfr hBd (fun t' p h1 h2 h3 h4 => ?_) _ _ _ _
    by_cases e9 : t' = t
    · subst e9
      rw [show c 146 0 = q by omega]
      exact hrow p h3 h4
    · exact hup t' p (by omega) h2 h3 h4
  · refine zl_ild4 I111_84 ?_
    refine zl_ild2 I111_86 ?_
    refine zr_ic_ge (t := 201) I111_87 rfl (fun h87 => ?_) (fun h87 => ?_)
    · refine zl_iinc4 I111_201 (by unfold zInR; omega) ?_
      refine zr_goto (t := 3) I111_204 rfl ?_
      refine hex _ hfr hBd (fun t' p h1 h2 h3 h4 => ?_) _ _ _ _
      by_cases e9 : t' = t
      · subst e9
        exact zRw_z (by omega) (hrow p h3 h4)
      · exact hup t' p (by omega) h2 h3 h4
    · refine zl_ald0 I111_90 ?_
      refine zl_ild5 I111_91 ?_
      refine zr_iconst I111_93 ?_
      refine zl_ild4 I111_94 ?_
      refine zl_ild2 I111_96 ?_
      refine zr_callV I111_97 C9_110 ⟨rfl, rfl⟩ ⟨rfl, Nat.le_of_ble_eq_true rfl⟩ (Or.inl ⟨rfl, sT145 hS⟩) (e_X9_mayFill hS hBd (by rw [e146]; exact hbl) (by rw [e146]; exact hn) (by omega) (by omega) (by omega)) (fun v97 μ97 hv97 => ?_)
      obtain ⟨x97, rfl, hx97, rfl⟩ := hv97
      unfold zTf at hx97
      rw [zMf_c e146] at hx97
      dsimp only [Option.toList, List.cons_append, List.nil_append]
      refine zr_if_eq (t := 195) I111_100 rfl (fun h100 => ?_) (fun h100 => ?_)
      · have hnm := hx97.elim (fun h => absurd (h.1.symm.trans h100) (by decide)) (fun h => h.2)
        refine zl_iinc5 I111_195 (by unfold zInR; omega) ?_
        refine zr_goto (t := 73) I111_198 rfl ?_
        refine ih _ (by omega) (by omega) _ _ _ _ (by omega) hfr hBd (fun p h3 h4 => zRw_n (fun _ => hnm) (hrow p h3 h4)) hup
      · have hym := hx97.elim (fun h => h.2) (fun h => absurd h.1 h100)
        have hml := hym.2.2.1
        have hl1 := hlen q h0 (by omega)
        have hr0 := (hup (t + c 146 (10 + 4 * q + 1)) q (by omega) hml h0 (by omega)).1
        have hz99 : zBs z b (t + c 146 (10 + 4 * q + 1)) q ≤ 999 := by unfold zBs; split <;> omega
        refine zr_iconst I111_103 ?_
        refine zl_ald0 I111_104 ?_
        refine zr_getr (j := 9) I111_105 F9_31 rfl (sT145 hS) (sR145_9 hS) ?_
        refine zr_bipush I111_108 ?_
        refine zl_ild4 I111_110 ?_
        refine zl_ald0 I111_112 ?_
        refine zl_ild5 I111_113 ?_
        refine zr_callV I111_115 C9_73 ⟨rfl, rfl⟩ ⟨rfl, Nat.le_of_ble_eq_true rfl⟩ (Or.inl ⟨rfl, sT145 hS⟩) (e_X9_length hS hBd (by omega)) (fun v115 μ115 hv115 => ?_)
        obtain ⟨rfl, rfl⟩ := hv115
        dsimp only [Option.toList, List.cons_append, List.nil_append]
        rw [e146]
        refine zr_iadd I111_118 (by unfold zInR; omega) ?_
        refine zl_ild1 I111_119 ?_
        refine zr_isub I111_120 (by unfold zInR; omega) ?_
        refine zr_imul I111_121 (by unfold zInR; omega) ?_
        refine zl_ild5 I111_122 ?_
        refine zr_iadd I111_124 (by unfold zInR; omega) ?_
        refine zr_iaB hBd (by decide) I111_125 (sT153 hS) (sN153 hS) (by omega) (fun b125 => ?_)
        refine zr_iadd I111_126 (by unfold zInR; omega) ?_
        refine zl_ist6 I111_127 ?_
        refine zr_iconst I111_129 ?_
        refine zl_ist7 I111_130 ?_
        refine e_X9_measures_i hS ha hz hbb ht (q := q) (e := 1 + c1 153 (17 * (t + c 146 (10 + 4 * q + 1) - a) + q)) (w := c1 153) (by omega) (by omega) (fun c2 f2 b2 l2 w6 w7 w8 => ?_) 0 (by omega) _ _ (by omega) hfr hBd (fun k => by rw [if_neg (by omega)])
        refine ih _ (by omega) (by omega) _ _ _ _ (by omega) f2 b2 (fun p h3 h4 => zRw_s (fun q' q1 q2 => (hlen q' q1 (by omega)).1) ⟨h3, h4⟩ h0 hym (by omega) rfl (by omega) l2 (hrow p h3 h4)) (fun t' p h1 h2 h3 h4 => ?_)
        refine zRw_c (fun q' q1 q2 => (hlen q' q1 q2).1) h3 (fun k hk => ?_) (hup t' p h1 h2 h3 h4)
        rw [l2 k, if_neg (by omega)]
set_option maxRecDepth 10000 in
set_option maxHeartbeats 2000000 in
theorem e_X9_measures_p {d n sl : Nat} {S : zSh} {c : zC} (hS : zSok S) (hbl : ∀ j, 0 ≤ j → j < c 146 1 → 0 ≤ c 146 (80 + 3 * j) ∧ c 146 (80 + 3 * j) < c 146 (80 + 3 * j + 1) ∧ c 146 (80 + 3 * j + 1) ≤ 1440) (hn : 0 ≤ c 146 1 ∧ c 146 1 ≤ 10)  (hlen : ∀ p, 0 ≤ p → p < c 146 0 → 1 ≤ c 146 (10 + 4 * p + 1) ∧ c 146 (10 + 4 * p + 1) ≤ 240) (hpn : 0 ≤ c 146 0 ∧ c 146 0 ≤ 16) {a z b t : Int} (ha : 0 ≤ a ∧ a ≤ 10079) (hz : a < z ∧ z ≤ 10080 ∧ z - a ≤ 240) (hbb : -1 ≤ b ∧ b < 16) (ht : a ≤ t ∧ t ≤ z) (hex : ∀ c2 : zC, (∀ r, r ≠ 153 → c2 r = c r) → zBd c2 → (∀ t' p, t ≤ t' → t' ≤ z → 0 ≤ p → p < 17 → zRw c (c2 153) a z b t' p (c 146 0)) → ∀ w5 w6 w7 w8, zE (d + 3) 111 3 [some (zA 145), some (zI a), some (zI z), some (zI b), some (zI (t + (-1))), w5, w6, w7, w8] [] ((n, sl), (S, c2)) (fun r μ' => ∃ c', r = none ∧ μ' = ((n, sl), (S, c')) ∧ zMs c c' a z b)) : ∀ i : Int, i ≤ 17 → ∀ c1 : zC, ∀ w6 : Option zV, ∀ w7 : Option zV, ∀ w8 : Option zV, (0 ≤ i) → (∀ r, r ≠ 153 → c1 r = c r) → (zBd c1) → (∀ p, 0 ≤ p → p < i → c1 153 (17 * (t - a) + p) = zBs z b t p) → ((∀ t' p, t < t' → t' ≤ z → 0 ≤ p → p < 17 → zRw c (c1 153) a z b t' p (c 146 0))) → zE (d + 3) 111 12 [some (zA 145), some (zI a), some (zI z), some (zI b), some (zI t), some (zI i), w6, w7, w8] [] ((n, sl), (S, c1)) (fun r μ' => ∃ c', r = none ∧ μ' = ((n, sl), (S, c')) ∧ zMs c c' a z b) := by
  refine zind _ (fun i ih hN => ?_)
  intro c1 w6 w7 w8 h0 hfr hBd hrow hup
  refine zl_ild5 I111_12 ?_
  refine zr_bipush I111_14 ?_
  refine zr_ic_ge (t := 70) I111_16 rfl (fun h16 => ?_) (fun h16 => ?_)
  · refine zr_iconst I111_70 ?_
    refine zl_ist5 I111_71 ?_
    refine e_X9_measures_q hS hbl hn hlen hpn ha hz hbb ht hex 0 (by omega) _ _ _ _ (by omega) hfr hBd (fun p h3 h4 => ?_) hup
    have := hrow p h3 (by omega)
    have hz9 : zBs z b t p = 0 ∨ zBs z b t p = 999 := by
      unfold zBs
      split
      · exact Or.inl rfl
      · exact Or.inr rfl
    exact ⟨by omega, fun _ q q1 q2 => absurd q1 (by omega), Or.inl (by omega)⟩
  · refine zl_ild4 I111_19 ?_
    refine zl_ild2 I111_21 ?_
    refine zr_ic_ne (t := 42) I111_22 rfl (fun h22 => ?_) (fun h22 => ?_)
    · refine zr_sipush I111_42 ?_
      refine zl_ist6 I111_45 ?_
      refine zl_ald0 I111_47 ?_
      refine zr_getr (j := 9) I111_48 F9_31 rfl (sT145 hS) (sR145_9 hS) ?_
      refine zr_bipush I111_51 ?_
      refine zl_ild4 I111_53 ?_
      refine zl_ild1 I111_55 ?_
      refine zr_isub I111_56 (by unfold zInR; omega) ?_
      refine zr_imul I111_57 (by unfold zInR; omega) ?_
      refine zl_ild5 I111_58 ?_
      refine zr_iadd I111_60 (by unfold zInR; omega) ?_
      refine zl_ild6 I111_61 ?_
      refine zr_iast I111_63 (sT153 hS) (sN153 hS) (by omega) ?_
      refine zl_iinc5 I111_64 (by unfold zInR; omega) ?_
      refine zr_goto (t := 12) I111_67 rfl ?_
      refine ih _ (by omega) (by omega) _ _ _ _ (by omega) (fun r hr => by rw [zup_ne hr]; exact hfr r hr) (zBd_up hBd (by omega)) (fun p h3 h4 => ?_) (fun t' p h1 h2 h3 h4 => ?_)
      · rw [zup_q]
        by_cases e9 : p = i
        · subst e9
          rw [if_pos rfl]
          unfold zBs
          rw [if_neg (by omega)]
        · rw [if_neg (by omega)]
          exact hrow p h3 (by omega)
      · refine zRw_c (fun q' q1 q2 => (hlen q' q1 q2).1) h3 (fun k hk => ?_) (hup t' p h1 h2 h3 h4)
        rw [zup_q, if_neg (by omega)]
    · refine zl_ild5 I111_25 ?_
      refine zr_bipush I111_27 ?_
      refine zr_ic_eq (t := 38) I111_29 rfl (fun h29 => ?_) (fun h29 => ?_)
      · refine zr_iconst I111_38 ?_
        refine zr_goto (t := 45) I111_39 rfl ?_
        refine zl_ist6 I111_45 ?_
        refine zl_ald0 I111_47 ?_
        refine zr_getr (j := 9) I111_48 F9_31 rfl (sT145 hS) (sR145_9 hS) ?_
        refine zr_bipush I111_51 ?_
        refine zl_ild4 I111_53 ?_
        refine zl_ild1 I111_55 ?_
        refine zr_isub I111_56 (by unfold zInR; omega) ?_
        refine zr_imul I111_57 (by unfold zInR; omega) ?_
        refine zl_ild5 I111_58 ?_
        refine zr_iadd I111_60 (by unfold zInR; omega) ?_
        refine zl_ild6 I111_61 ?_
        refine zr_iast I111_63 (sT153 hS) (sN153 hS) (by omega) ?_
        refine zl_iinc5 I111_64 (by unfold zInR; omega) ?_
        refine zr_goto (t := 12) I111_67 rfl ?_
        refine ih _ (by omega) (by omega) _ _ _ _ (by omega) (fun r hr => by rw [zup_ne hr]; exact hfr r hr) (zBd_up hBd (by omega)) (fun p h3 h4 => ?_) (fun t' p h1 h2 h3 h4 => ?_)
        · rw [zup_q]
          by_cases e9 : p = i
          · subst e9
            rw [if_pos rfl]
            unfold zBs
            rw [if_pos (by omega)]
          · rw [if_neg (by omega)]
            exact hrow p h3 (by omega)
        · refine zRw_c (fun q' q1 q2 => (hlen q' q1 q2).1) h3 (fun k hk => ?_) (hup t' p h1 h2 h3 h4)
          rw [zup_q, if_neg (by omega)]
      · refine zl_ild5 I111_32 ?_
        refine zl_ild3 I111_34 ?_
        refine zr_ic_eq (t := 42) I111_35 rfl (fun h35 => ?_) (fun h35 => ?_)
        · refine zr_sipush I111_42 ?_
          refine zl_ist6 I111_45 ?_
          refine zl_ald0 I111_47 ?_
          refine zr_getr (j := 9) I111_48 F9_31 rfl (sT145 hS) (sR145_9 hS) ?_
          refine zr_bipush I111_51 ?_
          refine zl_ild4 I111_53 ?_
          refine zl_ild1 I111_55 ?_
          refine zr_isub I111_56 (by unfold zInR; omega) ?_
          refine zr_imul I111_57 (by unfold zInR; omega) ?_
          refine zl_ild5 I111_58 ?_
          refine zr_iadd I111_60 (by unfold zInR; omega) ?_
          refine zl_ild6 I111_61 ?_
          refine zr_iast I111_63 (sT153 hS) (sN153 hS) (by omega) ?_
          refine zl_iinc5 I111_64 (by unfold zInR; omega) ?_
          refine zr_goto (t := 12) I111_67 rfl ?_
          refine ih _ (by omega) (by omega) _ _ _ _ (by omega) (fun r hr => by rw [zup_ne hr]; exact hfr r hr) (zBd_up hBd (by omega)) (fun p h3 h4 => ?_) (fun t' p h1 h2 h3 h4 => ?_)
          · rw [zup_q]
            by_cases e9 : p = i
            · subst e9
              rw [if_pos rfl]
              unfold zBs
              rw [if_neg (by omega)]
            · rw [if_neg (by omega)]
              exact hrow p h3 (by omega)
          · refine zRw_c (fun q' q1 q2 => (hlen q' q1 q2).1) h3 (fun k hk => ?_) (hup t' p h1 h2 h3 h4)
            rw [zup_q, if_neg (by omega)]
        · refine zr_iconst I111_38 ?_
          refine zr_goto (t := 45) I111_39 rfl ?_
          refine zl_ist6 I111_45 ?_
          refine zl_ald0 I111_47 ?_
          refine zr_getr (j := 9) I111_48 F9_31 rfl (sT145 hS) (sR145_9 hS) ?_
          refine zr_bipush I111_51 ?_
          refine zl_ild4 I111_53 ?_
          refine zl_ild1 I111_55 ?_
          refine zr_isub I111_56 (by unfold zInR; omega) ?_
          refine zr_imul I111_57 (by unfold zInR; omega) ?_
          refine zl_ild5 I111_58 ?_
          refine zr_iadd I111_60 (by unfold zInR; omega) ?_
          refine zl_ild6 I111_61 ?_
          refine zr_iast I111_63 (sT153 hS) (sN153 hS) (by omega) ?_
          refine zl_iinc5 I111_64 (by unfold zInR; omega) ?_
          refine zr_goto (t := 12) I111_67 rfl ?_
          refine ih _ (by omega) (by omega) _ _ _ _ (by omega) (fun r hr => by rw [zup_ne hr]; exact hfr r hr) (zBd_up hBd (by omega)) (fun p h3 h4 => ?_) (fun t' p h1 h2 h3 h4 => ?_)
          · rw [zup_q]
            by_cases e9 : p = i
            · subst e9
              rw [if_pos rfl]
              unfold zBs
              rw [if_pos (by omega)]
            · rw [if_neg (by omega)]
              exact hrow p h3 (by omega)
          · refine zRw_c (fun q' q1 q2 => (hlen q' q1 q2).1) h3 (fun k hk => ?_) (hup t' p h1 h2 h3 h4)
            rw [zup_q, if_neg (by omega)]
set_option maxRecDepth 10000 in
set_option maxHeartbeats 2000000 in
theorem e_X9_measures_t {d n sl : Nat} {S : zSh} {c : zC} (hS : zSok S) (hbl : ∀ j, 0 ≤ j → j < c 146 1 → 0 ≤ c 146 (80 + 3 * j) ∧ c 146 (80 + 3 * j) < c 146 (80 + 3 * j + 1) ∧ c 146 (80 + 3 * j + 1) ≤ 1440) (hn : 0 ≤ c 146 1 ∧ c 146 1 ≤ 10)  (hlen : ∀ p, 0 ≤ p → p < c 146 0 → 1 ≤ c 146 (10 + 4 * p + 1) ∧ c 146 (10 + 4 * p + 1) ≤ 240) (hpn : 0 ≤ c 146 0 ∧ c 146 0 ≤ 16) {a z b : Int} (ha : 0 ≤ a ∧ a ≤ 10079) (hz : a < z ∧ z ≤ 10080 ∧ z - a ≤ 240) (hbb : -1 ≤ b ∧ b < 16) : ∀ i : Int, i ≤ z - a + 1 → ∀ c1 : zC, ∀ w5 : Option zV, ∀ w6 : Option zV, ∀ w7 : Option zV, ∀ w8 : Option zV, (0 ≤ i) → (∀ r, r ≠ 153 → c1 r = c r) → (zBd c1) → ((∀ t' p, z - i < t' → t' ≤ z → 0 ≤ p → p < 17 → zRw c (c1 153) a z b t' p (c 146 0))) → zE (d + 3) 111 3 [some (zA 145), some (zI a), some (zI z), some (zI b), some (zI (z - i)), w5, w6, w7, w8] [] ((n, sl), (S, c1)) (fun r μ' => ∃ c', r = none ∧ μ' = ((n, sl), (S, c')) ∧ zMs c c' a z b) := by
  refine zind _ (fun i ih hN => ?_)
  intro c1 w5 w6 w7 w8 h0 hfr hBd hup
  refine zl_ild4 I111_3 ?_
  refine zl_ild1 I111_5 ?_
  refine zr_ic_lt (t := 207) I111_6 rfl (fun h6 => ?_) (fun h6 => ?_)
  · refine zr_vret I111_207 rfl ?_
    exact ⟨_, rfl, rfl, fun t' p h1 h2 h3 h4 => hup t' p (by omega) h2 h3 h4, hfr, hBd⟩
  · refine zr_iconst I111_9 ?_
    refine zl_ist5 I111_10 ?_
    refine e_X9_measures_p hS hbl hn hlen hpn ha hz hbb (t := z - i) (by omega) (fun c2 f2 b2 u2 w5 w6 w7 w8 => ?_) 0 (by omega) _ _ _ _ (by omega) hfr hBd (fun p h3 h4 => absurd h3 (by omega)) (fun t' p h1 h2 h3 h4 => hup t' p (by omega) h2 h3 h4)
    have := ih (i + 1) (by omega) (by omega) c2 w5 w6 w7 w8 (by omega) f2 b2 (fun t' p h1 h2 h3 h4 => u2 t' p (by omega) h2 h3 h4)
    rw [show z - (i + 1) = z - i + (-1) by omega] at this
    exact this
set_option maxRecDepth 10000 in
set_option maxHeartbeats 2000000 in
theorem e_X9_measures {d n sl : Nat} {S : zSh} {c : zC} (hS : zSok S) (hB : zBd c) (hbl : ∀ j, 0 ≤ j → j < c 146 1 → 0 ≤ c 146 (80 + 3 * j) ∧ c 146 (80 + 3 * j) < c 146 (80 + 3 * j + 1) ∧ c 146 (80 + 3 * j + 1) ≤ 1440) (hn : 0 ≤ c 146 1 ∧ c 146 1 ≤ 10)  (hlen : ∀ p, 0 ≤ p → p < c 146 0 → 1 ≤ c 146 (10 + 4 * p + 1) ∧ c 146 (10 + 4 * p + 1) ≤ 240) (hpn : 0 ≤ c 146 0 ∧ c 146 0 ≤ 16) {a z b : Int} (ha : 0 ≤ a ∧ a ≤ 10079) (hz : a < z ∧ z ≤ 10080 ∧ z - a ≤ 240) (hbb : -1 ≤ b ∧ b < 16) : zE (d + 3) 111 0 (zent 111 [zA 145, zI a, zI z, zI b]) [] ((n, sl), (S, c)) (fun r μ' => ∃ c', r = none ∧ μ' = ((n, sl), (S, c')) ∧ zMs c c' a z b) := by
  show zE (d + 3) 111 0 [some (zA 145), some (zI a), some (zI z), some (zI b), none, none, none, none, none] [] ((n, sl), (S, c)) _
  refine zl_ild2 I111_0 ?_
  refine zl_ist4 I111_1 ?_
  have h9 := e_X9_measures_t (d := d) (n := n) (sl := sl) hS hbl hn hlen hpn ha hz hbb 0 (by omega) c none none none none (by omega) (fun r hr => rfl) hB (fun t' p h1 h2 h3 h4 => absurd h1 (by omega))
  rw [show z - 0 = z by omega] at h9
  exact h9
