/-! the model: runOver -/
def zRO : Nat → (Int → Int) → Int → Int → (Int → Int) → Int → Prop
  | 0, _, _, _, _, _ => False
  | f + 1, v, i, e, v', d => (¬ (i < v 3 ∧ v (230 + 4 * i + 1) < e) ∧ v' = v ∧ d = 0) ∨ ((i < v 3 ∧ v (230 + 4 * i + 1) < e) ∧ ((zYes v i e ∧ zRO f (zKeV v i e) (i + 1) (zNe v i e) v' d) ∨ (¬ zYes v i e ∧ ∃ d1, zRO f (zDrV (zOwV v (v (230 + 4 * i + 0))) i) i e v' d1 ∧ d = d1 + 1)))
theorem zRO_u : ∀ (f g : Nat) (v : Int → Int) (i e : Int) (v1 v2 : Int → Int) (d1 d2 : Int), zRO f v i e v1 d1 → zRO g v i e v2 d2 → v1 = v2 ∧ d1 = d2
  | 0, _, _, _, _, _, _, _, _, h, _ => absurd h id
  | _ + 1, 0, _, _, _, _, _, _, _, _, h => absurd h id
  | f + 1, g + 1, v, i, e, v1, v2, d1, d2, h, k => by
    rcases h with ⟨h1, h2, h3⟩ | ⟨h1, ⟨h2, h3⟩ | ⟨h2, x, h3, h4⟩⟩
    · rcases k with ⟨k1, k2, k3⟩ | ⟨k1, _⟩
      · exact ⟨h2.trans k2.symm, h3.trans k3.symm⟩
      · exact absurd k1 h1
    · rcases k with ⟨k1, _⟩ | ⟨k1, ⟨k2, k3⟩ | ⟨k2, _⟩⟩
      · exact absurd h1 k1
      · exact zRO_u f g _ _ _ _ _ _ _ h3 k3
      · exact absurd h2 k2
    · rcases k with ⟨k1, _⟩ | ⟨k1, ⟨k2, k3⟩ | ⟨k2, y, k3, k4⟩⟩
      · exact absurd h1 k1
      · exact absurd k2 h2
      · have := zRO_u f g _ _ _ _ _ _ _ h3 k3
        exact ⟨this.1, by omega⟩
def zLgV (v : Int → Int) (it mi : Int) : Int → Int := fun k => if k = 230 + 4 * it + 2 then v k + mi else v k
set_option maxRecDepth 10000 in
set_option maxHeartbeats 2000000 in
theorem e_X9_runOver_l {d n sl : Nat} {S : zSh} {c : zC} (hS : zSok S) (hr : 0 ≤ c 146 2 ∧ c 146 2 ≤ 30) (hpl : ∀ r, 0 ≤ r → r < c 146 2 → 0 ≤ c 146 (110 + 4 * r + 3) ∧ c 146 (110 + 4 * r + 3) ≤ 50 ∧ 0 ≤ c 146 (110 + 4 * r)) (hbl : ∀ j, 0 ≤ j → j < c 146 1 → 0 ≤ c 146 (80 + 3 * j) ∧ c 146 (80 + 3 * j) < c 146 (80 + 3 * j + 1) ∧ c 146 (80 + 3 * j + 1) ≤ 1440) (hn : 0 ≤ c 146 1 ∧ c 146 1 ≤ 10) {it mi : Int} : ∀ u : Int, 0 ≤ u → ∀ c1 : zC, ∀ i : Int, ∀ e : Int, ∀ dr : Int, ∀ w6 : Option zV, ∀ w7 : Option zV, (c1 146 3 - i = u) → (0 ≤ c1 146 3 ∧ 0 ≤ dr ∧ dr + c1 146 3 ≤ 60) → (1 ≤ i) → (0 ≤ e ∧ e ≤ 10080) → (∀ j, 0 ≤ j → j < c1 146 3 → 0 ≤ c1 146 (230 + 4 * j + 0) ∧ c1 146 (230 + 4 * j + 0) < 16 ∧ 0 ≤ c1 146 (230 + 4 * j + 1) ∧ 0 ≤ c1 146 (230 + 4 * j + 2) ∧ c1 146 (230 + 4 * j + 1) + c1 146 (230 + 4 * j + 2) ≤ 10080) → (∀ k, (k = 1 ∨ k = 2 ∨ (80 ≤ k ∧ k < 230)) → c1 146 k = c 146 k) → (∀ p, 0 ≤ p → p < 16 → 0 ≤ c1 146 (10 + 4 * p + 3) ∧ c1 146 (10 + 4 * p + 3) ≤ 60000 + dr) → (zBd c1) → zE (d + 5) 115 89 [some (zA 145), some (zI it), some (zI mi), some (zI e), some (zI dr), some (zI i), w6, w7] [] ((n, sl), (S, c1)) (fun r μ' => ∃ (c' : zC) (d1 : Int) (f : Nat), r = some (zI (dr + d1)) ∧ μ' = ((n, sl), (S, c')) ∧ zRO f (c1 146) i e (c' 146) d1 ∧ (∀ r, (r < 145 ∨ 154 < r ∨ r = 147) → c' r = c1 r) ∧ (∀ k, k ≠ 8 → c' 145 k = c1 145 k) ∧ zBd c') := by
  refine zindD (fun u ih hN => ?_)
  intro c1 i e dr w6 w7 hu hcc h1 he hit hfx how hBd
  refine zl_ild5 I115_89 ?_
  refine zl_ald0 I115_91 ?_
  refine zr_getr (j := 0) I115_92 F9_7 rfl (sT145 hS) (sR145_0 hS) ?_
  refine zr_iconst I115_95 ?_
  refine zr_iaB hBd (by decide) I115_96 (sT146 hS) (sN146 hS) (by omega) (fun b96 => ?_)
  refine zr_ic_ge (t := 187) I115_97 rfl (fun h97 => ?_) (fun h97 => ?_)
  · refine zl_ild4 I115_187 ?_
    refine zr_iret I115_189 rfl ?_
    exact ⟨c1, 0, 1, by rw [Int.add_zero], rfl, Or.inl ⟨by omega, rfl, rfl⟩, fun r _ => rfl, fun k _ => rfl, hBd⟩
  · have hit1 := hit i (by omega) (by omega)
    refine zl_ald0 I115_100 ?_
    refine zl_ild5 I115_101 ?_
    refine zr_iconst I115_103 ?_
    refine zr_callV I115_104 C9_45 ⟨rfl, rfl⟩ ⟨rfl, Nat.le_of_ble_eq_true rfl⟩ (Or.inl ⟨rfl, sT145 hS⟩) (e_X9_of hS hBd (i := i) (k := 1) (by omega) (by omega)) (fun v104 μ104 hv104 => ?_)
    obtain ⟨rfl, rfl⟩ := hv104
    dsimp only [Option.toList, List.cons_append, List.nil_append]
    refine zl_ild3 I115_107 ?_
    refine zr_ic_ge (t := 187) I115_108 rfl (fun h108 => ?_) (fun h108 => ?_)
    · refine zl_ild4 I115_187 ?_
      refine zr_iret I115_189 rfl ?_
      exact ⟨c1, 0, 1, by rw [Int.add_zero], rfl, Or.inl ⟨by omega, rfl, rfl⟩, fun r _ => rfl, fun k _ => rfl, hBd⟩
    · refine zl_ald0 I115_111 ?_
      refine zl_ild5 I115_112 ?_
      refine zr_iconst I115_114 ?_
      refine zr_callV I115_115 C9_45 ⟨rfl, rfl⟩ ⟨rfl, Nat.le_of_ble_eq_true rfl⟩ (Or.inl ⟨rfl, sT145 hS⟩) (e_X9_of hS hBd (i := i) (k := 0) (by omega) (by omega)) (fun v115 μ115 hv115 => ?_)
      obtain ⟨rfl, rfl⟩ := hv115
      dsimp only [Option.toList, List.cons_append, List.nil_append]
      refine zl_ist6 I115_118 ?_
      refine zl_ald0 I115_120 ?_
      refine zl_ild5 I115_121 ?_
      refine zl_ild3 I115_123 ?_
      refine zr_callV I115_124 C9_120 ⟨rfl, rfl⟩ ⟨rfl, Nat.le_of_ble_eq_true rfl⟩ (Or.inl ⟨rfl, sT145 hS⟩) (e_X9_treats hS hBd (by omega) hit (by rw [hfx 2 (by omega)]; exact hr) (fun r r1 r2 => by rw [hfx 2 (by omega)] at r2; rw [hfx (110 + 4 * r + 3) (by omega), hfx (110 + 4 * r) (by omega)]; exact hpl r r1 r2) (fun j j1 j2 => by rw [hfx 1 (by omega)] at j2; rw [hfx (80 + 3 * j) (by omega), hfx (80 + 3 * j + 1) (by omega)]; exact hbl j j1 j2) (by rw [hfx 1 (by omega)]; exact hn) (by omega) he) (fun v124 μ124 hv124 => ?_)
      obtain ⟨x124, c124, rfl, rfl, hB124, hv124⟩ := hv124
      dsimp only [Option.toList, List.cons_append, List.nil_append]
      refine zl_ist7 I115_127 ?_
      refine zl_ild7 I115_129 ?_
      refine zr_if_ge (t := 178) I115_131 rfl (fun h131 => ?_) (fun h131 => ?_)
      · refine zl_ild7 I115_178 ?_
        refine zl_ist3 I115_180 ?_
        refine zl_iinc5 I115_181 (by unfold zInR; omega) ?_
        refine zr_goto (t := 89) I115_184 rfl ?_
        rcases hv124 with ⟨k1, k2, k3⟩ | ⟨k1, k2, k3, k4, k5⟩
        · omega
        have e146 : c124 146 = zKeV (c1 146) i e := funext k5
        have hne : zNe (c1 146) i e ≤ 10080 := by
          unfold zNe
          rcases k1.2 with ⟨q1, q2⟩ | ⟨q1, q2⟩
          · rw [if_pos q1]
            omega
          · rw [if_neg q1]
            exact q2.1
        have k9 : ∀ k, k < 230 → c124 146 k = c1 146 k := fun k hk => by
          rw [k5 k]
          unfold zKeV
          rw [if_neg (by omega), if_neg (by omega)]
        refine zE.mono (ih (u - 1) (by omega) (by omega) c124 (i + 1) x124 dr _ _ (by rw [k9 3 (by omega)]; omega) (by rw [k9 3 (by omega)]; omega) (by omega) (by omega) (fun j j1 j2 => ?_) (fun k hk => by rw [k9 k (by omega)]; exact hfx k hk) (fun p p1 p2 => by rw [k9 _ (by omega)]; exact how p p1 p2) hB124) ?_
        · rw [k9 3 (by omega)] at j2
          have hj := hit j j1 j2
          rw [k5, k5, k5]
          unfold zKeV
          by_cases e9 : j = i
          · subst e9
            rw [if_neg (by omega), if_neg (by omega), if_pos rfl, if_neg (by omega), if_pos rfl]
            have hne2 : e ≤ zNe (c1 146) j e := by
              unfold zNe
              rcases k1.2 with ⟨q1, q2⟩ | ⟨q1, q2⟩
              · rw [if_pos q1]
                omega
              · rw [if_neg q1]
                omega
            omega
          · rw [if_neg (by omega), if_neg (by omega), if_neg (by omega), if_neg (by omega), if_neg (by omega), if_neg (by omega)]
            exact hj
        · rintro r μ' ⟨c', d1, f, rfl, rfl, g1, g2, g3, g4⟩
          refine ⟨c', d1, f + 1, rfl, rfl, Or.inr ⟨by omega, Or.inl ⟨k1, ?_⟩⟩, fun r hr => (g2 r hr).trans (k3 r hr), fun k hk => (g3 k hk).trans (k4 k hk), g4⟩
          rw [← e146, ← k2]
          exact g1
      · have hnYf : ¬ zYes (c1 146) i e ∧ zFm c1 c124 := by
          rcases hv124 with ⟨k1, k2, k3⟩ | ⟨k1, k2, k3, k4, k5⟩
          · exact ⟨k1, k3⟩
          · exfalso
            unfold zNe at k2
            rcases k1.2 with ⟨q1, q2⟩ | ⟨q1, q2⟩
            · rw [if_pos q1] at k2
              omega
            · rw [if_neg q1] at k2
              omega
        obtain ⟨hnY, hfp⟩ := hnYf
        have hp9 := how (c1 146 (230 + 4 * i + 0)) (by omega) (by omega)
        have ep9 : c124 146 (10 + 4 * c1 146 (230 + 4 * i + 0) + 3) = c1 146 (10 + 4 * c1 146 (230 + 4 * i + 0) + 3) := by rw [hfp.1 146 (by omega)]
        refine zl_ald0 I115_134 ?_
        refine zr_getr (j := 0) I115_135 F9_7 rfl (sT145 hS) (sR145_0 hS) ?_
        refine zr_bipush I115_138 ?_
        refine zr_iconst I115_140 ?_
        refine zl_ild6 I115_141 ?_
        refine zr_imul I115_143 (by unfold zInR; omega) ?_
        refine zr_iadd I115_144 (by unfold zInR; omega) ?_
        refine zr_iconst I115_145 ?_
        refine zr_iadd I115_146 (by unfold zInR; omega) ?_
        refine zr_dup2 I115_147 ?_
        refine zr_iaB hB124 (by decide) I115_148 (sT146 hS) (sN146 hS) (by omega) (fun b148 => ?_)
        refine zl_ald0 I115_149 ?_
        refine zl_ild6 I115_150 ?_
        refine zr_callV I115_152 C9_59 ⟨rfl, rfl⟩ ⟨rfl, Nat.le_of_ble_eq_true rfl⟩ (Or.inl ⟨rfl, sT145 hS⟩) (e_X9_kind hS hB124 (by omega)) (fun v152 μ152 hv152 => ?_)
        obtain ⟨rfl, rfl⟩ := hv152
        dsimp only [Option.toList, List.cons_append, List.nil_append]
        rw [hfp.1 146 (by omega)]
        refine zr_iconst I115_155 ?_
        refine zr_ic_ne (t := 163) I115_156 rfl (fun h156 => ?_) (fun h156 => ?_)
        · refine zr_iconst I115_163 ?_
          refine zr_iadd I115_164 (by unfold zInR; omega) ?_
          refine zr_iast I115_165 (sT146 hS) (sN146 hS) (by omega) ?_
          refine zl_ald0 I115_166 ?_
          refine zl_ild5 I115_167 ?_
          refine zr_callV I115_169 C9_103 ⟨rfl, rfl⟩ ⟨rfl, Nat.le_of_ble_eq_true rfl⟩ (Or.inl ⟨rfl, sT145 hS⟩) (e_X9_drops hS (zBd_up hB124 (by omega)) (by rw [zup_q, if_neg (by omega), hfp.1 146 (by omega)]; omega) (by rw [zup_q, if_neg (by omega), hfp.1 146 (by omega)]; omega)) (fun v169 μ169 hv169 => ?_)
          obtain ⟨c169, rfl, rfl, hc169⟩ := hv169
          dsimp only [Option.toList, List.cons_append, List.nil_append]
          refine zl_iinc4 I115_172 (by unfold zInR; omega) ?_
          refine zr_goto (t := 184) I115_175 rfl ?_
          refine zr_goto (t := 89) I115_184 rfl ?_
          have hdr := hc169
          obtain ⟨m1, m2, m3, m4⟩ := id hdr
          have e146 : c169 146 = zDrV (zOwV (c1 146) (c1 146 (230 + 4 * i + 0))) i := funext (fun k => by
            unfold zDrV zOwV
            by_cases e9 : k = 3
            · rw [e9, m1, if_pos rfl, zup_q, if_neg (by omega), if_neg (by omega), hfp.1 146 (by omega)]
            · rw [m2 k e9, if_neg e9, zup_q, zup_q, zup_q, if_neg (show ¬ (3 : Int) = 10 + 4 * c1 146 (230 + 4 * i + 0) + 3 by omega), if_neg (show ¬ (3 : Int) = 10 + 4 * c1 146 (230 + 4 * i + 0) + 3 by omega), hfp.1 146 (by omega)]
              rw [if_neg h156]
              have hA : ∀ x : Int, (if x = 10 + 4 * c1 146 (230 + 4 * i + 0) + 3 then c1 146 (10 + 4 * c1 146 (230 + 4 * i + 0) + 3) + 0 else c1 146 x) = (if x = 10 + 4 * c1 146 (230 + 4 * i + 0) + 3 then c1 146 x + 0 else c1 146 x) := fun x => by
                by_cases h9 : x = 10 + 4 * c1 146 (230 + 4 * i + 0) + 3
                · rw [if_pos h9, if_pos h9, h9]
                · rw [if_neg h9, if_neg h9]
              rw [hA, hA])
          have k9 : ∀ k, k < 230 → k ≠ 3 → c169 146 k = zOwV (c1 146) (c1 146 (230 + 4 * i + 0)) k := fun k hk hk2 => by
            rw [e146]
            unfold zDrV
            rw [if_neg hk2, if_neg (by omega)]
          have k3 : c169 146 3 = c1 146 3 - 1 := by
            rw [e146]
            unfold zDrV zOwV
            rw [if_pos rfl, if_neg (by omega)]
          have ki : ∀ k, 230 ≤ k → c169 146 k = if 230 + 4 * i ≤ k ∧ k < 230 + 4 * (c1 146 3 - 1) then c1 146 (k + 4) else c1 146 k := fun k hk => by
            rw [e146]
            unfold zDrV zOwV
            rw [if_neg (by omega), if_neg (show ¬ (3 : Int) = 10 + 4 * c1 146 (230 + 4 * i + 0) + 3 by omega)]
            by_cases e9 : 230 + 4 * i ≤ k ∧ k < 230 + 4 * (c1 146 3 - 1)
            · rw [if_pos e9, if_pos e9, if_neg (by omega)]
            · rw [if_neg e9, if_neg e9, if_neg (by omega)]
          refine zE.mono (ih (u - 1) (by omega) (by omega) c169 i e (dr + 1) _ _ (by omega) (by omega) (by omega) (by omega) (fun j j1 j2 => ?_) (fun k hk => by
            rw [k9 k (by omega) (by omega)]
            unfold zOwV
            rw [if_neg (by omega)]
            exact hfx k hk) (fun p p1 p2 => by
            rw [k9 _ (by omega) (by omega)]
            have := how p p1 p2
            unfold zOwV
            split
            · first | omega | (split <;> omega)
            · omega) m4) ?_
          · rw [ki _ (by omega), ki _ (by omega), ki _ (by omega)]
            by_cases e9 : i ≤ j
            · have hj := hit (j + 1) (by omega) (by omega)
              rw [if_pos (by omega), if_pos (by omega), if_pos (by omega), show 230 + 4 * j + 0 + 4 = 230 + 4 * (j + 1) + 0 by omega, show 230 + 4 * j + 1 + 4 = 230 + 4 * (j + 1) + 1 by omega, show 230 + 4 * j + 2 + 4 = 230 + 4 * (j + 1) + 2 by omega]
              exact hj
            · rw [if_neg (by omega), if_neg (by omega), if_neg (by omega)]
              exact hit j j1 (by omega)
          · rintro r μ' ⟨c', d1, f, rfl, rfl, g1, g2, g3, g4⟩
            refine ⟨c', d1 + 1, f + 1, by rw [show dr + 1 + d1 = dr + (d1 + 1) by omega], rfl, Or.inr ⟨by omega, Or.inr ⟨hnY, d1, ?_, rfl⟩⟩, fun r hr => by rw [g2 r hr, m3 r (by omega), zup_ne (by omega)]; exact hfp.1 r (by omega), fun k hk => by rw [g3 k hk, m3 145 (by decide), zup_oth (by decide)]; exact hfp.2 k hk, g4⟩
            rw [← e146]
            exact g1
        · refine zr_iconst I115_159 ?_
          refine zr_goto (t := 164) I115_160 rfl ?_
          refine zr_iadd I115_164 (by unfold zInR; omega) ?_
          refine zr_iast I115_165 (sT146 hS) (sN146 hS) (by omega) ?_
          refine zl_ald0 I115_166 ?_
          refine zl_ild5 I115_167 ?_
          refine zr_callV I115_169 C9_103 ⟨rfl, rfl⟩ ⟨rfl, Nat.le_of_ble_eq_true rfl⟩ (Or.inl ⟨rfl, sT145 hS⟩) (e_X9_drops hS (zBd_up hB124 (by omega)) (by rw [zup_q, if_neg (by omega), hfp.1 146 (by omega)]; omega) (by rw [zup_q, if_neg (by omega), hfp.1 146 (by omega)]; omega)) (fun v169 μ169 hv169 => ?_)
          obtain ⟨c169, rfl, rfl, hc169⟩ := hv169
          dsimp only [Option.toList, List.cons_append, List.nil_append]
          refine zl_iinc4 I115_172 (by unfold zInR; omega) ?_
          refine zr_goto (t := 184) I115_175 rfl ?_
          refine zr_goto (t := 89) I115_184 rfl ?_
          have hdr := hc169
          obtain ⟨m1, m2, m3, m4⟩ := id hdr
          have e146 : c169 146 = zDrV (zOwV (c1 146) (c1 146 (230 + 4 * i + 0))) i := funext (fun k => by
            unfold zDrV zOwV
            by_cases e9 : k = 3
            · rw [e9, m1, if_pos rfl, zup_q, if_neg (by omega), if_neg (by omega), hfp.1 146 (by omega)]
            · rw [m2 k e9, if_neg e9, zup_q, zup_q, zup_q, if_neg (show ¬ (3 : Int) = 10 + 4 * c1 146 (230 + 4 * i + 0) + 3 by omega), if_neg (show ¬ (3 : Int) = 10 + 4 * c1 146 (230 + 4 * i + 0) + 3 by omega), hfp.1 146 (by omega)]
              rw [if_pos h156]
              have hA : ∀ x : Int, (if x = 10 + 4 * c1 146 (230 + 4 * i + 0) + 3 then c1 146 (10 + 4 * c1 146 (230 + 4 * i + 0) + 3) + 1 else c1 146 x) = (if x = 10 + 4 * c1 146 (230 + 4 * i + 0) + 3 then c1 146 x + 1 else c1 146 x) := fun x => by
                by_cases h9 : x = 10 + 4 * c1 146 (230 + 4 * i + 0) + 3
                · rw [if_pos h9, if_pos h9, h9]
                · rw [if_neg h9, if_neg h9]
              rw [hA, hA])
          have k9 : ∀ k, k < 230 → k ≠ 3 → c169 146 k = zOwV (c1 146) (c1 146 (230 + 4 * i + 0)) k := fun k hk hk2 => by
            rw [e146]
            unfold zDrV
            rw [if_neg hk2, if_neg (by omega)]
          have k3 : c169 146 3 = c1 146 3 - 1 := by
            rw [e146]
            unfold zDrV zOwV
            rw [if_pos rfl, if_neg (by omega)]
          have ki : ∀ k, 230 ≤ k → c169 146 k = if 230 + 4 * i ≤ k ∧ k < 230 + 4 * (c1 146 3 - 1) then c1 146 (k + 4) else c1 146 k := fun k hk => by
            rw [e146]
            unfold zDrV zOwV
            rw [if_neg (by omega), if_neg (show ¬ (3 : Int) = 10 + 4 * c1 146 (230 + 4 * i + 0) + 3 by omega)]
            by_cases e9 : 230 + 4 * i ≤ k ∧ k < 230 + 4 * (c1 146 3 - 1)
            · rw [if_pos e9, if_pos e9, if_neg (by omega)]
            · rw [if_neg e9, if_neg e9, if_neg (by omega)]
          refine zE.mono (ih (u - 1) (by omega) (by omega) c169 i e (dr + 1) _ _ (by omega) (by omega) (by omega) (by omega) (fun j j1 j2 => ?_) (fun k hk => by
            rw [k9 k (by omega) (by omega)]
            unfold zOwV
            rw [if_neg (by omega)]
            exact hfx k hk) (fun p p1 p2 => by
            rw [k9 _ (by omega) (by omega)]
            have := how p p1 p2
            unfold zOwV
            split
            · first | omega | (split <;> omega)
            · omega) m4) ?_
          · rw [ki _ (by omega), ki _ (by omega), ki _ (by omega)]
            by_cases e9 : i ≤ j
            · have hj := hit (j + 1) (by omega) (by omega)
              rw [if_pos (by omega), if_pos (by omega), if_pos (by omega), show 230 + 4 * j + 0 + 4 = 230 + 4 * (j + 1) + 0 by omega, show 230 + 4 * j + 1 + 4 = 230 + 4 * (j + 1) + 1 by omega, show 230 + 4 * j + 2 + 4 = 230 + 4 * (j + 1) + 2 by omega]
              exact hj
            · rw [if_neg (by omega), if_neg (by omega), if_neg (by omega)]
              exact hit j j1 (by omega)
          · rintro r μ' ⟨c', d1, f, rfl, rfl, g1, g2, g3, g4⟩
            refine ⟨c', d1 + 1, f + 1, by rw [show dr + 1 + d1 = dr + (d1 + 1) by omega], rfl, Or.inr ⟨by omega, Or.inr ⟨hnY, d1, ?_, rfl⟩⟩, fun r hr => by rw [g2 r hr, m3 r (by omega), zup_ne (by omega)]; exact hfp.1 r (by omega), fun k hk => by rw [g3 k hk, m3 145 (by decide), zup_oth (by decide)]; exact hfp.2 k hk, g4⟩
            rw [← e146]
            exact g1
set_option maxRecDepth 10000 in
set_option maxHeartbeats 2000000 in
theorem e_X9_runOver {d n sl : Nat} {S : zSh} {c : zC} (hS : zSok S) (hB : zBd c) (hc : 0 ≤ c 146 3 ∧ c 146 3 ≤ 60) (hit : ∀ i, 0 ≤ i → i < c 146 3 → 0 ≤ c 146 (230 + 4 * i + 0) ∧ c 146 (230 + 4 * i + 0) < 16 ∧ 0 ≤ c 146 (230 + 4 * i + 1) ∧ 0 ≤ c 146 (230 + 4 * i + 2) ∧ c 146 (230 + 4 * i + 1) + c 146 (230 + 4 * i + 2) ≤ 10080) (hr : 0 ≤ c 146 2 ∧ c 146 2 ≤ 30) (hpl : ∀ r, 0 ≤ r → r < c 146 2 → 0 ≤ c 146 (110 + 4 * r + 3) ∧ c 146 (110 + 4 * r + 3) ≤ 50 ∧ 0 ≤ c 146 (110 + 4 * r)) (hbl : ∀ j, 0 ≤ j → j < c 146 1 → 0 ≤ c 146 (80 + 3 * j) ∧ c 146 (80 + 3 * j) < c 146 (80 + 3 * j + 1) ∧ c 146 (80 + 3 * j + 1) ≤ 1440) (hn : 0 ≤ c 146 1 ∧ c 146 1 ≤ 10) (how : ∀ p, 0 ≤ p → p < 16 → 0 ≤ c 146 (10 + 4 * p + 3) ∧ c 146 (10 + 4 * p + 3) ≤ 60000) (hm : 0 ≤ c 145 2 ∧ c 145 2 ≤ 5) {it mi : Int} : zE (d + 5) 115 0 (zent 115 [zA 145, zI it, zI mi]) [] ((n, sl), (S, c)) (fun r μ' => ∃ (x : Int) (c' : zC), r = some (zI x) ∧ μ' = ((n, sl), (S, c')) ∧ ((¬ ((0 ≤ it ∧ it < c 146 3) ∧ (1 ≤ mi ∧ mi ≤ 120)) ∧ x = -1 ∧ c' = c) ∨ (((0 ≤ it ∧ it < c 146 3) ∧ (1 ≤ mi ∧ mi ≤ 120)) ∧ c 146 (10 + 4 * c 146 (230 + 4 * it + 0)) ≠ 1 ∧ x = -2 ∧ c' = c) ∨ (((0 ≤ it ∧ it < c 146 3) ∧ (1 ≤ mi ∧ mi ≤ 120)) ∧ c 146 (10 + 4 * c 146 (230 + 4 * it + 0)) = 1 ∧ 10080 < c 146 (230 + 4 * it + 1) + c 146 (230 + 4 * it + 2) + mi ∧ x = -4 ∧ c' = c) ∨ (((0 ≤ it ∧ it < c 146 3) ∧ (1 ≤ mi ∧ mi ≤ 120)) ∧ c 146 (10 + 4 * c 146 (230 + 4 * it + 0)) = 1 ∧ c 146 (230 + 4 * it + 1) + c 146 (230 + 4 * it + 2) + mi ≤ 10080 ∧ ∃ (c1 : zC) (f : Nat), zDid c c1 ∧ zRO f (zLgV (c 146) it mi) (it + 1) (c 146 (230 + 4 * it + 1) + c 146 (230 + 4 * it + 2) + mi) (c' 146) x ∧ (∀ r, (r < 145 ∨ 154 < r ∨ r = 147) → c' r = c1 r) ∧ (∀ k, k ≠ 8 → c' 145 k = c1 145 k) ∧ zBd c'))) := by
  show zE (d + 5) 115 0 [some (zA 145), some (zI it), some (zI mi), none, none, none, none, none] [] ((n, sl), (S, c)) _
  refine zl_ald0 I115_0 ?_
  refine zl_ild1 I115_1 ?_
  refine zr_callV I115_2 C9_100 ⟨rfl, rfl⟩ ⟨rfl, Nat.le_of_ble_eq_true rfl⟩ (Or.inl ⟨rfl, sT145 hS⟩) (e_X9_isItem hS hB) (fun v2 μ2 hv2 => ?_)
  obtain ⟨x2, rfl, hx2, rfl⟩ := hv2
  dsimp only [Option.toList, List.cons_append, List.nil_append]
  unfold zTf at hx2
  refine zr_if_eq (t := 18) I115_5 rfl (fun h5 => ?_) (fun h5 => ?_)
  · refine zr_iconst I115_18 ?_
    refine zr_iret I115_19 rfl ?_
    exact ⟨_, _, rfl, rfl, Or.inl ⟨by omega, rfl, rfl⟩⟩
  · refine zl_ild2 I115_8 ?_
    refine zr_iconst I115_9 ?_
    refine zr_bipush I115_10 ?_
    refine zr_callS I115_12 C9_41 ⟨rfl, rfl⟩ ⟨by simp, rfl, Nat.le_of_ble_eq_true rfl⟩ (e_X9_in ) (fun v12 μ12 hv12 => ?_)
    obtain ⟨x12, rfl, hx12, rfl⟩ := hv12
    dsimp only [Option.toList, List.cons_append, List.nil_append]
    unfold zTf at hx12
    refine zr_if_ne (t := 20) I115_15 rfl (fun h15 => ?_) (fun h15 => ?_)
    · have hit0 := hit it (by omega) (by omega)
      refine zl_ald0 I115_20 ?_
      refine zl_ald0 I115_21 ?_
      refine zl_ild1 I115_22 ?_
      refine zr_iconst I115_23 ?_
      refine zr_callV I115_24 C9_45 ⟨rfl, rfl⟩ ⟨rfl, Nat.le_of_ble_eq_true rfl⟩ (Or.inl ⟨rfl, sT145 hS⟩) (e_X9_of hS hB (i := it) (k := 0) (by omega) (by omega)) (fun v24 μ24 hv24 => ?_)
      obtain ⟨rfl, rfl⟩ := hv24
      dsimp only [Option.toList, List.cons_append, List.nil_append]
      refine zr_callV I115_27 C9_59 ⟨rfl, rfl⟩ ⟨rfl, Nat.le_of_ble_eq_true rfl⟩ (Or.inl ⟨rfl, sT145 hS⟩) (e_X9_kind hS hB (by omega)) (fun v27 μ27 hv27 => ?_)
      obtain ⟨rfl, rfl⟩ := hv27
      dsimp only [Option.toList, List.cons_append, List.nil_append]
      refine zr_iconst I115_30 ?_
      refine zr_ic_eq (t := 37) I115_31 rfl (fun h31 => ?_) (fun h31 => ?_)
      · refine zl_ald0 I115_37 ?_
        refine zl_ild1 I115_38 ?_
        refine zr_callV I115_39 C9_70 ⟨rfl, rfl⟩ ⟨rfl, Nat.le_of_ble_eq_true rfl⟩ (Or.inl ⟨rfl, sT145 hS⟩) (e_X9_end hS hB (by omega)) (fun v39 μ39 hv39 => ?_)
        obtain ⟨rfl, rfl⟩ := hv39
        dsimp only [Option.toList, List.cons_append, List.nil_append]
        refine zl_ild2 I115_42 ?_
        refine zr_iadd I115_43 (by unfold zInR; omega) ?_
        refine zr_sipush I115_44 ?_
        refine zr_ic_le (t := 53) I115_47 rfl (fun h47 => ?_) (fun h47 => ?_)
        · refine zl_ald0 I115_53 ?_
          refine zr_callV I115_54 C9_49 ⟨rfl, rfl⟩ ⟨rfl, Nat.le_of_ble_eq_true rfl⟩ (Or.inl ⟨rfl, sT145 hS⟩) (e_X9_act hS hB hm) (fun v54 μ54 hv54 => ?_)
          obtain ⟨c54, rfl, rfl, hc54⟩ := hv54
          dsimp only [Option.toList, List.cons_append, List.nil_append]
          have hd : zDid c c54 := hc54
          have e146 := hd.v
          have hB2 := hd.b
          have l9 : c54 146 (230 + 4 * it + 2) = c 146 (230 + 4 * it + 2) := by rw [e146]
          refine zl_ald0 I115_57 ?_
          refine zr_getr (j := 0) I115_58 F9_7 rfl (sT145 hS) (sR145_0 hS) ?_
          refine zr_sipush I115_61 ?_
          refine zr_iconst I115_64 ?_
          refine zl_ild1 I115_65 ?_
          refine zr_imul I115_66 (by unfold zInR; omega) ?_
          refine zr_iadd I115_67 (by unfold zInR; omega) ?_
          refine zr_iconst I115_68 ?_
          refine zr_iadd I115_69 (by unfold zInR; omega) ?_
          refine zr_dup2 I115_70 ?_
          refine zr_iaB hB2 (by decide) I115_71 (sT146 hS) (sN146 hS) (by omega) (fun b71 => ?_)
          refine zl_ild2 I115_72 ?_
          refine zr_iadd I115_73 (by unfold zInR; omega) ?_
          refine zr_iast I115_74 (sT146 hS) (sN146 hS) (by omega) ?_
          have hB3 : zBd (zup c54 146 (230 + 4 * it + 2) (c54 146 (230 + 4 * it + 2) + mi)) := zBd_up hB2 (by omega)
          refine zl_ald0 I115_75 ?_
          refine zl_ild1 I115_76 ?_
          refine zr_callV I115_77 C9_70 ⟨rfl, rfl⟩ ⟨rfl, Nat.le_of_ble_eq_true rfl⟩ (Or.inl ⟨rfl, sT145 hS⟩) (e_X9_end hS hB3 (by omega)) (fun v77 μ77 hv77 => ?_)
          obtain ⟨rfl, rfl⟩ := hv77
          dsimp only [Option.toList, List.cons_append, List.nil_append]
          refine zl_ist3 I115_80 ?_
          refine zr_iconst I115_81 ?_
          refine zl_ist4 I115_82 ?_
          refine zl_ild1 I115_84 ?_
          refine zr_iconst I115_85 ?_
          refine zr_iadd I115_86 (by unfold zInR; omega) ?_
          refine zl_ist5 I115_87 ?_
          have e2 : (zup c54 146 (230 + 4 * it + 2) (c54 146 (230 + 4 * it + 2) + mi)) 146 = zLgV (c 146) it mi := funext (fun k => by
            rw [zup_q, e146]
            unfold zLgV
            by_cases e9 : k = 230 + 4 * it + 2
            · rw [if_pos e9, if_pos e9, e9]
            · rw [if_neg e9, if_neg e9])
          have k9 : ∀ k, k ≠ 230 + 4 * it + 2 → (zup c54 146 (230 + 4 * it + 2) (c54 146 (230 + 4 * it + 2) + mi)) 146 k = c 146 k := fun k hk => by
            rw [e2]
            unfold zLgV
            rw [if_neg hk]
          have k8 : (zup c54 146 (230 + 4 * it + 2) (c54 146 (230 + 4 * it + 2) + mi)) 146 (230 + 4 * it + 2) = c 146 (230 + 4 * it + 2) + mi := by
            rw [e2]
            unfold zLgV
            rw [if_pos rfl]
          refine zE.mono (e_X9_runOver_l (c := c) hS hr hpl hbl hn (it := it) (mi := mi) (c 146 3 - (it + 1)) (by omega) (zup c54 146 (230 + 4 * it + 2) (c54 146 (230 + 4 * it + 2) + mi)) (it + 1) _ 0 _ _ (by rw [k9 3 (by omega)]) (by rw [k9 3 (by omega)]; omega) (by omega) (by rw [k9 _ (by omega), k8]; omega) (fun j j1 j2 => ?_) (fun k hk => k9 k (by omega)) (fun p p1 p2 => by rw [k9 _ (by omega)]; have := how p p1 p2; omega) hB3) ?_
          · rw [k9 3 (by omega)] at j2
            have hj := hit j j1 j2
            rw [k9 (230 + 4 * j + 0) (by omega), k9 (230 + 4 * j + 1) (by omega)]
            by_cases e9 : j = it
            · rw [e9, k8]
              rw [e9] at hj
              omega
            · rw [k9 _ (by omega)]
              exact hj
          · rintro r μ' ⟨c', d1, f, rfl, rfl, g1, g2, g3, g4⟩
            rw [k9 (230 + 4 * it + 1) (by omega), k8, e2] at g1
            refine ⟨_, c', rfl, rfl, Or.inr (Or.inr (Or.inr ⟨by omega, by omega, by omega, c54, f, hd, ?_, fun r hr => by rw [g2 r hr, zup_ne (by omega)], fun k hk => by rw [g3 k hk, zup_oth (by decide)], g4⟩))⟩
            rw [show 0 + d1 = d1 by omega, show c 146 (230 + 4 * it + 1) + c 146 (230 + 4 * it + 2) + mi = c 146 (230 + 4 * it + 1) + (c 146 (230 + 4 * it + 2) + mi) by omega]
            exact g1
        · refine zr_bipush I115_50 ?_
          refine zr_iret I115_52 rfl ?_
          exact ⟨_, _, rfl, rfl, Or.inr (Or.inr (Or.inl ⟨by omega, by omega, by omega, rfl, rfl⟩))⟩
      · refine zr_bipush I115_34 ?_
        refine zr_iret I115_36 rfl ?_
        exact ⟨_, _, rfl, rfl, Or.inr (Or.inl ⟨by omega, by omega, rfl, rfl⟩)⟩
    · refine zr_iconst I115_18 ?_
      refine zr_iret I115_19 rfl ?_
      exact ⟨_, _, rfl, rfl, Or.inl ⟨by omega, rfl, rfl⟩⟩
