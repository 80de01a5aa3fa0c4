/-! the class: what keeping leaves alone; rows appended; undo -/
def zKpt (c c' : zC) : Prop := (c 29 0 ≠ 5 ∧ zKp c c') ∨ (c 29 0 = 5 ∧ zKp (zup (zup c 29 1 ((c 29 1 + 1) % 5)) 29 0 4) c')
theorem zKp_fr {c c' : zC} (h : zKp c c') (hk : 0 ≤ c 29 0 ∧ c 29 0 ≤ 4) : (∀ r, r ≠ 29 → (r < 31 ∨ 131 ≤ r) → c' r = c r) ∧ zBd c' := by
  obtain ⟨c2, j, h1, -, h2, rfl⟩ := h
  exact ⟨fun r hr h3 => by rw [zup_ne hr, h2.2.2.2.2.1 r (by omega)], zBd_up h2.2.2.2.2.2 (by omega)⟩
theorem zKpt_fr {c c' : zC} (h : zKpt c c') (hk : 0 ≤ c 29 0 ∧ c 29 0 ≤ 5) : (∀ r, r ≠ 29 → (r < 31 ∨ 131 ≤ r) → c' r = c r) ∧ zBd c' := by
  rcases h with ⟨h0, h⟩ | ⟨h0, h⟩
  · exact zKp_fr h (by omega)
  · have h2 := zKp_fr h (by rw [zup_same]; omega)
    exact ⟨fun r hr h3 => by rw [h2.1 r hr h3, zup_ne hr, zup_ne hr], h2.2⟩
def zAp (c c' : zC) (t m : Nat) (w : Nat → Int) : Prop := c' t 0 = c t 0 + 1 ∧ (∀ k, k ≠ 0 → c' t k = c t k) ∧ (∀ i, 1 ≤ i → i ≤ m → ∀ k, c' (t + i) k = if k = c t 0 then w i else c (t + i) k) ∧ (∀ r, (r < t ∨ t + m < r) → c' r = c r) ∧ zBd c'
set_option maxRecDepth 10000 in
set_option maxHeartbeats 2000000 in
theorem e_X4_append {d n sl : Nat} {S : zSh} {c : zC} (hS : zSok S) (hB : zBd c) (hc : 0 ≤ c 10 0 ∧ c 10 0 < 16) {a b e : Int} (hb0 : -100000 ≤ a ∧ a ≤ 100000) (hb1 : -100000 ≤ b ∧ b ≤ 100000) (hb2 : -100000 ≤ e ∧ e ≤ 100000) : zE (d + 0) 26 0 (zent 26 [zA 10, zI a, zI b, zI e]) [] ((n, sl), (S, c)) (fun r μ' => ∃ c', r = some (zI (c 10 0)) ∧ μ' = ((n, sl), (S, c')) ∧ zAp c c' 10 4 (fun i => if i = 1 then a else if i = 2 then b else if i = 3 then e else 0)) := by
  show zE (d + 0) 26 0 [some (zA 10), some (zI a), some (zI b), some (zI e)] [] ((n, sl), (S, c)) _
  refine zl_ald0 I26_0 ?_
  refine zr_getr (j := 1) I26_1 F4_9 rfl (sT10 hS) (sR10_1 hS) ?_
  refine zl_ald0 I26_4 ?_
  refine zr_giB (j := 0) hB (by decide) I26_5 F4_24 rfl (sT10 hS) (fun b5 => ?_)
  refine zl_ild1 I26_8 ?_
  refine zr_iast I26_9 (sT11 hS) (sN11 hS) (by omega) ?_
  refine zl_ald0 I26_10 ?_
  refine zr_getr (j := 2) I26_11 F4_15 rfl (sT10 hS) (sR10_2 hS) ?_
  refine zl_ald0 I26_14 ?_
  refine zr_geti (j := 0) I26_15 F4_24 rfl (sT10 hS) ?_
  rw [zup_oth (by decide)]
  refine zl_ild2 I26_18 ?_
  refine zr_iast I26_19 (sT12 hS) (sN12 hS) (by omega) ?_
  refine zl_ald0 I26_20 ?_
  refine zr_getr (j := 3) I26_21 F4_18 rfl (sT10 hS) (sR10_3 hS) ?_
  refine zl_ald0 I26_24 ?_
  refine zr_geti (j := 0) I26_25 F4_24 rfl (sT10 hS) ?_
  rw [zup_oth (by decide), zup_oth (by decide)]
  refine zl_ild3 I26_28 ?_
  refine zr_iast I26_29 (sT13 hS) (sN13 hS) (by omega) ?_
  refine zl_ald0 I26_30 ?_
  refine zr_getr (j := 4) I26_31 F4_21 rfl (sT10 hS) (sR10_4 hS) ?_
  refine zl_ald0 I26_34 ?_
  refine zr_geti (j := 0) I26_35 F4_24 rfl (sT10 hS) ?_
  rw [zup_oth (by decide), zup_oth (by decide), zup_oth (by decide)]
  refine zr_iconst I26_38 ?_
  refine zr_iast I26_39 (sT14 hS) (sN14 hS) (by omega) ?_
  refine zl_ald0 I26_40 ?_
  refine zr_dup I26_41 ?_
  refine zr_geti (j := 0) I26_42 F4_24 rfl (sT10 hS) ?_
  rw [zup_oth (by decide), zup_oth (by decide), zup_oth (by decide), zup_oth (by decide)]
  refine zr_dup_x1 I26_45 ?_
  refine zr_iconst I26_46 ?_
  refine zr_iadd I26_47 (by unfold zInR; omega) ?_
  refine zr_puti (j := 0) I26_48 F4_24 rfl (sT10 hS) ⟨rfl, fun h => absurd h (by decide)⟩ ?_
  refine zr_iret I26_51 rfl ?_
  refine ⟨_, rfl, rfl, zup_same, fun k hk => by rw [zup_q, if_neg hk, zup_oth (by decide), zup_oth (by decide), zup_oth (by decide), zup_oth (by decide)], fun i h1 h2 k => ?_, fun r hr => by rw [zup_ne (by omega), zup_ne (by omega), zup_ne (by omega), zup_ne (by omega), zup_ne (by omega)], zBd_up (zBd_up (zBd_up (zBd_up (zBd_up (hB) (by omega)) (by omega)) (by omega)) (by omega)) (by omega)⟩
  rcases (show i = 1 ∨ i = 2 ∨ i = 3 ∨ i = 4 by omega) with rfl | rfl | rfl | rfl
  · rw [zup_oth (by decide), zup_oth (by decide), zup_oth (by decide), zup_oth (by decide), zup_q]
    rfl
  · rw [zup_oth (by decide), zup_oth (by decide), zup_oth (by decide), zup_q, zup_oth (by decide)]
    rfl
  · rw [zup_oth (by decide), zup_oth (by decide), zup_q, zup_oth (by decide), zup_oth (by decide)]
    rfl
  · rw [zup_oth (by decide), zup_q, zup_oth (by decide), zup_oth (by decide), zup_oth (by decide)]
    rfl
set_option maxRecDepth 10000 in
set_option maxHeartbeats 2000000 in
theorem e_X5_append {d n sl : Nat} {S : zSh} {c : zC} (hS : zSok S) (hB : zBd c) (hc : 0 ≤ c 15 0 ∧ c 15 0 < 30) {a b e l : Int} (hb0 : -100000 ≤ a ∧ a ≤ 100000) (hb1 : -100000 ≤ b ∧ b ≤ 100000) (hb2 : -100000 ≤ e ∧ e ≤ 100000) (hb3 : -100000 ≤ l ∧ l ≤ 100000) : zE (d + 0) 29 0 (zent 29 [zA 15, zI a, zI b, zI e, zI l]) [] ((n, sl), (S, c)) (fun r μ' => ∃ c', r = some (zI (c 15 0)) ∧ μ' = ((n, sl), (S, c')) ∧ zAp c c' 15 4 (fun i => if i = 1 then a else if i = 2 then b else if i = 3 then e else l)) := by
  show zE (d + 0) 29 0 [some (zA 15), some (zI a), some (zI b), some (zI e), some (zI l)] [] ((n, sl), (S, c)) _
  refine zl_ald0 I29_0 ?_
  refine zr_getr (j := 1) I29_1 F5_9 rfl (sT15 hS) (sR15_1 hS) ?_
  refine zl_ald0 I29_4 ?_
  refine zr_giB (j := 0) hB (by decide) I29_5 F5_24 rfl (sT15 hS) (fun b5 => ?_)
  refine zl_ild1 I29_8 ?_
  refine zr_iast I29_9 (sT16 hS) (sN16 hS) (by omega) ?_
  refine zl_ald0 I29_10 ?_
  refine zr_getr (j := 2) I29_11 F5_15 rfl (sT15 hS) (sR15_2 hS) ?_
  refine zl_ald0 I29_14 ?_
  refine zr_geti (j := 0) I29_15 F5_24 rfl (sT15 hS) ?_
  rw [zup_oth (by decide)]
  refine zl_ild2 I29_18 ?_
  refine zr_iast I29_19 (sT17 hS) (sN17 hS) (by omega) ?_
  refine zl_ald0 I29_20 ?_
  refine zr_getr (j := 3) I29_21 F5_18 rfl (sT15 hS) (sR15_3 hS) ?_
  refine zl_ald0 I29_24 ?_
  refine zr_geti (j := 0) I29_25 F5_24 rfl (sT15 hS) ?_
  rw [zup_oth (by decide), zup_oth (by decide)]
  refine zl_ild3 I29_28 ?_
  refine zr_iast I29_29 (sT18 hS) (sN18 hS) (by omega) ?_
  refine zl_ald0 I29_30 ?_
  refine zr_getr (j := 4) I29_31 F5_21 rfl (sT15 hS) (sR15_4 hS) ?_
  refine zl_ald0 I29_34 ?_
  refine zr_geti (j := 0) I29_35 F5_24 rfl (sT15 hS) ?_
  rw [zup_oth (by decide), zup_oth (by decide), zup_oth (by decide)]
  refine zl_ild4 I29_38 ?_
  refine zr_iast I29_40 (sT19 hS) (sN19 hS) (by omega) ?_
  refine zl_ald0 I29_41 ?_
  refine zr_dup I29_42 ?_
  refine zr_geti (j := 0) I29_43 F5_24 rfl (sT15 hS) ?_
  rw [zup_oth (by decide), zup_oth (by decide), zup_oth (by decide), zup_oth (by decide)]
  refine zr_dup_x1 I29_46 ?_
  refine zr_iconst I29_47 ?_
  refine zr_iadd I29_48 (by unfold zInR; omega) ?_
  refine zr_puti (j := 0) I29_49 F5_24 rfl (sT15 hS) ⟨rfl, fun h => absurd h (by decide)⟩ ?_
  refine zr_iret I29_52 rfl ?_
  refine ⟨_, rfl, rfl, zup_same, fun k hk => by rw [zup_q, if_neg hk, zup_oth (by decide), zup_oth (by decide), zup_oth (by decide), zup_oth (by decide)], fun i h1 h2 k => ?_, fun r hr => by rw [zup_ne (by omega), zup_ne (by omega), zup_ne (by omega), zup_ne (by omega), zup_ne (by omega)], zBd_up (zBd_up (zBd_up (zBd_up (zBd_up (hB) (by omega)) (by omega)) (by omega)) (by omega)) (by omega)⟩
  rcases (show i = 1 ∨ i = 2 ∨ i = 3 ∨ i = 4 by omega) with rfl | rfl | rfl | rfl
  · rw [zup_oth (by decide), zup_oth (by decide), zup_oth (by decide), zup_oth (by decide), zup_q]
    rfl
  · rw [zup_oth (by decide), zup_oth (by decide), zup_oth (by decide), zup_q, zup_oth (by decide)]
    rfl
  · rw [zup_oth (by decide), zup_oth (by decide), zup_q, zup_oth (by decide), zup_oth (by decide)]
    rfl
  · rw [zup_oth (by decide), zup_q, zup_oth (by decide), zup_oth (by decide), zup_oth (by decide)]
    rfl
set_option maxRecDepth 10000 in
set_option maxHeartbeats 2000000 in
theorem e_X0_append {d n sl : Nat} {S : zSh} {c : zC} (hS : zSok S) (hB : zBd c) (hc : 0 ≤ c 20 0 ∧ c 20 0 < 10) {a b e : Int} (hb0 : -100000 ≤ a ∧ a ≤ 100000) (hb1 : -100000 ≤ b ∧ b ≤ 100000) (hb2 : -100000 ≤ e ∧ e ≤ 100000) : zE (d + 0) 1 0 (zent 1 [zA 20, zI a, zI b, zI e]) [] ((n, sl), (S, c)) (fun r μ' => ∃ c', r = some (zI (c 20 0)) ∧ μ' = ((n, sl), (S, c')) ∧ zAp c c' 20 3 (fun i => if i = 1 then a else if i = 2 then b else e)) := by
  show zE (d + 0) 1 0 [some (zA 20), some (zI a), some (zI b), some (zI e)] [] ((n, sl), (S, c)) _
  refine zl_ald0 I1_0 ?_
  refine zr_getr (j := 1) I1_1 F0_9 rfl (sT20 hS) (sR20_1 hS) ?_
  refine zl_ald0 I1_4 ?_
  refine zr_giB (j := 0) hB (by decide) I1_5 F0_21 rfl (sT20 hS) (fun b5 => ?_)
  refine zl_ild1 I1_8 ?_
  refine zr_iast I1_9 (sT21 hS) (sN21 hS) (by omega) ?_
  refine zl_ald0 I1_10 ?_
  refine zr_getr (j := 2) I1_11 F0_15 rfl (sT20 hS) (sR20_2 hS) ?_
  refine zl_ald0 I1_14 ?_
  refine zr_geti (j := 0) I1_15 F0_21 rfl (sT20 hS) ?_
  rw [zup_oth (by decide)]
  refine zl_ild2 I1_18 ?_
  refine zr_iast I1_19 (sT22 hS) (sN22 hS) (by omega) ?_
  refine zl_ald0 I1_20 ?_
  refine zr_getr (j := 3) I1_21 F0_18 rfl (sT20 hS) (sR20_3 hS) ?_
  refine zl_ald0 I1_24 ?_
  refine zr_geti (j := 0) I1_25 F0_21 rfl (sT20 hS) ?_
  rw [zup_oth (by decide), zup_oth (by decide)]
  refine zl_ild3 I1_28 ?_
  refine zr_iast I1_29 (sT23 hS) (sN23 hS) (by omega) ?_
  refine zl_ald0 I1_30 ?_
  refine zr_dup I1_31 ?_
  refine zr_geti (j := 0) I1_32 F0_21 rfl (sT20 hS) ?_
  rw [zup_oth (by decide), zup_oth (by decide), zup_oth (by decide)]
  refine zr_dup_x1 I1_35 ?_
  refine zr_iconst I1_36 ?_
  refine zr_iadd I1_37 (by unfold zInR; omega) ?_
  refine zr_puti (j := 0) I1_38 F0_21 rfl (sT20 hS) ⟨rfl, fun h => absurd h (by decide)⟩ ?_
  refine zr_iret I1_41 rfl ?_
  refine ⟨_, rfl, rfl, zup_same, fun k hk => by rw [zup_q, if_neg hk, zup_oth (by decide), zup_oth (by decide), zup_oth (by decide)], fun i h1 h2 k => ?_, fun r hr => by rw [zup_ne (by omega), zup_ne (by omega), zup_ne (by omega), zup_ne (by omega)], zBd_up (zBd_up (zBd_up (zBd_up (hB) (by omega)) (by omega)) (by omega)) (by omega)⟩
  rcases (show i = 1 ∨ i = 2 ∨ i = 3 by omega) with rfl | rfl | rfl
  · rw [zup_oth (by decide), zup_oth (by decide), zup_oth (by decide), zup_q]
    rfl
  · rw [zup_oth (by decide), zup_oth (by decide), zup_q, zup_oth (by decide)]
    rfl
  · rw [zup_oth (by decide), zup_q, zup_oth (by decide), zup_oth (by decide)]
    rfl
set_option maxRecDepth 10000 in
set_option maxHeartbeats 2000000 in
theorem e_X8_items {d n sl : Nat} {S : zSh} {c : zC} (hS : zSok S) (hB : zBd c) : zE (d + 0) 49 0 (zent 49 [zA 8]) [] ((n, sl), (S, c)) (zRd (c 24 0) ((n, sl), (S, c))) := by
  show zE (d + 0) 49 0 [some (zA 8)] [] ((n, sl), (S, c)) _
  refine zl_ald0 I49_0 ?_
  refine zr_getr (j := 0) I49_1 F8_12 rfl (sT8 hS) (sR8_0 hS) ?_
  refine zr_getr (j := 3) I49_4 F8_102 rfl (sT9 hS) (sR9_3 hS) ?_
  refine zr_giB (j := 0) hB (by decide) I49_7 F8_112 rfl (sT24 hS) (fun b7 => ?_)
  refine zr_iret I49_10 rfl ?_
  exact ⟨rfl, rfl⟩
set_option maxRecDepth 10000 in
set_option maxHeartbeats 2000000 in
theorem e_X8_owed {d n sl : Nat} {S : zSh} {c : zC} (hS : zSok S) (hB : zBd c) (hpn : 0 ≤ c 10 0 ∧ c 10 0 ≤ 16) {p : Int} : zE (d + 2) 54 0 (zent 54 [zA 8, zI p]) [] ((n, sl), (S, c)) (zRp (fun x => (¬ (0 ≤ p ∧ p < c 10 0) ∧ x = -1) ∨ ((0 ≤ p ∧ p < c 10 0) ∧ x = c 14 p)) ((n, sl), (S, c))) := by
  show zE (d + 2) 54 0 [some (zA 8), some (zI p)] [] ((n, sl), (S, c)) _
  refine zl_ald0 I54_0 ?_
  refine zl_ild1 I54_1 ?_
  refine zr_callV I54_2 C8_66 ⟨rfl, rfl⟩ ⟨rfl, Nat.le_of_ble_eq_true rfl⟩ (Or.inl ⟨rfl, sT8 hS⟩) (e_X8_isProgramme hS hB) (fun v2 μ2 hv2 => ?_)
  obtain ⟨x2, rfl, hx2, rfl⟩ := hv2
  dsimp only [Option.toList, List.cons_append, List.nil_append]
  unfold zTf at hx2
  refine zr_if_ne (t := 10) I54_5 rfl (fun h5 => ?_) (fun h5 => ?_)
  · refine zl_ald0 I54_10 ?_
    refine zr_getr (j := 0) I54_11 F8_12 rfl (sT8 hS) (sR8_0 hS) ?_
    refine zr_getr (j := 0) I54_14 F8_48 rfl (sT9 hS) (sR9_0 hS) ?_
    refine zr_getr (j := 4) I54_17 F8_144 rfl (sT10 hS) (sR10_4 hS) ?_
    refine zl_ild1 I54_20 ?_
    refine zr_iaB hB (by decide) I54_21 (sT14 hS) (sN14 hS) (by omega) (fun b21 => ?_)
    refine zr_iret I54_22 rfl ?_
    exact ⟨_, rfl, Or.inr ⟨by omega, rfl⟩, rfl⟩
  · refine zr_iconst I54_8 ?_
    refine zr_iret I54_9 rfl ?_
    exact ⟨_, rfl, Or.inl ⟨by omega, rfl⟩, rfl⟩
