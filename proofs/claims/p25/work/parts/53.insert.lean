/-! the class: items moved, inserted, deleted -/
def zMv (c c' : zC) (a b : Int) : Prop := (∀ r, r ≠ 25 → r ≠ 26 → r ≠ 27 → r ≠ 28 → c' r = c r) ∧ (∀ r, 25 ≤ r → r ≤ 28 → ∀ k, c' r k = if b ≤ k ∧ k < b + (c 24 0 - a) then c r (a + (k - b)) else c r k) ∧ zBd c'
theorem zMv_row {c c5 : zC} {a k : Int} {r : Nat} (h : zMv c c5 a (a + 1)) (h1 : 25 ≤ r) (h2 : r ≤ 28) : c5 r k = if a + 1 ≤ k ∧ k < c 24 0 + 1 then c r (k - 1) else c r k := by
  rw [h.2.1 r h1 h2 k]
  by_cases e : a + 1 ≤ k ∧ k < c 24 0 + 1
  · rw [if_pos (by omega), if_pos e, show a + (k - (a + 1)) = k - 1 by omega]
  · rw [if_neg (by omega), if_neg e]
theorem zMv_row2 {c c5 : zC} {a k : Int} {r : Nat} (h : zMv c c5 (a + 1) a) (h1 : 25 ≤ r) (h2 : r ≤ 28) : c5 r k = if a ≤ k ∧ k < c 24 0 - 1 then c r (k + 1) else c r k := by
  rw [h.2.1 r h1 h2 k]
  by_cases e : a ≤ k ∧ k < c 24 0 - 1
  · rw [if_pos (by omega), if_pos e, show a + 1 + (k - a) = k + 1 by omega]
  · rw [if_neg (by omega), if_neg e]
def zIns (c c' : zC) (a p s l f : Int) : Prop := c' 24 0 = c 24 0 + 1 ∧ (∀ k, k ≠ 0 → c' 24 k = c 24 k) ∧ (∀ r, (r < 24 ∨ 28 < r) → c' r = c r) ∧ (∀ k, c' 25 k = if k = a then p else if a + 1 ≤ k ∧ k < c 24 0 + 1 then c 25 (k - 1) else c 25 k) ∧ (∀ k, c' 26 k = if k = a then s else if a + 1 ≤ k ∧ k < c 24 0 + 1 then c 26 (k - 1) else c 26 k) ∧ (∀ k, c' 27 k = if k = a then l else if a + 1 ≤ k ∧ k < c 24 0 + 1 then c 27 (k - 1) else c 27 k) ∧ (∀ k, c' 28 k = if k = a then f else if a + 1 ≤ k ∧ k < c 24 0 + 1 then c 28 (k - 1) else c 28 k) ∧ zBd c'
def zDel (c c' : zC) (a : Int) : Prop := c' 24 0 = c 24 0 - 1 ∧ (∀ k, k ≠ 0 → c' 24 k = c 24 k) ∧ (∀ r, (r < 24 ∨ 28 < r) → c' r = c r) ∧ (∀ r, 25 ≤ r → r ≤ 28 → ∀ k, c' r k = if a ≤ k ∧ k < c 24 0 - 1 then c r (k + 1) else c r k) ∧ zBd c'
set_option maxRecDepth 10000 in
set_option maxHeartbeats 2000000 in
theorem e_X3_move {d n sl : Nat} {S : zSh} {c : zC} (hS : zSok S) (hB : zBd c) (hc : 0 ≤ c 24 0 ∧ c 24 0 ≤ 60) {a b : Int} (ha : 0 ≤ a ∧ a ≤ c 24 0) (hb : 0 ≤ b ∧ b + (c 24 0 - a) ≤ 60) : zE (d + 1) 23 0 (zent 23 [zA 24, zI a, zI b]) [] ((n, sl), (S, c)) (fun r μ' => ∃ c', r = none ∧ μ' = ((n, sl), (S, c')) ∧ zMv c c' a b) := by
  show zE (d + 1) 23 0 [some (zA 24), some (zI a), some (zI b)] [] ((n, sl), (S, c)) _
  refine zl_ald0 I23_0 ?_
  refine zr_getr (j := 1) I23_1 F3_9 rfl (sT24 hS) (sR24_1 hS) ?_
  refine zl_ild1 I23_4 ?_
  refine zl_ald0 I23_5 ?_
  refine zr_getr (j := 1) I23_6 F3_9 rfl (sT24 hS) (sR24_1 hS) ?_
  refine zl_ild2 I23_9 ?_
  refine zl_ald0 I23_10 ?_
  refine zr_giB (j := 0) hB (by decide) I23_11 F3_24 rfl (sT24 hS) (fun b11 => ?_)
  refine zl_ild1 I23_14 ?_
  refine zr_isub I23_15 (by unfold zInR; omega) ?_
  refine zr_acopy I23_16 C3_45 (sT25 hS) (sT25 hS) (sN25 hS) (sN25 hS) (by omega) (Nat.le_of_ble_eq_true rfl) ?_
  refine zl_ald0 I23_19 ?_
  refine zr_getr (j := 2) I23_20 F3_15 rfl (sT24 hS) (sR24_2 hS) ?_
  refine zl_ild1 I23_23 ?_
  refine zl_ald0 I23_24 ?_
  refine zr_getr (j := 2) I23_25 F3_15 rfl (sT24 hS) (sR24_2 hS) ?_
  refine zl_ild2 I23_28 ?_
  refine zl_ald0 I23_29 ?_
  refine zr_geti (j := 0) I23_30 F3_24 rfl (sT24 hS) ?_
  rw [zcpy_oth (by decide)]
  refine zl_ild1 I23_33 ?_
  refine zr_isub I23_34 (by unfold zInR; omega) ?_
  refine zr_acopy I23_35 C3_45 (sT26 hS) (sT26 hS) (sN26 hS) (sN26 hS) (by omega) (Nat.le_of_ble_eq_true rfl) ?_
  refine zl_ald0 I23_38 ?_
  refine zr_getr (j := 3) I23_39 F3_18 rfl (sT24 hS) (sR24_3 hS) ?_
  refine zl_ild1 I23_42 ?_
  refine zl_ald0 I23_43 ?_
  refine zr_getr (j := 3) I23_44 F3_18 rfl (sT24 hS) (sR24_3 hS) ?_
  refine zl_ild2 I23_47 ?_
  refine zl_ald0 I23_48 ?_
  refine zr_geti (j := 0) I23_49 F3_24 rfl (sT24 hS) ?_
  rw [zcpy_oth (by decide), zcpy_oth (by decide)]
  refine zl_ild1 I23_52 ?_
  refine zr_isub I23_53 (by unfold zInR; omega) ?_
  refine zr_acopy I23_54 C3_45 (sT27 hS) (sT27 hS) (sN27 hS) (sN27 hS) (by omega) (Nat.le_of_ble_eq_true rfl) ?_
  refine zl_ald0 I23_57 ?_
  refine zr_getr (j := 4) I23_58 F3_21 rfl (sT24 hS) (sR24_4 hS) ?_
  refine zl_ild1 I23_61 ?_
  refine zl_ald0 I23_62 ?_
  refine zr_getr (j := 4) I23_63 F3_21 rfl (sT24 hS) (sR24_4 hS) ?_
  refine zl_ild2 I23_66 ?_
  refine zl_ald0 I23_67 ?_
  refine zr_geti (j := 0) I23_68 F3_24 rfl (sT24 hS) ?_
  rw [zcpy_oth (by decide), zcpy_oth (by decide), zcpy_oth (by decide)]
  refine zl_ild1 I23_71 ?_
  refine zr_isub I23_72 (by unfold zInR; omega) ?_
  refine zr_acopy I23_73 C3_45 (sT28 hS) (sT28 hS) (sN28 hS) (sN28 hS) (by omega) (Nat.le_of_ble_eq_true rfl) ?_
  refine zr_vret I23_76 rfl ?_
  refine ⟨_, rfl, rfl, fun r h1 h2 h3 h4 => by rw [zcpy_ne h4, zcpy_ne h3, zcpy_ne h2, zcpy_ne h1], fun r h1 h2 k => ?_, zBd_cpy (zBd_cpy (zBd_cpy (zBd_cpy hB (by decide)) (by decide)) (by decide)) (by decide)⟩
  rcases (show r = 25 ∨ r = 26 ∨ r = 27 ∨ r = 28 by omega) with rfl | rfl | rfl | rfl
  all_goals simp only [zcpy_q, zcpy_oth (show (25 : Nat) ≠ 26 by decide), zcpy_oth (show (25 : Nat) ≠ 27 by decide), zcpy_oth (show (25 : Nat) ≠ 28 by decide), zcpy_oth (show (26 : Nat) ≠ 25 by decide), zcpy_oth (show (26 : Nat) ≠ 27 by decide), zcpy_oth (show (26 : Nat) ≠ 28 by decide), zcpy_oth (show (27 : Nat) ≠ 25 by decide), zcpy_oth (show (27 : Nat) ≠ 26 by decide), zcpy_oth (show (27 : Nat) ≠ 28 by decide), zcpy_oth (show (28 : Nat) ≠ 25 by decide), zcpy_oth (show (28 : Nat) ≠ 26 by decide), zcpy_oth (show (28 : Nat) ≠ 27 by decide)]
set_option maxRecDepth 10000 in
set_option maxHeartbeats 2000000 in
theorem e_X3_insert {d n sl : Nat} {S : zSh} {c : zC} (hS : zSok S) (hB : zBd c) (hc : 0 ≤ c 24 0 ∧ c 24 0 ≤ 59) {a p s l f : Int} (ha : 0 ≤ a ∧ a ≤ c 24 0) (hpb : -100000 ≤ p ∧ p ≤ 100000) (hsb : -100000 ≤ s ∧ s ≤ 100000) (heb : -100000 ≤ l ∧ l ≤ 100000) : zE (d + 2) 21 0 (zent 21 [zA 24, zI a, zI p, zI s, zI l, zI f]) [] ((n, sl), (S, c)) (fun r μ' => ∃ c', r = none ∧ μ' = ((n, sl), (S, c')) ∧ zIns c c' a p s l (if f = 0 then 0 else 1)) := by
  show zE (d + 2) 21 0 [some (zA 24), some (zI a), some (zI p), some (zI s), some (zI l), some (zI f)] [] ((n, sl), (S, c)) _
  refine zl_ald0 I21_0 ?_
  refine zl_ild1 I21_1 ?_
  refine zl_ild1 I21_2 ?_
  refine zr_iconst I21_3 ?_
  refine zr_iadd I21_4 (by unfold zInR; omega) ?_
  refine zr_callV I21_5 C3_41 ⟨rfl, rfl⟩ ⟨rfl, Nat.le_of_ble_eq_true rfl⟩ (Or.inl ⟨rfl, sT24 hS⟩) (e_X3_move hS hB (by omega) (by omega) (by omega)) (fun v5 μ5 hv5 => ?_)
  obtain ⟨c5, rfl, rfl, hc5⟩ := hv5
  dsimp only [Option.toList, List.cons_append, List.nil_append]
  have e24 : c5 24 0 = c 24 0 := by rw [hc5.1 24 (by decide) (by decide) (by decide) (by decide)]
  refine zl_ald0 I21_8 ?_
  refine zr_getr (j := 1) I21_9 F3_9 rfl (sT24 hS) (sR24_1 hS) ?_
  refine zl_ild1 I21_12 ?_
  refine zl_ild2 I21_13 ?_
  refine zr_iast I21_14 (sT25 hS) (sN25 hS) (by omega) ?_
  refine zl_ald0 I21_15 ?_
  refine zr_getr (j := 2) I21_16 F3_15 rfl (sT24 hS) (sR24_2 hS) ?_
  refine zl_ild1 I21_19 ?_
  refine zl_ild3 I21_20 ?_
  refine zr_iast I21_21 (sT26 hS) (sN26 hS) (by omega) ?_
  refine zl_ald0 I21_22 ?_
  refine zr_getr (j := 3) I21_23 F3_18 rfl (sT24 hS) (sR24_3 hS) ?_
  refine zl_ild1 I21_26 ?_
  refine zl_ild4 I21_27 ?_
  refine zr_iast I21_29 (sT27 hS) (sN27 hS) (by omega) ?_
  refine zl_ald0 I21_30 ?_
  refine zr_getr (j := 4) I21_31 F3_21 rfl (sT24 hS) (sR24_4 hS) ?_
  refine zl_ild1 I21_34 ?_
  refine zl_ild5 I21_35 ?_
  refine zr_if_eq (t := 44) I21_37 rfl (fun h37 => ?_) (fun h37 => ?_)
  · refine zr_iconst I21_44 ?_
    refine zr_iast I21_45 (sT28 hS) (sN28 hS) (by omega) ?_
    refine zl_ald0 I21_46 ?_
    refine zr_dup I21_47 ?_
    refine zr_geti (j := 0) I21_48 F3_24 rfl (sT24 hS) ?_
    rw [zup_oth (by decide), zup_oth (by decide), zup_oth (by decide), zup_oth (by decide), e24]
    refine zr_iconst I21_51 ?_
    refine zr_iadd I21_52 (by unfold zInR; omega) ?_
    refine zr_puti (j := 0) I21_53 F3_24 rfl (sT24 hS) ⟨rfl, fun h => absurd h (by decide)⟩ ?_
    refine zr_vret I21_56 rfl ?_
    refine ⟨_, rfl, rfl, ?_⟩
    rw [if_pos (by omega)]
    exact ⟨zup_same, fun k hk => by rw [zup_q, if_neg hk, zup_oth (by decide), zup_oth (by decide), zup_oth (by decide), zup_oth (by decide), hc5.1 24 (by decide) (by decide) (by decide) (by decide)], fun r hr => by rw [zup_ne (by omega), zup_ne (by omega), zup_ne (by omega), zup_ne (by omega), zup_ne (by omega), hc5.1 r (by omega) (by omega) (by omega) (by omega)], fun k => by rw [zup_oth (by decide), zup_oth (by decide), zup_oth (by decide), zup_oth (by decide), zup_q, zMv_row hc5 (by decide) (by decide)], fun k => by rw [zup_oth (by decide), zup_oth (by decide), zup_oth (by decide), zup_q, zup_oth (by decide), zMv_row hc5 (by decide) (by decide)], fun k => by rw [zup_oth (by decide), zup_oth (by decide), zup_q, zup_oth (by decide), zup_oth (by decide), zMv_row hc5 (by decide) (by decide)], fun k => by rw [zup_oth (by decide), zup_q, zup_oth (by decide), zup_oth (by decide), zup_oth (by decide), zMv_row hc5 (by decide) (by decide)], zBd_up (zBd_up (zBd_up (zBd_up (zBd_up hc5.2.2 hpb) hsb) heb) (by omega)) (by omega)⟩
  · refine zr_iconst I21_40 ?_
    refine zr_goto (t := 45) I21_41 rfl ?_
    refine zr_iast I21_45 (sT28 hS) (sN28 hS) (by omega) ?_
    refine zl_ald0 I21_46 ?_
    refine zr_dup I21_47 ?_
    refine zr_geti (j := 0) I21_48 F3_24 rfl (sT24 hS) ?_
    rw [zup_oth (by decide), zup_oth (by decide), zup_oth (by decide), zup_oth (by decide), e24]
    refine zr_iconst I21_51 ?_
    refine zr_iadd I21_52 (by unfold zInR; omega) ?_
    refine zr_puti (j := 0) I21_53 F3_24 rfl (sT24 hS) ⟨rfl, fun h => absurd h (by decide)⟩ ?_
    refine zr_vret I21_56 rfl ?_
    refine ⟨_, rfl, rfl, ?_⟩
    rw [if_neg (by omega)]
    exact ⟨zup_same, fun k hk => by rw [zup_q, if_neg hk, zup_oth (by decide), zup_oth (by decide), zup_oth (by decide), zup_oth (by decide), hc5.1 24 (by decide) (by decide) (by decide) (by decide)], fun r hr => by rw [zup_ne (by omega), zup_ne (by omega), zup_ne (by omega), zup_ne (by omega), zup_ne (by omega), hc5.1 r (by omega) (by omega) (by omega) (by omega)], fun k => by rw [zup_oth (by decide), zup_oth (by decide), zup_oth (by decide), zup_oth (by decide), zup_q, zMv_row hc5 (by decide) (by decide)], fun k => by rw [zup_oth (by decide), zup_oth (by decide), zup_oth (by decide), zup_q, zup_oth (by decide), zMv_row hc5 (by decide) (by decide)], fun k => by rw [zup_oth (by decide), zup_oth (by decide), zup_q, zup_oth (by decide), zup_oth (by decide), zMv_row hc5 (by decide) (by decide)], fun k => by rw [zup_oth (by decide), zup_q, zup_oth (by decide), zup_oth (by decide), zup_oth (by decide), zMv_row hc5 (by decide) (by decide)], zBd_up (zBd_up (zBd_up (zBd_up (zBd_up hc5.2.2 hpb) hsb) heb) (by omega)) (by omega)⟩
set_option maxRecDepth 10000 in
set_option maxHeartbeats 2000000 in
theorem e_X3_delete {d n sl : Nat} {S : zSh} {c : zC} (hS : zSok S) (hB : zBd c) (hc : 0 ≤ c 24 0 ∧ c 24 0 ≤ 60) {a : Int} (ha : 0 ≤ a ∧ a < c 24 0) : zE (d + 2) 22 0 (zent 22 [zA 24, zI a]) [] ((n, sl), (S, c)) (fun r μ' => ∃ c', r = none ∧ μ' = ((n, sl), (S, c')) ∧ zDel c c' a) := by
  show zE (d + 2) 22 0 [some (zA 24), some (zI a)] [] ((n, sl), (S, c)) _
  refine zl_ald0 I22_0 ?_
  refine zl_ild1 I22_1 ?_
  refine zr_iconst I22_2 ?_
  refine zr_iadd I22_3 (by unfold zInR; omega) ?_
  refine zl_ild1 I22_4 ?_
  refine zr_callV I22_5 C3_41 ⟨rfl, rfl⟩ ⟨rfl, Nat.le_of_ble_eq_true rfl⟩ (Or.inl ⟨rfl, sT24 hS⟩) (e_X3_move hS hB hc (by omega) (by omega)) (fun v5 μ5 hv5 => ?_)
  obtain ⟨c5, rfl, rfl, hc5⟩ := hv5
  dsimp only [Option.toList, List.cons_append, List.nil_append]
  have e24 : c5 24 0 = c 24 0 := by rw [hc5.1 24 (by decide) (by decide) (by decide) (by decide)]
  refine zl_ald0 I22_8 ?_
  refine zr_dup I22_9 ?_
  refine zr_geti (j := 0) I22_10 F3_24 rfl (sT24 hS) ?_
  rw [e24]
  refine zr_iconst I22_13 ?_
  refine zr_isub I22_14 (by unfold zInR; omega) ?_
  refine zr_puti (j := 0) I22_15 F3_24 rfl (sT24 hS) ⟨rfl, fun h => absurd h (by decide)⟩ ?_
  refine zr_vret I22_18 rfl ?_
  exact ⟨_, rfl, rfl, zup_same, fun k hk => by rw [zup_q, if_neg hk, hc5.1 24 (by decide) (by decide) (by decide) (by decide)], fun r hr => by rw [zup_ne (by omega), hc5.1 r (by omega) (by omega) (by omega) (by omega)], fun r h1 h2 k => by rw [zup_oth (by omega), zMv_row2 hc5 h1 h2], zBd_up hc5.2.2 (by omega)⟩
