/-! the class: copies -/
def zCpo (c c' : zC) (t o m : Nat) : Prop := c' t 0 = c o 0 ∧ (∀ k, k ≠ 0 → c' t k = c t k) ∧ (∀ i, 1 ≤ i → i ≤ m → ∀ k, c' (t + i) k = if 0 ≤ k ∧ k < c o 0 then c (o + i) k else c (t + i) k)
def zCp1 (c c' : zC) (t o m : Nat) : Prop := zCpo c c' t o m ∧ (∀ r, (r < t ∨ t + m < r) → c' r = c r) ∧ zBd c'
def zCpW (c c' : zC) (t o : Nat) : Prop := zCpo c c' (t + 1) (o + 1) 4 ∧ zCpo c c' (t + 6) (o + 6) 4 ∧ zCpo c c' (t + 11) (o + 11) 3 ∧ zCpo c c' (t + 15) (o + 15) 4 ∧ (∀ r, (r < t + 1 ∨ t + 19 < r) → c' r = c r) ∧ zBd c'
set_option maxRecDepth 10000 in
set_option maxHeartbeats 2000000 in
theorem e_X4_copyFrom_10_32 {d n sl : Nat} {S : zSh} {c : zC} (hS : zSok S) (hB : zBd c) (hc : 0 ≤ c 32 0 ∧ c 32 0 ≤ 16) : zE (d + 1) 27 0 (zent 27 [zA 10, zA 32]) [] ((n, sl), (S, c)) (fun r μ' => ∃ c', r = none ∧ μ' = ((n, sl), (S, c')) ∧ zCp1 c c' 10 32 4) := by
  show zE (d + 1) 27 0 [some (zA 10), some (zA 32)] [] ((n, sl), (S, c)) _
  refine zl_ald0 I27_0 ?_
  refine zl_ald1 I27_1 ?_
  refine zr_giB (j := 0) hB (by decide) I27_2 F4_24 rfl (sT32 hS) (fun b2 => ?_)
  refine zr_puti (j := 0) I27_5 F4_24 rfl (sT10 hS) ⟨rfl, fun h => absurd h (by decide)⟩ ?_
  refine zl_ald1 I27_8 ?_
  refine zr_getr (j := 1) I27_9 F4_9 rfl (sT32 hS) (sR32_1 hS) ?_
  refine zr_iconst I27_12 ?_
  refine zl_ald0 I27_13 ?_
  refine zr_getr (j := 1) I27_14 F4_9 rfl (sT10 hS) (sR10_1 hS) ?_
  refine zr_iconst I27_17 ?_
  refine zl_ald0 I27_18 ?_
  refine zr_geti (j := 0) I27_19 F4_24 rfl (sT10 hS) ?_
  rw [zup_same]
  refine zr_acopy I27_22 C4_28 (sT33 hS) (sT11 hS) (sN33 hS) (sN11 hS) (by omega) (Nat.le_of_ble_eq_true rfl) ?_
  refine zl_ald1 I27_25 ?_
  refine zr_getr (j := 2) I27_26 F4_15 rfl (sT32 hS) (sR32_2 hS) ?_
  refine zr_iconst I27_29 ?_
  refine zl_ald0 I27_30 ?_
  refine zr_getr (j := 2) I27_31 F4_15 rfl (sT10 hS) (sR10_2 hS) ?_
  refine zr_iconst I27_34 ?_
  refine zl_ald0 I27_35 ?_
  refine zr_geti (j := 0) I27_36 F4_24 rfl (sT10 hS) ?_
  rw [zcpy_oth (by decide), zup_same]
  refine zr_acopy I27_39 C4_28 (sT34 hS) (sT12 hS) (sN34 hS) (sN12 hS) (by omega) (Nat.le_of_ble_eq_true rfl) ?_
  refine zl_ald1 I27_42 ?_
  refine zr_getr (j := 3) I27_43 F4_18 rfl (sT32 hS) (sR32_3 hS) ?_
  refine zr_iconst I27_46 ?_
  refine zl_ald0 I27_47 ?_
  refine zr_getr (j := 3) I27_48 F4_18 rfl (sT10 hS) (sR10_3 hS) ?_
  refine zr_iconst I27_51 ?_
  refine zl_ald0 I27_52 ?_
  refine zr_geti (j := 0) I27_53 F4_24 rfl (sT10 hS) ?_
  rw [zcpy_oth (by decide), zcpy_oth (by decide), zup_same]
  refine zr_acopy I27_56 C4_28 (sT35 hS) (sT13 hS) (sN35 hS) (sN13 hS) (by omega) (Nat.le_of_ble_eq_true rfl) ?_
  refine zl_ald1 I27_59 ?_
  refine zr_getr (j := 4) I27_60 F4_21 rfl (sT32 hS) (sR32_4 hS) ?_
  refine zr_iconst I27_63 ?_
  refine zl_ald0 I27_64 ?_
  refine zr_getr (j := 4) I27_65 F4_21 rfl (sT10 hS) (sR10_4 hS) ?_
  refine zr_iconst I27_68 ?_
  refine zl_ald0 I27_69 ?_
  refine zr_geti (j := 0) I27_70 F4_24 rfl (sT10 hS) ?_
  rw [zcpy_oth (by decide), zcpy_oth (by decide), zcpy_oth (by decide), zup_same]
  refine zr_acopy I27_73 C4_28 (sT36 hS) (sT14 hS) (sN36 hS) (sN14 hS) (by omega) (Nat.le_of_ble_eq_true rfl) ?_
  refine zr_vret I27_76 rfl ?_
  refine ⟨_, rfl, rfl, ⟨by rw [zcpy_oth (by decide), zcpy_oth (by decide), zcpy_oth (by decide), zcpy_oth (by decide), zup_same], fun k hk => by rw [zcpy_oth (by decide), zcpy_oth (by decide), zcpy_oth (by decide), zcpy_oth (by decide), zup_q, if_neg hk], fun i h1 h2 k => ?_⟩, fun r hr => by rw [zcpy_ne (by omega), zcpy_ne (by omega), zcpy_ne (by omega), zcpy_ne (by omega), zup_ne (by omega)], zBd_cpy (zBd_cpy (zBd_cpy (zBd_cpy (zBd_up hB (by omega)) (by decide)) (by decide)) (by decide)) (by decide)⟩
  rcases (show i = 1 ∨ i = 2 ∨ i = 3 ∨ i = 4 by omega) with rfl | rfl | rfl | rfl
  all_goals simp [zcpy, zup]
set_option maxRecDepth 10000 in
set_option maxHeartbeats 2000000 in
theorem e_X5_copyFrom_15_37 {d n sl : Nat} {S : zSh} {c : zC} (hS : zSok S) (hB : zBd c) (hc : 0 ≤ c 37 0 ∧ c 37 0 ≤ 30) : zE (d + 1) 31 0 (zent 31 [zA 15, zA 37]) [] ((n, sl), (S, c)) (fun r μ' => ∃ c', r = none ∧ μ' = ((n, sl), (S, c')) ∧ zCp1 c c' 15 37 4) := by
  show zE (d + 1) 31 0 [some (zA 15), some (zA 37)] [] ((n, sl), (S, c)) _
  refine zl_ald0 I31_0 ?_
  refine zl_ald1 I31_1 ?_
  refine zr_giB (j := 0) hB (by decide) I31_2 F5_24 rfl (sT37 hS) (fun b2 => ?_)
  refine zr_puti (j := 0) I31_5 F5_24 rfl (sT15 hS) ⟨rfl, fun h => absurd h (by decide)⟩ ?_
  refine zl_ald1 I31_8 ?_
  refine zr_getr (j := 1) I31_9 F5_9 rfl (sT37 hS) (sR37_1 hS) ?_
  refine zr_iconst I31_12 ?_
  refine zl_ald0 I31_13 ?_
  refine zr_getr (j := 1) I31_14 F5_9 rfl (sT15 hS) (sR15_1 hS) ?_
  refine zr_iconst I31_17 ?_
  refine zl_ald0 I31_18 ?_
  refine zr_geti (j := 0) I31_19 F5_24 rfl (sT15 hS) ?_
  rw [zup_same]
  refine zr_acopy I31_22 C5_28 (sT38 hS) (sT16 hS) (sN38 hS) (sN16 hS) (by omega) (Nat.le_of_ble_eq_true rfl) ?_
  refine zl_ald1 I31_25 ?_
  refine zr_getr (j := 2) I31_26 F5_15 rfl (sT37 hS) (sR37_2 hS) ?_
  refine zr_iconst I31_29 ?_
  refine zl_ald0 I31_30 ?_
  refine zr_getr (j := 2) I31_31 F5_15 rfl (sT15 hS) (sR15_2 hS) ?_
  refine zr_iconst I31_34 ?_
  refine zl_ald0 I31_35 ?_
  refine zr_geti (j := 0) I31_36 F5_24 rfl (sT15 hS) ?_
  rw [zcpy_oth (by decide), zup_same]
  refine zr_acopy I31_39 C5_28 (sT39 hS) (sT17 hS) (sN39 hS) (sN17 hS) (by omega) (Nat.le_of_ble_eq_true rfl) ?_
  refine zl_ald1 I31_42 ?_
  refine zr_getr (j := 3) I31_43 F5_18 rfl (sT37 hS) (sR37_3 hS) ?_
  refine zr_iconst I31_46 ?_
  refine zl_ald0 I31_47 ?_
  refine zr_getr (j := 3) I31_48 F5_18 rfl (sT15 hS) (sR15_3 hS) ?_
  refine zr_iconst I31_51 ?_
  refine zl_ald0 I31_52 ?_
  refine zr_geti (j := 0) I31_53 F5_24 rfl (sT15 hS) ?_
  rw [zcpy_oth (by decide), zcpy_oth (by decide), zup_same]
  refine zr_acopy I31_56 C5_28 (sT40 hS) (sT18 hS) (sN40 hS) (sN18 hS) (by omega) (Nat.le_of_ble_eq_true rfl) ?_
  refine zl_ald1 I31_59 ?_
  refine zr_getr (j := 4) I31_60 F5_21 rfl (sT37 hS) (sR37_4 hS) ?_
  refine zr_iconst I31_63 ?_
  refine zl_ald0 I31_64 ?_
  refine zr_getr (j := 4) I31_65 F5_21 rfl (sT15 hS) (sR15_4 hS) ?_
  refine zr_iconst I31_68 ?_
  refine zl_ald0 I31_69 ?_
  refine zr_geti (j := 0) I31_70 F5_24 rfl (sT15 hS) ?_
  rw [zcpy_oth (by decide), zcpy_oth (by decide), zcpy_oth (by decide), zup_same]
  refine zr_acopy I31_73 C5_28 (sT41 hS) (sT19 hS) (sN41 hS) (sN19 hS) (by omega) (Nat.le_of_ble_eq_true rfl) ?_
  refine zr_vret I31_76 rfl ?_
  refine ⟨_, rfl, rfl, ⟨by rw [zcpy_oth (by decide), zcpy_oth (by decide), zcpy_oth (by decide), zcpy_oth (by decide), zup_same], fun k hk => by rw [zcpy_oth (by decide), zcpy_oth (by decide), zcpy_oth (by decide), zcpy_oth (by decide), zup_q, if_neg hk], fun i h1 h2 k => ?_⟩, fun r hr => by rw [zcpy_ne (by omega), zcpy_ne (by omega), zcpy_ne (by omega), zcpy_ne (by omega), zup_ne (by omega)], zBd_cpy (zBd_cpy (zBd_cpy (zBd_cpy (zBd_up hB (by omega)) (by decide)) (by decide)) (by decide)) (by decide)⟩
  rcases (show i = 1 ∨ i = 2 ∨ i = 3 ∨ i = 4 by omega) with rfl | rfl | rfl | rfl
  all_goals simp [zcpy, zup]
set_option maxRecDepth 10000 in
set_option maxHeartbeats 2000000 in
theorem e_X0_copyFrom_20_42 {d n sl : Nat} {S : zSh} {c : zC} (hS : zSok S) (hB : zBd c) (hc : 0 ≤ c 42 0 ∧ c 42 0 ≤ 10) : zE (d + 1) 3 0 (zent 3 [zA 20, zA 42]) [] ((n, sl), (S, c)) (fun r μ' => ∃ c', r = none ∧ μ' = ((n, sl), (S, c')) ∧ zCp1 c c' 20 42 3) := by
  show zE (d + 1) 3 0 [some (zA 20), some (zA 42)] [] ((n, sl), (S, c)) _
  refine zl_ald0 I3_0 ?_
  refine zl_ald1 I3_1 ?_
  refine zr_giB (j := 0) hB (by decide) I3_2 F0_21 rfl (sT42 hS) (fun b2 => ?_)
  refine zr_puti (j := 0) I3_5 F0_21 rfl (sT20 hS) ⟨rfl, fun h => absurd h (by decide)⟩ ?_
  refine zl_ald1 I3_8 ?_
  refine zr_getr (j := 1) I3_9 F0_9 rfl (sT42 hS) (sR42_1 hS) ?_
  refine zr_iconst I3_12 ?_
  refine zl_ald0 I3_13 ?_
  refine zr_getr (j := 1) I3_14 F0_9 rfl (sT20 hS) (sR20_1 hS) ?_
  refine zr_iconst I3_17 ?_
  refine zl_ald0 I3_18 ?_
  refine zr_geti (j := 0) I3_19 F0_21 rfl (sT20 hS) ?_
  rw [zup_same]
  refine zr_acopy I3_22 C0_25 (sT43 hS) (sT21 hS) (sN43 hS) (sN21 hS) (by omega) (Nat.le_of_ble_eq_true rfl) ?_
  refine zl_ald1 I3_25 ?_
  refine zr_getr (j := 2) I3_26 F0_15 rfl (sT42 hS) (sR42_2 hS) ?_
  refine zr_iconst I3_29 ?_
  refine zl_ald0 I3_30 ?_
  refine zr_getr (j := 2) I3_31 F0_15 rfl (sT20 hS) (sR20_2 hS) ?_
  refine zr_iconst I3_34 ?_
  refine zl_ald0 I3_35 ?_
  refine zr_geti (j := 0) I3_36 F0_21 rfl (sT20 hS) ?_
  rw [zcpy_oth (by decide), zup_same]
  refine zr_acopy I3_39 C0_25 (sT44 hS) (sT22 hS) (sN44 hS) (sN22 hS) (by omega) (Nat.le_of_ble_eq_true rfl) ?_
  refine zl_ald1 I3_42 ?_
  refine zr_getr (j := 3) I3_43 F0_18 rfl (sT42 hS) (sR42_3 hS) ?_
  refine zr_iconst I3_46 ?_
  refine zl_ald0 I3_47 ?_
  refine zr_getr (j := 3) I3_48 F0_18 rfl (sT20 hS) (sR20_3 hS) ?_
  refine zr_iconst I3_51 ?_
  refine zl_ald0 I3_52 ?_
  refine zr_geti (j := 0) I3_53 F0_21 rfl (sT20 hS) ?_
  rw [zcpy_oth (by decide), zcpy_oth (by decide), zup_same]
  refine zr_acopy I3_56 C0_25 (sT45 hS) (sT23 hS) (sN45 hS) (sN23 hS) (by omega) (Nat.le_of_ble_eq_true rfl) ?_
  refine zr_vret I3_59 rfl ?_
  refine ⟨_, rfl, rfl, ⟨by rw [zcpy_oth (by decide), zcpy_oth (by decide), zcpy_oth (by decide), zup_same], fun k hk => by rw [zcpy_oth (by decide), zcpy_oth (by decide), zcpy_oth (by decide), zup_q, if_neg hk], fun i h1 h2 k => ?_⟩, fun r hr => by rw [zcpy_ne (by omega), zcpy_ne (by omega), zcpy_ne (by omega), zup_ne (by omega)], zBd_cpy (zBd_cpy (zBd_cpy (zBd_up hB (by omega)) (by decide)) (by decide)) (by decide)⟩
  rcases (show i = 1 ∨ i = 2 ∨ i = 3 by omega) with rfl | rfl | rfl
  all_goals simp [zcpy, zup]
set_option maxRecDepth 10000 in
set_option maxHeartbeats 2000000 in
theorem e_X3_copyFrom_24_46 {d n sl : Nat} {S : zSh} {c : zC} (hS : zSok S) (hB : zBd c) (hc : 0 ≤ c 46 0 ∧ c 46 0 ≤ 60) : zE (d + 1) 24 0 (zent 24 [zA 24, zA 46]) [] ((n, sl), (S, c)) (fun r μ' => ∃ c', r = none ∧ μ' = ((n, sl), (S, c')) ∧ zCp1 c c' 24 46 4) := by
  show zE (d + 1) 24 0 [some (zA 24), some (zA 46)] [] ((n, sl), (S, c)) _
  refine zl_ald0 I24_0 ?_
  refine zl_ald1 I24_1 ?_
  refine zr_giB (j := 0) hB (by decide) I24_2 F3_24 rfl (sT46 hS) (fun b2 => ?_)
  refine zr_puti (j := 0) I24_5 F3_24 rfl (sT24 hS) ⟨rfl, fun h => absurd h (by decide)⟩ ?_
  refine zl_ald1 I24_8 ?_
  refine zr_getr (j := 1) I24_9 F3_9 rfl (sT46 hS) (sR46_1 hS) ?_
  refine zr_iconst I24_12 ?_
  refine zl_ald0 I24_13 ?_
  refine zr_getr (j := 1) I24_14 F3_9 rfl (sT24 hS) (sR24_1 hS) ?_
  refine zr_iconst I24_17 ?_
  refine zl_ald0 I24_18 ?_
  refine zr_geti (j := 0) I24_19 F3_24 rfl (sT24 hS) ?_
  rw [zup_same]
  refine zr_acopy I24_22 C3_45 (sT47 hS) (sT25 hS) (sN47 hS) (sN25 hS) (by omega) (Nat.le_of_ble_eq_true rfl) ?_
  refine zl_ald1 I24_25 ?_
  refine zr_getr (j := 2) I24_26 F3_15 rfl (sT46 hS) (sR46_2 hS) ?_
  refine zr_iconst I24_29 ?_
  refine zl_ald0 I24_30 ?_
  refine zr_getr (j := 2) I24_31 F3_15 rfl (sT24 hS) (sR24_2 hS) ?_
  refine zr_iconst I24_34 ?_
  refine zl_ald0 I24_35 ?_
  refine zr_geti (j := 0) I24_36 F3_24 rfl (sT24 hS) ?_
  rw [zcpy_oth (by decide), zup_same]
  refine zr_acopy I24_39 C3_45 (sT48 hS) (sT26 hS) (sN48 hS) (sN26 hS) (by omega) (Nat.le_of_ble_eq_true rfl) ?_
  refine zl_ald1 I24_42 ?_
  refine zr_getr (j := 3) I24_43 F3_18 rfl (sT46 hS) (sR46_3 hS) ?_
  refine zr_iconst I24_46 ?_
  refine zl_ald0 I24_47 ?_
  refine zr_getr (j := 3) I24_48 F3_18 rfl (sT24 hS) (sR24_3 hS) ?_
  refine zr_iconst I24_51 ?_
  refine zl_ald0 I24_52 ?_
  refine zr_geti (j := 0) I24_53 F3_24 rfl (sT24 hS) ?_
  rw [zcpy_oth (by decide), zcpy_oth (by decide), zup_same]
  refine zr_acopy I24_56 C3_45 (sT49 hS) (sT27 hS) (sN49 hS) (sN27 hS) (by omega) (Nat.le_of_ble_eq_true rfl) ?_
  refine zl_ald1 I24_59 ?_
  refine zr_getr (j := 4) I24_60 F3_21 rfl (sT46 hS) (sR46_4 hS) ?_
  refine zr_iconst I24_63 ?_
  refine zl_ald0 I24_64 ?_
  refine zr_getr (j := 4) I24_65 F3_21 rfl (sT24 hS) (sR24_4 hS) ?_
  refine zr_iconst I24_68 ?_
  refine zl_ald0 I24_69 ?_
  refine zr_geti (j := 0) I24_70 F3_24 rfl (sT24 hS) ?_
  rw [zcpy_oth (by decide), zcpy_oth (by decide), zcpy_oth (by decide), zup_same]
  refine zr_acopy I24_73 C3_45 (sT50 hS) (sT28 hS) (sN50 hS) (sN28 hS) (by omega) (Nat.le_of_ble_eq_true rfl) ?_
  refine zr_vret I24_76 rfl ?_
  refine ⟨_, rfl, rfl, ⟨by rw [zcpy_oth (by decide), zcpy_oth (by decide), zcpy_oth (by decide), zcpy_oth (by decide), zup_same], fun k hk => by rw [zcpy_oth (by decide), zcpy_oth (by decide), zcpy_oth (by decide), zcpy_oth (by decide), zup_q, if_neg hk], fun i h1 h2 k => ?_⟩, fun r hr => by rw [zcpy_ne (by omega), zcpy_ne (by omega), zcpy_ne (by omega), zcpy_ne (by omega), zup_ne (by omega)], zBd_cpy (zBd_cpy (zBd_cpy (zBd_cpy (zBd_up hB (by omega)) (by decide)) (by decide)) (by decide)) (by decide)⟩
  rcases (show i = 1 ∨ i = 2 ∨ i = 3 ∨ i = 4 by omega) with rfl | rfl | rfl | rfl
  all_goals simp [zcpy, zup]
set_option maxRecDepth 10000 in
set_option maxHeartbeats 2000000 in
theorem e_X4_copyFrom_10_52 {d n sl : Nat} {S : zSh} {c : zC} (hS : zSok S) (hB : zBd c) (hc : 0 ≤ c 52 0 ∧ c 52 0 ≤ 16) : zE (d + 1) 27 0 (zent 27 [zA 10, zA 52]) [] ((n, sl), (S, c)) (fun r μ' => ∃ c', r = none ∧ μ' = ((n, sl), (S, c')) ∧ zCp1 c c' 10 52 4) := by
  show zE (d + 1) 27 0 [some (zA 10), some (zA 52)] [] ((n, sl), (S, c)) _
  refine zl_ald0 I27_0 ?_
  refine zl_ald1 I27_1 ?_
  refine zr_giB (j := 0) hB (by decide) I27_2 F4_24 rfl (sT52 hS) (fun b2 => ?_)
  refine zr_puti (j := 0) I27_5 F4_24 rfl (sT10 hS) ⟨rfl, fun h => absurd h (by decide)⟩ ?_
  refine zl_ald1 I27_8 ?_
  refine zr_getr (j := 1) I27_9 F4_9 rfl (sT52 hS) (sR52_1 hS) ?_
  refine zr_iconst I27_12 ?_
  refine zl_ald0 I27_13 ?_
  refine zr_getr (j := 1) I27_14 F4_9 rfl (sT10 hS) (sR10_1 hS) ?_
  refine zr_iconst I27_17 ?_
  refine zl_ald0 I27_18 ?_
  refine zr_geti (j := 0) I27_19 F4_24 rfl (sT10 hS) ?_
  rw [zup_same]
  refine zr_acopy I27_22 C4_28 (sT53 hS) (sT11 hS) (sN53 hS) (sN11 hS) (by omega) (Nat.le_of_ble_eq_true rfl) ?_
  refine zl_ald1 I27_25 ?_
  refine zr_getr (j := 2) I27_26 F4_15 rfl (sT52 hS) (sR52_2 hS) ?_
  refine zr_iconst I27_29 ?_
  refine zl_ald0 I27_30 ?_
  refine zr_getr (j := 2) I27_31 F4_15 rfl (sT10 hS) (sR10_2 hS) ?_
  refine zr_iconst I27_34 ?_
  refine zl_ald0 I27_35 ?_
  refine zr_geti (j := 0) I27_36 F4_24 rfl (sT10 hS) ?_
  rw [zcpy_oth (by decide), zup_same]
  refine zr_acopy I27_39 C4_28 (sT54 hS) (sT12 hS) (sN54 hS) (sN12 hS) (by omega) (Nat.le_of_ble_eq_true rfl) ?_
  refine zl_ald1 I27_42 ?_
  refine zr_getr (j := 3) I27_43 F4_18 rfl (sT52 hS) (sR52_3 hS) ?_
  refine zr_iconst I27_46 ?_
  refine zl_ald0 I27_47 ?_
  refine zr_getr (j := 3) I27_48 F4_18 rfl (sT10 hS) (sR10_3 hS) ?_
  refine zr_iconst I27_51 ?_
  refine zl_ald0 I27_52 ?_
  refine zr_geti (j := 0) I27_53 F4_24 rfl (sT10 hS) ?_
  rw [zcpy_oth (by decide), zcpy_oth (by decide), zup_same]
  refine zr_acopy I27_56 C4_28 (sT55 hS) (sT13 hS) (sN55 hS) (sN13 hS) (by omega) (Nat.le_of_ble_eq_true rfl) ?_
  refine zl_ald1 I27_59 ?_
  refine zr_getr (j := 4) I27_60 F4_21 rfl (sT52 hS) (sR52_4 hS) ?_
  refine zr_iconst I27_63 ?_
  refine zl_ald0 I27_64 ?_
  refine zr_getr (j := 4) I27_65 F4_21 rfl (sT10 hS) (sR10_4 hS) ?_
  refine zr_iconst I27_68 ?_
  refine zl_ald0 I27_69 ?_
  refine zr_geti (j := 0) I27_70 F4_24 rfl (sT10 hS) ?_
  rw [zcpy_oth (by decide), zcpy_oth (by decide), zcpy_oth (by decide), zup_same]
  refine zr_acopy I27_73 C4_28 (sT56 hS) (sT14 hS) (sN56 hS) (sN14 hS) (by omega) (Nat.le_of_ble_eq_true rfl) ?_
  refine zr_vret I27_76 rfl ?_
  refine ⟨_, rfl, rfl, ⟨by rw [zcpy_oth (by decide), zcpy_oth (by decide), zcpy_oth (by decide), zcpy_oth (by decide), zup_same], fun k hk => by rw [zcpy_oth (by decide), zcpy_oth (by decide), zcpy_oth (by decide), zcpy_oth (by decide), zup_q, if_neg hk], fun i h1 h2 k => ?_⟩, fun r hr => by rw [zcpy_ne (by omega), zcpy_ne (by omega), zcpy_ne (by omega), zcpy_ne (by omega), zup_ne (by omega)], zBd_cpy (zBd_cpy (zBd_cpy (zBd_cpy (zBd_up hB (by omega)) (by decide)) (by decide)) (by decide)) (by decide)⟩
  rcases (show i = 1 ∨ i = 2 ∨ i = 3 ∨ i = 4 by omega) with rfl | rfl | rfl | rfl
  all_goals simp [zcpy, zup]
set_option maxRecDepth 10000 in
set_option maxHeartbeats 2000000 in
theorem e_X5_copyFrom_15_57 {d n sl : Nat} {S : zSh} {c : zC} (hS : zSok S) (hB : zBd c) (hc : 0 ≤ c 57 0 ∧ c 57 0 ≤ 30) : zE (d + 1) 31 0 (zent 31 [zA 15, zA 57]) [] ((n, sl), (S, c)) (fun r μ' => ∃ c', r = none ∧ μ' = ((n, sl), (S, c')) ∧ zCp1 c c' 15 57 4) := by
  show zE (d + 1) 31 0 [some (zA 15), some (zA 57)] [] ((n, sl), (S, c)) _
  refine zl_ald0 I31_0 ?_
  refine zl_ald1 I31_1 ?_
  refine zr_giB (j := 0) hB (by decide) I31_2 F5_24 rfl (sT57 hS) (fun b2 => ?_)
  refine zr_puti (j := 0) I31_5 F5_24 rfl (sT15 hS) ⟨rfl, fun h => absurd h (by decide)⟩ ?_
  refine zl_ald1 I31_8 ?_
  refine zr_getr (j := 1) I31_9 F5_9 rfl (sT57 hS) (sR57_1 hS) ?_
  refine zr_iconst I31_12 ?_
  refine zl_ald0 I31_13 ?_
  refine zr_getr (j := 1) I31_14 F5_9 rfl (sT15 hS) (sR15_1 hS) ?_
  refine zr_iconst I31_17 ?_
  refine zl_ald0 I31_18 ?_
  refine zr_geti (j := 0) I31_19 F5_24 rfl (sT15 hS) ?_
  rw [zup_same]
  refine zr_acopy I31_22 C5_28 (sT58 hS) (sT16 hS) (sN58 hS) (sN16 hS) (by omega) (Nat.le_of_ble_eq_true rfl) ?_
  refine zl_ald1 I31_25 ?_
  refine zr_getr (j := 2) I31_26 F5_15 rfl (sT57 hS) (sR57_2 hS) ?_
  refine zr_iconst I31_29 ?_
  refine zl_ald0 I31_30 ?_
  refine zr_getr (j := 2) I31_31 F5_15 rfl (sT15 hS) (sR15_2 hS) ?_
  refine zr_iconst I31_34 ?_
  refine zl_ald0 I31_35 ?_
  refine zr_geti (j := 0) I31_36 F5_24 rfl (sT15 hS) ?_
  rw [zcpy_oth (by decide), zup_same]
  refine zr_acopy I31_39 C5_28 (sT59 hS) (sT17 hS) (sN59 hS) (sN17 hS) (by omega) (Nat.le_of_ble_eq_true rfl) ?_
  refine zl_ald1 I31_42 ?_
  refine zr_getr (j := 3) I31_43 F5_18 rfl (sT57 hS) (sR57_3 hS) ?_
  refine zr_iconst I31_46 ?_
  refine zl_ald0 I31_47 ?_
  refine zr_getr (j := 3) I31_48 F5_18 rfl (sT15 hS) (sR15_3 hS) ?_
  refine zr_iconst I31_51 ?_
  refine zl_ald0 I31_52 ?_
  refine zr_geti (j := 0) I31_53 F5_24 rfl (sT15 hS) ?_
  rw [zcpy_oth (by decide), zcpy_oth (by decide), zup_same]
  refine zr_acopy I31_56 C5_28 (sT60 hS) (sT18 hS) (sN60 hS) (sN18 hS) (by omega) (Nat.le_of_ble_eq_true rfl) ?_
  refine zl_ald1 I31_59 ?_
  refine zr_getr (j := 4) I31_60 F5_21 rfl (sT57 hS) (sR57_4 hS) ?_
  refine zr_iconst I31_63 ?_
  refine zl_ald0 I31_64 ?_
  refine zr_getr (j := 4) I31_65 F5_21 rfl (sT15 hS) (sR15_4 hS) ?_
  refine zr_iconst I31_68 ?_
  refine zl_ald0 I31_69 ?_
  refine zr_geti (j := 0) I31_70 F5_24 rfl (sT15 hS) ?_
  rw [zcpy_oth (by decide), zcpy_oth (by decide), zcpy_oth (by decide), zup_same]
  refine zr_acopy I31_73 C5_28 (sT61 hS) (sT19 hS) (sN61 hS) (sN19 hS) (by omega) (Nat.le_of_ble_eq_true rfl) ?_
  refine zr_vret I31_76 rfl ?_
  refine ⟨_, rfl, rfl, ⟨by rw [zcpy_oth (by decide), zcpy_oth (by decide), zcpy_oth (by decide), zcpy_oth (by decide), zup_same], fun k hk => by rw [zcpy_oth (by decide), zcpy_oth (by decide), zcpy_oth (by decide), zcpy_oth (by decide), zup_q, if_neg hk], fun i h1 h2 k => ?_⟩, fun r hr => by rw [zcpy_ne (by omega), zcpy_ne (by omega), zcpy_ne (by omega), zcpy_ne (by omega), zup_ne (by omega)], zBd_cpy (zBd_cpy (zBd_cpy (zBd_cpy (zBd_up hB (by omega)) (by decide)) (by decide)) (by decide)) (by decide)⟩
  rcases (show i = 1 ∨ i = 2 ∨ i = 3 ∨ i = 4 by omega) with rfl | rfl | rfl | rfl
  all_goals simp [zcpy, zup]
set_option maxRecDepth 10000 in
set_option maxHeartbeats 2000000 in
theorem e_X0_copyFrom_20_62 {d n sl : Nat} {S : zSh} {c : zC} (hS : zSok S) (hB : zBd c) (hc : 0 ≤ c 62 0 ∧ c 62 0 ≤ 10) : zE (d + 1) 3 0 (zent 3 [zA 20, zA 62]) [] ((n, sl), (S, c)) (fun r μ' => ∃ c', r = none ∧ μ' = ((n, sl), (S, c')) ∧ zCp1 c c' 20 62 3) := by
  show zE (d + 1) 3 0 [some (zA 20), some (zA 62)] [] ((n, sl), (S, c)) _
  refine zl_ald0 I3_0 ?_
  refine zl_ald1 I3_1 ?_
  refine zr_giB (j := 0) hB (by decide) I3_2 F0_21 rfl (sT62 hS) (fun b2 => ?_)
  refine zr_puti (j := 0) I3_5 F0_21 rfl (sT20 hS) ⟨rfl, fun h => absurd h (by decide)⟩ ?_
  refine zl_ald1 I3_8 ?_
  refine zr_getr (j := 1) I3_9 F0_9 rfl (sT62 hS) (sR62_1 hS) ?_
  refine zr_iconst I3_12 ?_
  refine zl_ald0 I3_13 ?_
  refine zr_getr (j := 1) I3_14 F0_9 rfl (sT20 hS) (sR20_1 hS) ?_
  refine zr_iconst I3_17 ?_
  refine zl_ald0 I3_18 ?_
  refine zr_geti (j := 0) I3_19 F0_21 rfl (sT20 hS) ?_
  rw [zup_same]
  refine zr_acopy I3_22 C0_25 (sT63 hS) (sT21 hS) (sN63 hS) (sN21 hS) (by omega) (Nat.le_of_ble_eq_true rfl) ?_
  refine zl_ald1 I3_25 ?_
  refine zr_getr (j := 2) I3_26 F0_15 rfl (sT62 hS) (sR62_2 hS) ?_
  refine zr_iconst I3_29 ?_
  refine zl_ald0 I3_30 ?_
  refine zr_getr (j := 2) I3_31 F0_15 rfl (sT20 hS) (sR20_2 hS) ?_
  refine zr_iconst I3_34 ?_
  refine zl_ald0 I3_35 ?_
  refine zr_geti (j := 0) I3_36 F0_21 rfl (sT20 hS) ?_
  rw [zcpy_oth (by decide), zup_same]
  refine zr_acopy I3_39 C0_25 (sT64 hS) (sT22 hS) (sN64 hS) (sN22 hS) (by omega) (Nat.le_of_ble_eq_true rfl) ?_
  refine zl_ald1 I3_42 ?_
  refine zr_getr (j := 3) I3_43 F0_18 rfl (sT62 hS) (sR62_3 hS) ?_
  refine zr_iconst I3_46 ?_
  refine zl_ald0 I3_47 ?_
  refine zr_getr (j := 3) I3_48 F0_18 rfl (sT20 hS) (sR20_3 hS) ?_
  refine zr_iconst I3_51 ?_
  refine zl_ald0 I3_52 ?_
  refine zr_geti (j := 0) I3_53 F0_21 rfl (sT20 hS) ?_
  rw [zcpy_oth (by decide), zcpy_oth (by decide), zup_same]
  refine zr_acopy I3_56 C0_25 (sT65 hS) (sT23 hS) (sN65 hS) (sN23 hS) (by omega) (Nat.le_of_ble_eq_true rfl) ?_
  refine zr_vret I3_59 rfl ?_
  refine ⟨_, rfl, rfl, ⟨by rw [zcpy_oth (by decide), zcpy_oth (by decide), zcpy_oth (by decide), zup_same], fun k hk => by rw [zcpy_oth (by decide), zcpy_oth (by decide), zcpy_oth (by decide), zup_q, if_neg hk], fun i h1 h2 k => ?_⟩, fun r hr => by rw [zcpy_ne (by omega), zcpy_ne (by omega), zcpy_ne (by omega), zup_ne (by omega)], zBd_cpy (zBd_cpy (zBd_cpy (zBd_up hB (by omega)) (by decide)) (by decide)) (by decide)⟩
  rcases (show i = 1 ∨ i = 2 ∨ i = 3 by omega) with rfl | rfl | rfl
  all_goals simp [zcpy, zup]
set_option maxRecDepth 10000 in
set_option maxHeartbeats 2000000 in
theorem e_X3_copyFrom_24_66 {d n sl : Nat} {S : zSh} {c : zC} (hS : zSok S) (hB : zBd c) (hc : 0 ≤ c 66 0 ∧ c 66 0 ≤ 60) : zE (d + 1) 24 0 (zent 24 [zA 24, zA 66]) [] ((n, sl), (S, c)) (fun r μ' => ∃ c', r = none ∧ μ' = ((n, sl), (S, c')) ∧ zCp1 c c' 24 66 4) := by
  show zE (d + 1) 24 0 [some (zA 24), some (zA 66)] [] ((n, sl), (S, c)) _
  refine zl_ald0 I24_0 ?_
  refine zl_ald1 I24_1 ?_
  refine zr_giB (j := 0) hB (by decide) I24_2 F3_24 rfl (sT66 hS) (fun b2 => ?_)
  refine zr_puti (j := 0) I24_5 F3_24 rfl (sT24 hS) ⟨rfl, fun h => absurd h (by decide)⟩ ?_
  refine zl_ald1 I24_8 ?_
  refine zr_getr (j := 1) I24_9 F3_9 rfl (sT66 hS) (sR66_1 hS) ?_
  refine zr_iconst I24_12 ?_
  refine zl_ald0 I24_13 ?_
  refine zr_getr (j := 1) I24_14 F3_9 rfl (sT24 hS) (sR24_1 hS) ?_
  refine zr_iconst I24_17 ?_
  refine zl_ald0 I24_18 ?_
  refine zr_geti (j := 0) I24_19 F3_24 rfl (sT24 hS) ?_
  rw [zup_same]
  refine zr_acopy I24_22 C3_45 (sT67 hS) (sT25 hS) (sN67 hS) (sN25 hS) (by omega) (Nat.le_of_ble_eq_true rfl) ?_
  refine zl_ald1 I24_25 ?_
  refine zr_getr (j := 2) I24_26 F3_15 rfl (sT66 hS) (sR66_2 hS) ?_
  refine zr_iconst I24_29 ?_
  refine zl_ald0 I24_30 ?_
  refine zr_getr (j := 2) I24_31 F3_15 rfl (sT24 hS) (sR24_2 hS) ?_
  refine zr_iconst I24_34 ?_
  refine zl_ald0 I24_35 ?_
  refine zr_geti (j := 0) I24_36 F3_24 rfl (sT24 hS) ?_
  rw [zcpy_oth (by decide), zup_same]
  refine zr_acopy I24_39 C3_45 (sT68 hS) (sT26 hS) (sN68 hS) (sN26 hS) (by omega) (Nat.le_of_ble_eq_true rfl) ?_
  refine zl_ald1 I24_42 ?_
  refine zr_getr (j := 3) I24_43 F3_18 rfl (sT66 hS) (sR66_3 hS) ?_
  refine zr_iconst I24_46 ?_
  refine zl_ald0 I24_47 ?_
  refine zr_getr (j := 3) I24_48 F3_18 rfl (sT24 hS) (sR24_3 hS) ?_
  refine zr_iconst I24_51 ?_
  refine zl_ald0 I24_52 ?_
  refine zr_geti (j := 0) I24_53 F3_24 rfl (sT24 hS) ?_
  rw [zcpy_oth (by decide), zcpy_oth (by decide), zup_same]
  refine zr_acopy I24_56 C3_45 (sT69 hS) (sT27 hS) (sN69 hS) (sN27 hS) (by omega) (Nat.le_of_ble_eq_true rfl) ?_
  refine zl_ald1 I24_59 ?_
  refine zr_getr (j := 4) I24_60 F3_21 rfl (sT66 hS) (sR66_4 hS) ?_
  refine zr_iconst I24_63 ?_
  refine zl_ald0 I24_64 ?_
  refine zr_getr (j := 4) I24_65 F3_21 rfl (sT24 hS) (sR24_4 hS) ?_
  refine zr_iconst I24_68 ?_
  refine zl_ald0 I24_69 ?_
  refine zr_geti (j := 0) I24_70 F3_24 rfl (sT24 hS) ?_
  rw [zcpy_oth (by decide), zcpy_oth (by decide), zcpy_oth (by decide), zup_same]
  refine zr_acopy I24_73 C3_45 (sT70 hS) (sT28 hS) (sN70 hS) (sN28 hS) (by omega) (Nat.le_of_ble_eq_true rfl) ?_
  refine zr_vret I24_76 rfl ?_
  refine ⟨_, rfl, rfl, ⟨by rw [zcpy_oth (by decide), zcpy_oth (by decide), zcpy_oth (by decide), zcpy_oth (by decide), zup_same], fun k hk => by rw [zcpy_oth (by decide), zcpy_oth (by decide), zcpy_oth (by decide), zcpy_oth (by decide), zup_q, if_neg hk], fun i h1 h2 k => ?_⟩, fun r hr => by rw [zcpy_ne (by omega), zcpy_ne (by omega), zcpy_ne (by omega), zcpy_ne (by omega), zup_ne (by omega)], zBd_cpy (zBd_cpy (zBd_cpy (zBd_cpy (zBd_up hB (by omega)) (by decide)) (by decide)) (by decide)) (by decide)⟩
  rcases (show i = 1 ∨ i = 2 ∨ i = 3 ∨ i = 4 by omega) with rfl | rfl | rfl | rfl
  all_goals simp [zcpy, zup]
set_option maxRecDepth 10000 in
set_option maxHeartbeats 2000000 in
theorem e_X4_copyFrom_10_72 {d n sl : Nat} {S : zSh} {c : zC} (hS : zSok S) (hB : zBd c) (hc : 0 ≤ c 72 0 ∧ c 72 0 ≤ 16) : zE (d + 1) 27 0 (zent 27 [zA 10, zA 72]) [] ((n, sl), (S, c)) (fun r μ' => ∃ c', r = none ∧ μ' = ((n, sl), (S, c')) ∧ zCp1 c c' 10 72 4) := by
  show zE (d + 1) 27 0 [some (zA 10), some (zA 72)] [] ((n, sl), (S, c)) _
  refine zl_ald0 I27_0 ?_
  refine zl_ald1 I27_1 ?_
  refine zr_giB (j := 0) hB (by decide) I27_2 F4_24 rfl (sT72 hS) (fun b2 => ?_)
  refine zr_puti (j := 0) I27_5 F4_24 rfl (sT10 hS) ⟨rfl, fun h => absurd h (by decide)⟩ ?_
  refine zl_ald1 I27_8 ?_
  refine zr_getr (j := 1) I27_9 F4_9 rfl (sT72 hS) (sR72_1 hS) ?_
  refine zr_iconst I27_12 ?_
  refine zl_ald0 I27_13 ?_
  refine zr_getr (j := 1) I27_14 F4_9 rfl (sT10 hS) (sR10_1 hS) ?_
  refine zr_iconst I27_17 ?_
  refine zl_ald0 I27_18 ?_
  refine zr_geti (j := 0) I27_19 F4_24 rfl (sT10 hS) ?_
  rw [zup_same]
  refine zr_acopy I27_22 C4_28 (sT73 hS) (sT11 hS) (sN73 hS) (sN11 hS) (by omega) (Nat.le_of_ble_eq_true rfl) ?_
  refine zl_ald1 I27_25 ?_
  refine zr_getr (j := 2) I27_26 F4_15 rfl (sT72 hS) (sR72_2 hS) ?_
  refine zr_iconst I27_29 ?_
  refine zl_ald0 I27_30 ?_
  refine zr_getr (j := 2) I27_31 F4_15 rfl (sT10 hS) (sR10_2 hS) ?_
  refine zr_iconst I27_34 ?_
  refine zl_ald0 I27_35 ?_
  refine zr_geti (j := 0) I27_36 F4_24 rfl (sT10 hS) ?_
  rw [zcpy_oth (by decide), zup_same]
  refine zr_acopy I27_39 C4_28 (sT74 hS) (sT12 hS) (sN74 hS) (sN12 hS) (by omega) (Nat.le_of_ble_eq_true rfl) ?_
  refine zl_ald1 I27_42 ?_
  refine zr_getr (j := 3) I27_43 F4_18 rfl (sT72 hS) (sR72_3 hS) ?_
  refine zr_iconst I27_46 ?_
  refine zl_ald0 I27_47 ?_
  refine zr_getr (j := 3) I27_48 F4_18 rfl (sT10 hS) (sR10_3 hS) ?_
  refine zr_iconst I27_51 ?_
  refine zl_ald0 I27_52 ?_
  refine zr_geti (j := 0) I27_53 F4_24 rfl (sT10 hS) ?_
  rw [zcpy_oth (by decide), zcpy_oth (by decide), zup_same]
  refine zr_acopy I27_56 C4_28 (sT75 hS) (sT13 hS) (sN75 hS) (sN13 hS) (by omega) (Nat.le_of_ble_eq_true rfl) ?_
  refine zl_ald1 I27_59 ?_
  refine zr_getr (j := 4) I27_60 F4_21 rfl (sT72 hS) (sR72_4 hS) ?_
  refine zr_iconst I27_63 ?_
  refine zl_ald0 I27_64 ?_
  refine zr_getr (j := 4) I27_65 F4_21 rfl (sT10 hS) (sR10_4 hS) ?_
  refine zr_iconst I27_68 ?_
  refine zl_ald0 I27_69 ?_
  refine zr_geti (j := 0) I27_70 F4_24 rfl (sT10 hS) ?_
  rw [zcpy_oth (by decide), zcpy_oth (by decide), zcpy_oth (by decide), zup_same]
  refine zr_acopy I27_73 C4_28 (sT76 hS) (sT14 hS) (sN76 hS) (sN14 hS) (by omega) (Nat.le_of_ble_eq_true rfl) ?_
  refine zr_vret I27_76 rfl ?_
  refine ⟨_, rfl, rfl, ⟨by rw [zcpy_oth (by decide), zcpy_oth (by decide), zcpy_oth (by decide), zcpy_oth (by decide), zup_same], fun k hk => by rw [zcpy_oth (by decide), zcpy_oth (by decide), zcpy_oth (by decide), zcpy_oth (by decide), zup_q, if_neg hk], fun i h1 h2 k => ?_⟩, fun r hr => by rw [zcpy_ne (by omega), zcpy_ne (by omega), zcpy_ne (by omega), zcpy_ne (by omega), zup_ne (by omega)], zBd_cpy (zBd_cpy (zBd_cpy (zBd_cpy (zBd_up hB (by omega)) (by decide)) (by decide)) (by decide)) (by decide)⟩
  rcases (show i = 1 ∨ i = 2 ∨ i = 3 ∨ i = 4 by omega) with rfl | rfl | rfl | rfl
  all_goals simp [zcpy, zup]
set_option maxRecDepth 10000 in
set_option maxHeartbeats 2000000 in
theorem e_X5_copyFrom_15_77 {d n sl : Nat} {S : zSh} {c : zC} (hS : zSok S) (hB : zBd c) (hc : 0 ≤ c 77 0 ∧ c 77 0 ≤ 30) : zE (d + 1) 31 0 (zent 31 [zA 15, zA 77]) [] ((n, sl), (S, c)) (fun r μ' => ∃ c', r = none ∧ μ' = ((n, sl), (S, c')) ∧ zCp1 c c' 15 77 4) := by
  show zE (d + 1) 31 0 [some (zA 15), some (zA 77)] [] ((n, sl), (S, c)) _
  refine zl_ald0 I31_0 ?_
  refine zl_ald1 I31_1 ?_
  refine zr_giB (j := 0) hB (by decide) I31_2 F5_24 rfl (sT77 hS) (fun b2 => ?_)
  refine zr_puti (j := 0) I31_5 F5_24 rfl (sT15 hS) ⟨rfl, fun h => absurd h (by decide)⟩ ?_
  refine zl_ald1 I31_8 ?_
  refine zr_getr (j := 1) I31_9 F5_9 rfl (sT77 hS) (sR77_1 hS) ?_
  refine zr_iconst I31_12 ?_
  refine zl_ald0 I31_13 ?_
  refine zr_getr (j := 1) I31_14 F5_9 rfl (sT15 hS) (sR15_1 hS) ?_
  refine zr_iconst I31_17 ?_
  refine zl_ald0 I31_18 ?_
  refine zr_geti (j := 0) I31_19 F5_24 rfl (sT15 hS) ?_
  rw [zup_same]
  refine zr_acopy I31_22 C5_28 (sT78 hS) (sT16 hS) (sN78 hS) (sN16 hS) (by omega) (Nat.le_of_ble_eq_true rfl) ?_
  refine zl_ald1 I31_25 ?_
  refine zr_getr (j := 2) I31_26 F5_15 rfl (sT77 hS) (sR77_2 hS) ?_
  refine zr_iconst I31_29 ?_
  refine zl_ald0 I31_30 ?_
  refine zr_getr (j := 2) I31_31 F5_15 rfl (sT15 hS) (sR15_2 hS) ?_
  refine zr_iconst I31_34 ?_
  refine zl_ald0 I31_35 ?_
  refine zr_geti (j := 0) I31_36 F5_24 rfl (sT15 hS) ?_
  rw [zcpy_oth (by decide), zup_same]
  refine zr_acopy I31_39 C5_28 (sT79 hS) (sT17 hS) (sN79 hS) (sN17 hS) (by omega) (Nat.le_of_ble_eq_true rfl) ?_
  refine zl_ald1 I31_42 ?_
  refine zr_getr (j := 3) I31_43 F5_18 rfl (sT77 hS) (sR77_3 hS) ?_
  refine zr_iconst I31_46 ?_
  refine zl_ald0 I31_47 ?_
  refine zr_getr (j := 3) I31_48 F5_18 rfl (sT15 hS) (sR15_3 hS) ?_
  refine zr_iconst I31_51 ?_
  refine zl_ald0 I31_52 ?_
  refine zr_geti (j := 0) I31_53 F5_24 rfl (sT15 hS) ?_
  rw [zcpy_oth (by decide), zcpy_oth (by decide), zup_same]
  refine zr_acopy I31_56 C5_28 (sT80 hS) (sT18 hS) (sN80 hS) (sN18 hS) (by omega) (Nat.le_of_ble_eq_true rfl) ?_
  refine zl_ald1 I31_59 ?_
  refine zr_getr (j := 4) I31_60 F5_21 rfl (sT77 hS) (sR77_4 hS) ?_
  refine zr_iconst I31_63 ?_
  refine zl_ald0 I31_64 ?_
  refine zr_getr (j := 4) I31_65 F5_21 rfl (sT15 hS) (sR15_4 hS) ?_
  refine zr_iconst I31_68 ?_
  refine zl_ald0 I31_69 ?_
  refine zr_geti (j := 0) I31_70 F5_24 rfl (sT15 hS) ?_
  rw [zcpy_oth (by decide), zcpy_oth (by decide), zcpy_oth (by decide), zup_same]
  refine zr_acopy I31_73 C5_28 (sT81 hS) (sT19 hS) (sN81 hS) (sN19 hS) (by omega) (Nat.le_of_ble_eq_true rfl) ?_
  refine zr_vret I31_76 rfl ?_
  refine ⟨_, rfl, rfl, ⟨by rw [zcpy_oth (by decide), zcpy_oth (by decide), zcpy_oth (by decide), zcpy_oth (by decide), zup_same], fun k hk => by rw [zcpy_oth (by decide), zcpy_oth (by decide), zcpy_oth (by decide), zcpy_oth (by decide), zup_q, if_neg hk], fun i h1 h2 k => ?_⟩, fun r hr => by rw [zcpy_ne (by omega), zcpy_ne (by omega), zcpy_ne (by omega), zcpy_ne (by omega), zup_ne (by omega)], zBd_cpy (zBd_cpy (zBd_cpy (zBd_cpy (zBd_up hB (by omega)) (by decide)) (by decide)) (by decide)) (by decide)⟩
  rcases (show i = 1 ∨ i = 2 ∨ i = 3 ∨ i = 4 by omega) with rfl | rfl | rfl | rfl
  all_goals simp [zcpy, zup]
set_option maxRecDepth 10000 in
set_option maxHeartbeats 2000000 in
theorem e_X0_copyFrom_20_82 {d n sl : Nat} {S : zSh} {c : zC} (hS : zSok S) (hB : zBd c) (hc : 0 ≤ c 82 0 ∧ c 82 0 ≤ 10) : zE (d + 1) 3 0 (zent 3 [zA 20, zA 82]) [] ((n, sl), (S, c)) (fun r μ' => ∃ c', r = none ∧ μ' = ((n, sl), (S, c')) ∧ zCp1 c c' 20 82 3) := by
  show zE (d + 1) 3 0 [some (zA 20), some (zA 82)] [] ((n, sl), (S, c)) _
  refine zl_ald0 I3_0 ?_
  refine zl_ald1 I3_1 ?_
  refine zr_giB (j := 0) hB (by decide) I3_2 F0_21 rfl (sT82 hS) (fun b2 => ?_)
  refine zr_puti (j := 0) I3_5 F0_21 rfl (sT20 hS) ⟨rfl, fun h => absurd h (by decide)⟩ ?_
  refine zl_ald1 I3_8 ?_
  refine zr_getr (j := 1) I3_9 F0_9 rfl (sT82 hS) (sR82_1 hS) ?_
  refine zr_iconst I3_12 ?_
  refine zl_ald0 I3_13 ?_
  refine zr_getr (j := 1) I3_14 F0_9 rfl (sT20 hS) (sR20_1 hS) ?_
  refine zr_iconst I3_17 ?_
  refine zl_ald0 I3_18 ?_
  refine zr_geti (j := 0) I3_19 F0_21 rfl (sT20 hS) ?_
  rw [zup_same]
  refine zr_acopy I3_22 C0_25 (sT83 hS) (sT21 hS) (sN83 hS) (sN21 hS) (by omega) (Nat.le_of_ble_eq_true rfl) ?_
  refine zl_ald1 I3_25 ?_
  refine zr_getr (j := 2) I3_26 F0_15 rfl (sT82 hS) (sR82_2 hS) ?_
  refine zr_iconst I3_29 ?_
  refine zl_ald0 I3_30 ?_
  refine zr_getr (j := 2) I3_31 F0_15 rfl (sT20 hS) (sR20_2 hS) ?_
  refine zr_iconst I3_34 ?_
  refine zl_ald0 I3_35 ?_
  refine zr_geti (j := 0) I3_36 F0_21 rfl (sT20 hS) ?_
  rw [zcpy_oth (by decide), zup_same]
  refine zr_acopy I3_39 C0_25 (sT84 hS) (sT22 hS) (sN84 hS) (sN22 hS) (by omega) (Nat.le_of_ble_eq_true rfl) ?_
  refine zl_ald1 I3_42 ?_
  refine zr_getr (j := 3) I3_43 F0_18 rfl (sT82 hS) (sR82_3 hS) ?_
  refine zr_iconst I3_46 ?_
  refine zl_ald0 I3_47 ?_
  refine zr_getr (j := 3) I3_48 F0_18 rfl (sT20 hS) (sR20_3 hS) ?_
  refine zr_iconst I3_51 ?_
  refine zl_ald0 I3_52 ?_
  refine zr_geti (j := 0) I3_53 F0_21 rfl (sT20 hS) ?_
  rw [zcpy_oth (by decide), zcpy_oth (by decide), zup_same]
  refine zr_acopy I3_56 C0_25 (sT85 hS) (sT23 hS) (sN85 hS) (sN23 hS) (by omega) (Nat.le_of_ble_eq_true rfl) ?_
  refine zr_vret I3_59 rfl ?_
  refine ⟨_, rfl, rfl, ⟨by rw [zcpy_oth (by decide), zcpy_oth (by decide), zcpy_oth (by decide), zup_same], fun k hk => by rw [zcpy_oth (by decide), zcpy_oth (by decide), zcpy_oth (by decide), zup_q, if_neg hk], fun i h1 h2 k => ?_⟩, fun r hr => by rw [zcpy_ne (by omega), zcpy_ne (by omega), zcpy_ne (by omega), zup_ne (by omega)], zBd_cpy (zBd_cpy (zBd_cpy (zBd_up hB (by omega)) (by decide)) (by decide)) (by decide)⟩
  rcases (show i = 1 ∨ i = 2 ∨ i = 3 by omega) with rfl | rfl | rfl
  all_goals simp [zcpy, zup]
set_option maxRecDepth 10000 in
set_option maxHeartbeats 2000000 in
theorem e_X3_copyFrom_24_86 {d n sl : Nat} {S : zSh} {c : zC} (hS : zSok S) (hB : zBd c) (hc : 0 ≤ c 86 0 ∧ c 86 0 ≤ 60) : zE (d + 1) 24 0 (zent 24 [zA 24, zA 86]) [] ((n, sl), (S, c)) (fun r μ' => ∃ c', r = none ∧ μ' = ((n, sl), (S, c')) ∧ zCp1 c c' 24 86 4) := by
  show zE (d + 1) 24 0 [some (zA 24), some (zA 86)] [] ((n, sl), (S, c)) _
  refine zl_ald0 I24_0 ?_
  refine zl_ald1 I24_1 ?_
  refine zr_giB (j := 0) hB (by decide) I24_2 F3_24 rfl (sT86 hS) (fun b2 => ?_)
  refine zr_puti (j := 0) I24_5 F3_24 rfl (sT24 hS) ⟨rfl, fun h => absurd h (by decide)⟩ ?_
  refine zl_ald1 I24_8 ?_
  refine zr_getr (j := 1) I24_9 F3_9 rfl (sT86 hS) (sR86_1 hS) ?_
  refine zr_iconst I24_12 ?_
  refine zl_ald0 I24_13 ?_
  refine zr_getr (j := 1) I24_14 F3_9 rfl (sT24 hS) (sR24_1 hS) ?_
  refine zr_iconst I24_17 ?_
  refine zl_ald0 I24_18 ?_
  refine zr_geti (j := 0) I24_19 F3_24 rfl (sT24 hS) ?_
  rw [zup_same]
  refine zr_acopy I24_22 C3_45 (sT87 hS) (sT25 hS) (sN87 hS) (sN25 hS) (by omega) (Nat.le_of_ble_eq_true rfl) ?_
  refine zl_ald1 I24_25 ?_
  refine zr_getr (j := 2) I24_26 F3_15 rfl (sT86 hS) (sR86_2 hS) ?_
  refine zr_iconst I24_29 ?_
  refine zl_ald0 I24_30 ?_
  refine zr_getr (j := 2) I24_31 F3_15 rfl (sT24 hS) (sR24_2 hS) ?_
  refine zr_iconst I24_34 ?_
  refine zl_ald0 I24_35 ?_
  refine zr_geti (j := 0) I24_36 F3_24 rfl (sT24 hS) ?_
  rw [zcpy_oth (by decide), zup_same]
  refine zr_acopy I24_39 C3_45 (sT88 hS) (sT26 hS) (sN88 hS) (sN26 hS) (by omega) (Nat.le_of_ble_eq_true rfl) ?_
  refine zl_ald1 I24_42 ?_
  refine zr_getr (j := 3) I24_43 F3_18 rfl (sT86 hS) (sR86_3 hS) ?_
  refine zr_iconst I24_46 ?_
  refine zl_ald0 I24_47 ?_
  refine zr_getr (j := 3) I24_48 F3_18 rfl (sT24 hS) (sR24_3 hS) ?_
  refine zr_iconst I24_51 ?_
  refine zl_ald0 I24_52 ?_
  refine zr_geti (j := 0) I24_53 F3_24 rfl (sT24 hS) ?_
  rw [zcpy_oth (by decide), zcpy_oth (by decide), zup_same]
  refine zr_acopy I24_56 C3_45 (sT89 hS) (sT27 hS) (sN89 hS) (sN27 hS) (by omega) (Nat.le_of_ble_eq_true rfl) ?_
  refine zl_ald1 I24_59 ?_
  refine zr_getr (j := 4) I24_60 F3_21 rfl (sT86 hS) (sR86_4 hS) ?_
  refine zr_iconst I24_63 ?_
  refine zl_ald0 I24_64 ?_
  refine zr_getr (j := 4) I24_65 F3_21 rfl (sT24 hS) (sR24_4 hS) ?_
  refine zr_iconst I24_68 ?_
  refine zl_ald0 I24_69 ?_
  refine zr_geti (j := 0) I24_70 F3_24 rfl (sT24 hS) ?_
  rw [zcpy_oth (by decide), zcpy_oth (by decide), zcpy_oth (by decide), zup_same]
  refine zr_acopy I24_73 C3_45 (sT90 hS) (sT28 hS) (sN90 hS) (sN28 hS) (by omega) (Nat.le_of_ble_eq_true rfl) ?_
  refine zr_vret I24_76 rfl ?_
  refine ⟨_, rfl, rfl, ⟨by rw [zcpy_oth (by decide), zcpy_oth (by decide), zcpy_oth (by decide), zcpy_oth (by decide), zup_same], fun k hk => by rw [zcpy_oth (by decide), zcpy_oth (by decide), zcpy_oth (by decide), zcpy_oth (by decide), zup_q, if_neg hk], fun i h1 h2 k => ?_⟩, fun r hr => by rw [zcpy_ne (by omega), zcpy_ne (by omega), zcpy_ne (by omega), zcpy_ne (by omega), zup_ne (by omega)], zBd_cpy (zBd_cpy (zBd_cpy (zBd_cpy (zBd_up hB (by omega)) (by decide)) (by decide)) (by decide)) (by decide)⟩
  rcases (show i = 1 ∨ i = 2 ∨ i = 3 ∨ i = 4 by omega) with rfl | rfl | rfl | rfl
  all_goals simp [zcpy, zup]
set_option maxRecDepth 10000 in
set_option maxHeartbeats 2000000 in
theorem e_X4_copyFrom_10_92 {d n sl : Nat} {S : zSh} {c : zC} (hS : zSok S) (hB : zBd c) (hc : 0 ≤ c 92 0 ∧ c 92 0 ≤ 16) : zE (d + 1) 27 0 (zent 27 [zA 10, zA 92]) [] ((n, sl), (S, c)) (fun r μ' => ∃ c', r = none ∧ μ' = ((n, sl), (S, c')) ∧ zCp1 c c' 10 92 4) := by
  show zE (d + 1) 27 0 [some (zA 10), some (zA 92)] [] ((n, sl), (S, c)) _
  refine zl_ald0 I27_0 ?_
  refine zl_ald1 I27_1 ?_
  refine zr_giB (j := 0) hB (by decide) I27_2 F4_24 rfl (sT92 hS) (fun b2 => ?_)
  refine zr_puti (j := 0) I27_5 F4_24 rfl (sT10 hS) ⟨rfl, fun h => absurd h (by decide)⟩ ?_
  refine zl_ald1 I27_8 ?_
  refine zr_getr (j := 1) I27_9 F4_9 rfl (sT92 hS) (sR92_1 hS) ?_
  refine zr_iconst I27_12 ?_
  refine zl_ald0 I27_13 ?_
  refine zr_getr (j := 1) I27_14 F4_9 rfl (sT10 hS) (sR10_1 hS) ?_
  refine zr_iconst I27_17 ?_
  refine zl_ald0 I27_18 ?_
  refine zr_geti (j := 0) I27_19 F4_24 rfl (sT10 hS) ?_
  rw [zup_same]
  refine zr_acopy I27_22 C4_28 (sT93 hS) (sT11 hS) (sN93 hS) (sN11 hS) (by omega) (Nat.le_of_ble_eq_true rfl) ?_
  refine zl_ald1 I27_25 ?_
  refine zr_getr (j := 2) I27_26 F4_15 rfl (sT92 hS) (sR92_2 hS) ?_
  refine zr_iconst I27_29 ?_
  refine zl_ald0 I27_30 ?_
  refine zr_getr (j := 2) I27_31 F4_15 rfl (sT10 hS) (sR10_2 hS) ?_
  refine zr_iconst I27_34 ?_
  refine zl_ald0 I27_35 ?_
  refine zr_geti (j := 0) I27_36 F4_24 rfl (sT10 hS) ?_
  rw [zcpy_oth (by decide), zup_same]
  refine zr_acopy I27_39 C4_28 (sT94 hS) (sT12 hS) (sN94 hS) (sN12 hS) (by omega) (Nat.le_of_ble_eq_true rfl) ?_
  refine zl_ald1 I27_42 ?_
  refine zr_getr (j := 3) I27_43 F4_18 rfl (sT92 hS) (sR92_3 hS) ?_
  refine zr_iconst I27_46 ?_
  refine zl_ald0 I27_47 ?_
  refine zr_getr (j := 3) I27_48 F4_18 rfl (sT10 hS) (sR10_3 hS) ?_
  refine zr_iconst I27_51 ?_
  refine zl_ald0 I27_52 ?_
  refine zr_geti (j := 0) I27_53 F4_24 rfl (sT10 hS) ?_
  rw [zcpy_oth (by decide), zcpy_oth (by decide), zup_same]
  refine zr_acopy I27_56 C4_28 (sT95 hS) (sT13 hS) (sN95 hS) (sN13 hS) (by omega) (Nat.le_of_ble_eq_true rfl) ?_
  refine zl_ald1 I27_59 ?_
  refine zr_getr (j := 4) I27_60 F4_21 rfl (sT92 hS) (sR92_4 hS) ?_
  refine zr_iconst I27_63 ?_
  refine zl_ald0 I27_64 ?_
  refine zr_getr (j := 4) I27_65 F4_21 rfl (sT10 hS) (sR10_4 hS) ?_
  refine zr_iconst I27_68 ?_
  refine zl_ald0 I27_69 ?_
  refine zr_geti (j := 0) I27_70 F4_24 rfl (sT10 hS) ?_
  rw [zcpy_oth (by decide), zcpy_oth (by decide), zcpy_oth (by decide), zup_same]
  refine zr_acopy I27_73 C4_28 (sT96 hS) (sT14 hS) (sN96 hS) (sN14 hS) (by omega) (Nat.le_of_ble_eq_true rfl) ?_
  refine zr_vret I27_76 rfl ?_
  refine ⟨_, rfl, rfl, ⟨by rw [zcpy_oth (by decide), zcpy_oth (by decide), zcpy_oth (by decide), zcpy_oth (by decide), zup_same], fun k hk => by rw [zcpy_oth (by decide), zcpy_oth (by decide), zcpy_oth (by decide), zcpy_oth (by decide), zup_q, if_neg hk], fun i h1 h2 k => ?_⟩, fun r hr => by rw [zcpy_ne (by omega), zcpy_ne (by omega), zcpy_ne (by omega), zcpy_ne (by omega), zup_ne (by omega)], zBd_cpy (zBd_cpy (zBd_cpy (zBd_cpy (zBd_up hB (by omega)) (by decide)) (by decide)) (by decide)) (by decide)⟩
  rcases (show i = 1 ∨ i = 2 ∨ i = 3 ∨ i = 4 by omega) with rfl | rfl | rfl | rfl
  all_goals simp [zcpy, zup]
set_option maxRecDepth 10000 in
set_option maxHeartbeats 2000000 in
theorem e_X5_copyFrom_15_97 {d n sl : Nat} {S : zSh} {c : zC} (hS : zSok S) (hB : zBd c) (hc : 0 ≤ c 97 0 ∧ c 97 0 ≤ 30) : zE (d + 1) 31 0 (zent 31 [zA 15, zA 97]) [] ((n, sl), (S, c)) (fun r μ' => ∃ c', r = none ∧ μ' = ((n, sl), (S, c')) ∧ zCp1 c c' 15 97 4) := by
  show zE (d + 1) 31 0 [some (zA 15), some (zA 97)] [] ((n, sl), (S, c)) _
  refine zl_ald0 I31_0 ?_
  refine zl_ald1 I31_1 ?_
  refine zr_giB (j := 0) hB (by decide) I31_2 F5_24 rfl (sT97 hS) (fun b2 => ?_)
  refine zr_puti (j := 0) I31_5 F5_24 rfl (sT15 hS) ⟨rfl, fun h => absurd h (by decide)⟩ ?_
  refine zl_ald1 I31_8 ?_
  refine zr_getr (j := 1) I31_9 F5_9 rfl (sT97 hS) (sR97_1 hS) ?_
  refine zr_iconst I31_12 ?_
  refine zl_ald0 I31_13 ?_
  refine zr_getr (j := 1) I31_14 F5_9 rfl (sT15 hS) (sR15_1 hS) ?_
  refine zr_iconst I31_17 ?_
  refine zl_ald0 I31_18 ?_
  refine zr_geti (j := 0) I31_19 F5_24 rfl (sT15 hS) ?_
  rw [zup_same]
  refine zr_acopy I31_22 C5_28 (sT98 hS) (sT16 hS) (sN98 hS) (sN16 hS) (by omega) (Nat.le_of_ble_eq_true rfl) ?_
  refine zl_ald1 I31_25 ?_
  refine zr_getr (j := 2) I31_26 F5_15 rfl (sT97 hS) (sR97_2 hS) ?_
  refine zr_iconst I31_29 ?_
  refine zl_ald0 I31_30 ?_
  refine zr_getr (j := 2) I31_31 F5_15 rfl (sT15 hS) (sR15_2 hS) ?_
  refine zr_iconst I31_34 ?_
  refine zl_ald0 I31_35 ?_
  refine zr_geti (j := 0) I31_36 F5_24 rfl (sT15 hS) ?_
  rw [zcpy_oth (by decide), zup_same]
  refine zr_acopy I31_39 C5_28 (sT99 hS) (sT17 hS) (sN99 hS) (sN17 hS) (by omega) (Nat.le_of_ble_eq_true rfl) ?_
  refine zl_ald1 I31_42 ?_
  refine zr_getr (j := 3) I31_43 F5_18 rfl (sT97 hS) (sR97_3 hS) ?_
  refine zr_iconst I31_46 ?_
  refine zl_ald0 I31_47 ?_
  refine zr_getr (j := 3) I31_48 F5_18 rfl (sT15 hS) (sR15_3 hS) ?_
  refine zr_iconst I31_51 ?_
  refine zl_ald0 I31_52 ?_
  refine zr_geti (j := 0) I31_53 F5_24 rfl (sT15 hS) ?_
  rw [zcpy_oth (by decide), zcpy_oth (by decide), zup_same]
  refine zr_acopy I31_56 C5_28 (sT100 hS) (sT18 hS) (sN100 hS) (sN18 hS) (by omega) (Nat.le_of_ble_eq_true rfl) ?_
  refine zl_ald1 I31_59 ?_
  refine zr_getr (j := 4) I31_60 F5_21 rfl (sT97 hS) (sR97_4 hS) ?_
  refine zr_iconst I31_63 ?_
  refine zl_ald0 I31_64 ?_
  refine zr_getr (j := 4) I31_65 F5_21 rfl (sT15 hS) (sR15_4 hS) ?_
  refine zr_iconst I31_68 ?_
  refine zl_ald0 I31_69 ?_
  refine zr_geti (j := 0) I31_70 F5_24 rfl (sT15 hS) ?_
  rw [zcpy_oth (by decide), zcpy_oth (by decide), zcpy_oth (by decide), zup_same]
  refine zr_acopy I31_73 C5_28 (sT101 hS) (sT19 hS) (sN101 hS) (sN19 hS) (by omega) (Nat.le_of_ble_eq_true rfl) ?_
  refine zr_vret I31_76 rfl ?_
  refine ⟨_, rfl, rfl, ⟨by rw [zcpy_oth (by decide), zcpy_oth (by decide), zcpy_oth (by decide), zcpy_oth (by decide), zup_same], fun k hk => by rw [zcpy_oth (by decide), zcpy_oth (by decide), zcpy_oth (by decide), zcpy_oth (by decide), zup_q, if_neg hk], fun i h1 h2 k => ?_⟩, fun r hr => by rw [zcpy_ne (by omega), zcpy_ne (by omega), zcpy_ne (by omega), zcpy_ne (by omega), zup_ne (by omega)], zBd_cpy (zBd_cpy (zBd_cpy (zBd_cpy (zBd_up hB (by omega)) (by decide)) (by decide)) (by decide)) (by decide)⟩
  rcases (show i = 1 ∨ i = 2 ∨ i = 3 ∨ i = 4 by omega) with rfl | rfl | rfl | rfl
  all_goals simp [zcpy, zup]
set_option maxRecDepth 10000 in
set_option maxHeartbeats 2000000 in
theorem e_X0_copyFrom_20_102 {d n sl : Nat} {S : zSh} {c : zC} (hS : zSok S) (hB : zBd c) (hc : 0 ≤ c 102 0 ∧ c 102 0 ≤ 10) : zE (d + 1) 3 0 (zent 3 [zA 20, zA 102]) [] ((n, sl), (S, c)) (fun r μ' => ∃ c', r = none ∧ μ' = ((n, sl), (S, c')) ∧ zCp1 c c' 20 102 3) := by
  show zE (d + 1) 3 0 [some (zA 20), some (zA 102)] [] ((n, sl), (S, c)) _
  refine zl_ald0 I3_0 ?_
  refine zl_ald1 I3_1 ?_
  refine zr_giB (j := 0) hB (by decide) I3_2 F0_21 rfl (sT102 hS) (fun b2 => ?_)
  refine zr_puti (j := 0) I3_5 F0_21 rfl (sT20 hS) ⟨rfl, fun h => absurd h (by decide)⟩ ?_
  refine zl_ald1 I3_8 ?_
  refine zr_getr (j := 1) I3_9 F0_9 rfl (sT102 hS) (sR102_1 hS) ?_
  refine zr_iconst I3_12 ?_
  refine zl_ald0 I3_13 ?_
  refine zr_getr (j := 1) I3_14 F0_9 rfl (sT20 hS) (sR20_1 hS) ?_
  refine zr_iconst I3_17 ?_
  refine zl_ald0 I3_18 ?_
  refine zr_geti (j := 0) I3_19 F0_21 rfl (sT20 hS) ?_
  rw [zup_same]
  refine zr_acopy I3_22 C0_25 (sT103 hS) (sT21 hS) (sN103 hS) (sN21 hS) (by omega) (Nat.le_of_ble_eq_true rfl) ?_
  refine zl_ald1 I3_25 ?_
  refine zr_getr (j := 2) I3_26 F0_15 rfl (sT102 hS) (sR102_2 hS) ?_
  refine zr_iconst I3_29 ?_
  refine zl_ald0 I3_30 ?_
  refine zr_getr (j := 2) I3_31 F0_15 rfl (sT20 hS) (sR20_2 hS) ?_
  refine zr_iconst I3_34 ?_
  refine zl_ald0 I3_35 ?_
  refine zr_geti (j := 0) I3_36 F0_21 rfl (sT20 hS) ?_
  rw [zcpy_oth (by decide), zup_same]
  refine zr_acopy I3_39 C0_25 (sT104 hS) (sT22 hS) (sN104 hS) (sN22 hS) (by omega) (Nat.le_of_ble_eq_true rfl) ?_
  refine zl_ald1 I3_42 ?_
  refine zr_getr (j := 3) I3_43 F0_18 rfl (sT102 hS) (sR102_3 hS) ?_
  refine zr_iconst I3_46 ?_
  refine zl_ald0 I3_47 ?_
  refine zr_getr (j := 3) I3_48 F0_18 rfl (sT20 hS) (sR20_3 hS) ?_
  refine zr_iconst I3_51 ?_
  refine zl_ald0 I3_52 ?_
  refine zr_geti (j := 0) I3_53 F0_21 rfl (sT20 hS) ?_
  rw [zcpy_oth (by decide), zcpy_oth (by decide), zup_same]
  refine zr_acopy I3_56 C0_25 (sT105 hS) (sT23 hS) (sN105 hS) (sN23 hS) (by omega) (Nat.le_of_ble_eq_true rfl) ?_
  refine zr_vret I3_59 rfl ?_
  refine ⟨_, rfl, rfl, ⟨by rw [zcpy_oth (by decide), zcpy_oth (by decide), zcpy_oth (by decide), zup_same], fun k hk => by rw [zcpy_oth (by decide), zcpy_oth (by decide), zcpy_oth (by decide), zup_q, if_neg hk], fun i h1 h2 k => ?_⟩, fun r hr => by rw [zcpy_ne (by omega), zcpy_ne (by omega), zcpy_ne (by omega), zup_ne (by omega)], zBd_cpy (zBd_cpy (zBd_cpy (zBd_up hB (by omega)) (by decide)) (by decide)) (by decide)⟩
  rcases (show i = 1 ∨ i = 2 ∨ i = 3 by omega) with rfl | rfl | rfl
  all_goals simp [zcpy, zup]
set_option maxRecDepth 10000 in
set_option maxHeartbeats 2000000 in
theorem e_X3_copyFrom_24_106 {d n sl : Nat} {S : zSh} {c : zC} (hS : zSok S) (hB : zBd c) (hc : 0 ≤ c 106 0 ∧ c 106 0 ≤ 60) : zE (d + 1) 24 0 (zent 24 [zA 24, zA 106]) [] ((n, sl), (S, c)) (fun r μ' => ∃ c', r = none ∧ μ' = ((n, sl), (S, c')) ∧ zCp1 c c' 24 106 4) := by
  show zE (d + 1) 24 0 [some (zA 24), some (zA 106)] [] ((n, sl), (S, c)) _
  refine zl_ald0 I24_0 ?_
  refine zl_ald1 I24_1 ?_
  refine zr_giB (j := 0) hB (by decide) I24_2 F3_24 rfl (sT106 hS) (fun b2 => ?_)
  refine zr_puti (j := 0) I24_5 F3_24 rfl (sT24 hS) ⟨rfl, fun h => absurd h (by decide)⟩ ?_
  refine zl_ald1 I24_8 ?_
  refine zr_getr (j := 1) I24_9 F3_9 rfl (sT106 hS) (sR106_1 hS) ?_
  refine zr_iconst I24_12 ?_
  refine zl_ald0 I24_13 ?_
  refine zr_getr (j := 1) I24_14 F3_9 rfl (sT24 hS) (sR24_1 hS) ?_
  refine zr_iconst I24_17 ?_
  refine zl_ald0 I24_18 ?_
  refine zr_geti (j := 0) I24_19 F3_24 rfl (sT24 hS) ?_
  rw [zup_same]
  refine zr_acopy I24_22 C3_45 (sT107 hS) (sT25 hS) (sN107 hS) (sN25 hS) (by omega) (Nat.le_of_ble_eq_true rfl) ?_
  refine zl_ald1 I24_25 ?_
  refine zr_getr (j := 2) I24_26 F3_15 rfl (sT106 hS) (sR106_2 hS) ?_
  refine zr_iconst I24_29 ?_
  refine zl_ald0 I24_30 ?_
  refine zr_getr (j := 2) I24_31 F3_15 rfl (sT24 hS) (sR24_2 hS) ?_
  refine zr_iconst I24_34 ?_
  refine zl_ald0 I24_35 ?_
  refine zr_geti (j := 0) I24_36 F3_24 rfl (sT24 hS) ?_
  rw [zcpy_oth (by decide), zup_same]
  refine zr_acopy I24_39 C3_45 (sT108 hS) (sT26 hS) (sN108 hS) (sN26 hS) (by omega) (Nat.le_of_ble_eq_true rfl) ?_
  refine zl_ald1 I24_42 ?_
  refine zr_getr (j := 3) I24_43 F3_18 rfl (sT106 hS) (sR106_3 hS) ?_
  refine zr_iconst I24_46 ?_
  refine zl_ald0 I24_47 ?_
  refine zr_getr (j := 3) I24_48 F3_18 rfl (sT24 hS) (sR24_3 hS) ?_
  refine zr_iconst I24_51 ?_
  refine zl_ald0 I24_52 ?_
  refine zr_geti (j := 0) I24_53 F3_24 rfl (sT24 hS) ?_
  rw [zcpy_oth (by decide), zcpy_oth (by decide), zup_same]
  refine zr_acopy I24_56 C3_45 (sT109 hS) (sT27 hS) (sN109 hS) (sN27 hS) (by omega) (Nat.le_of_ble_eq_true rfl) ?_
  refine zl_ald1 I24_59 ?_
  refine zr_getr (j := 4) I24_60 F3_21 rfl (sT106 hS) (sR106_4 hS) ?_
  refine zr_iconst I24_63 ?_
  refine zl_ald0 I24_64 ?_
  refine zr_getr (j := 4) I24_65 F3_21 rfl (sT24 hS) (sR24_4 hS) ?_
  refine zr_iconst I24_68 ?_
  refine zl_ald0 I24_69 ?_
  refine zr_geti (j := 0) I24_70 F3_24 rfl (sT24 hS) ?_
  rw [zcpy_oth (by decide), zcpy_oth (by decide), zcpy_oth (by decide), zup_same]
  refine zr_acopy I24_73 C3_45 (sT110 hS) (sT28 hS) (sN110 hS) (sN28 hS) (by omega) (Nat.le_of_ble_eq_true rfl) ?_
  refine zr_vret I24_76 rfl ?_
  refine ⟨_, rfl, rfl, ⟨by rw [zcpy_oth (by decide), zcpy_oth (by decide), zcpy_oth (by decide), zcpy_oth (by decide), zup_same], fun k hk => by rw [zcpy_oth (by decide), zcpy_oth (by decide), zcpy_oth (by decide), zcpy_oth (by decide), zup_q, if_neg hk], fun i h1 h2 k => ?_⟩, fun r hr => by rw [zcpy_ne (by omega), zcpy_ne (by omega), zcpy_ne (by omega), zcpy_ne (by omega), zup_ne (by omega)], zBd_cpy (zBd_cpy (zBd_cpy (zBd_cpy (zBd_up hB (by omega)) (by decide)) (by decide)) (by decide)) (by decide)⟩
  rcases (show i = 1 ∨ i = 2 ∨ i = 3 ∨ i = 4 by omega) with rfl | rfl | rfl | rfl
  all_goals simp [zcpy, zup]
set_option maxRecDepth 10000 in
set_option maxHeartbeats 2000000 in
theorem e_X4_copyFrom_10_112 {d n sl : Nat} {S : zSh} {c : zC} (hS : zSok S) (hB : zBd c) (hc : 0 ≤ c 112 0 ∧ c 112 0 ≤ 16) : zE (d + 1) 27 0 (zent 27 [zA 10, zA 112]) [] ((n, sl), (S, c)) (fun r μ' => ∃ c', r = none ∧ μ' = ((n, sl), (S, c')) ∧ zCp1 c c' 10 112 4) := by
  show zE (d + 1) 27 0 [some (zA 10), some (zA 112)] [] ((n, sl), (S, c)) _
  refine zl_ald0 I27_0 ?_
  refine zl_ald1 I27_1 ?_
  refine zr_giB (j := 0) hB (by decide) I27_2 F4_24 rfl (sT112 hS) (fun b2 => ?_)
  refine zr_puti (j := 0) I27_5 F4_24 rfl (sT10 hS) ⟨rfl, fun h => absurd h (by decide)⟩ ?_
  refine zl_ald1 I27_8 ?_
  refine zr_getr (j := 1) I27_9 F4_9 rfl (sT112 hS) (sR112_1 hS) ?_
  refine zr_iconst I27_12 ?_
  refine zl_ald0 I27_13 ?_
  refine zr_getr (j := 1) I27_14 F4_9 rfl (sT10 hS) (sR10_1 hS) ?_
  refine zr_iconst I27_17 ?_
  refine zl_ald0 I27_18 ?_
  refine zr_geti (j := 0) I27_19 F4_24 rfl (sT10 hS) ?_
  rw [zup_same]
  refine zr_acopy I27_22 C4_28 (sT113 hS) (sT11 hS) (sN113 hS) (sN11 hS) (by omega) (Nat.le_of_ble_eq_true rfl) ?_
  refine zl_ald1 I27_25 ?_
  refine zr_getr (j := 2) I27_26 F4_15 rfl (sT112 hS) (sR112_2 hS) ?_
  refine zr_iconst I27_29 ?_
  refine zl_ald0 I27_30 ?_
  refine zr_getr (j := 2) I27_31 F4_15 rfl (sT10 hS) (sR10_2 hS) ?_
  refine zr_iconst I27_34 ?_
  refine zl_ald0 I27_35 ?_
  refine zr_geti (j := 0) I27_36 F4_24 rfl (sT10 hS) ?_
  rw [zcpy_oth (by decide), zup_same]
  refine zr_acopy I27_39 C4_28 (sT114 hS) (sT12 hS) (sN114 hS) (sN12 hS) (by omega) (Nat.le_of_ble_eq_true rfl) ?_
  refine zl_ald1 I27_42 ?_
  refine zr_getr (j := 3) I27_43 F4_18 rfl (sT112 hS) (sR112_3 hS) ?_
  refine zr_iconst I27_46 ?_
  refine zl_ald0 I27_47 ?_
  refine zr_getr (j := 3) I27_48 F4_18 rfl (sT10 hS) (sR10_3 hS) ?_
  refine zr_iconst I27_51 ?_
  refine zl_ald0 I27_52 ?_
  refine zr_geti (j := 0) I27_53 F4_24 rfl (sT10 hS) ?_
  rw [zcpy_oth (by decide), zcpy_oth (by decide), zup_same]
  refine zr_acopy I27_56 C4_28 (sT115 hS) (sT13 hS) (sN115 hS) (sN13 hS) (by omega) (Nat.le_of_ble_eq_true rfl) ?_
  refine zl_ald1 I27_59 ?_
  refine zr_getr (j := 4) I27_60 F4_21 rfl (sT112 hS) (sR112_4 hS) ?_
  refine zr_iconst I27_63 ?_
  refine zl_ald0 I27_64 ?_
  refine zr_getr (j := 4) I27_65 F4_21 rfl (sT10 hS) (sR10_4 hS) ?_
  refine zr_iconst I27_68 ?_
  refine zl_ald0 I27_69 ?_
  refine zr_geti (j := 0) I27_70 F4_24 rfl (sT10 hS) ?_
  rw [zcpy_oth (by decide), zcpy_oth (by decide), zcpy_oth (by decide), zup_same]
  refine zr_acopy I27_73 C4_28 (sT116 hS) (sT14 hS) (sN116 hS) (sN14 hS) (by omega) (Nat.le_of_ble_eq_true rfl) ?_
  refine zr_vret I27_76 rfl ?_
  refine ⟨_, rfl, rfl, ⟨by rw [zcpy_oth (by decide), zcpy_oth (by decide), zcpy_oth (by decide), zcpy_oth (by decide), zup_same], fun k hk => by rw [zcpy_oth (by decide), zcpy_oth (by decide), zcpy_oth (by decide), zcpy_oth (by decide), zup_q, if_neg hk], fun i h1 h2 k => ?_⟩, fun r hr => by rw [zcpy_ne (by omega), zcpy_ne (by omega), zcpy_ne (by omega), zcpy_ne (by omega), zup_ne (by omega)], zBd_cpy (zBd_cpy (zBd_cpy (zBd_cpy (zBd_up hB (by omega)) (by decide)) (by decide)) (by decide)) (by decide)⟩
  rcases (show i = 1 ∨ i = 2 ∨ i = 3 ∨ i = 4 by omega) with rfl | rfl | rfl | rfl
  all_goals simp [zcpy, zup]
set_option maxRecDepth 10000 in
set_option maxHeartbeats 2000000 in
theorem e_X5_copyFrom_15_117 {d n sl : Nat} {S : zSh} {c : zC} (hS : zSok S) (hB : zBd c) (hc : 0 ≤ c 117 0 ∧ c 117 0 ≤ 30) : zE (d + 1) 31 0 (zent 31 [zA 15, zA 117]) [] ((n, sl), (S, c)) (fun r μ' => ∃ c', r = none ∧ μ' = ((n, sl), (S, c')) ∧ zCp1 c c' 15 117 4) := by
  show zE (d + 1) 31 0 [some (zA 15), some (zA 117)] [] ((n, sl), (S, c)) _
  refine zl_ald0 I31_0 ?_
  refine zl_ald1 I31_1 ?_
  refine zr_giB (j := 0) hB (by decide) I31_2 F5_24 rfl (sT117 hS) (fun b2 => ?_)
  refine zr_puti (j := 0) I31_5 F5_24 rfl (sT15 hS) ⟨rfl, fun h => absurd h (by decide)⟩ ?_
  refine zl_ald1 I31_8 ?_
  refine zr_getr (j := 1) I31_9 F5_9 rfl (sT117 hS) (sR117_1 hS) ?_
  refine zr_iconst I31_12 ?_
  refine zl_ald0 I31_13 ?_
  refine zr_getr (j := 1) I31_14 F5_9 rfl (sT15 hS) (sR15_1 hS) ?_
  refine zr_iconst I31_17 ?_
  refine zl_ald0 I31_18 ?_
  refine zr_geti (j := 0) I31_19 F5_24 rfl (sT15 hS) ?_
  rw [zup_same]
  refine zr_acopy I31_22 C5_28 (sT118 hS) (sT16 hS) (sN118 hS) (sN16 hS) (by omega) (Nat.le_of_ble_eq_true rfl) ?_
  refine zl_ald1 I31_25 ?_
  refine zr_getr (j := 2) I31_26 F5_15 rfl (sT117 hS) (sR117_2 hS) ?_
  refine zr_iconst I31_29 ?_
  refine zl_ald0 I31_30 ?_
  refine zr_getr (j := 2) I31_31 F5_15 rfl (sT15 hS) (sR15_2 hS) ?_
  refine zr_iconst I31_34 ?_
  refine zl_ald0 I31_35 ?_
  refine zr_geti (j := 0) I31_36 F5_24 rfl (sT15 hS) ?_
  rw [zcpy_oth (by decide), zup_same]
  refine zr_acopy I31_39 C5_28 (sT119 hS) (sT17 hS) (sN119 hS) (sN17 hS) (by omega) (Nat.le_of_ble_eq_true rfl) ?_
  refine zl_ald1 I31_42 ?_
  refine zr_getr (j := 3) I31_43 F5_18 rfl (sT117 hS) (sR117_3 hS) ?_
  refine zr_iconst I31_46 ?_
  refine zl_ald0 I31_47 ?_
  refine zr_getr (j := 3) I31_48 F5_18 rfl (sT15 hS) (sR15_3 hS) ?_
  refine zr_iconst I31_51 ?_
  refine zl_ald0 I31_52 ?_
  refine zr_geti (j := 0) I31_53 F5_24 rfl (sT15 hS) ?_
  rw [zcpy_oth (by decide), zcpy_oth (by decide), zup_same]
  refine zr_acopy I31_56 C5_28 (sT120 hS) (sT18 hS) (sN120 hS) (sN18 hS) (by omega) (Nat.le_of_ble_eq_true rfl) ?_
  refine zl_ald1 I31_59 ?_
  refine zr_getr (j := 4) I31_60 F5_21 rfl (sT117 hS) (sR117_4 hS) ?_
  refine zr_iconst I31_63 ?_
  refine zl_ald0 I31_64 ?_
  refine zr_getr (j := 4) I31_65 F5_21 rfl (sT15 hS) (sR15_4 hS) ?_
  refine zr_iconst I31_68 ?_
  refine zl_ald0 I31_69 ?_
  refine zr_geti (j := 0) I31_70 F5_24 rfl (sT15 hS) ?_
  rw [zcpy_oth (by decide), zcpy_oth (by decide), zcpy_oth (by decide), zup_same]
  refine zr_acopy I31_73 C5_28 (sT121 hS) (sT19 hS) (sN121 hS) (sN19 hS) (by omega) (Nat.le_of_ble_eq_true rfl) ?_
  refine zr_vret I31_76 rfl ?_
  refine ⟨_, rfl, rfl, ⟨by rw [zcpy_oth (by decide), zcpy_oth (by decide), zcpy_oth (by decide), zcpy_oth (by decide), zup_same], fun k hk => by rw [zcpy_oth (by decide), zcpy_oth (by decide), zcpy_oth (by decide), zcpy_oth (by decide), zup_q, if_neg hk], fun i h1 h2 k => ?_⟩, fun r hr => by rw [zcpy_ne (by omega), zcpy_ne (by omega), zcpy_ne (by omega), zcpy_ne (by omega), zup_ne (by omega)], zBd_cpy (zBd_cpy (zBd_cpy (zBd_cpy (zBd_up hB (by omega)) (by decide)) (by decide)) (by decide)) (by decide)⟩
  rcases (show i = 1 ∨ i = 2 ∨ i = 3 ∨ i = 4 by omega) with rfl | rfl | rfl | rfl
  all_goals simp [zcpy, zup]
set_option maxRecDepth 10000 in
set_option maxHeartbeats 2000000 in
theorem e_X0_copyFrom_20_122 {d n sl : Nat} {S : zSh} {c : zC} (hS : zSok S) (hB : zBd c) (hc : 0 ≤ c 122 0 ∧ c 122 0 ≤ 10) : zE (d + 1) 3 0 (zent 3 [zA 20, zA 122]) [] ((n, sl), (S, c)) (fun r μ' => ∃ c', r = none ∧ μ' = ((n, sl), (S, c')) ∧ zCp1 c c' 20 122 3) := by
  show zE (d + 1) 3 0 [some (zA 20), some (zA 122)] [] ((n, sl), (S, c)) _
  refine zl_ald0 I3_0 ?_
  refine zl_ald1 I3_1 ?_
  refine zr_giB (j := 0) hB (by decide) I3_2 F0_21 rfl (sT122 hS) (fun b2 => ?_)
  refine zr_puti (j := 0) I3_5 F0_21 rfl (sT20 hS) ⟨rfl, fun h => absurd h (by decide)⟩ ?_
  refine zl_ald1 I3_8 ?_
  refine zr_getr (j := 1) I3_9 F0_9 rfl (sT122 hS) (sR122_1 hS) ?_
  refine zr_iconst I3_12 ?_
  refine zl_ald0 I3_13 ?_
  refine zr_getr (j := 1) I3_14 F0_9 rfl (sT20 hS) (sR20_1 hS) ?_
  refine zr_iconst I3_17 ?_
  refine zl_ald0 I3_18 ?_
  refine zr_geti (j := 0) I3_19 F0_21 rfl (sT20 hS) ?_
  rw [zup_same]
  refine zr_acopy I3_22 C0_25 (sT123 hS) (sT21 hS) (sN123 hS) (sN21 hS) (by omega) (Nat.le_of_ble_eq_true rfl) ?_
  refine zl_ald1 I3_25 ?_
  refine zr_getr (j := 2) I3_26 F0_15 rfl (sT122 hS) (sR122_2 hS) ?_
  refine zr_iconst I3_29 ?_
  refine zl_ald0 I3_30 ?_
  refine zr_getr (j := 2) I3_31 F0_15 rfl (sT20 hS) (sR20_2 hS) ?_
  refine zr_iconst I3_34 ?_
  refine zl_ald0 I3_35 ?_
  refine zr_geti (j := 0) I3_36 F0_21 rfl (sT20 hS) ?_
  rw [zcpy_oth (by decide), zup_same]
  refine zr_acopy I3_39 C0_25 (sT124 hS) (sT22 hS) (sN124 hS) (sN22 hS) (by omega) (Nat.le_of_ble_eq_true rfl) ?_
  refine zl_ald1 I3_42 ?_
  refine zr_getr (j := 3) I3_43 F0_18 rfl (sT122 hS) (sR122_3 hS) ?_
  refine zr_iconst I3_46 ?_
  refine zl_ald0 I3_47 ?_
  refine zr_getr (j := 3) I3_48 F0_18 rfl (sT20 hS) (sR20_3 hS) ?_
  refine zr_iconst I3_51 ?_
  refine zl_ald0 I3_52 ?_
  refine zr_geti (j := 0) I3_53 F0_21 rfl (sT20 hS) ?_
  rw [zcpy_oth (by decide), zcpy_oth (by decide), zup_same]
  refine zr_acopy I3_56 C0_25 (sT125 hS) (sT23 hS) (sN125 hS) (sN23 hS) (by omega) (Nat.le_of_ble_eq_true rfl) ?_
  refine zr_vret I3_59 rfl ?_
  refine ⟨_, rfl, rfl, ⟨by rw [zcpy_oth (by decide), zcpy_oth (by decide), zcpy_oth (by decide), zup_same], fun k hk => by rw [zcpy_oth (by decide), zcpy_oth (by decide), zcpy_oth (by decide), zup_q, if_neg hk], fun i h1 h2 k => ?_⟩, fun r hr => by rw [zcpy_ne (by omega), zcpy_ne (by omega), zcpy_ne (by omega), zup_ne (by omega)], zBd_cpy (zBd_cpy (zBd_cpy (zBd_up hB (by omega)) (by decide)) (by decide)) (by decide)⟩
  rcases (show i = 1 ∨ i = 2 ∨ i = 3 by omega) with rfl | rfl | rfl
  all_goals simp [zcpy, zup]
set_option maxRecDepth 10000 in
set_option maxHeartbeats 2000000 in
theorem e_X3_copyFrom_24_126 {d n sl : Nat} {S : zSh} {c : zC} (hS : zSok S) (hB : zBd c) (hc : 0 ≤ c 126 0 ∧ c 126 0 ≤ 60) : zE (d + 1) 24 0 (zent 24 [zA 24, zA 126]) [] ((n, sl), (S, c)) (fun r μ' => ∃ c', r = none ∧ μ' = ((n, sl), (S, c')) ∧ zCp1 c c' 24 126 4) := by
  show zE (d + 1) 24 0 [some (zA 24), some (zA 126)] [] ((n, sl), (S, c)) _
  refine zl_ald0 I24_0 ?_
  refine zl_ald1 I24_1 ?_
  refine zr_giB (j := 0) hB (by decide) I24_2 F3_24 rfl (sT126 hS) (fun b2 => ?_)
  refine zr_puti (j := 0) I24_5 F3_24 rfl (sT24 hS) ⟨rfl, fun h => absurd h (by decide)⟩ ?_
  refine zl_ald1 I24_8 ?_
  refine zr_getr (j := 1) I24_9 F3_9 rfl (sT126 hS) (sR126_1 hS) ?_
  refine zr_iconst I24_12 ?_
  refine zl_ald0 I24_13 ?_
  refine zr_getr (j := 1) I24_14 F3_9 rfl (sT24 hS) (sR24_1 hS) ?_
  refine zr_iconst I24_17 ?_
  refine zl_ald0 I24_18 ?_
  refine zr_geti (j := 0) I24_19 F3_24 rfl (sT24 hS) ?_
  rw [zup_same]
  refine zr_acopy I24_22 C3_45 (sT127 hS) (sT25 hS) (sN127 hS) (sN25 hS) (by omega) (Nat.le_of_ble_eq_true rfl) ?_
  refine zl_ald1 I24_25 ?_
  refine zr_getr (j := 2) I24_26 F3_15 rfl (sT126 hS) (sR126_2 hS) ?_
  refine zr_iconst I24_29 ?_
  refine zl_ald0 I24_30 ?_
  refine zr_getr (j := 2) I24_31 F3_15 rfl (sT24 hS) (sR24_2 hS) ?_
  refine zr_iconst I24_34 ?_
  refine zl_ald0 I24_35 ?_
  refine zr_geti (j := 0) I24_36 F3_24 rfl (sT24 hS) ?_
  rw [zcpy_oth (by decide), zup_same]
  refine zr_acopy I24_39 C3_45 (sT128 hS) (sT26 hS) (sN128 hS) (sN26 hS) (by omega) (Nat.le_of_ble_eq_true rfl) ?_
  refine zl_ald1 I24_42 ?_
  refine zr_getr (j := 3) I24_43 F3_18 rfl (sT126 hS) (sR126_3 hS) ?_
  refine zr_iconst I24_46 ?_
  refine zl_ald0 I24_47 ?_
  refine zr_getr (j := 3) I24_48 F3_18 rfl (sT24 hS) (sR24_3 hS) ?_
  refine zr_iconst I24_51 ?_
  refine zl_ald0 I24_52 ?_
  refine zr_geti (j := 0) I24_53 F3_24 rfl (sT24 hS) ?_
  rw [zcpy_oth (by decide), zcpy_oth (by decide), zup_same]
  refine zr_acopy I24_56 C3_45 (sT129 hS) (sT27 hS) (sN129 hS) (sN27 hS) (by omega) (Nat.le_of_ble_eq_true rfl) ?_
  refine zl_ald1 I24_59 ?_
  refine zr_getr (j := 4) I24_60 F3_21 rfl (sT126 hS) (sR126_4 hS) ?_
  refine zr_iconst I24_63 ?_
  refine zl_ald0 I24_64 ?_
  refine zr_getr (j := 4) I24_65 F3_21 rfl (sT24 hS) (sR24_4 hS) ?_
  refine zr_iconst I24_68 ?_
  refine zl_ald0 I24_69 ?_
  refine zr_geti (j := 0) I24_70 F3_24 rfl (sT24 hS) ?_
  rw [zcpy_oth (by decide), zcpy_oth (by decide), zcpy_oth (by decide), zup_same]
  refine zr_acopy I24_73 C3_45 (sT130 hS) (sT28 hS) (sN130 hS) (sN28 hS) (by omega) (Nat.le_of_ble_eq_true rfl) ?_
  refine zr_vret I24_76 rfl ?_
  refine ⟨_, rfl, rfl, ⟨by rw [zcpy_oth (by decide), zcpy_oth (by decide), zcpy_oth (by decide), zcpy_oth (by decide), zup_same], fun k hk => by rw [zcpy_oth (by decide), zcpy_oth (by decide), zcpy_oth (by decide), zcpy_oth (by decide), zup_q, if_neg hk], fun i h1 h2 k => ?_⟩, fun r hr => by rw [zcpy_ne (by omega), zcpy_ne (by omega), zcpy_ne (by omega), zcpy_ne (by omega), zup_ne (by omega)], zBd_cpy (zBd_cpy (zBd_cpy (zBd_cpy (zBd_up hB (by omega)) (by decide)) (by decide)) (by decide)) (by decide)⟩
  rcases (show i = 1 ∨ i = 2 ∨ i = 3 ∨ i = 4 by omega) with rfl | rfl | rfl | rfl
  all_goals simp [zcpy, zup]
set_option maxRecDepth 10000 in
set_option maxHeartbeats 2000000 in
theorem e_X4_copyFrom_32_10 {d n sl : Nat} {S : zSh} {c : zC} (hS : zSok S) (hB : zBd c) (hc : 0 ≤ c 10 0 ∧ c 10 0 ≤ 16) : zE (d + 1) 27 0 (zent 27 [zA 32, zA 10]) [] ((n, sl), (S, c)) (fun r μ' => ∃ c', r = none ∧ μ' = ((n, sl), (S, c')) ∧ zCp1 c c' 32 10 4) := by
  show zE (d + 1) 27 0 [some (zA 32), some (zA 10)] [] ((n, sl), (S, c)) _
  refine zl_ald0 I27_0 ?_
  refine zl_ald1 I27_1 ?_
  refine zr_giB (j := 0) hB (by decide) I27_2 F4_24 rfl (sT10 hS) (fun b2 => ?_)
  refine zr_puti (j := 0) I27_5 F4_24 rfl (sT32 hS) ⟨rfl, fun h => absurd h (by decide)⟩ ?_
  refine zl_ald1 I27_8 ?_
  refine zr_getr (j := 1) I27_9 F4_9 rfl (sT10 hS) (sR10_1 hS) ?_
  refine zr_iconst I27_12 ?_
  refine zl_ald0 I27_13 ?_
  refine zr_getr (j := 1) I27_14 F4_9 rfl (sT32 hS) (sR32_1 hS) ?_
  refine zr_iconst I27_17 ?_
  refine zl_ald0 I27_18 ?_
  refine zr_geti (j := 0) I27_19 F4_24 rfl (sT32 hS) ?_
  rw [zup_same]
  refine zr_acopy I27_22 C4_28 (sT11 hS) (sT33 hS) (sN11 hS) (sN33 hS) (by omega) (Nat.le_of_ble_eq_true rfl) ?_
  refine zl_ald1 I27_25 ?_
  refine zr_getr (j := 2) I27_26 F4_15 rfl (sT10 hS) (sR10_2 hS) ?_
  refine zr_iconst I27_29 ?_
  refine zl_ald0 I27_30 ?_
  refine zr_getr (j := 2) I27_31 F4_15 rfl (sT32 hS) (sR32_2 hS) ?_
  refine zr_iconst I27_34 ?_
  refine zl_ald0 I27_35 ?_
  refine zr_geti (j := 0) I27_36 F4_24 rfl (sT32 hS) ?_
  rw [zcpy_oth (by decide), zup_same]
  refine zr_acopy I27_39 C4_28 (sT12 hS) (sT34 hS) (sN12 hS) (sN34 hS) (by omega) (Nat.le_of_ble_eq_true rfl) ?_
  refine zl_ald1 I27_42 ?_
  refine zr_getr (j := 3) I27_43 F4_18 rfl (sT10 hS) (sR10_3 hS) ?_
  refine zr_iconst I27_46 ?_
  refine zl_ald0 I27_47 ?_
  refine zr_getr (j := 3) I27_48 F4_18 rfl (sT32 hS) (sR32_3 hS) ?_
  refine zr_iconst I27_51 ?_
  refine zl_ald0 I27_52 ?_
  refine zr_geti (j := 0) I27_53 F4_24 rfl (sT32 hS) ?_
  rw [zcpy_oth (by decide), zcpy_oth (by decide), zup_same]
  refine zr_acopy I27_56 C4_28 (sT13 hS) (sT35 hS) (sN13 hS) (sN35 hS) (by omega) (Nat.le_of_ble_eq_true rfl) ?_
  refine zl_ald1 I27_59 ?_
  refine zr_getr (j := 4) I27_60 F4_21 rfl (sT10 hS) (sR10_4 hS) ?_
  refine zr_iconst I27_63 ?_
  refine zl_ald0 I27_64 ?_
  refine zr_getr (j := 4) I27_65 F4_21 rfl (sT32 hS) (sR32_4 hS) ?_
  refine zr_iconst I27_68 ?_
  refine zl_ald0 I27_69 ?_
  refine zr_geti (j := 0) I27_70 F4_24 rfl (sT32 hS) ?_
  rw [zcpy_oth (by decide), zcpy_oth (by decide), zcpy_oth (by decide), zup_same]
  refine zr_acopy I27_73 C4_28 (sT14 hS) (sT36 hS) (sN14 hS) (sN36 hS) (by omega) (Nat.le_of_ble_eq_true rfl) ?_
  refine zr_vret I27_76 rfl ?_
  refine ⟨_, rfl, rfl, ⟨by rw [zcpy_oth (by decide), zcpy_oth (by decide), zcpy_oth (by decide), zcpy_oth (by decide), zup_same], fun k hk => by rw [zcpy_oth (by decide), zcpy_oth (by decide), zcpy_oth (by decide), zcpy_oth (by decide), zup_q, if_neg hk], fun i h1 h2 k => ?_⟩, fun r hr => by rw [zcpy_ne (by omega), zcpy_ne (by omega), zcpy_ne (by omega), zcpy_ne (by omega), zup_ne (by omega)], zBd_cpy (zBd_cpy (zBd_cpy (zBd_cpy (zBd_up hB (by omega)) (by decide)) (by decide)) (by decide)) (by decide)⟩
  rcases (show i = 1 ∨ i = 2 ∨ i = 3 ∨ i = 4 by omega) with rfl | rfl | rfl | rfl
  all_goals simp [zcpy, zup]
set_option maxRecDepth 10000 in
set_option maxHeartbeats 2000000 in
theorem e_X5_copyFrom_37_15 {d n sl : Nat} {S : zSh} {c : zC} (hS : zSok S) (hB : zBd c) (hc : 0 ≤ c 15 0 ∧ c 15 0 ≤ 30) : zE (d + 1) 31 0 (zent 31 [zA 37, zA 15]) [] ((n, sl), (S, c)) (fun r μ' => ∃ c', r = none ∧ μ' = ((n, sl), (S, c')) ∧ zCp1 c c' 37 15 4) := by
  show zE (d + 1) 31 0 [some (zA 37), some (zA 15)] [] ((n, sl), (S, c)) _
  refine zl_ald0 I31_0 ?_
  refine zl_ald1 I31_1 ?_
  refine zr_giB (j := 0) hB (by decide) I31_2 F5_24 rfl (sT15 hS) (fun b2 => ?_)
  refine zr_puti (j := 0) I31_5 F5_24 rfl (sT37 hS) ⟨rfl, fun h => absurd h (by decide)⟩ ?_
  refine zl_ald1 I31_8 ?_
  refine zr_getr (j := 1) I31_9 F5_9 rfl (sT15 hS) (sR15_1 hS) ?_
  refine zr_iconst I31_12 ?_
  refine zl_ald0 I31_13 ?_
  refine zr_getr (j := 1) I31_14 F5_9 rfl (sT37 hS) (sR37_1 hS) ?_
  refine zr_iconst I31_17 ?_
  refine zl_ald0 I31_18 ?_
  refine zr_geti (j := 0) I31_19 F5_24 rfl (sT37 hS) ?_
  rw [zup_same]
  refine zr_acopy I31_22 C5_28 (sT16 hS) (sT38 hS) (sN16 hS) (sN38 hS) (by omega) (Nat.le_of_ble_eq_true rfl) ?_
  refine zl_ald1 I31_25 ?_
  refine zr_getr (j := 2) I31_26 F5_15 rfl (sT15 hS) (sR15_2 hS) ?_
  refine zr_iconst I31_29 ?_
  refine zl_ald0 I31_30 ?_
  refine zr_getr (j := 2) I31_31 F5_15 rfl (sT37 hS) (sR37_2 hS) ?_
  refine zr_iconst I31_34 ?_
  refine zl_ald0 I31_35 ?_
  refine zr_geti (j := 0) I31_36 F5_24 rfl (sT37 hS) ?_
  rw [zcpy_oth (by decide), zup_same]
  refine zr_acopy I31_39 C5_28 (sT17 hS) (sT39 hS) (sN17 hS) (sN39 hS) (by omega) (Nat.le_of_ble_eq_true rfl) ?_
  refine zl_ald1 I31_42 ?_
  refine zr_getr (j := 3) I31_43 F5_18 rfl (sT15 hS) (sR15_3 hS) ?_
  refine zr_iconst I31_46 ?_
  refine zl_ald0 I31_47 ?_
  refine zr_getr (j := 3) I31_48 F5_18 rfl (sT37 hS) (sR37_3 hS) ?_
  refine zr_iconst I31_51 ?_
  refine zl_ald0 I31_52 ?_
  refine zr_geti (j := 0) I31_53 F5_24 rfl (sT37 hS) ?_
  rw [zcpy_oth (by decide), zcpy_oth (by decide), zup_same]
  refine zr_acopy I31_56 C5_28 (sT18 hS) (sT40 hS) (sN18 hS) (sN40 hS) (by omega) (Nat.le_of_ble_eq_true rfl) ?_
  refine zl_ald1 I31_59 ?_
  refine zr_getr (j := 4) I31_60 F5_21 rfl (sT15 hS) (sR15_4 hS) ?_
  refine zr_iconst I31_63 ?_
  refine zl_ald0 I31_64 ?_
  refine zr_getr (j := 4) I31_65 F5_21 rfl (sT37 hS) (sR37_4 hS) ?_
  refine zr_iconst I31_68 ?_
  refine zl_ald0 I31_69 ?_
  refine zr_geti (j := 0) I31_70 F5_24 rfl (sT37 hS) ?_
  rw [zcpy_oth (by decide), zcpy_oth (by decide), zcpy_oth (by decide), zup_same]
  refine zr_acopy I31_73 C5_28 (sT19 hS) (sT41 hS) (sN19 hS) (sN41 hS) (by omega) (Nat.le_of_ble_eq_true rfl) ?_
  refine zr_vret I31_76 rfl ?_
  refine ⟨_, rfl, rfl, ⟨by rw [zcpy_oth (by decide), zcpy_oth (by decide), zcpy_oth (by decide), zcpy_oth (by decide), zup_same], fun k hk => by rw [zcpy_oth (by decide), zcpy_oth (by decide), zcpy_oth (by decide), zcpy_oth (by decide), zup_q, if_neg hk], fun i h1 h2 k => ?_⟩, fun r hr => by rw [zcpy_ne (by omega), zcpy_ne (by omega), zcpy_ne (by omega), zcpy_ne (by omega), zup_ne (by omega)], zBd_cpy (zBd_cpy (zBd_cpy (zBd_cpy (zBd_up hB (by omega)) (by decide)) (by decide)) (by decide)) (by decide)⟩
  rcases (show i = 1 ∨ i = 2 ∨ i = 3 ∨ i = 4 by omega) with rfl | rfl | rfl | rfl
  all_goals simp [zcpy, zup]
set_option maxRecDepth 10000 in
set_option maxHeartbeats 2000000 in
theorem e_X0_copyFrom_42_20 {d n sl : Nat} {S : zSh} {c : zC} (hS : zSok S) (hB : zBd c) (hc : 0 ≤ c 20 0 ∧ c 20 0 ≤ 10) : zE (d + 1) 3 0 (zent 3 [zA 42, zA 20]) [] ((n, sl), (S, c)) (fun r μ' => ∃ c', r = none ∧ μ' = ((n, sl), (S, c')) ∧ zCp1 c c' 42 20 3) := by
  show zE (d + 1) 3 0 [some (zA 42), some (zA 20)] [] ((n, sl), (S, c)) _
  refine zl_ald0 I3_0 ?_
  refine zl_ald1 I3_1 ?_
  refine zr_giB (j := 0) hB (by decide) I3_2 F0_21 rfl (sT20 hS) (fun b2 => ?_)
  refine zr_puti (j := 0) I3_5 F0_21 rfl (sT42 hS) ⟨rfl, fun h => absurd h (by decide)⟩ ?_
  refine zl_ald1 I3_8 ?_
  refine zr_getr (j := 1) I3_9 F0_9 rfl (sT20 hS) (sR20_1 hS) ?_
  refine zr_iconst I3_12 ?_
  refine zl_ald0 I3_13 ?_
  refine zr_getr (j := 1) I3_14 F0_9 rfl (sT42 hS) (sR42_1 hS) ?_
  refine zr_iconst I3_17 ?_
  refine zl_ald0 I3_18 ?_
  refine zr_geti (j := 0) I3_19 F0_21 rfl (sT42 hS) ?_
  rw [zup_same]
  refine zr_acopy I3_22 C0_25 (sT21 hS) (sT43 hS) (sN21 hS) (sN43 hS) (by omega) (Nat.le_of_ble_eq_true rfl) ?_
  refine zl_ald1 I3_25 ?_
  refine zr_getr (j := 2) I3_26 F0_15 rfl (sT20 hS) (sR20_2 hS) ?_
  refine zr_iconst I3_29 ?_
  refine zl_ald0 I3_30 ?_
  refine zr_getr (j := 2) I3_31 F0_15 rfl (sT42 hS) (sR42_2 hS) ?_
  refine zr_iconst I3_34 ?_
  refine zl_ald0 I3_35 ?_
  refine zr_geti (j := 0) I3_36 F0_21 rfl (sT42 hS) ?_
  rw [zcpy_oth (by decide), zup_same]
  refine zr_acopy I3_39 C0_25 (sT22 hS) (sT44 hS) (sN22 hS) (sN44 hS) (by omega) (Nat.le_of_ble_eq_true rfl) ?_
  refine zl_ald1 I3_42 ?_
  refine zr_getr (j := 3) I3_43 F0_18 rfl (sT20 hS) (sR20_3 hS) ?_
  refine zr_iconst I3_46 ?_
  refine zl_ald0 I3_47 ?_
  refine zr_getr (j := 3) I3_48 F0_18 rfl (sT42 hS) (sR42_3 hS) ?_
  refine zr_iconst I3_51 ?_
  refine zl_ald0 I3_52 ?_
  refine zr_geti (j := 0) I3_53 F0_21 rfl (sT42 hS) ?_
  rw [zcpy_oth (by decide), zcpy_oth (by decide), zup_same]
  refine zr_acopy I3_56 C0_25 (sT23 hS) (sT45 hS) (sN23 hS) (sN45 hS) (by omega) (Nat.le_of_ble_eq_true rfl) ?_
  refine zr_vret I3_59 rfl ?_
  refine ⟨_, rfl, rfl, ⟨by rw [zcpy_oth (by decide), zcpy_oth (by decide), zcpy_oth (by decide), zup_same], fun k hk => by rw [zcpy_oth (by decide), zcpy_oth (by decide), zcpy_oth (by decide), zup_q, if_neg hk], fun i h1 h2 k => ?_⟩, fun r hr => by rw [zcpy_ne (by omega), zcpy_ne (by omega), zcpy_ne (by omega), zup_ne (by omega)], zBd_cpy (zBd_cpy (zBd_cpy (zBd_up hB (by omega)) (by decide)) (by decide)) (by decide)⟩
  rcases (show i = 1 ∨ i = 2 ∨ i = 3 by omega) with rfl | rfl | rfl
  all_goals simp [zcpy, zup]
set_option maxRecDepth 10000 in
set_option maxHeartbeats 2000000 in
theorem e_X3_copyFrom_46_24 {d n sl : Nat} {S : zSh} {c : zC} (hS : zSok S) (hB : zBd c) (hc : 0 ≤ c 24 0 ∧ c 24 0 ≤ 60) : zE (d + 1) 24 0 (zent 24 [zA 46, zA 24]) [] ((n, sl), (S, c)) (fun r μ' => ∃ c', r = none ∧ μ' = ((n, sl), (S, c')) ∧ zCp1 c c' 46 24 4) := by
  show zE (d + 1) 24 0 [some (zA 46), some (zA 24)] [] ((n, sl), (S, c)) _
  refine zl_ald0 I24_0 ?_
  refine zl_ald1 I24_1 ?_
  refine zr_giB (j := 0) hB (by decide) I24_2 F3_24 rfl (sT24 hS) (fun b2 => ?_)
  refine zr_puti (j := 0) I24_5 F3_24 rfl (sT46 hS) ⟨rfl, fun h => absurd h (by decide)⟩ ?_
  refine zl_ald1 I24_8 ?_
  refine zr_getr (j := 1) I24_9 F3_9 rfl (sT24 hS) (sR24_1 hS) ?_
  refine zr_iconst I24_12 ?_
  refine zl_ald0 I24_13 ?_
  refine zr_getr (j := 1) I24_14 F3_9 rfl (sT46 hS) (sR46_1 hS) ?_
  refine zr_iconst I24_17 ?_
  refine zl_ald0 I24_18 ?_
  refine zr_geti (j := 0) I24_19 F3_24 rfl (sT46 hS) ?_
  rw [zup_same]
  refine zr_acopy I24_22 C3_45 (sT25 hS) (sT47 hS) (sN25 hS) (sN47 hS) (by omega) (Nat.le_of_ble_eq_true rfl) ?_
  refine zl_ald1 I24_25 ?_
  refine zr_getr (j := 2) I24_26 F3_15 rfl (sT24 hS) (sR24_2 hS) ?_
  refine zr_iconst I24_29 ?_
  refine zl_ald0 I24_30 ?_
  refine zr_getr (j := 2) I24_31 F3_15 rfl (sT46 hS) (sR46_2 hS) ?_
  refine zr_iconst I24_34 ?_
  refine zl_ald0 I24_35 ?_
  refine zr_geti (j := 0) I24_36 F3_24 rfl (sT46 hS) ?_
  rw [zcpy_oth (by decide), zup_same]
  refine zr_acopy I24_39 C3_45 (sT26 hS) (sT48 hS) (sN26 hS) (sN48 hS) (by omega) (Nat.le_of_ble_eq_true rfl) ?_
  refine zl_ald1 I24_42 ?_
  refine zr_getr (j := 3) I24_43 F3_18 rfl (sT24 hS) (sR24_3 hS) ?_
  refine zr_iconst I24_46 ?_
  refine zl_ald0 I24_47 ?_
  refine zr_getr (j := 3) I24_48 F3_18 rfl (sT46 hS) (sR46_3 hS) ?_
  refine zr_iconst I24_51 ?_
  refine zl_ald0 I24_52 ?_
  refine zr_geti (j := 0) I24_53 F3_24 rfl (sT46 hS) ?_
  rw [zcpy_oth (by decide), zcpy_oth (by decide), zup_same]
  refine zr_acopy I24_56 C3_45 (sT27 hS) (sT49 hS) (sN27 hS) (sN49 hS) (by omega) (Nat.le_of_ble_eq_true rfl) ?_
  refine zl_ald1 I24_59 ?_
  refine zr_getr (j := 4) I24_60 F3_21 rfl (sT24 hS) (sR24_4 hS) ?_
  refine zr_iconst I24_63 ?_
  refine zl_ald0 I24_64 ?_
  refine zr_getr (j := 4) I24_65 F3_21 rfl (sT46 hS) (sR46_4 hS) ?_
  refine zr_iconst I24_68 ?_
  refine zl_ald0 I24_69 ?_
  refine zr_geti (j := 0) I24_70 F3_24 rfl (sT46 hS) ?_
  rw [zcpy_oth (by decide), zcpy_oth (by decide), zcpy_oth (by decide), zup_same]
  refine zr_acopy I24_73 C3_45 (sT28 hS) (sT50 hS) (sN28 hS) (sN50 hS) (by omega) (Nat.le_of_ble_eq_true rfl) ?_
  refine zr_vret I24_76 rfl ?_
  refine ⟨_, rfl, rfl, ⟨by rw [zcpy_oth (by decide), zcpy_oth (by decide), zcpy_oth (by decide), zcpy_oth (by decide), zup_same], fun k hk => by rw [zcpy_oth (by decide), zcpy_oth (by decide), zcpy_oth (by decide), zcpy_oth (by decide), zup_q, if_neg hk], fun i h1 h2 k => ?_⟩, fun r hr => by rw [zcpy_ne (by omega), zcpy_ne (by omega), zcpy_ne (by omega), zcpy_ne (by omega), zup_ne (by omega)], zBd_cpy (zBd_cpy (zBd_cpy (zBd_cpy (zBd_up hB (by omega)) (by decide)) (by decide)) (by decide)) (by decide)⟩
  rcases (show i = 1 ∨ i = 2 ∨ i = 3 ∨ i = 4 by omega) with rfl | rfl | rfl | rfl
  all_goals simp [zcpy, zup]
set_option maxRecDepth 10000 in
set_option maxHeartbeats 2000000 in
theorem e_X4_copyFrom_52_10 {d n sl : Nat} {S : zSh} {c : zC} (hS : zSok S) (hB : zBd c) (hc : 0 ≤ c 10 0 ∧ c 10 0 ≤ 16) : zE (d + 1) 27 0 (zent 27 [zA 52, zA 10]) [] ((n, sl), (S, c)) (fun r μ' => ∃ c', r = none ∧ μ' = ((n, sl), (S, c')) ∧ zCp1 c c' 52 10 4) := by
  show zE (d + 1) 27 0 [some (zA 52), some (zA 10)] [] ((n, sl), (S, c)) _
  refine zl_ald0 I27_0 ?_
  refine zl_ald1 I27_1 ?_
  refine zr_giB (j := 0) hB (by decide) I27_2 F4_24 rfl (sT10 hS) (fun b2 => ?_)
  refine zr_puti (j := 0) I27_5 F4_24 rfl (sT52 hS) ⟨rfl, fun h => absurd h (by decide)⟩ ?_
  refine zl_ald1 I27_8 ?_
  refine zr_getr (j := 1) I27_9 F4_9 rfl (sT10 hS) (sR10_1 hS) ?_
  refine zr_iconst I27_12 ?_
  refine zl_ald0 I27_13 ?_
  refine zr_getr (j := 1) I27_14 F4_9 rfl (sT52 hS) (sR52_1 hS) ?_
  refine zr_iconst I27_17 ?_
  refine zl_ald0 I27_18 ?_
  refine zr_geti (j := 0) I27_19 F4_24 rfl (sT52 hS) ?_
  rw [zup_same]
  refine zr_acopy I27_22 C4_28 (sT11 hS) (sT53 hS) (sN11 hS) (sN53 hS) (by omega) (Nat.le_of_ble_eq_true rfl) ?_
  refine zl_ald1 I27_25 ?_
  refine zr_getr (j := 2) I27_26 F4_15 rfl (sT10 hS) (sR10_2 hS) ?_
  refine zr_iconst I27_29 ?_
  refine zl_ald0 I27_30 ?_
  refine zr_getr (j := 2) I27_31 F4_15 rfl (sT52 hS) (sR52_2 hS) ?_
  refine zr_iconst I27_34 ?_
  refine zl_ald0 I27_35 ?_
  refine zr_geti (j := 0) I27_36 F4_24 rfl (sT52 hS) ?_
  rw [zcpy_oth (by decide), zup_same]
  refine zr_acopy I27_39 C4_28 (sT12 hS) (sT54 hS) (sN12 hS) (sN54 hS) (by omega) (Nat.le_of_ble_eq_true rfl) ?_
  refine zl_ald1 I27_42 ?_
  refine zr_getr (j := 3) I27_43 F4_18 rfl (sT10 hS) (sR10_3 hS) ?_
  refine zr_iconst I27_46 ?_
  refine zl_ald0 I27_47 ?_
  refine zr_getr (j := 3) I27_48 F4_18 rfl (sT52 hS) (sR52_3 hS) ?_
  refine zr_iconst I27_51 ?_
  refine zl_ald0 I27_52 ?_
  refine zr_geti (j := 0) I27_53 F4_24 rfl (sT52 hS) ?_
  rw [zcpy_oth (by decide), zcpy_oth (by decide), zup_same]
  refine zr_acopy I27_56 C4_28 (sT13 hS) (sT55 hS) (sN13 hS) (sN55 hS) (by omega) (Nat.le_of_ble_eq_true rfl) ?_
  refine zl_ald1 I27_59 ?_
  refine zr_getr (j := 4) I27_60 F4_21 rfl (sT10 hS) (sR10_4 hS) ?_
  refine zr_iconst I27_63 ?_
  refine zl_ald0 I27_64 ?_
  refine zr_getr (j := 4) I27_65 F4_21 rfl (sT52 hS) (sR52_4 hS) ?_
  refine zr_iconst I27_68 ?_
  refine zl_ald0 I27_69 ?_
  refine zr_geti (j := 0) I27_70 F4_24 rfl (sT52 hS) ?_
  rw [zcpy_oth (by decide), zcpy_oth (by decide), zcpy_oth (by decide), zup_same]
  refine zr_acopy I27_73 C4_28 (sT14 hS) (sT56 hS) (sN14 hS) (sN56 hS) (by omega) (Nat.le_of_ble_eq_true rfl) ?_
  refine zr_vret I27_76 rfl ?_
  refine ⟨_, rfl, rfl, ⟨by rw [zcpy_oth (by decide), zcpy_oth (by decide), zcpy_oth (by decide), zcpy_oth (by decide), zup_same], fun k hk => by rw [zcpy_oth (by decide), zcpy_oth (by decide), zcpy_oth (by decide), zcpy_oth (by decide), zup_q, if_neg hk], fun i h1 h2 k => ?_⟩, fun r hr => by rw [zcpy_ne (by omega), zcpy_ne (by omega), zcpy_ne (by omega), zcpy_ne (by omega), zup_ne (by omega)], zBd_cpy (zBd_cpy (zBd_cpy (zBd_cpy (zBd_up hB (by omega)) (by decide)) (by decide)) (by decide)) (by decide)⟩
  rcases (show i = 1 ∨ i = 2 ∨ i = 3 ∨ i = 4 by omega) with rfl | rfl | rfl | rfl
  all_goals simp [zcpy, zup]
set_option maxRecDepth 10000 in
set_option maxHeartbeats 2000000 in
theorem e_X5_copyFrom_57_15 {d n sl : Nat} {S : zSh} {c : zC} (hS : zSok S) (hB : zBd c) (hc : 0 ≤ c 15 0 ∧ c 15 0 ≤ 30) : zE (d + 1) 31 0 (zent 31 [zA 57, zA 15]) [] ((n, sl), (S, c)) (fun r μ' => ∃ c', r = none ∧ μ' = ((n, sl), (S, c')) ∧ zCp1 c c' 57 15 4) := by
  show zE (d + 1) 31 0 [some (zA 57), some (zA 15)] [] ((n, sl), (S, c)) _
  refine zl_ald0 I31_0 ?_
  refine zl_ald1 I31_1 ?_
  refine zr_giB (j := 0) hB (by decide) I31_2 F5_24 rfl (sT15 hS) (fun b2 => ?_)
  refine zr_puti (j := 0) I31_5 F5_24 rfl (sT57 hS) ⟨rfl, fun h => absurd h (by decide)⟩ ?_
  refine zl_ald1 I31_8 ?_
  refine zr_getr (j := 1) I31_9 F5_9 rfl (sT15 hS) (sR15_1 hS) ?_
  refine zr_iconst I31_12 ?_
  refine zl_ald0 I31_13 ?_
  refine zr_getr (j := 1) I31_14 F5_9 rfl (sT57 hS) (sR57_1 hS) ?_
  refine zr_iconst I31_17 ?_
  refine zl_ald0 I31_18 ?_
  refine zr_geti (j := 0) I31_19 F5_24 rfl (sT57 hS) ?_
  rw [zup_same]
  refine zr_acopy I31_22 C5_28 (sT16 hS) (sT58 hS) (sN16 hS) (sN58 hS) (by omega) (Nat.le_of_ble_eq_true rfl) ?_
  refine zl_ald1 I31_25 ?_
  refine zr_getr (j := 2) I31_26 F5_15 rfl (sT15 hS) (sR15_2 hS) ?_
  refine zr_iconst I31_29 ?_
  refine zl_ald0 I31_30 ?_
  refine zr_getr (j := 2) I31_31 F5_15 rfl (sT57 hS) (sR57_2 hS) ?_
  refine zr_iconst I31_34 ?_
  refine zl_ald0 I31_35 ?_
  refine zr_geti (j := 0) I31_36 F5_24 rfl (sT57 hS) ?_
  rw [zcpy_oth (by decide), zup_same]
  refine zr_acopy I31_39 C5_28 (sT17 hS) (sT59 hS) (sN17 hS) (sN59 hS) (by omega) (Nat.le_of_ble_eq_true rfl) ?_
  refine zl_ald1 I31_42 ?_
  refine zr_getr (j := 3) I31_43 F5_18 rfl (sT15 hS) (sR15_3 hS) ?_
  refine zr_iconst I31_46 ?_
  refine zl_ald0 I31_47 ?_
  refine zr_getr (j := 3) I31_48 F5_18 rfl (sT57 hS) (sR57_3 hS) ?_
  refine zr_iconst I31_51 ?_
  refine zl_ald0 I31_52 ?_
  refine zr_geti (j := 0) I31_53 F5_24 rfl (sT57 hS) ?_
  rw [zcpy_oth (by decide), zcpy_oth (by decide), zup_same]
  refine zr_acopy I31_56 C5_28 (sT18 hS) (sT60 hS) (sN18 hS) (sN60 hS) (by omega) (Nat.le_of_ble_eq_true rfl) ?_
  refine zl_ald1 I31_59 ?_
  refine zr_getr (j := 4) I31_60 F5_21 rfl (sT15 hS) (sR15_4 hS) ?_
  refine zr_iconst I31_63 ?_
  refine zl_ald0 I31_64 ?_
  refine zr_getr (j := 4) I31_65 F5_21 rfl (sT57 hS) (sR57_4 hS) ?_
  refine zr_iconst I31_68 ?_
  refine zl_ald0 I31_69 ?_
  refine zr_geti (j := 0) I31_70 F5_24 rfl (sT57 hS) ?_
  rw [zcpy_oth (by decide), zcpy_oth (by decide), zcpy_oth (by decide), zup_same]
  refine zr_acopy I31_73 C5_28 (sT19 hS) (sT61 hS) (sN19 hS) (sN61 hS) (by omega) (Nat.le_of_ble_eq_true rfl) ?_
  refine zr_vret I31_76 rfl ?_
  refine ⟨_, rfl, rfl, ⟨by rw [zcpy_oth (by decide), zcpy_oth (by decide), zcpy_oth (by decide), zcpy_oth (by decide), zup_same], fun k hk => by rw [zcpy_oth (by decide), zcpy_oth (by decide), zcpy_oth (by decide), zcpy_oth (by decide), zup_q, if_neg hk], fun i h1 h2 k => ?_⟩, fun r hr => by rw [zcpy_ne (by omega), zcpy_ne (by omega), zcpy_ne (by omega), zcpy_ne (by omega), zup_ne (by omega)], zBd_cpy (zBd_cpy (zBd_cpy (zBd_cpy (zBd_up hB (by omega)) (by decide)) (by decide)) (by decide)) (by decide)⟩
  rcases (show i = 1 ∨ i = 2 ∨ i = 3 ∨ i = 4 by omega) with rfl | rfl | rfl | rfl
  all_goals simp [zcpy, zup]
set_option maxRecDepth 10000 in
set_option maxHeartbeats 2000000 in
theorem e_X0_copyFrom_62_20 {d n sl : Nat} {S : zSh} {c : zC} (hS : zSok S) (hB : zBd c) (hc : 0 ≤ c 20 0 ∧ c 20 0 ≤ 10) : zE (d + 1) 3 0 (zent 3 [zA 62, zA 20]) [] ((n, sl), (S, c)) (fun r μ' => ∃ c', r = none ∧ μ' = ((n, sl), (S, c')) ∧ zCp1 c c' 62 20 3) := by
  show zE (d + 1) 3 0 [some (zA 62), some (zA 20)] [] ((n, sl), (S, c)) _
  refine zl_ald0 I3_0 ?_
  refine zl_ald1 I3_1 ?_
  refine zr_giB (j := 0) hB (by decide) I3_2 F0_21 rfl (sT20 hS) (fun b2 => ?_)
  refine zr_puti (j := 0) I3_5 F0_21 rfl (sT62 hS) ⟨rfl, fun h => absurd h (by decide)⟩ ?_
  refine zl_ald1 I3_8 ?_
  refine zr_getr (j := 1) I3_9 F0_9 rfl (sT20 hS) (sR20_1 hS) ?_
  refine zr_iconst I3_12 ?_
  refine zl_ald0 I3_13 ?_
  refine zr_getr (j := 1) I3_14 F0_9 rfl (sT62 hS) (sR62_1 hS) ?_
  refine zr_iconst I3_17 ?_
  refine zl_ald0 I3_18 ?_
  refine zr_geti (j := 0) I3_19 F0_21 rfl (sT62 hS) ?_
  rw [zup_same]
  refine zr_acopy I3_22 C0_25 (sT21 hS) (sT63 hS) (sN21 hS) (sN63 hS) (by omega) (Nat.le_of_ble_eq_true rfl) ?_
  refine zl_ald1 I3_25 ?_
  refine zr_getr (j := 2) I3_26 F0_15 rfl (sT20 hS) (sR20_2 hS) ?_
  refine zr_iconst I3_29 ?_
  refine zl_ald0 I3_30 ?_
  refine zr_getr (j := 2) I3_31 F0_15 rfl (sT62 hS) (sR62_2 hS) ?_
  refine zr_iconst I3_34 ?_
  refine zl_ald0 I3_35 ?_
  refine zr_geti (j := 0) I3_36 F0_21 rfl (sT62 hS) ?_
  rw [zcpy_oth (by decide), zup_same]
  refine zr_acopy I3_39 C0_25 (sT22 hS) (sT64 hS) (sN22 hS) (sN64 hS) (by omega) (Nat.le_of_ble_eq_true rfl) ?_
  refine zl_ald1 I3_42 ?_
  refine zr_getr (j := 3) I3_43 F0_18 rfl (sT20 hS) (sR20_3 hS) ?_
  refine zr_iconst I3_46 ?_
  refine zl_ald0 I3_47 ?_
  refine zr_getr (j := 3) I3_48 F0_18 rfl (sT62 hS) (sR62_3 hS) ?_
  refine zr_iconst I3_51 ?_
  refine zl_ald0 I3_52 ?_
  refine zr_geti (j := 0) I3_53 F0_21 rfl (sT62 hS) ?_
  rw [zcpy_oth (by decide), zcpy_oth (by decide), zup_same]
  refine zr_acopy I3_56 C0_25 (sT23 hS) (sT65 hS) (sN23 hS) (sN65 hS) (by omega) (Nat.le_of_ble_eq_true rfl) ?_
  refine zr_vret I3_59 rfl ?_
  refine ⟨_, rfl, rfl, ⟨by rw [zcpy_oth (by decide), zcpy_oth (by decide), zcpy_oth (by decide), zup_same], fun k hk => by rw [zcpy_oth (by decide), zcpy_oth (by decide), zcpy_oth (by decide), zup_q, if_neg hk], fun i h1 h2 k => ?_⟩, fun r hr => by rw [zcpy_ne (by omega), zcpy_ne (by omega), zcpy_ne (by omega), zup_ne (by omega)], zBd_cpy (zBd_cpy (zBd_cpy (zBd_up hB (by omega)) (by decide)) (by decide)) (by decide)⟩
  rcases (show i = 1 ∨ i = 2 ∨ i = 3 by omega) with rfl | rfl | rfl
  all_goals simp [zcpy, zup]
set_option maxRecDepth 10000 in
set_option maxHeartbeats 2000000 in
theorem e_X3_copyFrom_66_24 {d n sl : Nat} {S : zSh} {c : zC} (hS : zSok S) (hB : zBd c) (hc : 0 ≤ c 24 0 ∧ c 24 0 ≤ 60) : zE (d + 1) 24 0 (zent 24 [zA 66, zA 24]) [] ((n, sl), (S, c)) (fun r μ' => ∃ c', r = none ∧ μ' = ((n, sl), (S, c')) ∧ zCp1 c c' 66 24 4) := by
  show zE (d + 1) 24 0 [some (zA 66), some (zA 24)] [] ((n, sl), (S, c)) _
  refine zl_ald0 I24_0 ?_
  refine zl_ald1 I24_1 ?_
  refine zr_giB (j := 0) hB (by decide) I24_2 F3_24 rfl (sT24 hS) (fun b2 => ?_)
  refine zr_puti (j := 0) I24_5 F3_24 rfl (sT66 hS) ⟨rfl, fun h => absurd h (by decide)⟩ ?_
  refine zl_ald1 I24_8 ?_
  refine zr_getr (j := 1) I24_9 F3_9 rfl (sT24 hS) (sR24_1 hS) ?_
  refine zr_iconst I24_12 ?_
  refine zl_ald0 I24_13 ?_
  refine zr_getr (j := 1) I24_14 F3_9 rfl (sT66 hS) (sR66_1 hS) ?_
  refine zr_iconst I24_17 ?_
  refine zl_ald0 I24_18 ?_
  refine zr_geti (j := 0) I24_19 F3_24 rfl (sT66 hS) ?_
  rw [zup_same]
  refine zr_acopy I24_22 C3_45 (sT25 hS) (sT67 hS) (sN25 hS) (sN67 hS) (by omega) (Nat.le_of_ble_eq_true rfl) ?_
  refine zl_ald1 I24_25 ?_
  refine zr_getr (j := 2) I24_26 F3_15 rfl (sT24 hS) (sR24_2 hS) ?_
  refine zr_iconst I24_29 ?_
  refine zl_ald0 I24_30 ?_
  refine zr_getr (j := 2) I24_31 F3_15 rfl (sT66 hS) (sR66_2 hS) ?_
  refine zr_iconst I24_34 ?_
  refine zl_ald0 I24_35 ?_
  refine zr_geti (j := 0) I24_36 F3_24 rfl (sT66 hS) ?_
  rw [zcpy_oth (by decide), zup_same]
  refine zr_acopy I24_39 C3_45 (sT26 hS) (sT68 hS) (sN26 hS) (sN68 hS) (by omega) (Nat.le_of_ble_eq_true rfl) ?_
  refine zl_ald1 I24_42 ?_
  refine zr_getr (j := 3) I24_43 F3_18 rfl (sT24 hS) (sR24_3 hS) ?_
  refine zr_iconst I24_46 ?_
  refine zl_ald0 I24_47 ?_
  refine zr_getr (j := 3) I24_48 F3_18 rfl (sT66 hS) (sR66_3 hS) ?_
  refine zr_iconst I24_51 ?_
  refine zl_ald0 I24_52 ?_
  refine zr_geti (j := 0) I24_53 F3_24 rfl (sT66 hS) ?_
  rw [zcpy_oth (by decide), zcpy_oth (by decide), zup_same]
  refine zr_acopy I24_56 C3_45 (sT27 hS) (sT69 hS) (sN27 hS) (sN69 hS) (by omega) (Nat.le_of_ble_eq_true rfl) ?_
  refine zl_ald1 I24_59 ?_
  refine zr_getr (j := 4) I24_60 F3_21 rfl (sT24 hS) (sR24_4 hS) ?_
  refine zr_iconst I24_63 ?_
  refine zl_ald0 I24_64 ?_
  refine zr_getr (j := 4) I24_65 F3_21 rfl (sT66 hS) (sR66_4 hS) ?_
  refine zr_iconst I24_68 ?_
  refine zl_ald0 I24_69 ?_
  refine zr_geti (j := 0) I24_70 F3_24 rfl (sT66 hS) ?_
  rw [zcpy_oth (by decide), zcpy_oth (by decide), zcpy_oth (by decide), zup_same]
  refine zr_acopy I24_73 C3_45 (sT28 hS) (sT70 hS) (sN28 hS) (sN70 hS) (by omega) (Nat.le_of_ble_eq_true rfl) ?_
  refine zr_vret I24_76 rfl ?_
  refine ⟨_, rfl, rfl, ⟨by rw [zcpy_oth (by decide), zcpy_oth (by decide), zcpy_oth (by decide), zcpy_oth (by decide), zup_same], fun k hk => by rw [zcpy_oth (by decide), zcpy_oth (by decide), zcpy_oth (by decide), zcpy_oth (by decide), zup_q, if_neg hk], fun i h1 h2 k => ?_⟩, fun r hr => by rw [zcpy_ne (by omega), zcpy_ne (by omega), zcpy_ne (by omega), zcpy_ne (by omega), zup_ne (by omega)], zBd_cpy (zBd_cpy (zBd_cpy (zBd_cpy (zBd_up hB (by omega)) (by decide)) (by decide)) (by decide)) (by decide)⟩
  rcases (show i = 1 ∨ i = 2 ∨ i = 3 ∨ i = 4 by omega) with rfl | rfl | rfl | rfl
  all_goals simp [zcpy, zup]
set_option maxRecDepth 10000 in
set_option maxHeartbeats 2000000 in
theorem e_X4_copyFrom_72_10 {d n sl : Nat} {S : zSh} {c : zC} (hS : zSok S) (hB : zBd c) (hc : 0 ≤ c 10 0 ∧ c 10 0 ≤ 16) : zE (d + 1) 27 0 (zent 27 [zA 72, zA 10]) [] ((n, sl), (S, c)) (fun r μ' => ∃ c', r = none ∧ μ' = ((n, sl), (S, c')) ∧ zCp1 c c' 72 10 4) := by
  show zE (d + 1) 27 0 [some (zA 72), some (zA 10)] [] ((n, sl), (S, c)) _
  refine zl_ald0 I27_0 ?_
  refine zl_ald1 I27_1 ?_
  refine zr_giB (j := 0) hB (by decide) I27_2 F4_24 rfl (sT10 hS) (fun b2 => ?_)
  refine zr_puti (j := 0) I27_5 F4_24 rfl (sT72 hS) ⟨rfl, fun h => absurd h (by decide)⟩ ?_
  refine zl_ald1 I27_8 ?_
  refine zr_getr (j := 1) I27_9 F4_9 rfl (sT10 hS) (sR10_1 hS) ?_
  refine zr_iconst I27_12 ?_
  refine zl_ald0 I27_13 ?_
  refine zr_getr (j := 1) I27_14 F4_9 rfl (sT72 hS) (sR72_1 hS) ?_
  refine zr_iconst I27_17 ?_
  refine zl_ald0 I27_18 ?_
  refine zr_geti (j := 0) I27_19 F4_24 rfl (sT72 hS) ?_
  rw [zup_same]
  refine zr_acopy I27_22 C4_28 (sT11 hS) (sT73 hS) (sN11 hS) (sN73 hS) (by omega) (Nat.le_of_ble_eq_true rfl) ?_
  refine zl_ald1 I27_25 ?_
  refine zr_getr (j := 2) I27_26 F4_15 rfl (sT10 hS) (sR10_2 hS) ?_
  refine zr_iconst I27_29 ?_
  refine zl_ald0 I27_30 ?_
  refine zr_getr (j := 2) I27_31 F4_15 rfl (sT72 hS) (sR72_2 hS) ?_
  refine zr_iconst I27_34 ?_
  refine zl_ald0 I27_35 ?_
  refine zr_geti (j := 0) I27_36 F4_24 rfl (sT72 hS) ?_
  rw [zcpy_oth (by decide), zup_same]
  refine zr_acopy I27_39 C4_28 (sT12 hS) (sT74 hS) (sN12 hS) (sN74 hS) (by omega) (Nat.le_of_ble_eq_true rfl) ?_
  refine zl_ald1 I27_42 ?_
  refine zr_getr (j := 3) I27_43 F4_18 rfl (sT10 hS) (sR10_3 hS) ?_
  refine zr_iconst I27_46 ?_
  refine zl_ald0 I27_47 ?_
  refine zr_getr (j := 3) I27_48 F4_18 rfl (sT72 hS) (sR72_3 hS) ?_
  refine zr_iconst I27_51 ?_
  refine zl_ald0 I27_52 ?_
  refine zr_geti (j := 0) I27_53 F4_24 rfl (sT72 hS) ?_
  rw [zcpy_oth (by decide), zcpy_oth (by decide), zup_same]
  refine zr_acopy I27_56 C4_28 (sT13 hS) (sT75 hS) (sN13 hS) (sN75 hS) (by omega) (Nat.le_of_ble_eq_true rfl) ?_
  refine zl_ald1 I27_59 ?_
  refine zr_getr (j := 4) I27_60 F4_21 rfl (sT10 hS) (sR10_4 hS) ?_
  refine zr_iconst I27_63 ?_
  refine zl_ald0 I27_64 ?_
  refine zr_getr (j := 4) I27_65 F4_21 rfl (sT72 hS) (sR72_4 hS) ?_
  refine zr_iconst I27_68 ?_
  refine zl_ald0 I27_69 ?_
  refine zr_geti (j := 0) I27_70 F4_24 rfl (sT72 hS) ?_
  rw [zcpy_oth (by decide), zcpy_oth (by decide), zcpy_oth (by decide), zup_same]
  refine zr_acopy I27_73 C4_28 (sT14 hS) (sT76 hS) (sN14 hS) (sN76 hS) (by omega) (Nat.le_of_ble_eq_true rfl) ?_
  refine zr_vret I27_76 rfl ?_
  refine ⟨_, rfl, rfl, ⟨by rw [zcpy_oth (by decide), zcpy_oth (by decide), zcpy_oth (by decide), zcpy_oth (by decide), zup_same], fun k hk => by rw [zcpy_oth (by decide), zcpy_oth (by decide), zcpy_oth (by decide), zcpy_oth (by decide), zup_q, if_neg hk], fun i h1 h2 k => ?_⟩, fun r hr => by rw [zcpy_ne (by omega), zcpy_ne (by omega), zcpy_ne (by omega), zcpy_ne (by omega), zup_ne (by omega)], zBd_cpy (zBd_cpy (zBd_cpy (zBd_cpy (zBd_up hB (by omega)) (by decide)) (by decide)) (by decide)) (by decide)⟩
  rcases (show i = 1 ∨ i = 2 ∨ i = 3 ∨ i = 4 by omega) with rfl | rfl | rfl | rfl
  all_goals simp [zcpy, zup]
set_option maxRecDepth 10000 in
set_option maxHeartbeats 2000000 in
theorem e_X5_copyFrom_77_15 {d n sl : Nat} {S : zSh} {c : zC} (hS : zSok S) (hB : zBd c) (hc : 0 ≤ c 15 0 ∧ c 15 0 ≤ 30) : zE (d + 1) 31 0 (zent 31 [zA 77, zA 15]) [] ((n, sl), (S, c)) (fun r μ' => ∃ c', r = none ∧ μ' = ((n, sl), (S, c')) ∧ zCp1 c c' 77 15 4) := by
  show zE (d + 1) 31 0 [some (zA 77), some (zA 15)] [] ((n, sl), (S, c)) _
  refine zl_ald0 I31_0 ?_
  refine zl_ald1 I31_1 ?_
  refine zr_giB (j := 0) hB (by decide) I31_2 F5_24 rfl (sT15 hS) (fun b2 => ?_)
  refine zr_puti (j := 0) I31_5 F5_24 rfl (sT77 hS) ⟨rfl, fun h => absurd h (by decide)⟩ ?_
  refine zl_ald1 I31_8 ?_
  refine zr_getr (j := 1) I31_9 F5_9 rfl (sT15 hS) (sR15_1 hS) ?_
  refine zr_iconst I31_12 ?_
  refine zl_ald0 I31_13 ?_
  refine zr_getr (j := 1) I31_14 F5_9 rfl (sT77 hS) (sR77_1 hS) ?_
  refine zr_iconst I31_17 ?_
  refine zl_ald0 I31_18 ?_
  refine zr_geti (j := 0) I31_19 F5_24 rfl (sT77 hS) ?_
  rw [zup_same]
  refine zr_acopy I31_22 C5_28 (sT16 hS) (sT78 hS) (sN16 hS) (sN78 hS) (by omega) (Nat.le_of_ble_eq_true rfl) ?_
  refine zl_ald1 I31_25 ?_
  refine zr_getr (j := 2) I31_26 F5_15 rfl (sT15 hS) (sR15_2 hS) ?_
  refine zr_iconst I31_29 ?_
  refine zl_ald0 I31_30 ?_
  refine zr_getr (j := 2) I31_31 F5_15 rfl (sT77 hS) (sR77_2 hS) ?_
  refine zr_iconst I31_34 ?_
  refine zl_ald0 I31_35 ?_
  refine zr_geti (j := 0) I31_36 F5_24 rfl (sT77 hS) ?_
  rw [zcpy_oth (by decide), zup_same]
  refine zr_acopy I31_39 C5_28 (sT17 hS) (sT79 hS) (sN17 hS) (sN79 hS) (by omega) (Nat.le_of_ble_eq_true rfl) ?_
  refine zl_ald1 I31_42 ?_
  refine zr_getr (j := 3) I31_43 F5_18 rfl (sT15 hS) (sR15_3 hS) ?_
  refine zr_iconst I31_46 ?_
  refine zl_ald0 I31_47 ?_
  refine zr_getr (j := 3) I31_48 F5_18 rfl (sT77 hS) (sR77_3 hS) ?_
  refine zr_iconst I31_51 ?_
  refine zl_ald0 I31_52 ?_
  refine zr_geti (j := 0) I31_53 F5_24 rfl (sT77 hS) ?_
  rw [zcpy_oth (by decide), zcpy_oth (by decide), zup_same]
  refine zr_acopy I31_56 C5_28 (sT18 hS) (sT80 hS) (sN18 hS) (sN80 hS) (by omega) (Nat.le_of_ble_eq_true rfl) ?_
  refine zl_ald1 I31_59 ?_
  refine zr_getr (j := 4) I31_60 F5_21 rfl (sT15 hS) (sR15_4 hS) ?_
  refine zr_iconst I31_63 ?_
  refine zl_ald0 I31_64 ?_
  refine zr_getr (j := 4) I31_65 F5_21 rfl (sT77 hS) (sR77_4 hS) ?_
  refine zr_iconst I31_68 ?_
  refine zl_ald0 I31_69 ?_
  refine zr_geti (j := 0) I31_70 F5_24 rfl (sT77 hS) ?_
  rw [zcpy_oth (by decide), zcpy_oth (by decide), zcpy_oth (by decide), zup_same]
  refine zr_acopy I31_73 C5_28 (sT19 hS) (sT81 hS) (sN19 hS) (sN81 hS) (by omega) (Nat.le_of_ble_eq_true rfl) ?_
  refine zr_vret I31_76 rfl ?_
  refine ⟨_, rfl, rfl, ⟨by rw [zcpy_oth (by decide), zcpy_oth (by decide), zcpy_oth (by decide), zcpy_oth (by decide), zup_same], fun k hk => by rw [zcpy_oth (by decide), zcpy_oth (by decide), zcpy_oth (by decide), zcpy_oth (by decide), zup_q, if_neg hk], fun i h1 h2 k => ?_⟩, fun r hr => by rw [zcpy_ne (by omega), zcpy_ne (by omega), zcpy_ne (by omega), zcpy_ne (by omega), zup_ne (by omega)], zBd_cpy (zBd_cpy (zBd_cpy (zBd_cpy (zBd_up hB (by omega)) (by decide)) (by decide)) (by decide)) (by decide)⟩
  rcases (show i = 1 ∨ i = 2 ∨ i = 3 ∨ i = 4 by omega) with rfl | rfl | rfl | rfl
  all_goals simp [zcpy, zup]
set_option maxRecDepth 10000 in
set_option maxHeartbeats 2000000 in
theorem e_X0_copyFrom_82_20 {d n sl : Nat} {S : zSh} {c : zC} (hS : zSok S) (hB : zBd c) (hc : 0 ≤ c 20 0 ∧ c 20 0 ≤ 10) : zE (d + 1) 3 0 (zent 3 [zA 82, zA 20]) [] ((n, sl), (S, c)) (fun r μ' => ∃ c', r = none ∧ μ' = ((n, sl), (S, c')) ∧ zCp1 c c' 82 20 3) := by
  show zE (d + 1) 3 0 [some (zA 82), some (zA 20)] [] ((n, sl), (S, c)) _
  refine zl_ald0 I3_0 ?_
  refine zl_ald1 I3_1 ?_
  refine zr_giB (j := 0) hB (by decide) I3_2 F0_21 rfl (sT20 hS) (fun b2 => ?_)
  refine zr_puti (j := 0) I3_5 F0_21 rfl (sT82 hS) ⟨rfl, fun h => absurd h (by decide)⟩ ?_
  refine zl_ald1 I3_8 ?_
  refine zr_getr (j := 1) I3_9 F0_9 rfl (sT20 hS) (sR20_1 hS) ?_
  refine zr_iconst I3_12 ?_
  refine zl_ald0 I3_13 ?_
  refine zr_getr (j := 1) I3_14 F0_9 rfl (sT82 hS) (sR82_1 hS) ?_
  refine zr_iconst I3_17 ?_
  refine zl_ald0 I3_18 ?_
  refine zr_geti (j := 0) I3_19 F0_21 rfl (sT82 hS) ?_
  rw [zup_same]
  refine zr_acopy I3_22 C0_25 (sT21 hS) (sT83 hS) (sN21 hS) (sN83 hS) (by omega) (Nat.le_of_ble_eq_true rfl) ?_
  refine zl_ald1 I3_25 ?_
  refine zr_getr (j := 2) I3_26 F0_15 rfl (sT20 hS) (sR20_2 hS) ?_
  refine zr_iconst I3_29 ?_
  refine zl_ald0 I3_30 ?_
  refine zr_getr (j := 2) I3_31 F0_15 rfl (sT82 hS) (sR82_2 hS) ?_
  refine zr_iconst I3_34 ?_
  refine zl_ald0 I3_35 ?_
  refine zr_geti (j := 0) I3_36 F0_21 rfl (sT82 hS) ?_
  rw [zcpy_oth (by decide), zup_same]
  refine zr_acopy I3_39 C0_25 (sT22 hS) (sT84 hS) (sN22 hS) (sN84 hS) (by omega) (Nat.le_of_ble_eq_true rfl) ?_
  refine zl_ald1 I3_42 ?_
  refine zr_getr (j := 3) I3_43 F0_18 rfl (sT20 hS) (sR20_3 hS) ?_
  refine zr_iconst I3_46 ?_
  refine zl_ald0 I3_47 ?_
  refine zr_getr (j := 3) I3_48 F0_18 rfl (sT82 hS) (sR82_3 hS) ?_
  refine zr_iconst I3_51 ?_
  refine zl_ald0 I3_52 ?_
  refine zr_geti (j := 0) I3_53 F0_21 rfl (sT82 hS) ?_
  rw [zcpy_oth (by decide), zcpy_oth (by decide), zup_same]
  refine zr_acopy I3_56 C0_25 (sT23 hS) (sT85 hS) (sN23 hS) (sN85 hS) (by omega) (Nat.le_of_ble_eq_true rfl) ?_
  refine zr_vret I3_59 rfl ?_
  refine ⟨_, rfl, rfl, ⟨by rw [zcpy_oth (by decide), zcpy_oth (by decide), zcpy_oth (by decide), zup_same], fun k hk => by rw [zcpy_oth (by decide), zcpy_oth (by decide), zcpy_oth (by decide), zup_q, if_neg hk], fun i h1 h2 k => ?_⟩, fun r hr => by rw [zcpy_ne (by omega), zcpy_ne (by omega), zcpy_ne (by omega), zup_ne (by omega)], zBd_cpy (zBd_cpy (zBd_cpy (zBd_up hB (by omega)) (by decide)) (by decide)) (by decide)⟩
  rcases (show i = 1 ∨ i = 2 ∨ i = 3 by omega) with rfl | rfl | rfl
  all_goals simp [zcpy, zup]
set_option maxRecDepth 10000 in
set_option maxHeartbeats 2000000 in
theorem e_X3_copyFrom_86_24 {d n sl : Nat} {S : zSh} {c : zC} (hS : zSok S) (hB : zBd c) (hc : 0 ≤ c 24 0 ∧ c 24 0 ≤ 60) : zE (d + 1) 24 0 (zent 24 [zA 86, zA 24]) [] ((n, sl), (S, c)) (fun r μ' => ∃ c', r = none ∧ μ' = ((n, sl), (S, c')) ∧ zCp1 c c' 86 24 4) := by
  show zE (d + 1) 24 0 [some (zA 86), some (zA 24)] [] ((n, sl), (S, c)) _
  refine zl_ald0 I24_0 ?_
  refine zl_ald1 I24_1 ?_
  refine zr_giB (j := 0) hB (by decide) I24_2 F3_24 rfl (sT24 hS) (fun b2 => ?_)
  refine zr_puti (j := 0) I24_5 F3_24 rfl (sT86 hS) ⟨rfl, fun h => absurd h (by decide)⟩ ?_
  refine zl_ald1 I24_8 ?_
  refine zr_getr (j := 1) I24_9 F3_9 rfl (sT24 hS) (sR24_1 hS) ?_
  refine zr_iconst I24_12 ?_
  refine zl_ald0 I24_13 ?_
  refine zr_getr (j := 1) I24_14 F3_9 rfl (sT86 hS) (sR86_1 hS) ?_
  refine zr_iconst I24_17 ?_
  refine zl_ald0 I24_18 ?_
  refine zr_geti (j := 0) I24_19 F3_24 rfl (sT86 hS) ?_
  rw [zup_same]
  refine zr_acopy I24_22 C3_45 (sT25 hS) (sT87 hS) (sN25 hS) (sN87 hS) (by omega) (Nat.le_of_ble_eq_true rfl) ?_
  refine zl_ald1 I24_25 ?_
  refine zr_getr (j := 2) I24_26 F3_15 rfl (sT24 hS) (sR24_2 hS) ?_
  refine zr_iconst I24_29 ?_
  refine zl_ald0 I24_30 ?_
  refine zr_getr (j := 2) I24_31 F3_15 rfl (sT86 hS) (sR86_2 hS) ?_
  refine zr_iconst I24_34 ?_
  refine zl_ald0 I24_35 ?_
  refine zr_geti (j := 0) I24_36 F3_24 rfl (sT86 hS) ?_
  rw [zcpy_oth (by decide), zup_same]
  refine zr_acopy I24_39 C3_45 (sT26 hS) (sT88 hS) (sN26 hS) (sN88 hS) (by omega) (Nat.le_of_ble_eq_true rfl) ?_
  refine zl_ald1 I24_42 ?_
  refine zr_getr (j := 3) I24_43 F3_18 rfl (sT24 hS) (sR24_3 hS) ?_
  refine zr_iconst I24_46 ?_
  refine zl_ald0 I24_47 ?_
  refine zr_getr (j := 3) I24_48 F3_18 rfl (sT86 hS) (sR86_3 hS) ?_
  refine zr_iconst I24_51 ?_
  refine zl_ald0 I24_52 ?_
  refine zr_geti (j := 0) I24_53 F3_24 rfl (sT86 hS) ?_
  rw [zcpy_oth (by decide), zcpy_oth (by decide), zup_same]
  refine zr_acopy I24_56 C3_45 (sT27 hS) (sT89 hS) (sN27 hS) (sN89 hS) (by omega) (Nat.le_of_ble_eq_true rfl) ?_
  refine zl_ald1 I24_59 ?_
  refine zr_getr (j := 4) I24_60 F3_21 rfl (sT24 hS) (sR24_4 hS) ?_
  refine zr_iconst I24_63 ?_
  refine zl_ald0 I24_64 ?_
  refine zr_getr (j := 4) I24_65 F3_21 rfl (sT86 hS) (sR86_4 hS) ?_
  refine zr_iconst I24_68 ?_
  refine zl_ald0 I24_69 ?_
  refine zr_geti (j := 0) I24_70 F3_24 rfl (sT86 hS) ?_
  rw [zcpy_oth (by decide), zcpy_oth (by decide), zcpy_oth (by decide), zup_same]
  refine zr_acopy I24_73 C3_45 (sT28 hS) (sT90 hS) (sN28 hS) (sN90 hS) (by omega) (Nat.le_of_ble_eq_true rfl) ?_
  refine zr_vret I24_76 rfl ?_
  refine ⟨_, rfl, rfl, ⟨by rw [zcpy_oth (by decide), zcpy_oth (by decide), zcpy_oth (by decide), zcpy_oth (by decide), zup_same], fun k hk => by rw [zcpy_oth (by decide), zcpy_oth (by decide), zcpy_oth (by decide), zcpy_oth (by decide), zup_q, if_neg hk], fun i h1 h2 k => ?_⟩, fun r hr => by rw [zcpy_ne (by omega), zcpy_ne (by omega), zcpy_ne (by omega), zcpy_ne (by omega), zup_ne (by omega)], zBd_cpy (zBd_cpy (zBd_cpy (zBd_cpy (zBd_up hB (by omega)) (by decide)) (by decide)) (by decide)) (by decide)⟩
  rcases (show i = 1 ∨ i = 2 ∨ i = 3 ∨ i = 4 by omega) with rfl | rfl | rfl | rfl
  all_goals simp [zcpy, zup]
set_option maxRecDepth 10000 in
set_option maxHeartbeats 2000000 in
theorem e_X4_copyFrom_92_10 {d n sl : Nat} {S : zSh} {c : zC} (hS : zSok S) (hB : zBd c) (hc : 0 ≤ c 10 0 ∧ c 10 0 ≤ 16) : zE (d + 1) 27 0 (zent 27 [zA 92, zA 10]) [] ((n, sl), (S, c)) (fun r μ' => ∃ c', r = none ∧ μ' = ((n, sl), (S, c')) ∧ zCp1 c c' 92 10 4) := by
  show zE (d + 1) 27 0 [some (zA 92), some (zA 10)] [] ((n, sl), (S, c)) _
  refine zl_ald0 I27_0 ?_
  refine zl_ald1 I27_1 ?_
  refine zr_giB (j := 0) hB (by decide) I27_2 F4_24 rfl (sT10 hS) (fun b2 => ?_)
  refine zr_puti (j := 0) I27_5 F4_24 rfl (sT92 hS) ⟨rfl, fun h => absurd h (by decide)⟩ ?_
  refine zl_ald1 I27_8 ?_
  refine zr_getr (j := 1) I27_9 F4_9 rfl (sT10 hS) (sR10_1 hS) ?_
  refine zr_iconst I27_12 ?_
  refine zl_ald0 I27_13 ?_
  refine zr_getr (j := 1) I27_14 F4_9 rfl (sT92 hS) (sR92_1 hS) ?_
  refine zr_iconst I27_17 ?_
  refine zl_ald0 I27_18 ?_
  refine zr_geti (j := 0) I27_19 F4_24 rfl (sT92 hS) ?_
  rw [zup_same]
  refine zr_acopy I27_22 C4_28 (sT11 hS) (sT93 hS) (sN11 hS) (sN93 hS) (by omega) (Nat.le_of_ble_eq_true rfl) ?_
  refine zl_ald1 I27_25 ?_
  refine zr_getr (j := 2) I27_26 F4_15 rfl (sT10 hS) (sR10_2 hS) ?_
  refine zr_iconst I27_29 ?_
  refine zl_ald0 I27_30 ?_
  refine zr_getr (j := 2) I27_31 F4_15 rfl (sT92 hS) (sR92_2 hS) ?_
  refine zr_iconst I27_34 ?_
  refine zl_ald0 I27_35 ?_
  refine zr_geti (j := 0) I27_36 F4_24 rfl (sT92 hS) ?_
  rw [zcpy_oth (by decide), zup_same]
  refine zr_acopy I27_39 C4_28 (sT12 hS) (sT94 hS) (sN12 hS) (sN94 hS) (by omega) (Nat.le_of_ble_eq_true rfl) ?_
  refine zl_ald1 I27_42 ?_
  refine zr_getr (j := 3) I27_43 F4_18 rfl (sT10 hS) (sR10_3 hS) ?_
  refine zr_iconst I27_46 ?_
  refine zl_ald0 I27_47 ?_
  refine zr_getr (j := 3) I27_48 F4_18 rfl (sT92 hS) (sR92_3 hS) ?_
  refine zr_iconst I27_51 ?_
  refine zl_ald0 I27_52 ?_
  refine zr_geti (j := 0) I27_53 F4_24 rfl (sT92 hS) ?_
  rw [zcpy_oth (by decide), zcpy_oth (by decide), zup_same]
  refine zr_acopy I27_56 C4_28 (sT13 hS) (sT95 hS) (sN13 hS) (sN95 hS) (by omega) (Nat.le_of_ble_eq_true rfl) ?_
  refine zl_ald1 I27_59 ?_
  refine zr_getr (j := 4) I27_60 F4_21 rfl (sT10 hS) (sR10_4 hS) ?_
  refine zr_iconst I27_63 ?_
  refine zl_ald0 I27_64 ?_
  refine zr_getr (j := 4) I27_65 F4_21 rfl (sT92 hS) (sR92_4 hS) ?_
  refine zr_iconst I27_68 ?_
  refine zl_ald0 I27_69 ?_
  refine zr_geti (j := 0) I27_70 F4_24 rfl (sT92 hS) ?_
  rw [zcpy_oth (by decide), zcpy_oth (by decide), zcpy_oth (by decide), zup_same]
  refine zr_acopy I27_73 C4_28 (sT14 hS) (sT96 hS) (sN14 hS) (sN96 hS) (by omega) (Nat.le_of_ble_eq_true rfl) ?_
  refine zr_vret I27_76 rfl ?_
  refine ⟨_, rfl, rfl, ⟨by rw [zcpy_oth (by decide), zcpy_oth (by decide), zcpy_oth (by decide), zcpy_oth (by decide), zup_same], fun k hk => by rw [zcpy_oth (by decide), zcpy_oth (by decide), zcpy_oth (by decide), zcpy_oth (by decide), zup_q, if_neg hk], fun i h1 h2 k => ?_⟩, fun r hr => by rw [zcpy_ne (by omega), zcpy_ne (by omega), zcpy_ne (by omega), zcpy_ne (by omega), zup_ne (by omega)], zBd_cpy (zBd_cpy (zBd_cpy (zBd_cpy (zBd_up hB (by omega)) (by decide)) (by decide)) (by decide)) (by decide)⟩
  rcases (show i = 1 ∨ i = 2 ∨ i = 3 ∨ i = 4 by omega) with rfl | rfl | rfl | rfl
  all_goals simp [zcpy, zup]
set_option maxRecDepth 10000 in
set_option maxHeartbeats 2000000 in
theorem e_X5_copyFrom_97_15 {d n sl : Nat} {S : zSh} {c : zC} (hS : zSok S) (hB : zBd c) (hc : 0 ≤ c 15 0 ∧ c 15 0 ≤ 30) : zE (d + 1) 31 0 (zent 31 [zA 97, zA 15]) [] ((n, sl), (S, c)) (fun r μ' => ∃ c', r = none ∧ μ' = ((n, sl), (S, c')) ∧ zCp1 c c' 97 15 4) := by
  show zE (d + 1) 31 0 [some (zA 97), some (zA 15)] [] ((n, sl), (S, c)) _
  refine zl_ald0 I31_0 ?_
  refine zl_ald1 I31_1 ?_
  refine zr_giB (j := 0) hB (by decide) I31_2 F5_24 rfl (sT15 hS) (fun b2 => ?_)
  refine zr_puti (j := 0) I31_5 F5_24 rfl (sT97 hS) ⟨rfl, fun h => absurd h (by decide)⟩ ?_
  refine zl_ald1 I31_8 ?_
  refine zr_getr (j := 1) I31_9 F5_9 rfl (sT15 hS) (sR15_1 hS) ?_
  refine zr_iconst I31_12 ?_
  refine zl_ald0 I31_13 ?_
  refine zr_getr (j := 1) I31_14 F5_9 rfl (sT97 hS) (sR97_1 hS) ?_
  refine zr_iconst I31_17 ?_
  refine zl_ald0 I31_18 ?_
  refine zr_geti (j := 0) I31_19 F5_24 rfl (sT97 hS) ?_
  rw [zup_same]
  refine zr_acopy I31_22 C5_28 (sT16 hS) (sT98 hS) (sN16 hS) (sN98 hS) (by omega) (Nat.le_of_ble_eq_true rfl) ?_
  refine zl_ald1 I31_25 ?_
  refine zr_getr (j := 2) I31_26 F5_15 rfl (sT15 hS) (sR15_2 hS) ?_
  refine zr_iconst I31_29 ?_
  refine zl_ald0 I31_30 ?_
  refine zr_getr (j := 2) I31_31 F5_15 rfl (sT97 hS) (sR97_2 hS) ?_
  refine zr_iconst I31_34 ?_
  refine zl_ald0 I31_35 ?_
  refine zr_geti (j := 0) I31_36 F5_24 rfl (sT97 hS) ?_
  rw [zcpy_oth (by decide), zup_same]
  refine zr_acopy I31_39 C5_28 (sT17 hS) (sT99 hS) (sN17 hS) (sN99 hS) (by omega) (Nat.le_of_ble_eq_true rfl) ?_
  refine zl_ald1 I31_42 ?_
  refine zr_getr (j := 3) I31_43 F5_18 rfl (sT15 hS) (sR15_3 hS) ?_
  refine zr_iconst I31_46 ?_
  refine zl_ald0 I31_47 ?_
  refine zr_getr (j := 3) I31_48 F5_18 rfl (sT97 hS) (sR97_3 hS) ?_
  refine zr_iconst I31_51 ?_
  refine zl_ald0 I31_52 ?_
  refine zr_geti (j := 0) I31_53 F5_24 rfl (sT97 hS) ?_
  rw [zcpy_oth (by decide), zcpy_oth (by decide), zup_same]
  refine zr_acopy I31_56 C5_28 (sT18 hS) (sT100 hS) (sN18 hS) (sN100 hS) (by omega) (Nat.le_of_ble_eq_true rfl) ?_
  refine zl_ald1 I31_59 ?_
  refine zr_getr (j := 4) I31_60 F5_21 rfl (sT15 hS) (sR15_4 hS) ?_
  refine zr_iconst I31_63 ?_
  refine zl_ald0 I31_64 ?_
  refine zr_getr (j := 4) I31_65 F5_21 rfl (sT97 hS) (sR97_4 hS) ?_
  refine zr_iconst I31_68 ?_
  refine zl_ald0 I31_69 ?_
  refine zr_geti (j := 0) I31_70 F5_24 rfl (sT97 hS) ?_
  rw [zcpy_oth (by decide), zcpy_oth (by decide), zcpy_oth (by decide), zup_same]
  refine zr_acopy I31_73 C5_28 (sT19 hS) (sT101 hS) (sN19 hS) (sN101 hS) (by omega) (Nat.le_of_ble_eq_true rfl) ?_
  refine zr_vret I31_76 rfl ?_
  refine ⟨_, rfl, rfl, ⟨by rw [zcpy_oth (by decide), zcpy_oth (by decide), zcpy_oth (by decide), zcpy_oth (by decide), zup_same], fun k hk => by rw [zcpy_oth (by decide), zcpy_oth (by decide), zcpy_oth (by decide), zcpy_oth (by decide), zup_q, if_neg hk], fun i h1 h2 k => ?_⟩, fun r hr => by rw [zcpy_ne (by omega), zcpy_ne (by omega), zcpy_ne (by omega), zcpy_ne (by omega), zup_ne (by omega)], zBd_cpy (zBd_cpy (zBd_cpy (zBd_cpy (zBd_up hB (by omega)) (by decide)) (by decide)) (by decide)) (by decide)⟩
  rcases (show i = 1 ∨ i = 2 ∨ i = 3 ∨ i = 4 by omega) with rfl | rfl | rfl | rfl
  all_goals simp [zcpy, zup]
set_option maxRecDepth 10000 in
set_option maxHeartbeats 2000000 in
theorem e_X0_copyFrom_102_20 {d n sl : Nat} {S : zSh} {c : zC} (hS : zSok S) (hB : zBd c) (hc : 0 ≤ c 20 0 ∧ c 20 0 ≤ 10) : zE (d + 1) 3 0 (zent 3 [zA 102, zA 20]) [] ((n, sl), (S, c)) (fun r μ' => ∃ c', r = none ∧ μ' = ((n, sl), (S, c')) ∧ zCp1 c c' 102 20 3) := by
  show zE (d + 1) 3 0 [some (zA 102), some (zA 20)] [] ((n, sl), (S, c)) _
  refine zl_ald0 I3_0 ?_
  refine zl_ald1 I3_1 ?_
  refine zr_giB (j := 0) hB (by decide) I3_2 F0_21 rfl (sT20 hS) (fun b2 => ?_)
  refine zr_puti (j := 0) I3_5 F0_21 rfl (sT102 hS) ⟨rfl, fun h => absurd h (by decide)⟩ ?_
  refine zl_ald1 I3_8 ?_
  refine zr_getr (j := 1) I3_9 F0_9 rfl (sT20 hS) (sR20_1 hS) ?_
  refine zr_iconst I3_12 ?_
  refine zl_ald0 I3_13 ?_
  refine zr_getr (j := 1) I3_14 F0_9 rfl (sT102 hS) (sR102_1 hS) ?_
  refine zr_iconst I3_17 ?_
  refine zl_ald0 I3_18 ?_
  refine zr_geti (j := 0) I3_19 F0_21 rfl (sT102 hS) ?_
  rw [zup_same]
  refine zr_acopy I3_22 C0_25 (sT21 hS) (sT103 hS) (sN21 hS) (sN103 hS) (by omega) (Nat.le_of_ble_eq_true rfl) ?_
  refine zl_ald1 I3_25 ?_
  refine zr_getr (j := 2) I3_26 F0_15 rfl (sT20 hS) (sR20_2 hS) ?_
  refine zr_iconst I3_29 ?_
  refine zl_ald0 I3_30 ?_
  refine zr_getr (j := 2) I3_31 F0_15 rfl (sT102 hS) (sR102_2 hS) ?_
  refine zr_iconst I3_34 ?_
  refine zl_ald0 I3_35 ?_
  refine zr_geti (j := 0) I3_36 F0_21 rfl (sT102 hS) ?_
  rw [zcpy_oth (by decide), zup_same]
  refine zr_acopy I3_39 C0_25 (sT22 hS) (sT104 hS) (sN22 hS) (sN104 hS) (by omega) (Nat.le_of_ble_eq_true rfl) ?_
  refine zl_ald1 I3_42 ?_
  refine zr_getr (j := 3) I3_43 F0_18 rfl (sT20 hS) (sR20_3 hS) ?_
  refine zr_iconst I3_46 ?_
  refine zl_ald0 I3_47 ?_
  refine zr_getr (j := 3) I3_48 F0_18 rfl (sT102 hS) (sR102_3 hS) ?_
  refine zr_iconst I3_51 ?_
  refine zl_ald0 I3_52 ?_
  refine zr_geti (j := 0) I3_53 F0_21 rfl (sT102 hS) ?_
  rw [zcpy_oth (by decide), zcpy_oth (by decide), zup_same]
  refine zr_acopy I3_56 C0_25 (sT23 hS) (sT105 hS) (sN23 hS) (sN105 hS) (by omega) (Nat.le_of_ble_eq_true rfl) ?_
  refine zr_vret I3_59 rfl ?_
  refine ⟨_, rfl, rfl, ⟨by rw [zcpy_oth (by decide), zcpy_oth (by decide), zcpy_oth (by decide), zup_same], fun k hk => by rw [zcpy_oth (by decide), zcpy_oth (by decide), zcpy_oth (by decide), zup_q, if_neg hk], fun i h1 h2 k => ?_⟩, fun r hr => by rw [zcpy_ne (by omega), zcpy_ne (by omega), zcpy_ne (by omega), zup_ne (by omega)], zBd_cpy (zBd_cpy (zBd_cpy (zBd_up hB (by omega)) (by decide)) (by decide)) (by decide)⟩
  rcases (show i = 1 ∨ i = 2 ∨ i = 3 by omega) with rfl | rfl | rfl
  all_goals simp [zcpy, zup]
set_option maxRecDepth 10000 in
set_option maxHeartbeats 2000000 in
theorem e_X3_copyFrom_106_24 {d n sl : Nat} {S : zSh} {c : zC} (hS : zSok S) (hB : zBd c) (hc : 0 ≤ c 24 0 ∧ c 24 0 ≤ 60) : zE (d + 1) 24 0 (zent 24 [zA 106, zA 24]) [] ((n, sl), (S, c)) (fun r μ' => ∃ c', r = none ∧ μ' = ((n, sl), (S, c')) ∧ zCp1 c c' 106 24 4) := by
  show zE (d + 1) 24 0 [some (zA 106), some (zA 24)] [] ((n, sl), (S, c)) _
  refine zl_ald0 I24_0 ?_
  refine zl_ald1 I24_1 ?_
  refine zr_giB (j := 0) hB (by decide) I24_2 F3_24 rfl (sT24 hS) (fun b2 => ?_)
  refine zr_puti (j := 0) I24_5 F3_24 rfl (sT106 hS) ⟨rfl, fun h => absurd h (by decide)⟩ ?_
  refine zl_ald1 I24_8 ?_
  refine zr_getr (j := 1) I24_9 F3_9 rfl (sT24 hS) (sR24_1 hS) ?_
  refine zr_iconst I24_12 ?_
  refine zl_ald0 I24_13 ?_
  refine zr_getr (j := 1) I24_14 F3_9 rfl (sT106 hS) (sR106_1 hS) ?_
  refine zr_iconst I24_17 ?_
  refine zl_ald0 I24_18 ?_
  refine zr_geti (j := 0) I24_19 F3_24 rfl (sT106 hS) ?_
  rw [zup_same]
  refine zr_acopy I24_22 C3_45 (sT25 hS) (sT107 hS) (sN25 hS) (sN107 hS) (by omega) (Nat.le_of_ble_eq_true rfl) ?_
  refine zl_ald1 I24_25 ?_
  refine zr_getr (j := 2) I24_26 F3_15 rfl (sT24 hS) (sR24_2 hS) ?_
  refine zr_iconst I24_29 ?_
  refine zl_ald0 I24_30 ?_
  refine zr_getr (j := 2) I24_31 F3_15 rfl (sT106 hS) (sR106_2 hS) ?_
  refine zr_iconst I24_34 ?_
  refine zl_ald0 I24_35 ?_
  refine zr_geti (j := 0) I24_36 F3_24 rfl (sT106 hS) ?_
  rw [zcpy_oth (by decide), zup_same]
  refine zr_acopy I24_39 C3_45 (sT26 hS) (sT108 hS) (sN26 hS) (sN108 hS) (by omega) (Nat.le_of_ble_eq_true rfl) ?_
  refine zl_ald1 I24_42 ?_
  refine zr_getr (j := 3) I24_43 F3_18 rfl (sT24 hS) (sR24_3 hS) ?_
  refine zr_iconst I24_46 ?_
  refine zl_ald0 I24_47 ?_
  refine zr_getr (j := 3) I24_48 F3_18 rfl (sT106 hS) (sR106_3 hS) ?_
  refine zr_iconst I24_51 ?_
  refine zl_ald0 I24_52 ?_
  refine zr_geti (j := 0) I24_53 F3_24 rfl (sT106 hS) ?_
  rw [zcpy_oth (by decide), zcpy_oth (by decide), zup_same]
  refine zr_acopy I24_56 C3_45 (sT27 hS) (sT109 hS) (sN27 hS) (sN109 hS) (by omega) (Nat.le_of_ble_eq_true rfl) ?_
  refine zl_ald1 I24_59 ?_
  refine zr_getr (j := 4) I24_60 F3_21 rfl (sT24 hS) (sR24_4 hS) ?_
  refine zr_iconst I24_63 ?_
  refine zl_ald0 I24_64 ?_
  refine zr_getr (j := 4) I24_65 F3_21 rfl (sT106 hS) (sR106_4 hS) ?_
  refine zr_iconst I24_68 ?_
  refine zl_ald0 I24_69 ?_
  refine zr_geti (j := 0) I24_70 F3_24 rfl (sT106 hS) ?_
  rw [zcpy_oth (by decide), zcpy_oth (by decide), zcpy_oth (by decide), zup_same]
  refine zr_acopy I24_73 C3_45 (sT28 hS) (sT110 hS) (sN28 hS) (sN110 hS) (by omega) (Nat.le_of_ble_eq_true rfl) ?_
  refine zr_vret I24_76 rfl ?_
  refine ⟨_, rfl, rfl, ⟨by rw [zcpy_oth (by decide), zcpy_oth (by decide), zcpy_oth (by decide), zcpy_oth (by decide), zup_same], fun k hk => by rw [zcpy_oth (by decide), zcpy_oth (by decide), zcpy_oth (by decide), zcpy_oth (by decide), zup_q, if_neg hk], fun i h1 h2 k => ?_⟩, fun r hr => by rw [zcpy_ne (by omega), zcpy_ne (by omega), zcpy_ne (by omega), zcpy_ne (by omega), zup_ne (by omega)], zBd_cpy (zBd_cpy (zBd_cpy (zBd_cpy (zBd_up hB (by omega)) (by decide)) (by decide)) (by decide)) (by decide)⟩
  rcases (show i = 1 ∨ i = 2 ∨ i = 3 ∨ i = 4 by omega) with rfl | rfl | rfl | rfl
  all_goals simp [zcpy, zup]
set_option maxRecDepth 10000 in
set_option maxHeartbeats 2000000 in
theorem e_X4_copyFrom_112_10 {d n sl : Nat} {S : zSh} {c : zC} (hS : zSok S) (hB : zBd c) (hc : 0 ≤ c 10 0 ∧ c 10 0 ≤ 16) : zE (d + 1) 27 0 (zent 27 [zA 112, zA 10]) [] ((n, sl), (S, c)) (fun r μ' => ∃ c', r = none ∧ μ' = ((n, sl), (S, c')) ∧ zCp1 c c' 112 10 4) := by
  show zE (d + 1) 27 0 [some (zA 112), some (zA 10)] [] ((n, sl), (S, c)) _
  refine zl_ald0 I27_0 ?_
  refine zl_ald1 I27_1 ?_
  refine zr_giB (j := 0) hB (by decide) I27_2 F4_24 rfl (sT10 hS) (fun b2 => ?_)
  refine zr_puti (j := 0) I27_5 F4_24 rfl (sT112 hS) ⟨rfl, fun h => absurd h (by decide)⟩ ?_
  refine zl_ald1 I27_8 ?_
  refine zr_getr (j := 1) I27_9 F4_9 rfl (sT10 hS) (sR10_1 hS) ?_
  refine zr_iconst I27_12 ?_
  refine zl_ald0 I27_13 ?_
  refine zr_getr (j := 1) I27_14 F4_9 rfl (sT112 hS) (sR112_1 hS) ?_
  refine zr_iconst I27_17 ?_
  refine zl_ald0 I27_18 ?_
  refine zr_geti (j := 0) I27_19 F4_24 rfl (sT112 hS) ?_
  rw [zup_same]
  refine zr_acopy I27_22 C4_28 (sT11 hS) (sT113 hS) (sN11 hS) (sN113 hS) (by omega) (Nat.le_of_ble_eq_true rfl) ?_
  refine zl_ald1 I27_25 ?_
  refine zr_getr (j := 2) I27_26 F4_15 rfl (sT10 hS) (sR10_2 hS) ?_
  refine zr_iconst I27_29 ?_
  refine zl_ald0 I27_30 ?_
  refine zr_getr (j := 2) I27_31 F4_15 rfl (sT112 hS) (sR112_2 hS) ?_
  refine zr_iconst I27_34 ?_
  refine zl_ald0 I27_35 ?_
  refine zr_geti (j := 0) I27_36 F4_24 rfl (sT112 hS) ?_
  rw [zcpy_oth (by decide), zup_same]
  refine zr_acopy I27_39 C4_28 (sT12 hS) (sT114 hS) (sN12 hS) (sN114 hS) (by omega) (Nat.le_of_ble_eq_true rfl) ?_
  refine zl_ald1 I27_42 ?_
  refine zr_getr (j := 3) I27_43 F4_18 rfl (sT10 hS) (sR10_3 hS) ?_
  refine zr_iconst I27_46 ?_
  refine zl_ald0 I27_47 ?_
  refine zr_getr (j := 3) I27_48 F4_18 rfl (sT112 hS) (sR112_3 hS) ?_
  refine zr_iconst I27_51 ?_
  refine zl_ald0 I27_52 ?_
  refine zr_geti (j := 0) I27_53 F4_24 rfl (sT112 hS) ?_
  rw [zcpy_oth (by decide), zcpy_oth (by decide), zup_same]
  refine zr_acopy I27_56 C4_28 (sT13 hS) (sT115 hS) (sN13 hS) (sN115 hS) (by omega) (Nat.le_of_ble_eq_true rfl) ?_
  refine zl_ald1 I27_59 ?_
  refine zr_getr (j := 4) I27_60 F4_21 rfl (sT10 hS) (sR10_4 hS) ?_
  refine zr_iconst I27_63 ?_
  refine zl_ald0 I27_64 ?_
  refine zr_getr (j := 4) I27_65 F4_21 rfl (sT112 hS) (sR112_4 hS) ?_
  refine zr_iconst I27_68 ?_
  refine zl_ald0 I27_69 ?_
  refine zr_geti (j := 0) I27_70 F4_24 rfl (sT112 hS) ?_
  rw [zcpy_oth (by decide), zcpy_oth (by decide), zcpy_oth (by decide), zup_same]
  refine zr_acopy I27_73 C4_28 (sT14 hS) (sT116 hS) (sN14 hS) (sN116 hS) (by omega) (Nat.le_of_ble_eq_true rfl) ?_
  refine zr_vret I27_76 rfl ?_
  refine ⟨_, rfl, rfl, ⟨by rw [zcpy_oth (by decide), zcpy_oth (by decide), zcpy_oth (by decide), zcpy_oth (by decide), zup_same], fun k hk => by rw [zcpy_oth (by decide), zcpy_oth (by decide), zcpy_oth (by decide), zcpy_oth (by decide), zup_q, if_neg hk], fun i h1 h2 k => ?_⟩, fun r hr => by rw [zcpy_ne (by omega), zcpy_ne (by omega), zcpy_ne (by omega), zcpy_ne (by omega), zup_ne (by omega)], zBd_cpy (zBd_cpy (zBd_cpy (zBd_cpy (zBd_up hB (by omega)) (by decide)) (by decide)) (by decide)) (by decide)⟩
  rcases (show i = 1 ∨ i = 2 ∨ i = 3 ∨ i = 4 by omega) with rfl | rfl | rfl | rfl
  all_goals simp [zcpy, zup]
set_option maxRecDepth 10000 in
set_option maxHeartbeats 2000000 in
theorem e_X5_copyFrom_117_15 {d n sl : Nat} {S : zSh} {c : zC} (hS : zSok S) (hB : zBd c) (hc : 0 ≤ c 15 0 ∧ c 15 0 ≤ 30) : zE (d + 1) 31 0 (zent 31 [zA 117, zA 15]) [] ((n, sl), (S, c)) (fun r μ' => ∃ c', r = none ∧ μ' = ((n, sl), (S, c')) ∧ zCp1 c c' 117 15 4) := by
  show zE (d + 1) 31 0 [some (zA 117), some (zA 15)] [] ((n, sl), (S, c)) _
  refine zl_ald0 I31_0 ?_
  refine zl_ald1 I31_1 ?_
  refine zr_giB (j := 0) hB (by decide) I31_2 F5_24 rfl (sT15 hS) (fun b2 => ?_)
  refine zr_puti (j := 0) I31_5 F5_24 rfl (sT117 hS) ⟨rfl, fun h => absurd h (by decide)⟩ ?_
  refine zl_ald1 I31_8 ?_
  refine zr_getr (j := 1) I31_9 F5_9 rfl (sT15 hS) (sR15_1 hS) ?_
  refine zr_iconst I31_12 ?_
  refine zl_ald0 I31_13 ?_
  refine zr_getr (j := 1) I31_14 F5_9 rfl (sT117 hS) (sR117_1 hS) ?_
  refine zr_iconst I31_17 ?_
  refine zl_ald0 I31_18 ?_
  refine zr_geti (j := 0) I31_19 F5_24 rfl (sT117 hS) ?_
  rw [zup_same]
  refine zr_acopy I31_22 C5_28 (sT16 hS) (sT118 hS) (sN16 hS) (sN118 hS) (by omega) (Nat.le_of_ble_eq_true rfl) ?_
  refine zl_ald1 I31_25 ?_
  refine zr_getr (j := 2) I31_26 F5_15 rfl (sT15 hS) (sR15_2 hS) ?_
  refine zr_iconst I31_29 ?_
  refine zl_ald0 I31_30 ?_
  refine zr_getr (j := 2) I31_31 F5_15 rfl (sT117 hS) (sR117_2 hS) ?_
  refine zr_iconst I31_34 ?_
  refine zl_ald0 I31_35 ?_
  refine zr_geti (j := 0) I31_36 F5_24 rfl (sT117 hS) ?_
  rw [zcpy_oth (by decide), zup_same]
  refine zr_acopy I31_39 C5_28 (sT17 hS) (sT119 hS) (sN17 hS) (sN119 hS) (by omega) (Nat.le_of_ble_eq_true rfl) ?_
  refine zl_ald1 I31_42 ?_
  refine zr_getr (j := 3) I31_43 F5_18 rfl (sT15 hS) (sR15_3 hS) ?_
  refine zr_iconst I31_46 ?_
  refine zl_ald0 I31_47 ?_
  refine zr_getr (j := 3) I31_48 F5_18 rfl (sT117 hS) (sR117_3 hS) ?_
  refine zr_iconst I31_51 ?_
  refine zl_ald0 I31_52 ?_
  refine zr_geti (j := 0) I31_53 F5_24 rfl (sT117 hS) ?_
  rw [zcpy_oth (by decide), zcpy_oth (by decide), zup_same]
  refine zr_acopy I31_56 C5_28 (sT18 hS) (sT120 hS) (sN18 hS) (sN120 hS) (by omega) (Nat.le_of_ble_eq_true rfl) ?_
  refine zl_ald1 I31_59 ?_
  refine zr_getr (j := 4) I31_60 F5_21 rfl (sT15 hS) (sR15_4 hS) ?_
  refine zr_iconst I31_63 ?_
  refine zl_ald0 I31_64 ?_
  refine zr_getr (j := 4) I31_65 F5_21 rfl (sT117 hS) (sR117_4 hS) ?_
  refine zr_iconst I31_68 ?_
  refine zl_ald0 I31_69 ?_
  refine zr_geti (j := 0) I31_70 F5_24 rfl (sT117 hS) ?_
  rw [zcpy_oth (by decide), zcpy_oth (by decide), zcpy_oth (by decide), zup_same]
  refine zr_acopy I31_73 C5_28 (sT19 hS) (sT121 hS) (sN19 hS) (sN121 hS) (by omega) (Nat.le_of_ble_eq_true rfl) ?_
  refine zr_vret I31_76 rfl ?_
  refine ⟨_, rfl, rfl, ⟨by rw [zcpy_oth (by decide), zcpy_oth (by decide), zcpy_oth (by decide), zcpy_oth (by decide), zup_same], fun k hk => by rw [zcpy_oth (by decide), zcpy_oth (by decide), zcpy_oth (by decide), zcpy_oth (by decide), zup_q, if_neg hk], fun i h1 h2 k => ?_⟩, fun r hr => by rw [zcpy_ne (by omega), zcpy_ne (by omega), zcpy_ne (by omega), zcpy_ne (by omega), zup_ne (by omega)], zBd_cpy (zBd_cpy (zBd_cpy (zBd_cpy (zBd_up hB (by omega)) (by decide)) (by decide)) (by decide)) (by decide)⟩
  rcases (show i = 1 ∨ i = 2 ∨ i = 3 ∨ i = 4 by omega) with rfl | rfl | rfl | rfl
  all_goals simp [zcpy, zup]
set_option maxRecDepth 10000 in
set_option maxHeartbeats 2000000 in
theorem e_X0_copyFrom_122_20 {d n sl : Nat} {S : zSh} {c : zC} (hS : zSok S) (hB : zBd c) (hc : 0 ≤ c 20 0 ∧ c 20 0 ≤ 10) : zE (d + 1) 3 0 (zent 3 [zA 122, zA 20]) [] ((n, sl), (S, c)) (fun r μ' => ∃ c', r = none ∧ μ' = ((n, sl), (S, c')) ∧ zCp1 c c' 122 20 3) := by
  show zE (d + 1) 3 0 [some (zA 122), some (zA 20)] [] ((n, sl), (S, c)) _
  refine zl_ald0 I3_0 ?_
  refine zl_ald1 I3_1 ?_
  refine zr_giB (j := 0) hB (by decide) I3_2 F0_21 rfl (sT20 hS) (fun b2 => ?_)
  refine zr_puti (j := 0) I3_5 F0_21 rfl (sT122 hS) ⟨rfl, fun h => absurd h (by decide)⟩ ?_
  refine zl_ald1 I3_8 ?_
  refine zr_getr (j := 1) I3_9 F0_9 rfl (sT20 hS) (sR20_1 hS) ?_
  refine zr_iconst I3_12 ?_
  refine zl_ald0 I3_13 ?_
  refine zr_getr (j := 1) I3_14 F0_9 rfl (sT122 hS) (sR122_1 hS) ?_
  refine zr_iconst I3_17 ?_
  refine zl_ald0 I3_18 ?_
  refine zr_geti (j := 0) I3_19 F0_21 rfl (sT122 hS) ?_
  rw [zup_same]
  refine zr_acopy I3_22 C0_25 (sT21 hS) (sT123 hS) (sN21 hS) (sN123 hS) (by omega) (Nat.le_of_ble_eq_true rfl) ?_
  refine zl_ald1 I3_25 ?_
  refine zr_getr (j := 2) I3_26 F0_15 rfl (sT20 hS) (sR20_2 hS) ?_
  refine zr_iconst I3_29 ?_
  refine zl_ald0 I3_30 ?_
  refine zr_getr (j := 2) I3_31 F0_15 rfl (sT122 hS) (sR122_2 hS) ?_
  refine zr_iconst I3_34 ?_
  refine zl_ald0 I3_35 ?_
  refine zr_geti (j := 0) I3_36 F0_21 rfl (sT122 hS) ?_
  rw [zcpy_oth (by decide), zup_same]
  refine zr_acopy I3_39 C0_25 (sT22 hS) (sT124 hS) (sN22 hS) (sN124 hS) (by omega) (Nat.le_of_ble_eq_true rfl) ?_
  refine zl_ald1 I3_42 ?_
  refine zr_getr (j := 3) I3_43 F0_18 rfl (sT20 hS) (sR20_3 hS) ?_
  refine zr_iconst I3_46 ?_
  refine zl_ald0 I3_47 ?_
  refine zr_getr (j := 3) I3_48 F0_18 rfl (sT122 hS) (sR122_3 hS) ?_
  refine zr_iconst I3_51 ?_
  refine zl_ald0 I3_52 ?_
  refine zr_geti (j := 0) I3_53 F0_21 rfl (sT122 hS) ?_
  rw [zcpy_oth (by decide), zcpy_oth (by decide), zup_same]
  refine zr_acopy I3_56 C0_25 (sT23 hS) (sT125 hS) (sN23 hS) (sN125 hS) (by omega) (Nat.le_of_ble_eq_true rfl) ?_
  refine zr_vret I3_59 rfl ?_
  refine ⟨_, rfl, rfl, ⟨by rw [zcpy_oth (by decide), zcpy_oth (by decide), zcpy_oth (by decide), zup_same], fun k hk => by rw [zcpy_oth (by decide), zcpy_oth (by decide), zcpy_oth (by decide), zup_q, if_neg hk], fun i h1 h2 k => ?_⟩, fun r hr => by rw [zcpy_ne (by omega), zcpy_ne (by omega), zcpy_ne (by omega), zup_ne (by omega)], zBd_cpy (zBd_cpy (zBd_cpy (zBd_up hB (by omega)) (by decide)) (by decide)) (by decide)⟩
  rcases (show i = 1 ∨ i = 2 ∨ i = 3 by omega) with rfl | rfl | rfl
  all_goals simp [zcpy, zup]
set_option maxRecDepth 10000 in
set_option maxHeartbeats 2000000 in
theorem e_X3_copyFrom_126_24 {d n sl : Nat} {S : zSh} {c : zC} (hS : zSok S) (hB : zBd c) (hc : 0 ≤ c 24 0 ∧ c 24 0 ≤ 60) : zE (d + 1) 24 0 (zent 24 [zA 126, zA 24]) [] ((n, sl), (S, c)) (fun r μ' => ∃ c', r = none ∧ μ' = ((n, sl), (S, c')) ∧ zCp1 c c' 126 24 4) := by
  show zE (d + 1) 24 0 [some (zA 126), some (zA 24)] [] ((n, sl), (S, c)) _
  refine zl_ald0 I24_0 ?_
  refine zl_ald1 I24_1 ?_
  refine zr_giB (j := 0) hB (by decide) I24_2 F3_24 rfl (sT24 hS) (fun b2 => ?_)
  refine zr_puti (j := 0) I24_5 F3_24 rfl (sT126 hS) ⟨rfl, fun h => absurd h (by decide)⟩ ?_
  refine zl_ald1 I24_8 ?_
  refine zr_getr (j := 1) I24_9 F3_9 rfl (sT24 hS) (sR24_1 hS) ?_
  refine zr_iconst I24_12 ?_
  refine zl_ald0 I24_13 ?_
  refine zr_getr (j := 1) I24_14 F3_9 rfl (sT126 hS) (sR126_1 hS) ?_
  refine zr_iconst I24_17 ?_
  refine zl_ald0 I24_18 ?_
  refine zr_geti (j := 0) I24_19 F3_24 rfl (sT126 hS) ?_
  rw [zup_same]
  refine zr_acopy I24_22 C3_45 (sT25 hS) (sT127 hS) (sN25 hS) (sN127 hS) (by omega) (Nat.le_of_ble_eq_true rfl) ?_
  refine zl_ald1 I24_25 ?_
  refine zr_getr (j := 2) I24_26 F3_15 rfl (sT24 hS) (sR24_2 hS) ?_
  refine zr_iconst I24_29 ?_
  refine zl_ald0 I24_30 ?_
  refine zr_getr (j := 2) I24_31 F3_15 rfl (sT126 hS) (sR126_2 hS) ?_
  refine zr_iconst I24_34 ?_
  refine zl_ald0 I24_35 ?_
  refine zr_geti (j := 0) I24_36 F3_24 rfl (sT126 hS) ?_
  rw [zcpy_oth (by decide), zup_same]
  refine zr_acopy I24_39 C3_45 (sT26 hS) (sT128 hS) (sN26 hS) (sN128 hS) (by omega) (Nat.le_of_ble_eq_true rfl) ?_
  refine zl_ald1 I24_42 ?_
  refine zr_getr (j := 3) I24_43 F3_18 rfl (sT24 hS) (sR24_3 hS) ?_
  refine zr_iconst I24_46 ?_
  refine zl_ald0 I24_47 ?_
  refine zr_getr (j := 3) I24_48 F3_18 rfl (sT126 hS) (sR126_3 hS) ?_
  refine zr_iconst I24_51 ?_
  refine zl_ald0 I24_52 ?_
  refine zr_geti (j := 0) I24_53 F3_24 rfl (sT126 hS) ?_
  rw [zcpy_oth (by decide), zcpy_oth (by decide), zup_same]
  refine zr_acopy I24_56 C3_45 (sT27 hS) (sT129 hS) (sN27 hS) (sN129 hS) (by omega) (Nat.le_of_ble_eq_true rfl) ?_
  refine zl_ald1 I24_59 ?_
  refine zr_getr (j := 4) I24_60 F3_21 rfl (sT24 hS) (sR24_4 hS) ?_
  refine zr_iconst I24_63 ?_
  refine zl_ald0 I24_64 ?_
  refine zr_getr (j := 4) I24_65 F3_21 rfl (sT126 hS) (sR126_4 hS) ?_
  refine zr_iconst I24_68 ?_
  refine zl_ald0 I24_69 ?_
  refine zr_geti (j := 0) I24_70 F3_24 rfl (sT126 hS) ?_
  rw [zcpy_oth (by decide), zcpy_oth (by decide), zcpy_oth (by decide), zup_same]
  refine zr_acopy I24_73 C3_45 (sT28 hS) (sT130 hS) (sN28 hS) (sN130 hS) (by omega) (Nat.le_of_ble_eq_true rfl) ?_
  refine zr_vret I24_76 rfl ?_
  refine ⟨_, rfl, rfl, ⟨by rw [zcpy_oth (by decide), zcpy_oth (by decide), zcpy_oth (by decide), zcpy_oth (by decide), zup_same], fun k hk => by rw [zcpy_oth (by decide), zcpy_oth (by decide), zcpy_oth (by decide), zcpy_oth (by decide), zup_q, if_neg hk], fun i h1 h2 k => ?_⟩, fun r hr => by rw [zcpy_ne (by omega), zcpy_ne (by omega), zcpy_ne (by omega), zcpy_ne (by omega), zup_ne (by omega)], zBd_cpy (zBd_cpy (zBd_cpy (zBd_cpy (zBd_up hB (by omega)) (by decide)) (by decide)) (by decide)) (by decide)⟩
  rcases (show i = 1 ∨ i = 2 ∨ i = 3 ∨ i = 4 by omega) with rfl | rfl | rfl | rfl
  all_goals simp [zcpy, zup]
