/-! blackouts -/
/-- whether a rating breaks a blackout from a to b -/
def zDk (n : Int) (bf bt br : Int → Int) (rt a b : Int) : Prop := ∃ j t, 0 ≤ j ∧ j < n ∧ br j ≤ rt ∧ a ≤ t ∧ t < b ∧ bf j ≤ t % 1440 ∧ t % 1440 < bt j
def zDkU (n : Int) (bf bt br : Int → Int) (rt a b : Int) (x : Int) : Prop := (x = -9 ∧ ¬ zDk n bf bt br rt a b) ∨ (∃ j m, 0 ≤ j ∧ j < n ∧ br j ≤ rt ∧ 0 ≤ m ∧ m % 1440 = 0 ∧ x = m + bt j ∧ a < m + bt j ∧ m + bf j < b)
theorem zDk_congr {n : Int} {bf bt br bf' bt' br' : Int → Int} {rt a b : Int} (h : ∀ j, 0 ≤ j → j < n → bf j = bf' j ∧ bt j = bt' j ∧ br j = br' j) : zDk n bf bt br rt a b ↔ zDk n bf' bt' br' rt a b := by
  constructor
  · rintro ⟨j, t, h1, h2, h3, h4, h5, h6, h7⟩
    obtain ⟨e1, e2, e3⟩ := h j h1 h2
    exact ⟨j, t, h1, h2, by omega, h4, h5, by omega, by omega⟩
  · rintro ⟨j, t, h1, h2, h3, h4, h5, h6, h7⟩
    obtain ⟨e1, e2, e3⟩ := h j h1 h2
    exact ⟨j, t, h1, h2, by omega, h4, h5, by omega, by omega⟩
theorem zDkU_hit {n : Int} {bf bt br : Int → Int} {rt a b x : Int} (hb : ∀ j, 0 ≤ j → j < n → 0 ≤ bf j ∧ bf j < bt j ∧ bt j ≤ 1440) (hab : a < b) (h : zDkU n bf bt br rt a b x) : x = -9 ↔ ¬ zDk n bf bt br rt a b := by
  rcases h with ⟨h1, h2⟩ | ⟨j, m, h1, h2, h3, h4, h5, h6, h7, h8⟩
  · exact ⟨fun _ => h2, fun _ => h1⟩
  · have := hb j h1 h2
    refine ⟨fun h => absurd h (by omega), fun h => absurd ⟨j, max a (m + bf j), h1, h2, h3, by omega, by omega, by omega, by omega⟩ h⟩
set_option maxRecDepth 10000 in
set_option maxHeartbeats 2000000 in
theorem e_X0_darkUntil_m {d n sl : Nat} {S : zSh} {c : zC} (hS : zSok S) (hB : zBd c) (hbl : ∀ j, 0 ≤ j → j < c 20 0 → 0 ≤ c 21 j ∧ c 21 j < c 22 j ∧ c 22 j ≤ 1440) (hn : 0 ≤ c 20 0 ∧ c 20 0 ≤ 10) {rt a b i : Int} (ha : 0 ≤ a ∧ a ≤ 20000) (hb : b ≤ 20000) (h0 : 0 ≤ i) (hi : i < c 20 0) (hr : c 23 i ≤ rt) (hex : (∀ t, a ≤ t → t < b → ¬ (c 21 i ≤ t % 1440 ∧ t % 1440 < c 22 i)) → ∀ w5, zE (d + 0) 2 89 [some (zA 20), some (zI rt), some (zI a), some (zI b), some (zI i), w5] [] ((n, sl), (S, c)) (zRp (zDkU (c 20 0) (c 21) (c 22) (c 23) rt a b) ((n, sl), (S, c)))) : ∀ m : Int, m ≤ 40000 → (0 ≤ m ∧ m ≤ 25000 ∧ m % 1440 = 0) → (∀ t, a ≤ t → t < b → t < m → ¬ (c 21 i ≤ t % 1440 ∧ t % 1440 < c 22 i)) → zE (d + 0) 2 35 [some (zA 20), some (zI rt), some (zI a), some (zI b), some (zI i), some (zI m)] [] ((n, sl), (S, c)) (zRp (zDkU (c 20 0) (c 21) (c 22) (c 23) rt a b) ((n, sl), (S, c))) := by
  refine zind _ (fun m ih hN => ?_)
  intro hm hp
  have q1 := hbl i h0 hi
  refine zl_ild5 I2_35 ?_
  refine zl_ild3 I2_37 ?_
  refine zr_ic_ge (t := 89) I2_38 rfl (fun h38 => ?_) (fun h38 => ?_)
  · exact hex (fun t t1 t2 => hp t t1 t2 (by omega)) _
  · refine zl_ild2 I2_41 ?_
    refine zl_ild5 I2_42 ?_
    refine zl_ald0 I2_44 ?_
    refine zr_getr (j := 2) I2_45 F0_15 rfl (sT20 hS) (sR20_2 hS) ?_
    refine zl_ild4 I2_48 ?_
    refine zr_iaB hB (by decide) I2_50 (sT22 hS) (sN22 hS) (by omega) (fun b50 => ?_)
    refine zr_iadd I2_51 (by unfold zInR; omega) ?_
    refine zr_ic_ge (t := 80) I2_52 rfl (fun h52 => ?_) (fun h52 => ?_)
    · refine zl_iincW5 I2_80 (by unfold zInR; omega) ?_
      refine zr_goto (t := 35) I2_86 rfl ?_
      refine ih _ (by omega) (by omega) (by omega) (fun t t1 t2 t3 => ?_)
      by_cases e : t < m
      · exact hp t t1 t2 e
      · omega
    · refine zl_ild5 I2_55 ?_
      refine zl_ald0 I2_57 ?_
      refine zr_getr (j := 1) I2_58 F0_9 rfl (sT20 hS) (sR20_1 hS) ?_
      refine zl_ild4 I2_61 ?_
      refine zr_iaB hB (by decide) I2_63 (sT21 hS) (sN21 hS) (by omega) (fun b63 => ?_)
      refine zr_iadd I2_64 (by unfold zInR; omega) ?_
      refine zl_ild3 I2_65 ?_
      refine zr_ic_ge (t := 80) I2_66 rfl (fun h66 => ?_) (fun h66 => ?_)
      · refine zl_iincW5 I2_80 (by unfold zInR; omega) ?_
        refine zr_goto (t := 35) I2_86 rfl ?_
        refine ih _ (by omega) (by omega) (by omega) (fun t t1 t2 t3 => ?_)
        by_cases e : t < m
        · exact hp t t1 t2 e
        · omega
      · refine zl_ild5 I2_69 ?_
        refine zl_ald0 I2_71 ?_
        refine zr_getr (j := 2) I2_72 F0_15 rfl (sT20 hS) (sR20_2 hS) ?_
        refine zl_ild4 I2_75 ?_
        refine zr_iaB hB (by decide) I2_77 (sT22 hS) (sN22 hS) (by omega) (fun b77 => ?_)
        refine zr_iadd I2_78 (by unfold zInR; omega) ?_
        refine zr_iret I2_79 rfl ?_
        exact ⟨_, rfl, Or.inr ⟨i, m, h0, hi, hr, by omega, by omega, rfl, by omega, by omega⟩, rfl⟩
set_option maxRecDepth 10000 in
set_option maxHeartbeats 2000000 in
theorem e_X0_darkUntil_l {d n sl : Nat} {S : zSh} {c : zC} (hS : zSok S) (hB : zBd c) (hbl : ∀ j, 0 ≤ j → j < c 20 0 → 0 ≤ c 21 j ∧ c 21 j < c 22 j ∧ c 22 j ≤ 1440) (hn : 0 ≤ c 20 0 ∧ c 20 0 ≤ 10) {rt a b : Int} (ha : 0 ≤ a ∧ a ≤ 20000) (hb : b ≤ 20000) : ∀ i : Int, i ≤ c 20 0 → ∀ w5 : Option zV, (0 ≤ i) → ((∀ j t, 0 ≤ j → j < i → c 23 j ≤ rt → a ≤ t → t < b → ¬ (c 21 j ≤ t % 1440 ∧ t % 1440 < c 22 j))) → zE (d + 0) 2 3 [some (zA 20), some (zI rt), some (zI a), some (zI b), some (zI i), w5] [] ((n, sl), (S, c)) (zRp (zDkU (c 20 0) (c 21) (c 22) (c 23) rt a b) ((n, sl), (S, c))) := by
  refine zind _ (fun i ih hN => ?_)
  intro w5 h0 hp
  refine zl_ild4 I2_3 ?_
  refine zl_ald0 I2_5 ?_
  refine zr_giB (j := 0) hB (by decide) I2_6 F0_21 rfl (sT20 hS) (fun b6 => ?_)
  refine zr_ic_ge (t := 95) I2_9 rfl (fun h9 => ?_) (fun h9 => ?_)
  · refine zr_bipush I2_95 ?_
    refine zr_iret I2_97 rfl ?_
    exact ⟨_, rfl, Or.inl ⟨rfl, fun ⟨j, t, j1, j2, j3, t1, t2, t3, t4⟩ => hp j t j1 (by omega) j3 t1 t2 ⟨t3, t4⟩⟩, rfl⟩
  · refine zl_ild1 I2_12 ?_
    refine zl_ald0 I2_13 ?_
    refine zr_getr (j := 3) I2_14 F0_18 rfl (sT20 hS) (sR20_3 hS) ?_
    refine zl_ild4 I2_17 ?_
    refine zr_iaB hB (by decide) I2_19 (sT23 hS) (sN23 hS) (by omega) (fun b19 => ?_)
    refine zr_ic_ge (t := 26) I2_20 rfl (fun h20 => ?_) (fun h20 => ?_)
    · refine zl_ild2 I2_26 ?_
      refine zl_ild2 I2_27 ?_
      refine zr_sipush I2_28 ?_
      refine zr_irem I2_31 (by omega) ?_
      refine zr_isub I2_32 (by unfold zInR; omega) ?_
      refine zl_ist5 I2_33 ?_
      refine e_X0_darkUntil_m hS hB hbl hn ha hb h0 (by omega) (by omega) (fun hno w5 => ?_) _ (by omega) (by omega) (fun t t1 t2 t3 => by omega)
      refine zl_iinc4 I2_89 (by unfold zInR; omega) ?_
      refine zr_goto (t := 3) I2_92 rfl ?_
      refine ih _ (by omega) (by omega) _ (by omega) (fun j t j1 j2 j3 t1 t2 => ?_)
      by_cases e : j = i
      · subst e
        exact hno t t1 t2
      · exact hp j t j1 (by omega) j3 t1 t2
    · refine zr_goto (t := 89) I2_23 rfl ?_
      refine zl_iinc4 I2_89 (by unfold zInR; omega) ?_
      refine zr_goto (t := 3) I2_92 rfl ?_
      refine ih _ (by omega) (by omega) _ (by omega) (fun j t j1 j2 j3 t1 t2 => ?_)
      by_cases e : j = i
      · subst e
        omega
      · exact hp j t j1 (by omega) j3 t1 t2
set_option maxRecDepth 10000 in
set_option maxHeartbeats 2000000 in
theorem e_X0_darkUntil {d n sl : Nat} {S : zSh} {c : zC} (hS : zSok S) (hB : zBd c) (hbl : ∀ j, 0 ≤ j → j < c 20 0 → 0 ≤ c 21 j ∧ c 21 j < c 22 j ∧ c 22 j ≤ 1440) (hn : 0 ≤ c 20 0 ∧ c 20 0 ≤ 10) {rt a b : Int} (ha : 0 ≤ a ∧ a ≤ 20000) (hb : b ≤ 20000) : zE (d + 0) 2 0 (zent 2 [zA 20, zI rt, zI a, zI b]) [] ((n, sl), (S, c)) (zRp (zDkU (c 20 0) (c 21) (c 22) (c 23) rt a b) ((n, sl), (S, c))) := by
  show zE (d + 0) 2 0 [some (zA 20), some (zI rt), some (zI a), some (zI b), none, none] [] ((n, sl), (S, c)) _
  refine zr_iconst I2_0 ?_
  refine zl_ist4 I2_1 ?_
  exact e_X0_darkUntil_l hS hB hbl hn ha hb 0 (by omega) _ (by omega) (fun j t j1 j2 => absurd j1 (by omega))
