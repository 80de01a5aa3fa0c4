/-! blackouts -/
/-- whether a rating breaks a blackout from a to b -/
def zDk (n : Int) (bf bt br : Int → Int) (rt a b : Int) : Prop := ∃ j t, 0 ≤ j ∧ j < n ∧ br j ≤ rt ∧ a ≤ t ∧ t < b ∧ bf j ≤ t % 1440 ∧ t % 1440 < bt j
def zDkU (n : Int) (bf bt br : Int → Int) (rt a b : Int) (x : Int) : Prop := (x = -9 ∧ ¬ zDk n bf bt br rt a b) ∨ (∃ j m, 0 ≤ j ∧ j < n ∧ br j ≤ rt ∧ 0 ≤ m ∧ m % 1440 = 0 ∧ x = m + bt j ∧ a < m + bt j ∧ m + bf j < b)
theorem zDk_congr {n : Int} {bf bt br bf' bt' br' : Int → Int} {rt a b : Int} (h : ∀ j, 0 ≤ j → j < n → bf j = bf' j ∧ bt j = bt' j ∧ br j = br' j) : zDk n bf bt br rt a b ↔ zDk n bf' bt' br' rt a b := by
  constructor
  · rintro ⟨j, t, h1, h2, h3, h4, h5, h6, h7⟩
    obtain ⟨e1, e2, e3⟩ := h j h1 h2
    exact ⟨j, t, h1, h2, by omega, h4, h5, by omega, by omega⟩
  · rintro ⟨j, t, h1, h2, h3, h4, h5, h6, h7⟩
    obtain ⟨e1, e2, e3⟩ := h j h1 h2
    exact ⟨j, t, h1, h2, by omega, h4, h5, by omega, by omega⟩
theorem zDkU_hit {n : Int} {bf bt br : Int → Int} {rt a b x : Int} (hb : ∀ j, 0 ≤ j → j < n → 0 ≤ bf j ∧ bf j < bt j ∧ bt j ≤ 1440) (hab : a < b) (h : zDkU n bf bt br rt a b x) : x = -9 ↔ ¬ zDk n bf bt br rt a b := by
  rcases h with ⟨h1, h2⟩ | ⟨j, m, h1, h2, h3, h4, h5, h6, h7, h8⟩
  · exact ⟨fun _ => h2, fun _ => h1⟩
  · have := hb j h1 h2
    refine ⟨fun h => absurd h (by omega), fun h => absurd ⟨j, max a (m + bf j), h1, h2, h3, by omega, by omega, by omega, by omega⟩ h⟩
set_option maxRecDepth 10000 in
set_option maxHeartbeats 2000000 in
theorem e_X0_darkUntil_m {d n sl : Nat} {S : zSh} {c : zC} (hS : zSok S) (hB : zBd c) (hbl : ∀ j, 0 ≤ j → j < c 20 0 → 0 ≤ c 21 j ∧ c 21 j < c 22 j ∧ c 22 j ≤ 1440) (hn : 0 ≤ c 20 0 ∧ c 20 0 ≤ 10) {rt a b i : Int} (ha : 0 ≤ a ∧ a ≤ 20000) (hb : b ≤ 20000) (h0 : 0 ≤ i) (hi : i < c 20 0) (hr : c 23 i ≤ rt) (hex : (∀ t, a ≤ t → t < b → ¬ (c 21 i ≤ t % 1440 ∧ t % 1440 < c 22 i)) → ∀ w5, zE (d + 0) 2 89 [some (zA 20), some (zI rt), some (zI a), some (zI b), some (zI i), w5] [] ((n, sl), (S, c)) (zRp (zDkU (c 20 0) (c 21) (c 22) (c 23) rt a b) ((n, sl), (S, c)))) : ∀ m : Int, m ≤ 40000 → (0 ≤ m ∧ m ≤ 25000 ∧ m % 1440 = 0) → (∀ t, a ≤ t → t < b → t < m → ¬ (c 21 i ≤ t % 1440 ∧ t % 1440 < c 22 i)) → zE (d + 0) 2 35 [some (zA 20), some (zI rt), some (zI a), some (zI b), some (zI i), some (zI m)] [] ((n, sl), (S, c)) (zRp (zDkU (c 20 0) (c 21) (c 22) (c 23) rt a b) ((n, sl), (S, c))) := by
  refine zind _ (fun m ih hN => ?_)
  intro hm hp
  have q1 := hbl i h0 hi
  refine zl_ild5 I2_35 ?_
  refine zl_ild3 I2_37 ?_
  refine zr_ic_ge (t := 89) I2_38 rfl (fun h38 => ?_) (fun h38 => ?_)
  · exact hex (fun t t1 t2 => hp t t1 t2 (by omega)) _
  · refine zl_ild2 I2_41 ?_
    refine zl_ild5 I2_42 ?_
    refine zl_ald0 I2_44 ?_
    refine zr_getr (j := 2) I2_45 F0_15 rfl (sT20 hS) (sR20_2 hS) ?_
    refine zl_ild4 I2_48 ?_
    refine zr_iaB hB (by decide) I2_50 (sT22 hS) (sN22 hS) (by omega) (fun b50 => ?_)
    refine zr_iadd I2_51 (by unfold zInR; omega) ?_
    refine zr_ic_ge (t := 80) I2_52 rfl (fun h52 => ?_) (fun h52 => ?_)
    · refine zl_iincW5 I2_80 (by unfold zInR; omega) ?_
      refine zr_goto (t := 35) I2_86 rfl ?_
      refine ih _ (by omega) (by omega) (by omega) (fun t t1 t2 t3 => ?_)
      by_cases e : t < m
      · exact hp t t1 t2 e
      · omega
    · refine zl_ild5 I2_55 ?_
      refine zl_ald0 I2_57 ?_
      refine zr_getr (j := 1) I2_58 F0_9 rfl (sT20 hS) (sR20_1 hS) ?_
      refine zl_ild4 I2_61 ?_
      refine zr_iaB hB (by decide) I2_63 (sT21 hS) (sN21 hS) (by omega) (fun b63 => ?_)
      refine zr_iadd I2_64 (by unfold zInR; omega) ?_
      refine zl_ild3 I2_65 ?_
      refine zr_ic_ge (t := 80) I2_66 rfl (fun h66 => ?_) (fun h66 => ?_)
      · refine zl_iincW5 I2_80 (by unfold zInR; omega) ?_
        refine zr_goto (t := 35) I2_86 rfl ?_
        refine ih _ (by omega) (by omega) (by omega) (fun t t1 t2 t3 => ?_)
        by_cases e : t < m
        · exact hp t t1 t2 e
        · omega
      · refine zl_ild5 I2_69 ?_
        refine zl_ald0 I2_71 ?_
        refine zr_getr (j := 2) I2_72 F0_15 rfl (sT20 hS) (sR20_2 hS) ?_
        refine zl_ild4 I2_75 ?_
        refine zr_iaB hB (by decide) I2_77 (sT22 hS) (sN22 hS) (by omega) (fun b77 => ?_)
        refine zr_iadd I2_78 (by unfold zInR; omega) ?_
        refine zr_iret I2_79 rfl ?_
        exact ⟨_, rfl, Or.inr ⟨i, m, h0, hi, hr, by omega, by omega, rfl, by omega, by omega⟩, rfl⟩
set_option maxRecDepth 10000 in
set_option maxHeartbeats 2000000 in
theorem e_X0_darkUntil_l {d n sl : Nat} {S : zSh} {c : zC} (hS : zSok S) (hB : zBd c) (hbl : ∀ j, 0 ≤ j → j < c 20 0 → 0 ≤ c 21 j ∧ c 21 j < c 22 j ∧ c 22 j ≤ 1440) (hn : 0 ≤ c 20 0 ∧ c 20 0 ≤ 10) {rt a b : Int} (ha : 0 ≤ a ∧ a ≤ 20000) (hb : b ≤ 20000) : ∀ i : Int, i ≤ c 20 0 → ∀ w5 : Option zV, (0 ≤ i) → ((∀ j t, 0 ≤ j → j < i → c 23 j ≤ rt → a ≤ t → t < b → ¬ (c 21 j ≤ t % 1440 ∧ t % 1440 < c 22 j))) → zE (d + 0) 2 3 [some (zA 20), some (zI rt), some (zI a), some (zI b), some (zI i), w5] [] ((n, sl), (S, c)) (zRp (zDkU (c 20 0) (c 21) (c 22) (c 23) rt a b) ((n, sl), (S, c))) := by
  refine zind _ (fun i ih hN => ?_)
  intro w5 h0 hp
  refine zl_ild4 I2_3 ?_
  refine zl_ald0 I2_5 ?_
  refine zr_giB (j := 0) hB (by decide) I2_6 F0_21 rfl (sT20 hS) (fun b6 => ?_)
  refine zr_ic_ge (t := 95) I2_9 rfl (fun h9 => ?_) (fun h9 => ?_)
  · refine zr_bipush I2_95 ?_
    refine zr_iret I2_97 rfl ?_
    exact ⟨_, rfl, Or.inl ⟨rfl, fun ⟨j, t, j1, j2, j3, t1, t2, t3, t4⟩ => hp j t j1 (by omega) j3 t1 t2 ⟨t3, t4⟩⟩, rfl⟩
  · refine zl_ild1 I2_12 ?_
    refine zl_ald0 I2_13 ?_
    refine zr_getr (j := 3) I2_14 F0_18 rfl (sT20 hS) (sR20_3 hS) ?_
    refine zl_ild4 I2_17 ?_
    refine zr_iaB hB (by decide) I2_19 (sT23 hS) (sN23 hS) (by omega) (fun b19 => ?_)
    refine zr_ic_ge (t := 26) I2_20 rfl (fun h20 => ?_) (fun h20 => ?_)
    · refine zl_ild2 I2_26 ?_
      refine zl_ild2 I2_27 ?_
      refine zr_sipush I2_28 ?_
      refine zr_irem I2_31 (by omega) ?_
      refine zr_isub I2_32 (by unfold zInR; omega) ?_
      refine zl_ist5 I2_33 ?_
      refine e_X0_darkUntil_m hS hB hbl hn ha hb h0 (by omega) (by omega) (fun hno w5 => ?_) _ (by omega) (by omega) (fun t t1 t2 t3 => by omega)
      refine zl_iinc4 I2_89 (by unfold zInR; omega) ?_
      refine zr_goto (t := 3) I2_92 rfl ?_
      refine ih _ (by omega) (by omega) _ (by omega) (fun j t j1 j2 j3 t1 t2 => ?_)
      by_cases e : j = i
      · subst e
        exact hno t t1 t2
      · exact hp j t j1 (by omega) j3 t1 t2
    · refine zr_goto (t := 89) I2_23 rfl ?_
      refine zl_iinc4 I2_89 (by unfold zInR; omega) ?_
      refine zr_goto (t := 3) I2_92 rfl ?_
      refine ih _ (by omega) (by omega) _ (by omega) (fun j t j1 j2 j3 t1 t2 => ?_)
      by_cases e : j = i
      · subst e
        omega
      · exact hp j t j1 (by omega) j3 t1 t2
set_option maxRecDepth 10000 in
set_option maxHeartbeats 2000000 in
theorem e_X0_darkUntil {d n sl : Nat} {S : zSh} {c : zC} (hS : zSok S) (hB : zBd c) (hbl : ∀ j, 0 ≤ j → j < c 20 0 → 0 ≤ c 21 j ∧ c 21 j < c 22 j ∧ c 22 j ≤ 1440) (hn : 0 ≤ c 20 0 ∧ c 20 0 ≤ 10) {rt a b : Int} (ha : 0 ≤ a ∧ a ≤ 20000) (hb : b ≤ 20000) : zE (d + 0) 2 0 (zent 2 [zA 20, zI rt, zI a, zI b]) [] ((n, sl), (S, c)) (zRp (zDkU (c 20 0) (c 21) (c 22) (c 23) rt a b) ((n, sl), (S, c))) := by
  show zE (d + 0) 2 0 [some (zA 20), some (zI rt), some (zI a), some (zI b), none, none] [] ((n, sl), (S, c)) _
  refine zr_iconst I2_0 ?_
  refine zl_ist4 I2_1 ?_
  exact e_X0_darkUntil_l hS hB hbl hn ha hb 0 (by omega) _ (by omega) (fun j t j1 j2 => absurd j1 (by omega))
set_option maxRecDepth 10000 in
set_option maxHeartbeats 2000000 in
theorem e_X9_isDark_m {d n sl : Nat} {S : zSh} {c : zC} (hS : zSok S) (hB : zBd c) (hbl : ∀ j, 0 ≤ j → j < c 146 1 → 0 ≤ c 146 (80 + 3 * j) ∧ c 146 (80 + 3 * j) < c 146 (80 + 3 * j + 1) ∧ c 146 (80 + 3 * j + 1) ≤ 1440) (hn : 0 ≤ c 146 1 ∧ c 146 1 ≤ 10) {p a b i : Int} (hp0 : 0 ≤ p ∧ p < 16) (ha : 0 ≤ a ∧ a ≤ 20000) (hb : b ≤ 20000) (h0 : 0 ≤ i) (hi : i < c 146 1) (hex : (∀ t, a ≤ t → t < b → ¬ (c 146 (80 + 3 * i + 2) ≤ c 146 (10 + 4 * p + 2) ∧ c 146 (80 + 3 * i) ≤ t % 1440 ∧ t % 1440 < c 146 (80 + 3 * i + 1))) → ∀ w6, zE (d + 1) 101 95 [some (zA 145), some (zI p), some (zI a), some (zI b), some (zI i), some (zI (80 + 3 * i)), w6] [] ((n, sl), (S, c)) (zRp (zTf (zDk (c 146 1) (fun j => c 146 (80 + 3 * j)) (fun j => c 146 (80 + 3 * j + 1)) (fun j => c 146 (80 + 3 * j + 2)) (c 146 (10 + 4 * p + 2)) a b)) ((n, sl), (S, c)))) : ∀ m : Int, m ≤ 40000 → (a ≤ m ∧ m ≤ 20000) → (∀ t, a ≤ t → t < m → ¬ (c 146 (80 + 3 * i + 2) ≤ c 146 (10 + 4 * p + 2) ∧ c 146 (80 + 3 * i) ≤ t % 1440 ∧ t % 1440 < c 146 (80 + 3 * i + 1))) → zE (d + 1) 101 26 [some (zA 145), some (zI p), some (zI a), some (zI b), some (zI i), some (zI (80 + 3 * i)), some (zI m)] [] ((n, sl), (S, c)) (zRp (zTf (zDk (c 146 1) (fun j => c 146 (80 + 3 * j)) (fun j => c 146 (80 + 3 * j + 1)) (fun j => c 146 (80 + 3 * j + 2)) (c 146 (10 + 4 * p + 2)) a b)) ((n, sl), (S, c))) := by
  refine zind _ (fun m ih hN => ?_)
  intro hm hp
  have q1 := hbl i h0 hi
  refine zl_ild6 I101_26 ?_
  refine zl_ild3 I101_28 ?_
  refine zr_ic_ge (t := 95) I101_29 rfl (fun h29 => ?_) (fun h29 => ?_)
  · refine hex (fun t t1 t2 => ?_) _
    exact hp t t1 (by omega)
  · refine zl_ald0 I101_32 ?_
    refine zr_getr (j := 0) I101_33 F9_7 rfl (sT145 hS) (sR145_0 hS) ?_
    refine zr_bipush I101_36 ?_
    refine zr_iconst I101_38 ?_
    refine zl_ild1 I101_39 ?_
    refine zr_imul I101_40 (by unfold zInR; omega) ?_
    refine zr_iadd I101_41 (by unfold zInR; omega) ?_
    refine zr_iconst I101_42 ?_
    refine zr_iadd I101_43 (by unfold zInR; omega) ?_
    refine zr_iaB hB (by decide) I101_44 (sT146 hS) (sN146 hS) (by omega) (fun b44 => ?_)
    refine zl_ald0 I101_45 ?_
    refine zr_getr (j := 0) I101_46 F9_7 rfl (sT145 hS) (sR145_0 hS) ?_
    refine zl_ild5 I101_49 ?_
    refine zr_iconst I101_51 ?_
    refine zr_iadd I101_52 (by unfold zInR; omega) ?_
    refine zr_iaB hB (by decide) I101_53 (sT146 hS) (sN146 hS) (by omega) (fun b53 => ?_)
    refine zr_ic_lt (t := 95) I101_54 rfl (fun h54 => ?_) (fun h54 => ?_)
    · refine hex (fun t t1 t2 => ?_) _
      omega
    · refine zl_ild6 I101_57 ?_
      refine zr_sipush I101_59 ?_
      refine zr_irem I101_62 (by omega) ?_
      refine zl_ald0 I101_63 ?_
      refine zr_getr (j := 0) I101_64 F9_7 rfl (sT145 hS) (sR145_0 hS) ?_
      refine zl_ild5 I101_67 ?_
      refine zr_iaB hB (by decide) I101_69 (sT146 hS) (sN146 hS) (by omega) (fun b69 => ?_)
      refine zl_ald0 I101_70 ?_
      refine zr_getr (j := 0) I101_71 F9_7 rfl (sT145 hS) (sR145_0 hS) ?_
      refine zl_ild5 I101_74 ?_
      refine zr_iconst I101_76 ?_
      refine zr_iadd I101_77 (by unfold zInR; omega) ?_
      refine zr_iaB hB (by decide) I101_78 (sT146 hS) (sN146 hS) (by omega) (fun b78 => ?_)
      refine zr_iconst I101_79 ?_
      refine zr_isub I101_80 (by unfold zInR; omega) ?_
      refine zr_callS I101_81 C9_41 ⟨rfl, rfl⟩ ⟨by simp, rfl, Nat.le_of_ble_eq_true rfl⟩ (e_X9_in ) (fun v81 μ81 hv81 => ?_)
      obtain ⟨x81, rfl, hx81, rfl⟩ := hv81
      dsimp only [Option.toList, List.cons_append, List.nil_append]
      unfold zTf at hx81
      refine zr_if_eq (t := 89) I101_84 rfl (fun h84 => ?_) (fun h84 => ?_)
      · refine zl_iinc6 I101_89 (by unfold zInR; omega) ?_
        refine zr_goto (t := 26) I101_92 rfl ?_
        refine ih _ (by omega) (by omega) (by omega) (fun t t1 t2 => ?_)
        by_cases e : t = m
        · subst e
          omega
        · exact hp t t1 (by omega)
      · refine zr_iconst I101_87 ?_
        refine zr_zret I101_88 rfl (by decide) ?_
        exact ⟨_, rfl, Or.inl ⟨rfl, i, m, h0, hi, by (try dsimp only); omega, by omega, by omega, by (try dsimp only); omega, by (try dsimp only); omega⟩, rfl⟩
set_option maxRecDepth 10000 in
set_option maxHeartbeats 2000000 in
theorem e_X9_isDark_l {d n sl : Nat} {S : zSh} {c : zC} (hS : zSok S) (hB : zBd c) (hbl : ∀ j, 0 ≤ j → j < c 146 1 → 0 ≤ c 146 (80 + 3 * j) ∧ c 146 (80 + 3 * j) < c 146 (80 + 3 * j + 1) ∧ c 146 (80 + 3 * j + 1) ≤ 1440) (hn : 0 ≤ c 146 1 ∧ c 146 1 ≤ 10) {p a b : Int} (hp0 : 0 ≤ p ∧ p < 16) (ha : 0 ≤ a ∧ a ≤ 20000) (hb : b ≤ 20000) : ∀ i : Int, i ≤ c 146 1 → ∀ w5 : Option zV, ∀ w6 : Option zV, (0 ≤ i) → ((∀ j t, 0 ≤ j → j < i → a ≤ t → t < b → ¬ (c 146 (80 + 3 * j + 2) ≤ c 146 (10 + 4 * p + 2) ∧ c 146 (80 + 3 * j) ≤ t % 1440 ∧ t % 1440 < c 146 (80 + 3 * j + 1)))) → zE (d + 1) 101 3 [some (zA 145), some (zI p), some (zI a), some (zI b), some (zI i), w5, w6] [] ((n, sl), (S, c)) (zRp (zTf (zDk (c 146 1) (fun j => c 146 (80 + 3 * j)) (fun j => c 146 (80 + 3 * j + 1)) (fun j => c 146 (80 + 3 * j + 2)) (c 146 (10 + 4 * p + 2)) a b)) ((n, sl), (S, c))) := by
  refine zind _ (fun i ih hN => ?_)
  intro w5 w6 h0 hp
  refine zl_ild4 I101_3 ?_
  refine zl_ald0 I101_5 ?_
  refine zr_getr (j := 0) I101_6 F9_7 rfl (sT145 hS) (sR145_0 hS) ?_
  refine zr_iconst I101_9 ?_
  refine zr_iaB hB (by decide) I101_10 (sT146 hS) (sN146 hS) (by omega) (fun b10 => ?_)
  refine zr_ic_ge (t := 101) I101_11 rfl (fun h11 => ?_) (fun h11 => ?_)
  · refine zr_iconst I101_101 ?_
    refine zr_zret I101_102 rfl (by decide) ?_
    exact ⟨_, rfl, Or.inr ⟨rfl, fun ⟨j, t, j1, j2, j3, t1, t2, t3, t4⟩ => hp j t j1 (by omega) t1 t2 ⟨j3, t3, t4⟩⟩, rfl⟩
  · refine zr_bipush I101_14 ?_
    refine zr_iconst I101_16 ?_
    refine zl_ild4 I101_17 ?_
    refine zr_imul I101_19 (by unfold zInR; omega) ?_
    refine zr_iadd I101_20 (by unfold zInR; omega) ?_
    refine zl_ist5 I101_21 ?_
    refine zl_ild2 I101_23 ?_
    refine zl_ist6 I101_24 ?_
    refine e_X9_isDark_m hS hB hbl hn hp0 ha hb h0 (by omega) (fun hno w6 => ?_) _ (by omega) (by omega) (fun t t1 t2 => absurd t1 (by omega))
    refine zl_iinc4 I101_95 (by unfold zInR; omega) ?_
    refine zr_goto (t := 3) I101_98 rfl ?_
    refine ih _ (by omega) (by omega) _ _ (by omega) (fun j t j1 j2 t1 t2 => ?_)
    by_cases e : j = i
    · subst e
      exact hno t t1 t2
    · exact hp j t j1 (by omega) t1 t2
set_option maxRecDepth 10000 in
set_option maxHeartbeats 2000000 in
theorem e_X9_isDark {d n sl : Nat} {S : zSh} {c : zC} (hS : zSok S) (hB : zBd c) (hbl : ∀ j, 0 ≤ j → j < c 146 1 → 0 ≤ c 146 (80 + 3 * j) ∧ c 146 (80 + 3 * j) < c 146 (80 + 3 * j + 1) ∧ c 146 (80 + 3 * j + 1) ≤ 1440) (hn : 0 ≤ c 146 1 ∧ c 146 1 ≤ 10) {p a b : Int} (hp0 : 0 ≤ p ∧ p < 16) (ha : 0 ≤ a ∧ a ≤ 20000) (hb : b ≤ 20000) : zE (d + 1) 101 0 (zent 101 [zA 145, zI p, zI a, zI b]) [] ((n, sl), (S, c)) (zRp (zTf (zDk (c 146 1) (fun j => c 146 (80 + 3 * j)) (fun j => c 146 (80 + 3 * j + 1)) (fun j => c 146 (80 + 3 * j + 2)) (c 146 (10 + 4 * p + 2)) a b)) ((n, sl), (S, c))) := by
  show zE (d + 1) 101 0 [some (zA 145), some (zI p), some (zI a), some (zI b), none, none, none] [] ((n, sl), (S, c)) _
  refine zr_iconst I101_0 ?_
  refine zl_ist4 I101_1 ?_
  exact e_X9_isDark_l hS hB hbl hn hp0 ha hb 0 (by omega) _ _ (by omega) (fun j t j1 j2 => absurd j1 (by omega))
