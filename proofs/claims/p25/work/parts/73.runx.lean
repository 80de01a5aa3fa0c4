/-! the class: runOver -/
def zDkX (c : zC) (p a b : Int) : Prop := zDk (c 20 0) (c 21) (c 22) (c 23) (c 13 p) a b
def zPsh (c : zC) (i e x : Int) (c' : zC) : Prop := (¬ (e + c 27 i ≤ 10080 ∧ ¬ zDkX c (c 25 i) e (e + c 27 i)) ∧ x = 0 ∧ c' = c) ∨ ((e + c 27 i ≤ 10080 ∧ ¬ zDkX c (c 25 i) e (e + c 27 i)) ∧ zTf (zOkl (zTX c) (c 19) (zGt (zup c 26 i e) (c 25 i) (c 24 0).toNat)) x ∧ ∀ r, (r < 131 ∨ 136 < r) → c' r = zup c 26 i e r)
def zGw (c : zC) (i e x : Int) (c' : zC) : Prop := (c 11 (c 25 i) = 2 ∧ x = 0 ∧ c' = c) ∨ (c 11 (c 25 i) ≠ 2 ∧ c 28 i = 1 ∧ ((c 26 i + c 27 i ≤ e ∧ x = 0 ∧ c' = c) ∨ (e < c 26 i + c 27 i ∧ x = 1 ∧ c' = zup (zup c 26 i e) 27 i (c 26 i + c 27 i - e)))) ∨ (c 11 (c 25 i) ≠ 2 ∧ c 28 i ≠ 1 ∧ zPsh c i e x c')
def zDp (c c2 : zC) (i : Int) : Prop := (c 11 (c 25 i) = 3 ∧ c2 = zup c 14 (c 25 i) (c 14 (c 25 i) + 1)) ∨ (c 11 (c 25 i) ≠ 3 ∧ c2 = c)
def zRX : Nat → zC → Int → Int → zC → Int → Prop
  | 0, _, _, _, _, _ => False
  | f + 1, c, i, e, c', d => (¬ (i < c 24 0 ∧ c 26 i < e) ∧ c' = c ∧ d = 0) ∨ ((i < c 24 0 ∧ c 26 i < e) ∧ ∃ x c1, zGw c i e x c1 ∧ ((x ≠ 0 ∧ zRX f c1 (i + 1) (c1 26 i + c1 27 i) c' d) ∨ (x = 0 ∧ ∃ c2 c3 d1, zDp c1 c2 i ∧ zDel c2 c3 i ∧ zRX f c3 i e c' d1 ∧ d = d1 + 1)))
set_option maxRecDepth 10000 in
set_option maxHeartbeats 2000000 in
theorem e_X8_push {d n sl : Nat} {S : zSh} {c : zC} (hS : zSok S) (hB : zBd c) (hc : 0 ≤ c 24 0 ∧ c 24 0 ≤ 60) (hit : ∀ j, 0 ≤ j → j < c 24 0 → 0 ≤ c 25 j ∧ c 25 j < c 10 0 ∧ 0 ≤ c 26 j ∧ 0 ≤ c 27 j ∧ c 26 j + c 27 j ≤ 10080) (hpq : 0 ≤ c 10 0 ∧ c 10 0 ≤ 16) (hr : 0 ≤ c 15 0 ∧ c 15 0 ≤ 30) (hpl : ∀ r, 0 ≤ r → r < c 15 0 → 0 ≤ c 19 r ∧ c 19 r ≤ 50) (hbl : ∀ j, 0 ≤ j → j < c 20 0 → 0 ≤ c 21 j ∧ c 21 j < c 22 j ∧ c 22 j ≤ 1440) (hn : 0 ≤ c 20 0 ∧ c 20 0 ≤ 10) {i e : Int} (hi : 0 ≤ i ∧ i < c 24 0) (he : 0 ≤ e ∧ e ≤ 10080) (hl1 : 1 ≤ c 27 i) : zE (d + 3) 77 0 (zent 77 [zA 8, zI i, zI e]) [] ((n, sl), (S, c)) (fun r μ' => ∃ (x : Int) (c' : zC), r = some (zI x) ∧ μ' = ((n, sl), (S, c')) ∧ zBd c' ∧ zPsh c i e x c') := by
  show zE (d + 3) 77 0 [some (zA 8), some (zI i), some (zI e), none, none] [] ((n, sl), (S, c)) _
  have hit0 := hit i hi.1 hi.2
  refine zl_ald0 I77_0 ?_
  refine zr_getr (j := 0) I77_1 F8_12 rfl (sT8 hS) (sR8_0 hS) ?_
  refine zr_getr (j := 3) I77_4 F8_102 rfl (sT9 hS) (sR9_3 hS) ?_
  refine zr_getr (j := 1) I77_7 F8_147 rfl (sT24 hS) (sR24_1 hS) ?_
  refine zl_ild1 I77_10 ?_
  refine zr_iaB hB (by decide) I77_11 (sT25 hS) (sN25 hS) (by omega) (fun b11 => ?_)
  refine zl_ist3 I77_12 ?_
  refine zl_ild2 I77_13 ?_
  refine zl_ald0 I77_14 ?_
  refine zr_getr (j := 0) I77_15 F8_12 rfl (sT8 hS) (sR8_0 hS) ?_
  refine zr_getr (j := 3) I77_18 F8_102 rfl (sT9 hS) (sR9_3 hS) ?_
  refine zr_getr (j := 3) I77_21 F8_140 rfl (sT24 hS) (sR24_3 hS) ?_
  refine zl_ild1 I77_24 ?_
  refine zr_iaB hB (by decide) I77_25 (sT27 hS) (sN27 hS) (by omega) (fun b25 => ?_)
  refine zr_iadd I77_26 (by unfold zInR; omega) ?_
  refine zl_ist4 I77_27 ?_
  refine zl_ild4 I77_29 ?_
  refine zr_sipush I77_31 ?_
  refine zr_ic_gt (t := 67) I77_34 rfl (fun h34 => ?_) (fun h34 => ?_)
  · refine zr_iconst I77_67 ?_
    refine zr_zret I77_68 rfl (by decide) ?_
    exact ⟨_, _, rfl, rfl, hB, Or.inl ⟨fun h => by have := h.1; omega, rfl, rfl⟩⟩
  · refine zl_ald0 I77_37 ?_
    refine zr_getr (j := 0) I77_38 F8_12 rfl (sT8 hS) (sR8_0 hS) ?_
    refine zr_getr (j := 2) I77_41 F8_83 rfl (sT9 hS) (sR9_2 hS) ?_
    refine zl_ald0 I77_44 ?_
    refine zr_getr (j := 0) I77_45 F8_12 rfl (sT8 hS) (sR8_0 hS) ?_
    refine zr_getr (j := 0) I77_48 F8_48 rfl (sT9 hS) (sR9_0 hS) ?_
    refine zr_getr (j := 3) I77_51 F8_182 rfl (sT10 hS) (sR10_3 hS) ?_
    refine zl_ild3 I77_54 ?_
    refine zr_iaB hB (by decide) I77_55 (sT13 hS) (sN13 hS) (by omega) (fun b55 => ?_)
    refine zl_ild2 I77_56 ?_
    refine zl_ild4 I77_57 ?_
    refine zr_callV I77_59 C8_185 ⟨rfl, rfl⟩ ⟨rfl, Nat.le_of_ble_eq_true rfl⟩ (Or.inl ⟨rfl, sT20 hS⟩) (e_X0_darkUntil hS hB hbl hn (by omega) (by omega)) (fun v59 μ59 hv59 => ?_)
    obtain ⟨x59, rfl, hx59, rfl⟩ := hv59
    have hdz := zDkU_hit hbl (by omega) hx59
    clear hx59
    dsimp only [Option.toList, List.cons_append, List.nil_append]
    refine zr_bipush I77_62 ?_
    refine zr_ic_eq (t := 69) I77_64 rfl (fun h64 => ?_) (fun h64 => ?_)
    · refine zl_ald0 I77_69 ?_
      refine zr_getr (j := 0) I77_70 F8_12 rfl (sT8 hS) (sR8_0 hS) ?_
      refine zr_getr (j := 3) I77_73 F8_102 rfl (sT9 hS) (sR9_3 hS) ?_
      refine zr_getr (j := 2) I77_76 F8_150 rfl (sT24 hS) (sR24_2 hS) ?_
      refine zl_ild1 I77_79 ?_
      refine zl_ild2 I77_80 ?_
      refine zr_iast I77_81 (sT26 hS) (sN26 hS) (by omega) ?_
      have hB2 : zBd (zup c 26 i e) := zBd_up hB (by omega)
      refine zl_ald0 I77_82 ?_
      refine zl_ild3 I77_83 ?_
      refine zr_callV I77_84 C8_212 ⟨rfl, rfl⟩ ⟨rfl, Nat.le_of_ble_eq_true rfl⟩ (Or.inl ⟨rfl, sT8 hS⟩) (e_X8_gatherItemsOf hS hB2 (by rw [zup_ne (show (24 : Nat) ≠ 26 by decide)]; exact hc) (fun j j1 j2 => by
  rw [zup_ne (show (24 : Nat) ≠ 26 by decide)] at j2
  have hj := hit j j1 j2
  rw [zup_ne (show (25 : Nat) ≠ 26 by decide), zup_ne (show (27 : Nat) ≠ 26 by decide), zup_q]
  split <;> omega) (by omega)) (fun v84 μ84 hv84 => ?_)
      obtain ⟨c84, rfl, rfl, hc84⟩ := hv84
      dsimp only [Option.toList, List.cons_append, List.nil_append]
      refine zl_ald0 I77_87 ?_
      refine zr_getr (j := 2) I77_88 F8_26 rfl (sT8 hS) (sR8_2 hS) ?_
      refine zl_ald0 I77_91 ?_
      refine zr_getr (j := 0) I77_92 F8_12 rfl (sT8 hS) (sR8_0 hS) ?_
      refine zr_getr (j := 1) I77_95 F8_73 rfl (sT9 hS) (sR9_1 hS) ?_
      have hlg := (zGt_s (zup c 26 i e) (c 25 i) (zup c 26 i e 24 0).toNat).2
      have hr9 := hc84.1.1
      rw [zup_oth (show (24 : Nat) ≠ 26 by decide)] at hlg hr9
      refine zr_callV I77_98 C8_219 ⟨rfl, rfl⟩ ⟨rfl, Nat.le_of_ble_eq_true rfl⟩ (Or.inl ⟨rfl, sT131 hS⟩) (e_X6_share hS hc84.2.2 (by rw [hc84.2.1 15 (by decide), zup_ne (by decide)]; exact hr) (by omega) (fun r r1 r2 => by rw [hc84.2.1 19 (by decide), zup_ne (by decide)]; rw [hc84.2.1 15 (by decide), zup_ne (by decide)] at r2; exact hpl r r1 r2)) (fun v98 μ98 hv98 => ?_)
      obtain ⟨x98, c98, rfl, rfl, hsh⟩ := hv98
      dsimp only [Option.toList, List.cons_append, List.nil_append]
      refine zr_zret I77_101 rfl (by rcases hsh.1 with h | h <;> omega) ?_
      have hd9 : ¬ zDkX c (c 25 i) e (e + c 27 i) := hdz.mp h64
      obtain ⟨gr, gf, gB⟩ := hc84
      have eT : zTX c84 = zTX c := by
        unfold zTX
        rw [gf 15 (by decide), gf 16 (by decide), gf 17 (by decide), gf 18 (by decide), zup_ne (by decide), zup_ne (by decide), zup_ne (by decide), zup_ne (by decide)]
      have e19 : c84 19 = c 19 := by rw [gf 19 (by decide), zup_ne (by decide)]
      have hal := zAll_l gr
      rw [eT, e19, zup_oth (show (24 : Nat) ≠ 26 by decide)] at hal
      obtain ⟨x1, x2, x3, x4⟩ := hsh.2
      refine ⟨_, _, rfl, rfl, x2, Or.inr ⟨⟨by omega, hd9⟩, ?_, fun r hr => by rw [x1 r (by omega) (by omega)]; exact gf r (by omega)⟩⟩
      rcases hsh.1 with ⟨y1, y2⟩ | ⟨y1, y2⟩
      · exact Or.inl ⟨y1, hal.mp y2⟩
      · exact Or.inr ⟨y1, fun h => y2 (hal.mpr h)⟩
    · refine zr_iconst I77_67 ?_
      refine zr_zret I77_68 rfl (by decide) ?_
      have hd9 : zDkX c (c 25 i) e (e + c 27 i) := Classical.byContradiction (fun h => h64 (hdz.mpr h))
      exact ⟨_, _, rfl, rfl, hB, Or.inl ⟨fun h => h.2 hd9, rfl, rfl⟩⟩
set_option maxRecDepth 10000 in
set_option maxHeartbeats 2000000 in
theorem e_X8_giveWay {d n sl : Nat} {S : zSh} {c : zC} (hS : zSok S) (hB : zBd c) (hc : 0 ≤ c 24 0 ∧ c 24 0 ≤ 60) (hit : ∀ j, 0 ≤ j → j < c 24 0 → 0 ≤ c 25 j ∧ c 25 j < c 10 0 ∧ 0 ≤ c 26 j ∧ 0 ≤ c 27 j ∧ c 26 j + c 27 j ≤ 10080) (hpq : 0 ≤ c 10 0 ∧ c 10 0 ≤ 16) (hr : 0 ≤ c 15 0 ∧ c 15 0 ≤ 30) (hpl : ∀ r, 0 ≤ r → r < c 15 0 → 0 ≤ c 19 r ∧ c 19 r ≤ 50) (hbl : ∀ j, 0 ≤ j → j < c 20 0 → 0 ≤ c 21 j ∧ c 21 j < c 22 j ∧ c 22 j ≤ 1440) (hn : 0 ≤ c 20 0 ∧ c 20 0 ≤ 10) {i e : Int} (hi : 0 ≤ i ∧ i < c 24 0) (he : 0 ≤ e ∧ e ≤ 10080) (hl1 : 1 ≤ c 27 i) : zE (d + 4) 75 0 (zent 75 [zA 8, zI i, zI e]) [] ((n, sl), (S, c)) (fun r μ' => ∃ (x : Int) (c' : zC), r = some (zI x) ∧ μ' = ((n, sl), (S, c')) ∧ zBd c' ∧ zGw c i e x c') := by
  show zE (d + 4) 75 0 [some (zA 8), some (zI i), some (zI e)] [] ((n, sl), (S, c)) _
  have hit0 := hit i hi.1 hi.2
  refine zl_ald0 I75_0 ?_
  refine zl_ild1 I75_1 ?_
  refine zr_callV I75_2 C8_133 ⟨rfl, rfl⟩ ⟨rfl, Nat.le_of_ble_eq_true rfl⟩ (Or.inl ⟨rfl, sT8 hS⟩) (e_X8_kindOf hS hB (by omega) (by omega)) (fun v2 μ2 hv2 => ?_)
  obtain ⟨rfl, rfl⟩ := hv2
  dsimp only [Option.toList, List.cons_append, List.nil_append]
  refine zr_iconst I75_5 ?_
  refine zr_ic_ne (t := 11) I75_6 rfl (fun h6 => ?_) (fun h6 => ?_)
  · refine zl_ald0 I75_11 ?_
    refine zr_getr (j := 0) I75_12 F8_12 rfl (sT8 hS) (sR8_0 hS) ?_
    refine zr_getr (j := 3) I75_15 F8_102 rfl (sT9 hS) (sR9_3 hS) ?_
    refine zr_getr (j := 4) I75_18 F8_153 rfl (sT24 hS) (sR24_4 hS) ?_
    refine zl_ild1 I75_21 ?_
    refine zr_iaB hB (by decide) I75_22 (sT28 hS) (sN28 hS) (by omega) (fun b22 => ?_)
    refine zr_iconst I75_23 ?_
    refine zr_ic_ne (t := 36) I75_24 rfl (fun h24 => ?_) (fun h24 => ?_)
    · refine zl_ald0 I75_36 ?_
      refine zl_ild1 I75_37 ?_
      refine zl_ild2 I75_38 ?_
      refine zr_callV I75_39 C8_253 ⟨rfl, rfl⟩ ⟨rfl, Nat.le_of_ble_eq_true rfl⟩ (Or.inl ⟨rfl, sT8 hS⟩) (e_X8_push hS hB hc hit hpq hr hpl hbl hn hi he hl1) (fun v39 μ39 hv39 => ?_)
      obtain ⟨x39, c39, rfl, rfl, hB39, hv39⟩ := hv39
      have hb39 : x39 = 0 ∨ x39 = 1 := by
        rcases hv39 with h | ⟨_, h, _⟩
        · exact Or.inl h.2.1
        · rcases h with h | h
          · exact Or.inr h.1
          · exact Or.inl h.1
      dsimp only [Option.toList, List.cons_append, List.nil_append]
      refine zr_zret I75_42 rfl (by first | decide | (rcases hv30 with h | h <;> omega) | exact hb39) ?_
      exact ⟨_, _, rfl, rfl, hB39, Or.inr (Or.inr ⟨by omega, by omega, hv39⟩)⟩
    · refine zl_ald0 I75_27 ?_
      refine zl_ild1 I75_28 ?_
      refine zl_ild2 I75_29 ?_
      refine zr_callV I75_30 C8_250 ⟨rfl, rfl⟩ ⟨rfl, Nat.le_of_ble_eq_true rfl⟩ (Or.inl ⟨rfl, sT8 hS⟩) (e_X8_cut hS hB hc hi (by omega)) (fun v30 μ30 hv30 => ?_)
      obtain ⟨x30, c30, rfl, rfl, hv30⟩ := hv30
      dsimp only [Option.toList, List.cons_append, List.nil_append]
      refine zr_goto (t := 42) I75_33 rfl ?_
      refine zr_zret I75_42 rfl (by first | decide | (rcases hv30 with h | h <;> omega) | exact hb39) ?_
      rcases hv30 with ⟨k1, k2, k3⟩ | ⟨k1, k2, k3⟩
      · exact ⟨_, _, rfl, rfl, by rw [k3]; exact hB, Or.inr (Or.inl ⟨by omega, by omega, Or.inl ⟨k1, k2, k3⟩⟩)⟩
      · exact ⟨_, _, rfl, rfl, by rw [k3]; exact zBd_up (zBd_up hB (by omega)) (by omega), Or.inr (Or.inl ⟨by omega, by omega, Or.inr ⟨k1, k2, k3⟩⟩)⟩
  · refine zr_iconst I75_9 ?_
    refine zr_zret I75_10 rfl (by decide) ?_
    exact ⟨_, _, rfl, rfl, hB, Or.inl ⟨by omega, rfl, rfl⟩⟩
set_option maxRecDepth 10000 in
set_option maxHeartbeats 2000000 in
theorem e_X8_makeRoom_l {d n sl : Nat} {S : zSh} {c : zC} (hS : zSok S) (hr : 0 ≤ c 15 0 ∧ c 15 0 ≤ 30) (hpl : ∀ r, 0 ≤ r → r < c 15 0 → 0 ≤ c 19 r ∧ c 19 r ≤ 50) (hbl : ∀ j, 0 ≤ j → j < c 20 0 → 0 ≤ c 21 j ∧ c 21 j < c 22 j ∧ c 22 j ≤ 1440) (hn : 0 ≤ c 20 0 ∧ c 20 0 ≤ 10)  (hpq : 0 ≤ c 10 0 ∧ c 10 0 ≤ 16) {it bf : Int} (hbf : bf ≤ 60) : ∀ u : Int, 0 ≤ u → ∀ c1 : zC, ∀ nx : Int, ∀ e : Int, (c1 24 0 - nx = u) → (0 ≤ c1 24 0 ∧ c1 24 0 ≤ bf) → (1 ≤ nx) → (0 ≤ e ∧ e ≤ 10080) → (∀ j, 0 ≤ j → j < c1 24 0 → 0 ≤ c1 25 j ∧ c1 25 j < c 10 0 ∧ 0 ≤ c1 26 j ∧ 1 ≤ c1 27 j ∧ c1 26 j + c1 27 j ≤ 10080) → (∀ r, r < 24 → r ≠ 14 → c1 r = c r) → (∀ p, 0 ≤ p → p < c 10 0 → 0 ≤ c1 14 p ∧ c1 14 p ≤ 60000 + (bf - c1 24 0)) → (zBd c1) → zE (d + 5) 74 33 [some (zA 8), some (zI it), some (zI bf), some (zI e), some (zI nx), some (zI (nx + (bf - c1 24 0)))] [] ((n, sl), (S, c1)) (fun r μ' => ∃ (c' : zC) (d1 : Int) (f : Nat), r = some (zI (bf - c1 24 0 + d1)) ∧ μ' = ((n, sl), (S, c')) ∧ zRX f c1 nx e c' d1 ∧ (∀ r, (r < 131 ∨ 136 < r) → r ≠ 14 → (r < 24 ∨ 28 < r) → c' r = c1 r) ∧ zBd c') := by
  refine zindD (fun u ih hN => ?_)
  intro c1 nx e hu hcc h1 he hit hfr how hBd
  have hcc9 : 0 ≤ c1 24 0 ∧ c1 24 0 ≤ 60 := by omega
  refine zl_ild5 I74_33 ?_
  refine zl_ild2 I74_35 ?_
  refine zr_ic_ge (t := 115) I74_36 rfl (fun h36 => ?_) (fun h36 => ?_)
  · refine zl_ild2 I74_115 ?_
    refine zl_ald0 I74_116 ?_
    refine zr_getr (j := 0) I74_117 F8_12 rfl (sT8 hS) (sR8_0 hS) ?_
    refine zr_getr (j := 3) I74_120 F8_102 rfl (sT9 hS) (sR9_3 hS) ?_
    refine zr_giB (j := 0) hBd (by decide) I74_123 F8_112 rfl (sT24 hS) (fun b123 => ?_)
    refine zr_isub I74_126 (by unfold zInR; omega) ?_
    refine zr_iret I74_127 rfl ?_
    exact ⟨c1, 0, 1, by rw [Int.add_zero], rfl, Or.inl ⟨by omega, rfl, rfl⟩, fun r _ _ _ => rfl, hBd⟩
  · refine zl_ild4 I74_39 ?_
    refine zl_ald0 I74_41 ?_
    refine zr_getr (j := 0) I74_42 F8_12 rfl (sT8 hS) (sR8_0 hS) ?_
    refine zr_getr (j := 3) I74_45 F8_102 rfl (sT9 hS) (sR9_3 hS) ?_
    refine zr_giB (j := 0) hBd (by decide) I74_48 F8_112 rfl (sT24 hS) (fun b48 => ?_)
    refine zr_ic_ge (t := 115) I74_51 rfl (fun h51 => ?_) (fun h51 => ?_)
    · refine zl_ild2 I74_115 ?_
      refine zl_ald0 I74_116 ?_
      refine zr_getr (j := 0) I74_117 F8_12 rfl (sT8 hS) (sR8_0 hS) ?_
      refine zr_getr (j := 3) I74_120 F8_102 rfl (sT9 hS) (sR9_3 hS) ?_
      refine zr_giB (j := 0) hBd (by decide) I74_123 F8_112 rfl (sT24 hS) (fun b123 => ?_)
      refine zr_isub I74_126 (by unfold zInR; omega) ?_
      refine zr_iret I74_127 rfl ?_
      exact ⟨c1, 0, 1, by rw [Int.add_zero], rfl, Or.inl ⟨by omega, rfl, rfl⟩, fun r _ _ _ => rfl, hBd⟩
    · refine zl_ald0 I74_54 ?_
      refine zr_getr (j := 0) I74_55 F8_12 rfl (sT8 hS) (sR8_0 hS) ?_
      refine zr_getr (j := 3) I74_58 F8_102 rfl (sT9 hS) (sR9_3 hS) ?_
      refine zr_getr (j := 2) I74_61 F8_150 rfl (sT24 hS) (sR24_2 hS) ?_
      refine zl_ild4 I74_64 ?_
      refine zr_iaB hBd (by decide) I74_66 (sT26 hS) (sN26 hS) (by omega) (fun b66 => ?_)
      refine zl_ild3 I74_67 ?_
      refine zr_ic_lt (t := 74) I74_68 rfl (fun h68 => ?_) (fun h68 => ?_)
      · have hit1 := hit nx (by omega) (by omega)
        refine zl_ald0 I74_74 ?_
        refine zl_ild4 I74_75 ?_
        refine zl_ild3 I74_77 ?_
        refine zr_callV I74_78 C8_243 ⟨rfl, rfl⟩ ⟨rfl, Nat.le_of_ble_eq_true rfl⟩ (Or.inl ⟨rfl, sT8 hS⟩) (e_X8_giveWay hS hBd hcc9 (by rw [hfr 10 (by decide) (by decide)]; exact fun j j1 j2 => by have := hit j j1 j2; omega) (by rw [hfr 10 (by decide) (by decide)]; exact hpq) (by rw [hfr 15 (by decide) (by decide)]; exact hr) (by rw [hfr 15 (by decide) (by decide), hfr 19 (by decide) (by decide)]; exact hpl) (by rw [hfr 20 (by decide) (by decide), hfr 21 (by decide) (by decide), hfr 22 (by decide) (by decide)]; exact hbl) (by rw [hfr 20 (by decide) (by decide)]; exact hn) (by omega) he (by omega)) (fun v78 μ78 hv78 => ?_)
        obtain ⟨x78, c78, rfl, rfl, hB78, hgw⟩ := hv78
        have hgf : (∀ r, (r < 131 ∨ 136 < r) → r ≠ 26 → r ≠ 27 → c78 r = c1 r) ∧ (∀ j, j ≠ nx → c78 26 j = c1 26 j ∧ c78 27 j = c1 27 j) ∧ (x78 ≠ 0 → c78 26 nx = e ∧ 1 ≤ c78 27 nx ∧ e + c78 27 nx ≤ 10080) := by
          have hn9 := hit nx (by omega) (by omega)
          rcases hgw with ⟨k1, k2, k3⟩ | ⟨k1, k2, ⟨k3, k4, k5⟩ | ⟨k3, k4, k5⟩⟩ | ⟨k1, k2, ⟨k3, k4, k5⟩ | ⟨k3, k4, k5⟩⟩
          · rw [k3]
            exact ⟨fun r _ _ _ => rfl, fun j _ => ⟨rfl, rfl⟩, fun h => absurd k2 h⟩
          · rw [k5]
            exact ⟨fun r _ _ _ => rfl, fun j _ => ⟨rfl, rfl⟩, fun h => absurd k4 h⟩
          · rw [k5]
            refine ⟨fun r _ h1 h2 => by rw [zup_ne h2, zup_ne h1], fun j hj => ⟨by rw [zup_oth (by decide), zup_k hj], by rw [zup_k hj, zup_oth (by decide)]⟩, fun _ => ?_⟩
            rw [zup_oth (by decide), zup_same, zup_same]
            omega
          · rw [k5]
            exact ⟨fun r _ _ _ => rfl, fun j _ => ⟨rfl, rfl⟩, fun h => absurd k4 h⟩
          · refine ⟨fun r h h1 h2 => by rw [k5 r h, zup_ne h1], fun j hj => ⟨by rw [k5 26 (by decide), zup_k hj], by rw [k5 27 (by decide), zup_oth (by decide)]⟩, fun _ => ?_⟩
            rw [k5 26 (by decide), k5 27 (by decide), zup_same, zup_oth (by decide)]
            have := k3.1
            omega
        obtain ⟨gf1, gf2, gf3⟩ := hgf
        have n24 : c78 24 0 = c1 24 0 := by rw [gf1 24 (by decide) (by decide) (by decide)]
        dsimp only [Option.toList, List.cons_append, List.nil_append]
        refine zr_if_eq (t := 103) I74_81 rfl (fun h81 => ?_) (fun h81 => ?_)
        · refine zl_ald0 I74_103 ?_
          refine zl_ild4 I74_104 ?_
          refine zr_callV I74_106 C8_247 ⟨rfl, rfl⟩ ⟨rfl, Nat.le_of_ble_eq_true rfl⟩ (Or.inl ⟨rfl, sT8 hS⟩) (e_X8_drop hS hB78 (by omega) (by omega) (by rw [gf1 25 (by decide) (by decide) (by decide)]; omega) (by rw [gf1 25 (by decide) (by decide) (by decide), gf1 14 (by decide) (by decide) (by decide)]; have := how (c1 25 nx) (by omega) (by omega); omega)) (fun v106 μ106 hv106 => ?_)
          skip
          dsimp only [Option.toList, List.cons_append, List.nil_append]
          refine zl_iinc5 I74_109 (by unfold zInR; omega) ?_
          refine zr_goto (t := 33) I74_112 rfl ?_
          have hx0 : x78 = 0 := by omega
          obtain ⟨c2, c3, rfl, rfl, hdp, hdl⟩ := hv106
          have hdp9 : zDp c78 c2 nx := hdp
          obtain ⟨m1, m2, m3, m4, m5⟩ := id hdl
          have h2f : (∀ r, r ≠ 14 → c2 r = c78 r) ∧ ∀ p, 0 ≤ p → p < c 10 0 → 0 ≤ c2 14 p ∧ c2 14 p ≤ 60000 + (bf - c1 24 0) + 1 := by
            rcases hdp with ⟨q1, q2⟩ | ⟨q1, q2⟩
            · rw [q2]
              refine ⟨fun r hr9 => zup_ne hr9, fun p p1 p2 => ?_⟩
              rw [zup_q, gf1 14 (by decide) (by decide) (by decide)]
              have := how p p1 p2
              split
              · rename_i h9
                rw [← h9]
                omega
              · omega
            · rw [q2]
              refine ⟨fun r hr9 => rfl, fun p p1 p2 => ?_⟩
              rw [gf1 14 (by decide) (by decide) (by decide)]
              have := how p p1 p2
              omega
          have n24b : c3 24 0 = c1 24 0 - 1 := by rw [m1, h2f.1 24 (by decide), n24]
          refine zE.mono (by
            have := ih (u - 1) (by omega) (by omega) c3 nx e (by omega) (by omega) (by omega) (by omega) (fun j j1 j2 => ?_) (fun r r1 r2 => by rw [m3 r (by omega), h2f.1 r r2, gf1 r (by omega) (by omega) (by omega)]; exact hfr r r1 r2) (fun p p1 p2 => by rw [m3 14 (by decide), n24b]; have := h2f.2 p p1 p2; omega) m5
            · rw [n24b, show nx + (bf - (c1 24 0 - 1)) = nx + (bf - c1 24 0) + 1 by omega] at this
              exact this
            · rw [n24b] at j2
              rw [m4 25 (by decide) (by decide), m4 26 (by decide) (by decide), m4 27 (by decide) (by decide), h2f.1 24 (by decide), h2f.1 25 (by decide), h2f.1 26 (by decide), h2f.1 27 (by decide), n24]
              by_cases e9 : nx ≤ j
              · rw [if_pos (by omega), if_pos (by omega), if_pos (by omega), gf1 25 (by decide) (by decide) (by decide), (gf2 (j + 1) (by omega)).1, (gf2 (j + 1) (by omega)).2]
                exact hit (j + 1) (by omega) (by omega)
              · rw [if_neg (by omega), if_neg (by omega), if_neg (by omega), gf1 25 (by decide) (by decide) (by decide), (gf2 j (by omega)).1, (gf2 j (by omega)).2]
                exact hit j j1 (by omega)) ?_
          rintro r μ' ⟨c', d1, f, rfl, rfl, g1, g2, g3⟩
          refine ⟨c', d1 + 1, f + 1, by rw [show bf - (c1 24 0 - 1) + d1 = bf - c1 24 0 + (d1 + 1) by omega], rfl, Or.inr ⟨by omega, x78, c78, hgw, Or.inr ⟨hx0, c2, c3, d1, hdp9, hdl, g1, rfl⟩⟩, fun r r1 r2 r3 => ?_, g3⟩
          rw [g2 r r1 r2 r3, m3 r (by omega), h2f.1 r r2]
          exact gf1 r r1 (by omega) (by omega)
        · refine zl_ald0 I74_84 ?_
          refine zr_getr (j := 0) I74_85 F8_12 rfl (sT8 hS) (sR8_0 hS) ?_
          refine zr_getr (j := 3) I74_88 F8_102 rfl (sT9 hS) (sR9_3 hS) ?_
          refine zl_ild4 I74_91 ?_
          refine zr_callV I74_93 C8_137 ⟨rfl, rfl⟩ ⟨rfl, Nat.le_of_ble_eq_true rfl⟩ (Or.inl ⟨rfl, sT24 hS⟩) (e_X3_end hS hB78 (by omega)) (fun v93 μ93 hv93 => ?_)
          obtain ⟨rfl, rfl⟩ := hv93
          dsimp only [Option.toList, List.cons_append, List.nil_append]
          refine zl_ist3 I74_96 ?_
          refine zl_iinc4 I74_97 (by unfold zInR; omega) ?_
          refine zr_goto (t := 109) I74_100 rfl ?_
          refine zl_iinc5 I74_109 (by unfold zInR; omega) ?_
          refine zr_goto (t := 33) I74_112 rfl ?_
          obtain ⟨g26, g27, g10⟩ := gf3 (by omega)
          refine zE.mono (by
            have := ih (u - 1) (by omega) (by omega) c78 (nx + 1) (c78 26 nx + c78 27 nx) (by omega) (by omega) (by omega) (by omega) (fun j j1 j2 => ?_) (fun r r1 r2 => by rw [gf1 r (by omega) (by omega) (by omega)]; exact hfr r r1 r2) (fun p p1 p2 => by rw [gf1 14 (by decide) (by decide) (by decide), n24]; exact how p p1 p2) hB78
            · rw [n24, show nx + 1 + (bf - c1 24 0) = nx + (bf - c1 24 0) + 1 by omega] at this
              exact this
            · rw [n24] at j2
              rw [gf1 25 (by decide) (by decide) (by decide)]
              have hj := hit j j1 j2
              by_cases e9 : j = nx
              · rw [e9, g26]
                rw [e9] at hj
                omega
              · rw [(gf2 j e9).1, (gf2 j e9).2]
                exact hj) ?_
          rintro r μ' ⟨c', d1, f, rfl, rfl, g1, g2, g3⟩
          exact ⟨c', d1, f + 1, rfl, rfl, Or.inr ⟨by omega, x78, c78, hgw, Or.inl ⟨by omega, g1⟩⟩, fun r r1 r2 r3 => (g2 r r1 r2 r3).trans (gf1 r r1 (by omega) (by omega)), g3⟩
      · refine zr_goto (t := 115) I74_71 rfl ?_
        refine zl_ild2 I74_115 ?_
        refine zl_ald0 I74_116 ?_
        refine zr_getr (j := 0) I74_117 F8_12 rfl (sT8 hS) (sR8_0 hS) ?_
        refine zr_getr (j := 3) I74_120 F8_102 rfl (sT9 hS) (sR9_3 hS) ?_
        refine zr_geti (j := 0) I74_123 F8_112 rfl (sT24 hS) ?_
        refine zr_isub I74_126 (by unfold zInR; omega) ?_
        refine zr_iret I74_127 rfl ?_
        exact ⟨c1, 0, 1, by rw [Int.add_zero], rfl, Or.inl ⟨by omega, rfl, rfl⟩, fun r _ _ _ => rfl, hBd⟩
set_option maxRecDepth 10000 in
set_option maxHeartbeats 2000000 in
theorem e_X8_makeRoomAfter {d n sl : Nat} {S : zSh} {c : zC} (hS : zSok S) (hB : zBd c) (hc : 0 ≤ c 24 0 ∧ c 24 0 ≤ 60) (hit : ∀ j, 0 ≤ j → j < c 24 0 → 0 ≤ c 25 j ∧ c 25 j < c 10 0 ∧ 0 ≤ c 26 j ∧ 1 ≤ c 27 j ∧ c 26 j + c 27 j ≤ 10080) (hr : 0 ≤ c 15 0 ∧ c 15 0 ≤ 30) (hpl : ∀ r, 0 ≤ r → r < c 15 0 → 0 ≤ c 19 r ∧ c 19 r ≤ 50) (hbl : ∀ j, 0 ≤ j → j < c 20 0 → 0 ≤ c 21 j ∧ c 21 j < c 22 j ∧ c 22 j ≤ 1440) (hn : 0 ≤ c 20 0 ∧ c 20 0 ≤ 10)  (hpq : 0 ≤ c 10 0 ∧ c 10 0 ≤ 16) (how : ∀ p, 0 ≤ p → p < c 10 0 → 0 ≤ c 14 p ∧ c 14 p ≤ 60000) {it : Int} (hi : 0 ≤ it ∧ it < c 24 0) : zE (d + 5) 74 0 (zent 74 [zA 8, zI it]) [] ((n, sl), (S, c)) (fun r μ' => ∃ (c' : zC) (d1 : Int) (f : Nat), r = some (zI d1) ∧ μ' = ((n, sl), (S, c')) ∧ zRX f c (it + 1) (c 26 it + c 27 it) c' d1 ∧ (∀ r, (r < 131 ∨ 136 < r) → r ≠ 14 → (r < 24 ∨ 28 < r) → c' r = c r) ∧ zBd c') := by
  show zE (d + 5) 74 0 [some (zA 8), some (zI it), none, none, none, none] [] ((n, sl), (S, c)) _
  have hit0 := hit it hi.1 hi.2
  refine zl_ald0 I74_0 ?_
  refine zr_getr (j := 0) I74_1 F8_12 rfl (sT8 hS) (sR8_0 hS) ?_
  refine zr_getr (j := 3) I74_4 F8_102 rfl (sT9 hS) (sR9_3 hS) ?_
  refine zr_giB (j := 0) hB (by decide) I74_7 F8_112 rfl (sT24 hS) (fun b7 => ?_)
  refine zl_ist2 I74_10 ?_
  refine zl_ald0 I74_11 ?_
  refine zr_getr (j := 0) I74_12 F8_12 rfl (sT8 hS) (sR8_0 hS) ?_
  refine zr_getr (j := 3) I74_15 F8_102 rfl (sT9 hS) (sR9_3 hS) ?_
  refine zl_ild1 I74_18 ?_
  refine zr_callV I74_19 C8_137 ⟨rfl, rfl⟩ ⟨rfl, Nat.le_of_ble_eq_true rfl⟩ (Or.inl ⟨rfl, sT24 hS⟩) (e_X3_end hS hB (by omega)) (fun v19 μ19 hv19 => ?_)
  obtain ⟨rfl, rfl⟩ := hv19
  dsimp only [Option.toList, List.cons_append, List.nil_append]
  refine zl_ist3 I74_22 ?_
  refine zl_ild1 I74_23 ?_
  refine zr_iconst I74_24 ?_
  refine zr_iadd I74_25 (by unfold zInR; omega) ?_
  refine zl_ist4 I74_26 ?_
  refine zl_ild1 I74_28 ?_
  refine zr_iconst I74_29 ?_
  refine zr_iadd I74_30 (by unfold zInR; omega) ?_
  refine zl_ist5 I74_31 ?_
  have h9 := e_X8_makeRoom_l (d := d) (n := n) (sl := sl) (c := c) hS hr hpl hbl hn hpq (it := it) (bf := c 24 0) (by omega) (c 24 0 - (it + 1)) (by omega) c (it + 1) (c 26 it + c 27 it) (by omega) (by omega) (by omega) (by omega) hit (fun r _ _ => rfl) (fun p p1 p2 => by have := how p p1 p2; omega) hB
  rw [show it + 1 + (c 24 0 - c 24 0) = it + 1 by omega] at h9
  refine zE.mono h9 ?_
  rintro r μ' ⟨c', d1, f, rfl, rfl, g1, g2⟩
  exact ⟨c', d1, f, by rw [show c 24 0 - c 24 0 + d1 = d1 by omega], rfl, g1, g2⟩
set_option maxRecDepth 10000 in
set_option maxHeartbeats 2000000 in
theorem e_X8_runOver {d n sl : Nat} {S : zSh} {c : zC} (hS : zSok S) (hB : zBd c) (hc : 0 ≤ c 24 0 ∧ c 24 0 ≤ 60) (hit : ∀ j, 0 ≤ j → j < c 24 0 → 0 ≤ c 25 j ∧ c 25 j < c 10 0 ∧ 0 ≤ c 26 j ∧ 1 ≤ c 27 j ∧ c 26 j + c 27 j ≤ 10080) (hr : 0 ≤ c 15 0 ∧ c 15 0 ≤ 30) (hpl : ∀ r, 0 ≤ r → r < c 15 0 → 0 ≤ c 19 r ∧ c 19 r ≤ 50) (hbl : ∀ j, 0 ≤ j → j < c 20 0 → 0 ≤ c 21 j ∧ c 21 j < c 22 j ∧ c 22 j ≤ 1440) (hn : 0 ≤ c 20 0 ∧ c 20 0 ≤ 10)  (hpq : 0 ≤ c 10 0 ∧ c 10 0 ≤ 16) (how : ∀ p, 0 ≤ p → p < c 10 0 → 0 ≤ c 14 p ∧ c 14 p ≤ 60000) (hk : 0 ≤ c 29 0 ∧ c 29 0 ≤ 5) (ho : 0 ≤ c 29 1 ∧ c 29 1 ≤ 4) (hcn : zCnW c 9) {it mi : Int} : zE (d + 6) 47 0 (zent 47 [zA 8, zI it, zI mi]) [] ((n, sl), (S, c)) (fun r μ' => ∃ (x : Int) (c' : zC), r = some (zI x) ∧ μ' = ((n, sl), (S, c')) ∧ ((¬ ((0 ≤ it ∧ it < c 24 0) ∧ (1 ≤ mi ∧ mi ≤ 120)) ∧ x = -1 ∧ c' = c) ∨ (((0 ≤ it ∧ it < c 24 0) ∧ (1 ≤ mi ∧ mi ≤ 120)) ∧ c 11 (c 25 it) ≠ 1 ∧ x = -2 ∧ c' = c) ∨ (((0 ≤ it ∧ it < c 24 0) ∧ (1 ≤ mi ∧ mi ≤ 120)) ∧ c 11 (c 25 it) = 1 ∧ 10080 < c 26 it + c 27 it + mi ∧ x = -4 ∧ c' = c) ∨ (((0 ≤ it ∧ it < c 24 0) ∧ (1 ≤ mi ∧ mi ≤ 120)) ∧ c 11 (c 25 it) = 1 ∧ c 26 it + c 27 it + mi ≤ 10080 ∧ ∃ (c1 : zC) (f : Nat), zKpt c c1 ∧ zRX f (zup c1 27 it (c 27 it + mi)) (it + 1) (c 26 it + c 27 it + mi) c' x ∧ (∀ r, (r < 131 ∨ 136 < r) → r ≠ 14 → (r < 24 ∨ 28 < r) → c' r = c1 r) ∧ zBd c'))) := by
  show zE (d + 6) 47 0 [some (zA 8), some (zI it), some (zI mi)] [] ((n, sl), (S, c)) _
  refine zl_ald0 I47_0 ?_
  refine zl_ild1 I47_1 ?_
  refine zr_callV I47_2 C8_99 ⟨rfl, rfl⟩ ⟨rfl, Nat.le_of_ble_eq_true rfl⟩ (Or.inl ⟨rfl, sT8 hS⟩) (e_X8_isItem hS hB) (fun v2 μ2 hv2 => ?_)
  obtain ⟨x2, rfl, hx2, rfl⟩ := hv2
  dsimp only [Option.toList, List.cons_append, List.nil_append]
  unfold zTf at hx2
  refine zr_if_eq (t := 18) I47_5 rfl (fun h5 => ?_) (fun h5 => ?_)
  · refine zr_iconst I47_18 ?_
    refine zr_iret I47_19 rfl ?_
    exact ⟨_, _, rfl, rfl, Or.inl ⟨by omega, rfl, rfl⟩⟩
  · refine zl_ild2 I47_8 ?_
    refine zr_iconst I47_9 ?_
    refine zr_bipush I47_10 ?_
    refine zr_callS I47_12 C8_44 ⟨rfl, rfl⟩ ⟨by simp, rfl, Nat.le_of_ble_eq_true rfl⟩ (e_X8_within ) (fun v12 μ12 hv12 => ?_)
    obtain ⟨x12, rfl, hx12, rfl⟩ := hv12
    dsimp only [Option.toList, List.cons_append, List.nil_append]
    unfold zTf at hx12
    refine zr_if_ne (t := 20) I47_15 rfl (fun h15 => ?_) (fun h15 => ?_)
    · have hit0 := hit it (by omega) (by omega)
      refine zl_ald0 I47_20 ?_
      refine zl_ild1 I47_21 ?_
      refine zr_callV I47_22 C8_133 ⟨rfl, rfl⟩ ⟨rfl, Nat.le_of_ble_eq_true rfl⟩ (Or.inl ⟨rfl, sT8 hS⟩) (e_X8_kindOf hS hB (by omega) (by omega)) (fun v22 μ22 hv22 => ?_)
      obtain ⟨rfl, rfl⟩ := hv22
      dsimp only [Option.toList, List.cons_append, List.nil_append]
      refine zr_iconst I47_25 ?_
      refine zr_ic_eq (t := 32) I47_26 rfl (fun h26 => ?_) (fun h26 => ?_)
      · refine zl_ald0 I47_32 ?_
        refine zr_getr (j := 0) I47_33 F8_12 rfl (sT8 hS) (sR8_0 hS) ?_
        refine zr_getr (j := 3) I47_36 F8_102 rfl (sT9 hS) (sR9_3 hS) ?_
        refine zl_ild1 I47_39 ?_
        refine zr_callV I47_40 C8_137 ⟨rfl, rfl⟩ ⟨rfl, Nat.le_of_ble_eq_true rfl⟩ (Or.inl ⟨rfl, sT24 hS⟩) (e_X3_end hS hB (by omega)) (fun v40 μ40 hv40 => ?_)
        obtain ⟨rfl, rfl⟩ := hv40
        dsimp only [Option.toList, List.cons_append, List.nil_append]
        refine zl_ild2 I47_43 ?_
        refine zr_iadd I47_44 (by unfold zInR; omega) ?_
        refine zr_sipush I47_45 ?_
        refine zr_ic_le (t := 54) I47_48 rfl (fun h48 => ?_) (fun h48 => ?_)
        · refine zl_ald0 I47_54 ?_
          refine zr_getr (j := 1) I47_55 F8_19 rfl (sT8 hS) (sR8_1 hS) ?_
          refine zl_ald0 I47_58 ?_
          refine zr_getr (j := 0) I47_59 F8_12 rfl (sT8 hS) (sR8_0 hS) ?_
          refine zr_callV I47_62 C8_58 ⟨rfl, rfl⟩ ⟨rfl, Nat.le_of_ble_eq_true rfl⟩ (Or.inl ⟨rfl, sT29 hS⟩) (e_X2_keep hS hB hk ho hcn) (fun v62 μ62 hv62 => ?_)
          obtain ⟨c62, rfl, rfl, hc62⟩ := hv62
          dsimp only [Option.toList, List.cons_append, List.nil_append]
          have hkp : zKpt c c62 := hc62
          have fr := zKpt_fr hkp hk
          have e2 : ∀ r, r < 29 → c62 r = c r := fun r hr9 => fr.1 r (by omega) (by omega)
          refine zl_ald0 I47_65 ?_
          refine zr_getr (j := 0) I47_66 F8_12 rfl (sT8 hS) (sR8_0 hS) ?_
          refine zr_getr (j := 3) I47_69 F8_102 rfl (sT9 hS) (sR9_3 hS) ?_
          refine zr_getr (j := 3) I47_72 F8_140 rfl (sT24 hS) (sR24_3 hS) ?_
          refine zl_ild1 I47_75 ?_
          refine zr_dup2 I47_76 ?_
          refine zr_iald I47_77 (sT27 hS) (sN27 hS) (by omega) ?_
          rw [e2 27 (by decide)]
          refine zl_ild2 I47_78 ?_
          refine zr_iadd I47_79 (by unfold zInR; omega) ?_
          refine zr_iast I47_80 (sT27 hS) (sN27 hS) (by omega) ?_
          have e3 : ∀ r, r < 27 → (zup c62 27 it (c 27 it + mi)) r = c r := fun r r1 => by rw [zup_ne (by omega)]; exact e2 r (by omega)
          have hB3 : zBd (zup c62 27 it (c 27 it + mi)) := zBd_up fr.2 (by omega)
          refine zl_ald0 I47_81 ?_
          refine zl_ild1 I47_82 ?_
          refine zr_callV I47_83 C8_141 ⟨rfl, rfl⟩ ⟨rfl, Nat.le_of_ble_eq_true rfl⟩ (Or.inl ⟨rfl, sT8 hS⟩) (e_X8_makeRoomAfter hS hB3 (by rw [e3 24 (by decide)]; exact hc) (fun j j1 j2 => by rw [e3 24 (by decide)] at j2; have hj := hit j j1 j2; rw [e3 25 (by decide), e3 10 (by decide), e3 26 (by decide), zup_q, e2 27 (by decide)]; split <;> (try subst_vars) <;> omega) (by rw [e3 15 (by decide)]; exact hr) (by rw [e3 15 (by decide), e3 19 (by decide)]; exact hpl) (by rw [e3 20 (by decide), e3 21 (by decide), e3 22 (by decide)]; exact hbl) (by rw [e3 20 (by decide)]; exact hn) (by rw [e3 10 (by decide)]; exact hpq) (by rw [e3 10 (by decide), e3 14 (by decide)]; exact how) (by rw [e3 24 (by decide)]; omega)) (fun v83 μ83 hv83 => ?_)
          obtain ⟨c83, d83, f83, rfl, rfl, g1, g2, g3⟩ := hv83
          dsimp only [Option.toList, List.cons_append, List.nil_append]
          refine zr_iret I47_86 rfl ?_
          rw [e3 26 (by decide), show (zup c62 27 it (c 27 it + mi)) 27 it = c 27 it + mi from zup_same] at g1
          refine ⟨_, c83, rfl, rfl, Or.inr (Or.inr (Or.inr ⟨by omega, by omega, by omega, c62, f83, hkp, ?_, fun r r1 r2 r3 => ?_, g3⟩))⟩
          · rw [show c 26 it + c 27 it + mi = c 26 it + (c 27 it + mi) by omega]
            exact g1
          · rw [g2 r r1 r2 r3, zup_ne (by omega)]
        · refine zr_bipush I47_51 ?_
          refine zr_iret I47_53 rfl ?_
          exact ⟨_, _, rfl, rfl, Or.inr (Or.inr (Or.inl ⟨by omega, by omega, by omega, rfl, rfl⟩))⟩
      · refine zr_bipush I47_29 ?_
        refine zr_iret I47_31 rfl ?_
        exact ⟨_, _, rfl, rfl, Or.inr (Or.inl ⟨by omega, by omega, rfl, rfl⟩)⟩
    · refine zr_iconst I47_18 ?_
      refine zr_iret I47_19 rfl ?_
      exact ⟨_, _, rfl, rfl, Or.inl ⟨by omega, rfl, rfl⟩⟩
