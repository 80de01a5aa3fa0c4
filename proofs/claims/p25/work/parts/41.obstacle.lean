/-! whether a programme may start -/
def zFlt (full clash allow dark : Prop) (x : Int) : Prop := (full ∧ x = -3) ∨ (¬ full ∧ clash ∧ x = -4) ∨ (¬ full ∧ ¬ clash ∧ ¬ allow ∧ x = -5) ∨ (¬ full ∧ ¬ clash ∧ allow ∧ dark ∧ x = -6) ∨ (¬ full ∧ ¬ clash ∧ allow ∧ ¬ dark ∧ x = 0)
def zHit (n : Int) (st ln : Int → Int) (a b : Int) : Prop := ∃ j, 0 ≤ j ∧ j < n ∧ st j < b ∧ a < st j + ln j
theorem zFst_hit {n : Int} {st ln : Int → Int} {a b x : Int} (h : zFst n st ln a b x) : (x = -9 ↔ ¬ zHit n st ln a b) ∧ (x = -9 ∨ (0 ≤ x ∧ x < n ∧ st x < b ∧ a < st x + ln x)) := by
  rcases h with ⟨h1, h2, h3, h4, h5⟩ | ⟨h1, h2⟩
  · exact ⟨⟨fun e => absurd e (by omega), fun e => absurd ⟨x, h1, h2, h3, h4⟩ e⟩, Or.inr ⟨h1, h2, h3, h4⟩⟩
  · exact ⟨⟨fun _ ⟨j, j1, j2, j3⟩ => h2 j j1 j2 j3, fun _ => h1⟩, Or.inl h1⟩
/-- what placing meets, in the class's cells -/
def zObs (c : zC) (p s x : Int) : Prop := zFlt (60 ≤ c 24 0) (10080 < s + c 12 p ∨ zHit (c 24 0) (c 26) (c 27) s (s + c 12 p)) (c 11 p = 2 ∨ zOkl (zTX c) (c 19) (zInsL (zGt c p (c 24 0).toNat) (p, (s, s + c 12 p)))) (zDk (c 20 0) (c 21) (c 22) (c 23) (c 13 p) s (s + c 12 p)) x
set_option maxRecDepth 10000 in
set_option maxHeartbeats 2000000 in
theorem e_X8_obstacle {d n sl : Nat} {S : zSh} {c : zC} (hS : zSok S) (hB : zBd c) (hc : 0 ≤ c 24 0 ∧ c 24 0 ≤ 60) (hit : ∀ i, 0 ≤ i → i < c 24 0 → 0 ≤ c 25 i ∧ c 25 i < 16 ∧ 0 ≤ c 26 i ∧ c 26 i ≤ 20000 ∧ 0 ≤ c 27 i ∧ c 27 i ≤ 20000) (hr : 0 ≤ c 15 0 ∧ c 15 0 ≤ 30) (hpl : ∀ r, 0 ≤ r → r < c 15 0 → 0 ≤ c 19 r ∧ c 19 r ≤ 50) (hbl : ∀ j, 0 ≤ j → j < c 20 0 → 0 ≤ c 21 j ∧ c 21 j < c 22 j ∧ c 22 j ≤ 1440) (hn : 0 ≤ c 20 0 ∧ c 20 0 ≤ 10) {p s : Int} (hpp : 0 ≤ p ∧ p < c 10 0 ∧ c 10 0 ≤ 16) (hln : 1 ≤ c 12 p ∧ c 12 p ≤ 240) (hs : 0 ≤ s ∧ s ≤ 10079) : zE (d + 4) 67 0 (zent 67 [zA 8, zI p, zI s]) [] ((n, sl), (S, c)) (fun r μ' => ∃ (x : Int) (c' : zC), r = some (zI x) ∧ μ' = ((n, sl), (S, c')) ∧ (zObs c p s x ∧ (∀ r, (r < 131 ∨ 136 < r) → c' r = c r) ∧ zBd c')) := by
  show zE (d + 4) 67 0 [some (zA 8), some (zI p), some (zI s), none] [] ((n, sl), (S, c)) _
  refine zl_ald0 I67_0 ?_
  refine zr_getr (j := 0) I67_1 F8_12 rfl (sT8 hS) (sR8_0 hS) ?_
  refine zr_getr (j := 3) I67_4 F8_102 rfl (sT9 hS) (sR9_3 hS) ?_
  refine zr_giB (j := 0) hB (by decide) I67_7 F8_112 rfl (sT24 hS) (fun b7 => ?_)
  refine zr_bipush I67_10 ?_
  refine zr_ic_lt (t := 18) I67_12 rfl (fun h12 => ?_) (fun h12 => ?_)
  · refine zl_ild2 I67_18 ?_
    refine zl_ald0 I67_19 ?_
    refine zr_getr (j := 0) I67_20 F8_12 rfl (sT8 hS) (sR8_0 hS) ?_
    refine zr_getr (j := 0) I67_23 F8_48 rfl (sT9 hS) (sR9_0 hS) ?_
    refine zr_getr (j := 2) I67_26 F8_130 rfl (sT10 hS) (sR10_2 hS) ?_
    refine zl_ild1 I67_29 ?_
    refine zr_iaB hB (by decide) I67_30 (sT12 hS) (sN12 hS) (by omega) (fun b30 => ?_)
    refine zr_iadd I67_31 (by unfold zInR; omega) ?_
    refine zl_ist3 I67_32 ?_
    refine zl_ild3 I67_33 ?_
    refine zr_sipush I67_34 ?_
    refine zr_ic_gt (t := 57) I67_37 rfl (fun h37 => ?_) (fun h37 => ?_)
    · refine zr_bipush I67_57 ?_
      refine zr_iret I67_59 rfl ?_
      exact ⟨_, _, rfl, rfl, Or.inr (Or.inl ⟨by omega, Or.inl (by omega), rfl⟩), fun r hr => rfl, hB⟩
    · refine zl_ald0 I67_40 ?_
      refine zr_getr (j := 0) I67_41 F8_12 rfl (sT8 hS) (sR8_0 hS) ?_
      refine zr_getr (j := 3) I67_44 F8_102 rfl (sT9 hS) (sR9_3 hS) ?_
      refine zl_ild2 I67_47 ?_
      refine zl_ild3 I67_48 ?_
      refine zr_callV I67_49 C8_119 ⟨rfl, rfl⟩ ⟨rfl, Nat.le_of_ble_eq_true rfl⟩ (Or.inl ⟨rfl, sT24 hS⟩) (e_X3_firstIn hS hB hc) (fun v49 μ49 hv49 => ?_)
      obtain ⟨x49, rfl, hx49, rfl⟩ := hv49
      dsimp only [Option.toList, List.cons_append, List.nil_append]
      refine zr_bipush I67_52 ?_
      refine zr_ic_eq (t := 60) I67_54 rfl (fun h54 => ?_) (fun h54 => ?_)
      · refine zl_ald0 I67_60 ?_
        refine zl_ild1 I67_61 ?_
        refine zl_ild2 I67_62 ?_
        refine zl_ild3 I67_63 ?_
        refine zr_callV I67_64 C8_206 ⟨rfl, rfl⟩ ⟨rfl, Nat.le_of_ble_eq_true rfl⟩ (Or.inl ⟨rfl, sT8 hS⟩) (e_X8_rightsAllow hS hB hc hit hr hpl (by omega) (by omega) (by omega)) (fun v64 μ64 hv64 => ?_)
        obtain ⟨x64, c64, rfl, rfl, hal⟩ := hv64
        dsimp only [Option.toList, List.cons_append, List.nil_append]
        refine zr_if_ne (t := 73) I67_67 rfl (fun h67 => ?_) (fun h67 => ?_)
        · have f20 := hal.2.1 20 (by omega)
          have f21 := hal.2.1 21 (by omega)
          have f22 := hal.2.1 22 (by omega)
          have f23 := hal.2.1 23 (by omega)
          have f13 := hal.2.1 13 (by omega)
          have hBd := hal.2.2
          refine zl_ald0 I67_73 ?_
          refine zr_getr (j := 0) I67_74 F8_12 rfl (sT8 hS) (sR8_0 hS) ?_
          refine zr_getr (j := 2) I67_77 F8_83 rfl (sT9 hS) (sR9_2 hS) ?_
          refine zl_ald0 I67_80 ?_
          refine zr_getr (j := 0) I67_81 F8_12 rfl (sT8 hS) (sR8_0 hS) ?_
          refine zr_getr (j := 0) I67_84 F8_48 rfl (sT9 hS) (sR9_0 hS) ?_
          refine zr_getr (j := 3) I67_87 F8_182 rfl (sT10 hS) (sR10_3 hS) ?_
          refine zl_ild1 I67_90 ?_
          refine zr_iald I67_91 (sT13 hS) (sN13 hS) (by omega) ?_
          rw [f13]
          refine zl_ild2 I67_92 ?_
          refine zl_ild3 I67_93 ?_
          refine zr_callV I67_94 C8_185 ⟨rfl, rfl⟩ ⟨rfl, Nat.le_of_ble_eq_true rfl⟩ (Or.inl ⟨rfl, sT20 hS⟩) (e_X0_darkUntil hS hBd (by rw [f20, f21, f22]; exact hbl) (by rw [f20]; exact hn) (by omega) (by omega)) (fun v94 μ94 hv94 => ?_)
          obtain ⟨x94, rfl, hx94, rfl⟩ := hv94
          rw [f20, f21, f22, f23] at hx94
          dsimp only [Option.toList, List.cons_append, List.nil_append]
          refine zr_bipush I67_97 ?_
          refine zr_ic_eq (t := 105) I67_99 rfl (fun h99 => ?_) (fun h99 => ?_)
          · refine zr_iconst I67_105 ?_
            refine zr_iret I67_106 rfl ?_
            have hz := (zFst_hit hx49).1.mp (by omega)
            have hcl : ¬ (10080 < s + c 12 p ∨ zHit (c 24 0) (c 26) (c 27) s (s + c 12 p)) := fun h => h.elim (fun h => by omega) hz
            have hal1 := hal.1.elim (fun h => h.2) (fun h => by omega)
            have hdk := zDkU_hit hbl (by omega) hx94
            exact ⟨_, _, rfl, rfl, Or.inr (Or.inr (Or.inr (Or.inr ⟨by omega, hcl, hal1, hdk.mp (by omega), rfl⟩))), hal.2.1, hal.2.2⟩
          · refine zr_bipush I67_102 ?_
            refine zr_iret I67_104 rfl ?_
            have hz := (zFst_hit hx49).1.mp (by omega)
            have hcl : ¬ (10080 < s + c 12 p ∨ zHit (c 24 0) (c 26) (c 27) s (s + c 12 p)) := fun h => h.elim (fun h => by omega) hz
            have hal1 := hal.1.elim (fun h => h.2) (fun h => by omega)
            have hdk := zDkU_hit hbl (by omega) hx94
            exact ⟨_, _, rfl, rfl, Or.inr (Or.inr (Or.inr (Or.inl ⟨by omega, hcl, hal1, Classical.byContradiction (fun h => by have := hdk.mpr h; omega), rfl⟩))), hal.2.1, hal.2.2⟩
        · refine zr_bipush I67_70 ?_
          refine zr_iret I67_72 rfl ?_
          have hz := (zFst_hit hx49).1.mp (by omega)
          have hcl : ¬ (10080 < s + c 12 p ∨ zHit (c 24 0) (c 26) (c 27) s (s + c 12 p)) := fun h => h.elim (fun h => by omega) hz
          exact ⟨_, _, rfl, rfl, Or.inr (Or.inr (Or.inl ⟨by omega, hcl, hal.1.elim (fun h => by omega) (fun h => h.2), rfl⟩)), hal.2.1, hal.2.2⟩
      · refine zr_bipush I67_57 ?_
        refine zr_iret I67_59 rfl ?_
        have hz := (zFst_hit hx49).1
        exact ⟨_, _, rfl, rfl, Or.inr (Or.inl ⟨by omega, Or.inr (Classical.byContradiction (fun h => by have := hz.mpr h; omega)), rfl⟩), fun r hr => rfl, hB⟩
  · refine zr_bipush I67_15 ?_
    refine zr_iret I67_17 rfl ?_
    exact ⟨_, _, rfl, rfl, Or.inl ⟨by omega, rfl⟩, fun r hr => rfl, hB⟩
set_option maxRecDepth 10000 in
set_option maxHeartbeats 2000000 in
theorem e_X8_mayPlace {d n sl : Nat} {S : zSh} {c : zC} (hS : zSok S) (hB : zBd c) (hc : 0 ≤ c 24 0 ∧ c 24 0 ≤ 60) (hit : ∀ i, 0 ≤ i → i < c 24 0 → 0 ≤ c 25 i ∧ c 25 i < 16 ∧ 0 ≤ c 26 i ∧ c 26 i ≤ 20000 ∧ 0 ≤ c 27 i ∧ c 27 i ≤ 20000) (hr : 0 ≤ c 15 0 ∧ c 15 0 ≤ 30) (hpl : ∀ r, 0 ≤ r → r < c 15 0 → 0 ≤ c 19 r ∧ c 19 r ≤ 50) (hbl : ∀ j, 0 ≤ j → j < c 20 0 → 0 ≤ c 21 j ∧ c 21 j < c 22 j ∧ c 22 j ≤ 1440) (hn : 0 ≤ c 20 0 ∧ c 20 0 ≤ 10) {p s : Int} (hpq : 0 ≤ c 10 0 ∧ c 10 0 ≤ 16) (hln : ∀ p, 0 ≤ p → p < c 10 0 → 1 ≤ c 12 p ∧ c 12 p ≤ 240) : zE (d + 5) 53 0 (zent 53 [zA 8, zI p, zI s]) [] ((n, sl), (S, c)) (fun r μ' => ∃ (x : Int) (c' : zC), r = some (zI x) ∧ μ' = ((n, sl), (S, c')) ∧ (((¬ (0 ≤ p ∧ p < c 10 0 ∧ 0 ≤ s ∧ s ≤ 10079) ∧ x = -1) ∨ ((0 ≤ p ∧ p < c 10 0 ∧ 0 ≤ s ∧ s ≤ 10079) ∧ zObs c p s x)) ∧ (∀ r, (r < 131 ∨ 136 < r) → c' r = c r) ∧ zBd c')) := by
  show zE (d + 5) 53 0 [some (zA 8), some (zI p), some (zI s)] [] ((n, sl), (S, c)) _
  refine zl_ald0 I53_0 ?_
  refine zl_ild1 I53_1 ?_
  refine zr_callV I53_2 C8_66 ⟨rfl, rfl⟩ ⟨rfl, Nat.le_of_ble_eq_true rfl⟩ (Or.inl ⟨rfl, sT8 hS⟩) (e_X8_isProgramme hS hB) (fun v2 μ2 hv2 => ?_)
  obtain ⟨x2, rfl, hx2, rfl⟩ := hv2
  dsimp only [Option.toList, List.cons_append, List.nil_append]
  unfold zTf at hx2
  refine zr_if_eq (t := 15) I53_5 rfl (fun h5 => ?_) (fun h5 => ?_)
  · refine zr_iconst I53_15 ?_
    refine zr_iret I53_16 rfl ?_
    exact ⟨_, _, rfl, rfl, Or.inl ⟨by omega, rfl⟩, fun r hr => rfl, hB⟩
  · refine zl_ild2 I53_8 ?_
    refine zr_callS I53_9 C8_113 ⟨rfl, rfl⟩ ⟨by simp, rfl, Nat.le_of_ble_eq_true rfl⟩ (e_X8_isTime ) (fun v9 μ9 hv9 => ?_)
    obtain ⟨x9, rfl, hx9, rfl⟩ := hv9
    dsimp only [Option.toList, List.cons_append, List.nil_append]
    unfold zTf at hx9
    refine zr_if_ne (t := 17) I53_12 rfl (fun h12 => ?_) (fun h12 => ?_)
    · refine zl_ald0 I53_17 ?_
      refine zl_ild1 I53_18 ?_
      refine zl_ild2 I53_19 ?_
      refine zr_callV I53_20 C8_165 ⟨rfl, rfl⟩ ⟨rfl, Nat.le_of_ble_eq_true rfl⟩ (Or.inl ⟨rfl, sT8 hS⟩) (e_X8_obstacle hS hB hc hit hr hpl hbl hn (by omega) (hln p (by omega) (by omega)) (by omega)) (fun v20 μ20 hv20 => ?_)
      obtain ⟨x20, c20, rfl, rfl, hc20⟩ := hv20
      dsimp only [Option.toList, List.cons_append, List.nil_append]
      refine zr_iret I53_23 rfl ?_
      exact ⟨_, _, rfl, rfl, Or.inr ⟨by omega, hc20.1⟩, hc20.2⟩
    · refine zr_iconst I53_15 ?_
      refine zr_iret I53_16 rfl ?_
      exact ⟨_, _, rfl, rfl, Or.inl ⟨by omega, rfl⟩, fun r hr => rfl, hB⟩
