/-! the class: item -/
theorem zr_tsw_d {d M pc : Nat} {L : List (Option zV)} {st : List zV} {μ : zMem} {Q : Option zV → zMem → Prop} {dflt lo hi x : Int} {offs : Array Int} {len t : Nat} (hd : decode (zB M) pc = .ok (.tableswitch dflt lo hi offs, len)) (hx : x < lo ∨ hi < x) (ht : (pc : Int) + dflt = (t : Int)) (k : zE d M t L st μ Q) : zE d M pc L (zI x :: st) μ Q := by
  have hn : znext d M pc L (zI x :: st) μ (.tableswitch dflt lo hi offs) len = some (t, L, st, μ) := by
    unfold znext
    dsimp only [zI]
    rw [if_pos hx, zjmp_of ht]
  exact zr_next hd hn k
theorem zr_tsw_i {d M pc : Nat} {L : List (Option zV)} {st : List zV} {μ : zMem} {Q : Option zV → zMem → Prop} {dflt lo hi x off : Int} {offs : Array Int} {len t : Nat} (hd : decode (zB M) pc = .ok (.tableswitch dflt lo hi offs, len)) (hx : ¬ (x < lo ∨ hi < x)) (ho : offs[(x - lo).toNat]? = some off) (ht : (pc : Int) + off = (t : Int)) (k : zE d M t L st μ Q) : zE d M pc L (zI x :: st) μ Q := by
  have hn : znext d M pc L (zI x :: st) μ (.tableswitch dflt lo hi offs) len = some (t, L, st, μ) := by
    unfold znext
    dsimp only [zI]
    rw [if_neg hx, ho]
    dsimp only
    rw [zjmp_of ht]
  exact zr_next hd hn k
set_option maxRecDepth 10000 in
set_option maxHeartbeats 2000000 in
theorem e_X8_item {d n sl : Nat} {S : zSh} {c : zC} (hS : zSok S) (hB : zBd c) (hc : 0 ≤ c 24 0 ∧ c 24 0 ≤ 60) (hit : ∀ i, 0 ≤ i → i < c 24 0 → 0 ≤ c 25 i ∧ c 25 i < 16 ∧ 0 ≤ c 26 i ∧ c 26 i ≤ 20000 ∧ 0 ≤ c 27 i ∧ c 27 i ≤ 20000) (hr : 0 ≤ c 15 0 ∧ c 15 0 ≤ 30) (hpl : ∀ r, 0 ≤ r → r < c 15 0 → 0 ≤ c 19 r ∧ c 19 r ≤ 50) {k9 w9 : Int} : zE (d + 4) 50 0 (zent 50 [zA 8, zI k9, zI w9]) [] ((n, sl), (S, c)) (fun r μ' => ∃ (x : Int) (c' : zC), r = some (zI x) ∧ μ' = ((n, sl), (S, c')) ∧ ((¬ ((0 ≤ k9 ∧ k9 < c 24 0) ∧ (0 ≤ w9 ∧ w9 ≤ 4)) ∧ x = -1 ∧ c' = c) ∨ (((0 ≤ k9 ∧ k9 < c 24 0) ∧ (0 ≤ w9 ∧ w9 ≤ 4)) ∧ ((w9 = 0 ∧ x = c 25 k9) ∨ (w9 = 1 ∧ x = c 26 k9) ∨ (w9 = 2 ∧ x = c 27 k9) ∨ (w9 = 3 ∧ x = c 28 k9) ∨ (w9 = 4 ∧ x = c' 135 k9 ∧ ∀ y, (zGs c (c 24 0).toNat)[k9.toNat]? = some y → x = zUsl (zTX c) (c 19) (zGs c (c 24 0).toNat) k9.toNat y)) ∧ (∀ r, (r < 131 ∨ 136 < r) → c' r = c r) ∧ zBd c'))) := by
  show zE (d + 4) 50 0 [some (zA 8), some (zI k9), some (zI w9)] [] ((n, sl), (S, c)) _
  refine zl_ald0 I50_0 ?_
  refine zl_ild1 I50_1 ?_
  refine zr_callV I50_2 C8_99 ⟨rfl, rfl⟩ ⟨rfl, Nat.le_of_ble_eq_true rfl⟩ (Or.inl ⟨rfl, sT8 hS⟩) (e_X8_isItem hS hB) (fun v2 μ2 hv2 => ?_)
  obtain ⟨x2, rfl, hx2, rfl⟩ := hv2
  dsimp only [Option.toList, List.cons_append, List.nil_append]
  unfold zTf at hx2
  refine zr_if_ne (t := 10) I50_5 rfl (fun h5 => ?_) (fun h5 => ?_)
  · refine zl_ild2 I50_10 ?_
    rcases (show (w9 < 0 ∨ 4 < w9) ∨ w9 = 0 ∨ w9 = 1 ∨ w9 = 2 ∨ w9 = 3 ∨ w9 = 4 by omega) with hw | rfl | rfl | rfl | rfl | rfl
    · refine zr_tsw_d (t := 110) I50_11 hw rfl ?_
      refine zr_iconst I50_110 ?_
      refine zr_iret I50_111 rfl ?_
      exact ⟨_, _, rfl, rfl, Or.inl ⟨by omega, rfl, rfl⟩⟩
    · refine zr_tsw_i (t := 44) I50_11 (by decide) rfl rfl ?_
      refine zl_ald0 I50_44 ?_
      refine zr_getr (j := 0) I50_45 F8_12 rfl (sT8 hS) (sR8_0 hS) ?_
      refine zr_getr (j := 3) I50_48 F8_102 rfl (sT9 hS) (sR9_3 hS) ?_
      refine zr_getr (j := 1) I50_51 F8_147 rfl (sT24 hS) (sR24_1 hS) ?_
      refine zl_ild1 I50_54 ?_
      refine zr_iaB hB (by decide) I50_55 (sT25 hS) (sN25 hS) (by omega) (fun b55 => ?_)
      refine zr_iret I50_56 rfl ?_
      exact ⟨_, _, rfl, rfl, Or.inr ⟨⟨by omega, by omega⟩, Or.inl ⟨by omega, rfl⟩, fun r hr => rfl, hB⟩⟩
    · refine zr_tsw_i (t := 57) I50_11 (by decide) rfl rfl ?_
      refine zl_ald0 I50_57 ?_
      refine zr_getr (j := 0) I50_58 F8_12 rfl (sT8 hS) (sR8_0 hS) ?_
      refine zr_getr (j := 3) I50_61 F8_102 rfl (sT9 hS) (sR9_3 hS) ?_
      refine zr_getr (j := 2) I50_64 F8_150 rfl (sT24 hS) (sR24_2 hS) ?_
      refine zl_ild1 I50_67 ?_
      refine zr_iaB hB (by decide) I50_68 (sT26 hS) (sN26 hS) (by omega) (fun b68 => ?_)
      refine zr_iret I50_69 rfl ?_
      exact ⟨_, _, rfl, rfl, Or.inr ⟨⟨by omega, by omega⟩, Or.inr (Or.inl ⟨by omega, rfl⟩), fun r hr => rfl, hB⟩⟩
    · refine zr_tsw_i (t := 70) I50_11 (by decide) rfl rfl ?_
      refine zl_ald0 I50_70 ?_
      refine zr_getr (j := 0) I50_71 F8_12 rfl (sT8 hS) (sR8_0 hS) ?_
      refine zr_getr (j := 3) I50_74 F8_102 rfl (sT9 hS) (sR9_3 hS) ?_
      refine zr_getr (j := 3) I50_77 F8_140 rfl (sT24 hS) (sR24_3 hS) ?_
      refine zl_ild1 I50_80 ?_
      refine zr_iaB hB (by decide) I50_81 (sT27 hS) (sN27 hS) (by omega) (fun b81 => ?_)
      refine zr_iret I50_82 rfl ?_
      exact ⟨_, _, rfl, rfl, Or.inr ⟨⟨by omega, by omega⟩, Or.inr (Or.inr (Or.inl ⟨by omega, rfl⟩)), fun r hr => rfl, hB⟩⟩
    · refine zr_tsw_i (t := 83) I50_11 (by decide) rfl rfl ?_
      refine zl_ald0 I50_83 ?_
      refine zr_getr (j := 0) I50_84 F8_12 rfl (sT8 hS) (sR8_0 hS) ?_
      refine zr_getr (j := 3) I50_87 F8_102 rfl (sT9 hS) (sR9_3 hS) ?_
      refine zr_getr (j := 4) I50_90 F8_153 rfl (sT24 hS) (sR24_4 hS) ?_
      refine zl_ild1 I50_93 ?_
      refine zr_iaB hB (by decide) I50_94 (sT28 hS) (sN28 hS) (by omega) (fun b94 => ?_)
      refine zr_iret I50_95 rfl ?_
      exact ⟨_, _, rfl, rfl, Or.inr ⟨⟨by omega, by omega⟩, Or.inr (Or.inr (Or.inr (Or.inl ⟨by omega, rfl⟩))), fun r hr => rfl, hB⟩⟩
    · refine zr_tsw_i (t := 96) I50_11 (by decide) rfl rfl ?_
      refine zl_ald0 I50_96 ?_
      refine zr_callV I50_97 C8_156 ⟨rfl, rfl⟩ ⟨rfl, Nat.le_of_ble_eq_true rfl⟩ (Or.inl ⟨rfl, sT8 hS⟩) (e_X8_shareRights hS hB hc hit hr hpl) (fun v97 μ97 hv97 => ?_)
      obtain ⟨c97, rfl, rfl, hc97⟩ := hv97
      dsimp only [Option.toList, List.cons_append, List.nil_append]
      have hB2 := hc97.2.1
      refine zl_ald0 I50_100 ?_
      refine zr_getr (j := 2) I50_101 F8_26 rfl (sT8 hS) (sR8_2 hS) ?_
      refine zr_getr (j := 4) I50_104 F8_159 rfl (sT131 hS) (sR131_4 hS) ?_
      refine zl_ild1 I50_107 ?_
      refine zr_iaB hB2 (by decide) I50_108 (sT135 hS) (sN135 hS) (by omega) (fun b108 => ?_)
      refine zr_iret I50_109 rfl ?_
      exact ⟨_, _, rfl, rfl, Or.inr ⟨⟨by omega, by omega⟩, Or.inr (Or.inr (Or.inr (Or.inr ⟨rfl, rfl, fun y hy => by have h8 := hc97.2.2.1 k9.toNat y hy; rw [show ((k9.toNat : Nat) : Int) = k9 by omega] at h8; exact h8⟩))), hc97.1, hc97.2.1⟩⟩
  · refine zr_iconst I50_8 ?_
    refine zr_iret I50_9 rfl ?_
    exact ⟨_, _, rfl, rfl, Or.inl ⟨by omega, rfl, rfl⟩⟩
