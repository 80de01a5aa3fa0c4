/-! the model: makeGood -/
set_option maxRecDepth 10000 in
set_option maxHeartbeats 2000000 in
theorem e_X9_makeGood {d n sl : Nat} {S : zSh} {c : zC} (hS : zSok S) (hB : zBd c) (hc : 0 ≤ c 146 3 ∧ c 146 3 ≤ 60) (hit : ∀ i, 0 ≤ i → i < c 146 3 → 0 ≤ c 146 (230 + 4 * i + 0) ∧ c 146 (230 + 4 * i + 0) < 16 ∧ 0 ≤ c 146 (230 + 4 * i + 1) ∧ c 146 (230 + 4 * i + 1) ≤ 20000 ∧ 0 ≤ c 146 (230 + 4 * i + 2) ∧ c 146 (230 + 4 * i + 2) ≤ 20000) (hso : zSrt (zAl (c 146) (c 146 3).toNat)) (hr : 0 ≤ c 146 2 ∧ c 146 2 ≤ 30) (hpl : ∀ r, 0 ≤ r → r < c 146 2 → 0 ≤ c 146 (110 + 4 * r + 3) ∧ c 146 (110 + 4 * r + 3) ≤ 50 ∧ 0 ≤ c 146 (110 + 4 * r)) (hbl : ∀ j, 0 ≤ j → j < c 146 1 → 0 ≤ c 146 (80 + 3 * j) ∧ c 146 (80 + 3 * j) < c 146 (80 + 3 * j + 1) ∧ c 146 (80 + 3 * j + 1) ≤ 1440) (hn : 0 ≤ c 146 1 ∧ c 146 1 ≤ 10) (hlen : ∀ p, 0 ≤ p → p < c 146 0 → 1 ≤ c 146 (10 + 4 * p + 1) ∧ c 146 (10 + 4 * p + 1) ≤ 240) (hpn : 0 ≤ c 146 0 ∧ c 146 0 ≤ 16) (hm : 0 ≤ c 145 2 ∧ c 145 2 ≤ 5) {p a : Int} : zE (d + 5) 116 0 (zent 116 [zA 145, zI p, zI a]) [] ((n, sl), (S, c)) (fun r μ' => ∃ (x : Int) (c' : zC), r = some (zI x) ∧ μ' = ((n, sl), (S, c')) ∧ ((¬ ((0 ≤ p ∧ p < c 146 0) ∧ (0 ≤ a ∧ a ≤ 10079)) ∧ x = -1 ∧ c' = c) ∨ (((0 ≤ p ∧ p < c 146 0) ∧ (0 ≤ a ∧ a ≤ 10079)) ∧ c 146 (10 + 4 * p + 3) = 0 ∧ x = -2 ∧ c' = c) ∨ (((0 ≤ p ∧ p < c 146 0) ∧ (0 ≤ a ∧ a ≤ 10079)) ∧ c 146 (10 + 4 * p + 3) ≠ 0 ∧ ∃ (y : Int) (c1 : zC), zErl c p a y ∧ zFm c c1 ∧ zBd c1 ∧ ((y < 0 ∧ x = -9 ∧ c' = c1) ∨ (0 ≤ y ∧ x = y ∧ ∃ (c2 c3 : zC) (at8 : Int), zDid c1 c2 ∧ zPut c2 c3 p y (c 146 (10 + 4 * p + 1)) 0 at8 ∧ c' = zup c3 146 (10 + 4 * p + 3) (c3 146 (10 + 4 * p + 3) - 1)))))) := by
  show zE (d + 5) 116 0 [some (zA 145), some (zI p), some (zI a), none, none] [] ((n, sl), (S, c)) _
  refine zl_ald0 I116_0 ?_
  refine zl_ild1 I116_1 ?_
  refine zr_callV I116_2 C9_52 ⟨rfl, rfl⟩ ⟨rfl, Nat.le_of_ble_eq_true rfl⟩ (Or.inl ⟨rfl, sT145 hS⟩) (e_X9_isProgramme hS hB) (fun v2 μ2 hv2 => ?_)
  obtain ⟨x2, rfl, hx2, rfl⟩ := hv2
  dsimp only [Option.toList, List.cons_append, List.nil_append]
  unfold zTf at hx2
  refine zr_if_eq (t := 19) I116_5 rfl (fun h5 => ?_) (fun h5 => ?_)
  · refine zr_iconst I116_19 ?_
    refine zr_iret I116_20 rfl ?_
    exact ⟨_, _, rfl, rfl, Or.inl ⟨by omega, rfl, rfl⟩⟩
  · refine zl_ild2 I116_8 ?_
    refine zr_iconst I116_9 ?_
    refine zr_sipush I116_10 ?_
    refine zr_callS I116_13 C9_41 ⟨rfl, rfl⟩ ⟨by simp, rfl, Nat.le_of_ble_eq_true rfl⟩ (e_X9_in ) (fun v13 μ13 hv13 => ?_)
    obtain ⟨x13, rfl, hx13, rfl⟩ := hv13
    dsimp only [Option.toList, List.cons_append, List.nil_append]
    unfold zTf at hx13
    refine zr_if_ne (t := 21) I116_16 rfl (fun h16 => ?_) (fun h16 => ?_)
    · refine zl_ald0 I116_21 ?_
      refine zr_getr (j := 0) I116_22 F9_7 rfl (sT145 hS) (sR145_0 hS) ?_
      refine zr_bipush I116_25 ?_
      refine zr_iconst I116_27 ?_
      refine zl_ild1 I116_28 ?_
      refine zr_imul I116_29 (by unfold zInR; omega) ?_
      refine zr_iadd I116_30 (by unfold zInR; omega) ?_
      refine zr_iconst I116_31 ?_
      refine zr_iadd I116_32 (by unfold zInR; omega) ?_
      refine zr_iaB hB (by decide) I116_33 (sT146 hS) (sN146 hS) (by omega) (fun b33 => ?_)
      refine zr_if_ne (t := 40) I116_34 rfl (fun h34 => ?_) (fun h34 => ?_)
      · refine zl_ald0 I116_40 ?_
        refine zl_ild1 I116_41 ?_
        refine zl_ild2 I116_42 ?_
        have hl9 := hlen p (by omega) (by omega)
        refine zr_callV I116_43 C9_107 ⟨rfl, rfl⟩ ⟨rfl, Nat.le_of_ble_eq_true rfl⟩ (Or.inl ⟨rfl, sT145 hS⟩) (e_X9_firstFor hS hB hc hit hso hr hpl hbl hn (by omega) hl9 (by omega)) (fun v43 μ43 hv43 => ?_)
        obtain ⟨x43, c43, rfl, rfl, her, hfm, hB1⟩ := hv43
        have e146 := hfm.1 146 (by omega)
        have hp2 := hfm.2 2 (by decide)
        dsimp only [Option.toList, List.cons_append, List.nil_append]
        refine zl_ist3 I116_46 ?_
        refine zl_ild3 I116_47 ?_
        refine zr_if_ge (t := 54) I116_48 rfl (fun h48 => ?_) (fun h48 => ?_)
        · refine zl_ald0 I116_54 ?_
          have her2 : x43 ≤ 10079 ∧ zObM c p x43 0 := by
            rcases her with ⟨h1, -⟩ | ⟨h1, h2, h3, h4, h5⟩
            · omega
            · exact ⟨by omega, h4⟩
          have hn0 := zObM_0 her2.2
          have hx3 := her2.1
          refine zr_callV I116_55 C9_49 ⟨rfl, rfl⟩ ⟨rfl, Nat.le_of_ble_eq_true rfl⟩ (Or.inl ⟨rfl, sT145 hS⟩) (e_X9_act hS hB1 (by rw [hp2]; exact hm)) (fun v55 μ55 hv55 => ?_)
          obtain ⟨c55, rfl, rfl, hc55⟩ := hv55
          dsimp only [Option.toList, List.cons_append, List.nil_append]
          have hd : zDid c43 c55 := hc55
          have e146b := hd.v
          have hB2 := hd.b
          refine zl_ald0 I116_58 ?_
          refine zl_ild1 I116_59 ?_
          refine zl_ild3 I116_60 ?_
          refine zl_ald0 I116_61 ?_
          refine zl_ild1 I116_62 ?_
          refine zr_callV I116_63 C9_73 ⟨rfl, rfl⟩ ⟨rfl, Nat.le_of_ble_eq_true rfl⟩ (Or.inl ⟨rfl, sT145 hS⟩) (e_X9_length hS hB2 (by omega)) (fun v63 μ63 hv63 => ?_)
          obtain ⟨rfl, rfl⟩ := hv63
          dsimp only [Option.toList, List.cons_append, List.nil_append]
          rw [e146b, e146]
          refine zr_iconst I116_66 ?_
          refine zr_callV I116_67 C9_96 ⟨rfl, rfl⟩ ⟨rfl, Nat.le_of_ble_eq_true rfl⟩ (Or.inl ⟨rfl, sT145 hS⟩) (e_X9_puts hS hB2 (by rw [e146b, e146]; omega) (by omega) (by omega) (by omega) (by omega)) (fun v67 μ67 hv67 => ?_)
          obtain ⟨at67, c67, rfl, rfl, hp67⟩ := hv67
          dsimp only [Option.toList, List.cons_append, List.nil_append]
          refine zl_ist4 I116_70 ?_
          refine zl_ald0 I116_72 ?_
          refine zr_getr (j := 0) I116_73 F9_7 rfl (sT145 hS) (sR145_0 hS) ?_
          refine zr_bipush I116_76 ?_
          refine zr_iconst I116_78 ?_
          refine zl_ild1 I116_79 ?_
          refine zr_imul I116_80 (by unfold zInR; omega) ?_
          refine zr_iadd I116_81 (by unfold zInR; omega) ?_
          refine zr_iconst I116_82 ?_
          refine zr_iadd I116_83 (by unfold zInR; omega) ?_
          refine zr_dup2 I116_84 ?_
          have hb67 := hp67.2.2.2.2.2 146 (10 + 4 * p + 3) (by decide)
          refine zr_iald I116_85 (sT146 hS) (sN146 hS) (by omega) ?_
          refine zr_iconst I116_86 ?_
          refine zr_isub I116_87 (by unfold zInR; omega) ?_
          refine zr_iast I116_88 (sT146 hS) (sN146 hS) (by omega) ?_
          refine zl_ild3 I116_89 ?_
          refine zr_iret I116_90 rfl ?_
          exact ⟨_, _, rfl, rfl, Or.inr (Or.inr ⟨⟨by omega, by omega⟩, by omega, x43, c43, her, hfm, hB1, Or.inr ⟨by omega, rfl, c55, c67, at67, hd, hp67, rfl⟩⟩)⟩
        · refine zr_bipush I116_51 ?_
          refine zr_iret I116_53 rfl ?_
          exact ⟨_, _, rfl, rfl, Or.inr (Or.inr ⟨⟨by omega, by omega⟩, by omega, x43, c43, her, hfm, hB1, Or.inl ⟨by omega, rfl, rfl⟩⟩)⟩
      · refine zr_bipush I116_37 ?_
        refine zr_iret I116_39 rfl ?_
        exact ⟨_, _, rfl, rfl, Or.inr (Or.inl ⟨⟨by omega, by omega⟩, by omega, rfl, rfl⟩)⟩
    · refine zr_iconst I116_19 ?_
      refine zr_iret I116_20 rfl ?_
      exact ⟨_, _, rfl, rfl, Or.inl ⟨by omega, rfl, rfl⟩⟩
