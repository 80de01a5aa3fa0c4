/-! the model: programmes, rights and blackouts -/
def zRow (c c' : zC) (q : Int) (g : Int → Int) : Prop := (∀ k, c' 146 k = if k = q then c 146 q + 1 else g k) ∧ (∀ r, r ≠ 146 → c' r = c r) ∧ zBd c'
def zW4 (g : Int → Int) (b w0 w1 w2 w3 : Int) (k : Int) : Int := if k = b + 3 then w3 else if k = b + 2 then w2 else if k = b + 1 then w1 else if k = b then w0 else g k
def zW3 (g : Int → Int) (b w0 w1 w2 : Int) (k : Int) : Int := if k = b + 2 then w2 else if k = b + 1 then w1 else if k = b then w0 else g k
set_option maxRecDepth 10000 in
set_option maxHeartbeats 2000000 in
theorem e_X9_addProgramme {d n sl : Nat} {S : zSh} {c : zC} (hS : zSok S) (hB : zBd c) (hm : 0 ≤ c 145 2 ∧ c 145 2 ≤ 5) (hq : 0 ≤ c 146 0 ∧ c 146 0 ≤ 16) {a l r9 : Int} : zE (d + 1) 93 0 (zent 93 [zA 145, zI a, zI l, zI r9]) [] ((n, sl), (S, c)) (fun r μ' => ∃ (x : Int) (c' : zC), r = some (zI x) ∧ μ' = ((n, sl), (S, c')) ∧ ((¬ ((0 ≤ a ∧ a ≤ 3) ∧ (1 ≤ l ∧ l ≤ 240) ∧ (0 ≤ r9 ∧ r9 ≤ 3)) ∧ x = -1 ∧ c' = c) ∨ (((0 ≤ a ∧ a ≤ 3) ∧ (1 ≤ l ∧ l ≤ 240) ∧ (0 ≤ r9 ∧ r9 ≤ 3)) ∧ c 146 0 = 16 ∧ x = -3 ∧ c' = c) ∨ (((0 ≤ a ∧ a ≤ 3) ∧ (1 ≤ l ∧ l ≤ 240) ∧ (0 ≤ r9 ∧ r9 ≤ 3)) ∧ c 146 0 ≠ 16 ∧ x = c 146 0 ∧ ∃ c1, zDid c c1 ∧ zRow c1 c' 0 (zW4 (c1 146) (10 + 4 * c1 146 0) (a) (l) (r9) (0))))) := by
  show zE (d + 1) 93 0 [some (zA 145), some (zI a), some (zI l), some (zI r9), none] [] ((n, sl), (S, c)) _
  refine zl_ild1 I93_0 ?_
  refine zr_iconst I93_1 ?_
  refine zr_iconst I93_2 ?_
  refine zr_callS I93_3 C9_41 ⟨rfl, rfl⟩ ⟨by simp, rfl, Nat.le_of_ble_eq_true rfl⟩ (e_X9_in ) (fun v3 μ3 hv3 => ?_)
  obtain ⟨x3, rfl, hx3, rfl⟩ := hv3
  dsimp only [Option.toList, List.cons_append, List.nil_append]
  unfold zTf at hx3
  refine zr_if_eq (t := 29) I93_6 rfl (fun h6 => ?_) (fun h6 => ?_)
  · refine zr_iconst I93_29 ?_
    refine zr_iret I93_30 rfl ?_
    exact ⟨_, _, rfl, rfl, Or.inl ⟨by omega, rfl, rfl⟩⟩
  · refine zl_ild2 I93_9 ?_
    refine zr_iconst I93_10 ?_
    refine zr_sipush I93_11 ?_
    refine zr_callS I93_14 C9_41 ⟨rfl, rfl⟩ ⟨by simp, rfl, Nat.le_of_ble_eq_true rfl⟩ (e_X9_in ) (fun v14 μ14 hv14 => ?_)
    obtain ⟨x14, rfl, hx14, rfl⟩ := hv14
    dsimp only [Option.toList, List.cons_append, List.nil_append]
    unfold zTf at hx14
    refine zr_if_eq (t := 29) I93_17 rfl (fun h17 => ?_) (fun h17 => ?_)
    · refine zr_iconst I93_29 ?_
      refine zr_iret I93_30 rfl ?_
      exact ⟨_, _, rfl, rfl, Or.inl ⟨by omega, rfl, rfl⟩⟩
    · refine zl_ild3 I93_20 ?_
      refine zr_iconst I93_21 ?_
      refine zr_iconst I93_22 ?_
      refine zr_callS I93_23 C9_41 ⟨rfl, rfl⟩ ⟨by simp, rfl, Nat.le_of_ble_eq_true rfl⟩ (e_X9_in ) (fun v23 μ23 hv23 => ?_)
      obtain ⟨x23, rfl, hx23, rfl⟩ := hv23
      dsimp only [Option.toList, List.cons_append, List.nil_append]
      unfold zTf at hx23
      refine zr_if_ne (t := 31) I93_26 rfl (fun h26 => ?_) (fun h26 => ?_)
      · refine zl_ald0 I93_31 ?_
        refine zr_getr (j := 0) I93_32 F9_7 rfl (sT145 hS) (sR145_0 hS) ?_
        refine zr_iconst I93_35 ?_
        refine zr_iaB hB (by decide) I93_36 (sT146 hS) (sN146 hS) (by omega) (fun b36 => ?_)
        refine zr_bipush I93_37 ?_
        refine zr_ic_ne (t := 45) I93_39 rfl (fun h39 => ?_) (fun h39 => ?_)
        · refine zl_ald0 I93_45 ?_
          refine zr_callV I93_46 C9_49 ⟨rfl, rfl⟩ ⟨rfl, Nat.le_of_ble_eq_true rfl⟩ (Or.inl ⟨rfl, sT145 hS⟩) (e_X9_act hS hB hm) (fun v46 μ46 hv46 => ?_)
          obtain ⟨c46, rfl, rfl, hc46⟩ := hv46
          dsimp only [Option.toList, List.cons_append, List.nil_append]
          have hd : zDid c c46 := hc46
          have e146 := hd.v
          have hB1 := hd.b
          have n0 : c46 146 0 = c 146 0 := by rw [e146]
          refine zr_bipush I93_49 ?_
          refine zr_iconst I93_51 ?_
          refine zl_ald0 I93_52 ?_
          refine zr_getr (j := 0) I93_53 F9_7 rfl (sT145 hS) (sR145_0 hS) ?_
          refine zr_iconst I93_56 ?_
          refine zr_iald I93_57 (sT146 hS) (sN146 hS) (by omega) ?_
          refine zr_imul I93_58 (by unfold zInR; omega) ?_
          refine zr_iadd I93_59 (by unfold zInR; omega) ?_
          refine zl_ist4 I93_60 ?_
          refine zl_ald0 I93_62 ?_
          refine zr_getr (j := 0) I93_63 F9_7 rfl (sT145 hS) (sR145_0 hS) ?_
          refine zl_ild4 I93_66 ?_
          refine zl_ild1 I93_68 ?_
          refine zr_iast I93_69 (sT146 hS) (sN146 hS) (by omega) ?_
          refine zl_ald0 I93_70 ?_
          refine zr_getr (j := 0) I93_71 F9_7 rfl (sT145 hS) (sR145_0 hS) ?_
          refine zl_ild4 I93_74 ?_
          refine zr_iconst I93_76 ?_
          refine zr_iadd I93_77 (by unfold zInR; omega) ?_
          refine zl_ild2 I93_78 ?_
          refine zr_iast I93_79 (sT146 hS) (sN146 hS) (by omega) ?_
          refine zl_ald0 I93_80 ?_
          refine zr_getr (j := 0) I93_81 F9_7 rfl (sT145 hS) (sR145_0 hS) ?_
          refine zl_ild4 I93_84 ?_
          refine zr_iconst I93_86 ?_
          refine zr_iadd I93_87 (by unfold zInR; omega) ?_
          refine zl_ild3 I93_88 ?_
          refine zr_iast I93_89 (sT146 hS) (sN146 hS) (by omega) ?_
          refine zl_ald0 I93_90 ?_
          refine zr_getr (j := 0) I93_91 F9_7 rfl (sT145 hS) (sR145_0 hS) ?_
          refine zl_ild4 I93_94 ?_
          refine zr_iconst I93_96 ?_
          refine zr_iadd I93_97 (by unfold zInR; omega) ?_
          refine zr_iconst I93_98 ?_
          refine zr_iast I93_99 (sT146 hS) (sN146 hS) (by omega) ?_
          refine zl_ald0 I93_100 ?_
          refine zr_getr (j := 0) I93_101 F9_7 rfl (sT145 hS) (sR145_0 hS) ?_
          refine zr_iconst I93_104 ?_
          refine zr_dup2 I93_105 ?_
          refine zr_iald I93_106 (sT146 hS) (sN146 hS) (by omega) ?_
          rw [zup_q, if_neg (by omega), zup_q, if_neg (by omega), zup_q, if_neg (by omega), zup_q, if_neg (by omega)]
          refine zr_iconst I93_107 ?_
          refine zr_iadd I93_108 (by unfold zInR; omega) ?_
          refine zr_iast I93_109 (sT146 hS) (sN146 hS) (by omega) ?_
          refine zl_ald0 I93_110 ?_
          refine zr_getr (j := 0) I93_111 F9_7 rfl (sT145 hS) (sR145_0 hS) ?_
          refine zr_iconst I93_114 ?_
          refine zr_iald I93_115 (sT146 hS) (sN146 hS) (by omega) ?_
          rw [zup_same]
          refine zr_iconst I93_116 ?_
          refine zr_isub I93_117 (by unfold zInR; omega) ?_
          refine zr_iret I93_118 rfl ?_
          exact ⟨_, _, rfl, rfl, Or.inr (Or.inr ⟨by omega, by omega, by rw [e146]; omega, c46, hd, fun k => by unfold zW4; rw [zup_q, zup_q, zup_q, zup_q, zup_q], fun r hr => by rw [zup_ne hr, zup_ne hr, zup_ne hr, zup_ne hr, zup_ne hr], zBd_up (zBd_up (zBd_up (zBd_up (zBd_up hB1 (by omega)) (by omega)) (by omega)) (by omega)) (by omega)⟩)⟩
        · refine zr_bipush I93_42 ?_
          refine zr_iret I93_44 rfl ?_
          exact ⟨_, _, rfl, rfl, Or.inr (Or.inl ⟨by omega, by omega, rfl, rfl⟩)⟩
      · refine zr_iconst I93_29 ?_
        refine zr_iret I93_30 rfl ?_
        exact ⟨_, _, rfl, rfl, Or.inl ⟨by omega, rfl, rfl⟩⟩
set_option maxRecDepth 10000 in
set_option maxHeartbeats 2000000 in
theorem e_X9_addRight {d n sl : Nat} {S : zSh} {c : zC} (hS : zSok S) (hB : zBd c) (hm : 0 ≤ c 145 2 ∧ c 145 2 ≤ 5) (hq : 0 ≤ c 146 2 ∧ c 146 2 ≤ 30) (hpn : 0 ≤ c 146 0 ∧ c 146 0 ≤ 16) {p a b l : Int} : zE (d + 2) 94 0 (zent 94 [zA 145, zI p, zI a, zI b, zI l]) [] ((n, sl), (S, c)) (fun r μ' => ∃ (x : Int) (c' : zC), r = some (zI x) ∧ μ' = ((n, sl), (S, c')) ∧ ((¬ ((0 ≤ p ∧ p < c 146 0) ∧ (0 ≤ a ∧ a ≤ 10079) ∧ (a + 1 ≤ b ∧ b ≤ 10080) ∧ (1 ≤ l ∧ l ≤ 50)) ∧ x = -1 ∧ c' = c) ∨ (((0 ≤ p ∧ p < c 146 0) ∧ (0 ≤ a ∧ a ≤ 10079) ∧ (a + 1 ≤ b ∧ b ≤ 10080) ∧ (1 ≤ l ∧ l ≤ 50)) ∧ c 146 2 = 30 ∧ x = -3 ∧ c' = c) ∨ (((0 ≤ p ∧ p < c 146 0) ∧ (0 ≤ a ∧ a ≤ 10079) ∧ (a + 1 ≤ b ∧ b ≤ 10080) ∧ (1 ≤ l ∧ l ≤ 50)) ∧ c 146 2 ≠ 30 ∧ x = c 146 2 ∧ ∃ c1, zDid c c1 ∧ zRow c1 c' 2 (zW4 (c1 146) (110 + 4 * c1 146 2) (p) (a) (b) (l))))) := by
  show zE (d + 2) 94 0 [some (zA 145), some (zI p), some (zI a), some (zI b), some (zI l), none] [] ((n, sl), (S, c)) _
  refine zl_ald0 I94_0 ?_
  refine zl_ild1 I94_1 ?_
  refine zr_callV I94_2 C9_52 ⟨rfl, rfl⟩ ⟨rfl, Nat.le_of_ble_eq_true rfl⟩ (Or.inl ⟨rfl, sT145 hS⟩) (e_X9_isProgramme hS hB) (fun v2 μ2 hv2 => ?_)
  obtain ⟨x2, rfl, hx2, rfl⟩ := hv2
  dsimp only [Option.toList, List.cons_append, List.nil_append]
  unfold zTf at hx2
  refine zr_if_eq (t := 43) I94_5 rfl (fun h5 => ?_) (fun h5 => ?_)
  · refine zr_iconst I94_43 ?_
    refine zr_iret I94_44 rfl ?_
    exact ⟨_, _, rfl, rfl, Or.inl ⟨by omega, rfl, rfl⟩⟩
  · refine zl_ild2 I94_8 ?_
    refine zr_iconst I94_9 ?_
    refine zr_sipush I94_10 ?_
    refine zr_callS I94_13 C9_41 ⟨rfl, rfl⟩ ⟨by simp, rfl, Nat.le_of_ble_eq_true rfl⟩ (e_X9_in ) (fun v13 μ13 hv13 => ?_)
    obtain ⟨x13, rfl, hx13, rfl⟩ := hv13
    dsimp only [Option.toList, List.cons_append, List.nil_append]
    unfold zTf at hx13
    refine zr_if_eq (t := 43) I94_16 rfl (fun h16 => ?_) (fun h16 => ?_)
    · refine zr_iconst I94_43 ?_
      refine zr_iret I94_44 rfl ?_
      exact ⟨_, _, rfl, rfl, Or.inl ⟨by omega, rfl, rfl⟩⟩
    · refine zl_ild3 I94_19 ?_
      refine zl_ild2 I94_20 ?_
      refine zr_iconst I94_21 ?_
      refine zr_iadd I94_22 (by unfold zInR; omega) ?_
      refine zr_sipush I94_23 ?_
      refine zr_callS I94_26 C9_41 ⟨rfl, rfl⟩ ⟨by simp, rfl, Nat.le_of_ble_eq_true rfl⟩ (e_X9_in ) (fun v26 μ26 hv26 => ?_)
      obtain ⟨x26, rfl, hx26, rfl⟩ := hv26
      dsimp only [Option.toList, List.cons_append, List.nil_append]
      unfold zTf at hx26
      refine zr_if_eq (t := 43) I94_29 rfl (fun h29 => ?_) (fun h29 => ?_)
      · refine zr_iconst I94_43 ?_
        refine zr_iret I94_44 rfl ?_
        exact ⟨_, _, rfl, rfl, Or.inl ⟨by omega, rfl, rfl⟩⟩
      · refine zl_ild4 I94_32 ?_
        refine zr_iconst I94_34 ?_
        refine zr_bipush I94_35 ?_
        refine zr_callS I94_37 C9_41 ⟨rfl, rfl⟩ ⟨by simp, rfl, Nat.le_of_ble_eq_true rfl⟩ (e_X9_in ) (fun v37 μ37 hv37 => ?_)
        obtain ⟨x37, rfl, hx37, rfl⟩ := hv37
        dsimp only [Option.toList, List.cons_append, List.nil_append]
        unfold zTf at hx37
        refine zr_if_ne (t := 45) I94_40 rfl (fun h40 => ?_) (fun h40 => ?_)
        · refine zl_ald0 I94_45 ?_
          refine zr_getr (j := 0) I94_46 F9_7 rfl (sT145 hS) (sR145_0 hS) ?_
          refine zr_iconst I94_49 ?_
          refine zr_iaB hB (by decide) I94_50 (sT146 hS) (sN146 hS) (by omega) (fun b50 => ?_)
          refine zr_bipush I94_51 ?_
          refine zr_ic_ne (t := 59) I94_53 rfl (fun h53 => ?_) (fun h53 => ?_)
          · refine zl_ald0 I94_59 ?_
            refine zr_callV I94_60 C9_49 ⟨rfl, rfl⟩ ⟨rfl, Nat.le_of_ble_eq_true rfl⟩ (Or.inl ⟨rfl, sT145 hS⟩) (e_X9_act hS hB hm) (fun v60 μ60 hv60 => ?_)
            obtain ⟨c60, rfl, rfl, hc60⟩ := hv60
            dsimp only [Option.toList, List.cons_append, List.nil_append]
            have hd : zDid c c60 := hc60
            have e146 := hd.v
            have hB1 := hd.b
            have n0 : c60 146 2 = c 146 2 := by rw [e146]
            refine zr_bipush I94_63 ?_
            refine zr_iconst I94_65 ?_
            refine zl_ald0 I94_66 ?_
            refine zr_getr (j := 0) I94_67 F9_7 rfl (sT145 hS) (sR145_0 hS) ?_
            refine zr_iconst I94_70 ?_
            refine zr_iald I94_71 (sT146 hS) (sN146 hS) (by omega) ?_
            refine zr_imul I94_72 (by unfold zInR; omega) ?_
            refine zr_iadd I94_73 (by unfold zInR; omega) ?_
            refine zl_ist5 I94_74 ?_
            refine zl_ald0 I94_76 ?_
            refine zr_getr (j := 0) I94_77 F9_7 rfl (sT145 hS) (sR145_0 hS) ?_
            refine zl_ild5 I94_80 ?_
            refine zl_ild1 I94_82 ?_
            refine zr_iast I94_83 (sT146 hS) (sN146 hS) (by omega) ?_
            refine zl_ald0 I94_84 ?_
            refine zr_getr (j := 0) I94_85 F9_7 rfl (sT145 hS) (sR145_0 hS) ?_
            refine zl_ild5 I94_88 ?_
            refine zr_iconst I94_90 ?_
            refine zr_iadd I94_91 (by unfold zInR; omega) ?_
            refine zl_ild2 I94_92 ?_
            refine zr_iast I94_93 (sT146 hS) (sN146 hS) (by omega) ?_
            refine zl_ald0 I94_94 ?_
            refine zr_getr (j := 0) I94_95 F9_7 rfl (sT145 hS) (sR145_0 hS) ?_
            refine zl_ild5 I94_98 ?_
            refine zr_iconst I94_100 ?_
            refine zr_iadd I94_101 (by unfold zInR; omega) ?_
            refine zl_ild3 I94_102 ?_
            refine zr_iast I94_103 (sT146 hS) (sN146 hS) (by omega) ?_
            refine zl_ald0 I94_104 ?_
            refine zr_getr (j := 0) I94_105 F9_7 rfl (sT145 hS) (sR145_0 hS) ?_
            refine zl_ild5 I94_108 ?_
            refine zr_iconst I94_110 ?_
            refine zr_iadd I94_111 (by unfold zInR; omega) ?_
            refine zl_ild4 I94_112 ?_
            refine zr_iast I94_114 (sT146 hS) (sN146 hS) (by omega) ?_
            refine zl_ald0 I94_115 ?_
            refine zr_getr (j := 0) I94_116 F9_7 rfl (sT145 hS) (sR145_0 hS) ?_
            refine zr_iconst I94_119 ?_
            refine zr_dup2 I94_120 ?_
            refine zr_iald I94_121 (sT146 hS) (sN146 hS) (by omega) ?_
            rw [zup_q, if_neg (by omega), zup_q, if_neg (by omega), zup_q, if_neg (by omega), zup_q, if_neg (by omega)]
            refine zr_iconst I94_122 ?_
            refine zr_iadd I94_123 (by unfold zInR; omega) ?_
            refine zr_iast I94_124 (sT146 hS) (sN146 hS) (by omega) ?_
            refine zl_ald0 I94_125 ?_
            refine zr_getr (j := 0) I94_126 F9_7 rfl (sT145 hS) (sR145_0 hS) ?_
            refine zr_iconst I94_129 ?_
            refine zr_iald I94_130 (sT146 hS) (sN146 hS) (by omega) ?_
            rw [zup_same]
            refine zr_iconst I94_131 ?_
            refine zr_isub I94_132 (by unfold zInR; omega) ?_
            refine zr_iret I94_133 rfl ?_
            exact ⟨_, _, rfl, rfl, Or.inr (Or.inr ⟨by omega, by omega, by rw [e146]; omega, c60, hd, fun k => by unfold zW4; rw [zup_q, zup_q, zup_q, zup_q, zup_q], fun r hr => by rw [zup_ne hr, zup_ne hr, zup_ne hr, zup_ne hr, zup_ne hr], zBd_up (zBd_up (zBd_up (zBd_up (zBd_up hB1 (by omega)) (by omega)) (by omega)) (by omega)) (by omega)⟩)⟩
          · refine zr_bipush I94_56 ?_
            refine zr_iret I94_58 rfl ?_
            exact ⟨_, _, rfl, rfl, Or.inr (Or.inl ⟨by omega, by omega, rfl, rfl⟩)⟩
        · refine zr_iconst I94_43 ?_
          refine zr_iret I94_44 rfl ?_
          exact ⟨_, _, rfl, rfl, Or.inl ⟨by omega, rfl, rfl⟩⟩
set_option maxRecDepth 10000 in
set_option maxHeartbeats 2000000 in
theorem e_X9_addBlackout {d n sl : Nat} {S : zSh} {c : zC} (hS : zSok S) (hB : zBd c) (hm : 0 ≤ c 145 2 ∧ c 145 2 ≤ 5) (hq : 0 ≤ c 146 1 ∧ c 146 1 ≤ 10) {a b r9 : Int} : zE (d + 1) 95 0 (zent 95 [zA 145, zI a, zI b, zI r9]) [] ((n, sl), (S, c)) (fun r μ' => ∃ (x : Int) (c' : zC), r = some (zI x) ∧ μ' = ((n, sl), (S, c')) ∧ ((¬ ((0 ≤ a ∧ a ≤ 1439) ∧ (a + 1 ≤ b ∧ b ≤ 1440) ∧ (0 ≤ r9 ∧ r9 ≤ 3)) ∧ x = -1 ∧ c' = c) ∨ (((0 ≤ a ∧ a ≤ 1439) ∧ (a + 1 ≤ b ∧ b ≤ 1440) ∧ (0 ≤ r9 ∧ r9 ≤ 3)) ∧ c 146 1 = 10 ∧ x = -3 ∧ c' = c) ∨ (((0 ≤ a ∧ a ≤ 1439) ∧ (a + 1 ≤ b ∧ b ≤ 1440) ∧ (0 ≤ r9 ∧ r9 ≤ 3)) ∧ c 146 1 ≠ 10 ∧ x = c 146 1 ∧ ∃ c1, zDid c c1 ∧ zRow c1 c' 1 (zW3 (c1 146) (80 + 3 * c1 146 1) (a) (b) (r9))))) := by
  show zE (d + 1) 95 0 [some (zA 145), some (zI a), some (zI b), some (zI r9), none] [] ((n, sl), (S, c)) _
  refine zl_ild1 I95_0 ?_
  refine zr_iconst I95_1 ?_
  refine zr_sipush I95_2 ?_
  refine zr_callS I95_5 C9_41 ⟨rfl, rfl⟩ ⟨by simp, rfl, Nat.le_of_ble_eq_true rfl⟩ (e_X9_in ) (fun v5 μ5 hv5 => ?_)
  obtain ⟨x5, rfl, hx5, rfl⟩ := hv5
  dsimp only [Option.toList, List.cons_append, List.nil_append]
  unfold zTf at hx5
  refine zr_if_eq (t := 33) I95_8 rfl (fun h8 => ?_) (fun h8 => ?_)
  · refine zr_iconst I95_33 ?_
    refine zr_iret I95_34 rfl ?_
    exact ⟨_, _, rfl, rfl, Or.inl ⟨by omega, rfl, rfl⟩⟩
  · refine zl_ild2 I95_11 ?_
    refine zl_ild1 I95_12 ?_
    refine zr_iconst I95_13 ?_
    refine zr_iadd I95_14 (by unfold zInR; omega) ?_
    refine zr_sipush I95_15 ?_
    refine zr_callS I95_18 C9_41 ⟨rfl, rfl⟩ ⟨by simp, rfl, Nat.le_of_ble_eq_true rfl⟩ (e_X9_in ) (fun v18 μ18 hv18 => ?_)
    obtain ⟨x18, rfl, hx18, rfl⟩ := hv18
    dsimp only [Option.toList, List.cons_append, List.nil_append]
    unfold zTf at hx18
    refine zr_if_eq (t := 33) I95_21 rfl (fun h21 => ?_) (fun h21 => ?_)
    · refine zr_iconst I95_33 ?_
      refine zr_iret I95_34 rfl ?_
      exact ⟨_, _, rfl, rfl, Or.inl ⟨by omega, rfl, rfl⟩⟩
    · refine zl_ild3 I95_24 ?_
      refine zr_iconst I95_25 ?_
      refine zr_iconst I95_26 ?_
      refine zr_callS I95_27 C9_41 ⟨rfl, rfl⟩ ⟨by simp, rfl, Nat.le_of_ble_eq_true rfl⟩ (e_X9_in ) (fun v27 μ27 hv27 => ?_)
      obtain ⟨x27, rfl, hx27, rfl⟩ := hv27
      dsimp only [Option.toList, List.cons_append, List.nil_append]
      unfold zTf at hx27
      refine zr_if_ne (t := 35) I95_30 rfl (fun h30 => ?_) (fun h30 => ?_)
      · refine zl_ald0 I95_35 ?_
        refine zr_getr (j := 0) I95_36 F9_7 rfl (sT145 hS) (sR145_0 hS) ?_
        refine zr_iconst I95_39 ?_
        refine zr_iaB hB (by decide) I95_40 (sT146 hS) (sN146 hS) (by omega) (fun b40 => ?_)
        refine zr_bipush I95_41 ?_
        refine zr_ic_ne (t := 49) I95_43 rfl (fun h43 => ?_) (fun h43 => ?_)
        · refine zl_ald0 I95_49 ?_
          refine zr_callV I95_50 C9_49 ⟨rfl, rfl⟩ ⟨rfl, Nat.le_of_ble_eq_true rfl⟩ (Or.inl ⟨rfl, sT145 hS⟩) (e_X9_act hS hB hm) (fun v50 μ50 hv50 => ?_)
          obtain ⟨c50, rfl, rfl, hc50⟩ := hv50
          dsimp only [Option.toList, List.cons_append, List.nil_append]
          have hd : zDid c c50 := hc50
          have e146 := hd.v
          have hB1 := hd.b
          have n0 : c50 146 1 = c 146 1 := by rw [e146]
          refine zr_bipush I95_53 ?_
          refine zr_iconst I95_55 ?_
          refine zl_ald0 I95_56 ?_
          refine zr_getr (j := 0) I95_57 F9_7 rfl (sT145 hS) (sR145_0 hS) ?_
          refine zr_iconst I95_60 ?_
          refine zr_iald I95_61 (sT146 hS) (sN146 hS) (by omega) ?_
          refine zr_imul I95_62 (by unfold zInR; omega) ?_
          refine zr_iadd I95_63 (by unfold zInR; omega) ?_
          refine zl_ist4 I95_64 ?_
          refine zl_ald0 I95_66 ?_
          refine zr_getr (j := 0) I95_67 F9_7 rfl (sT145 hS) (sR145_0 hS) ?_
          refine zl_ild4 I95_70 ?_
          refine zl_ild1 I95_72 ?_
          refine zr_iast I95_73 (sT146 hS) (sN146 hS) (by omega) ?_
          refine zl_ald0 I95_74 ?_
          refine zr_getr (j := 0) I95_75 F9_7 rfl (sT145 hS) (sR145_0 hS) ?_
          refine zl_ild4 I95_78 ?_
          refine zr_iconst I95_80 ?_
          refine zr_iadd I95_81 (by unfold zInR; omega) ?_
          refine zl_ild2 I95_82 ?_
          refine zr_iast I95_83 (sT146 hS) (sN146 hS) (by omega) ?_
          refine zl_ald0 I95_84 ?_
          refine zr_getr (j := 0) I95_85 F9_7 rfl (sT145 hS) (sR145_0 hS) ?_
          refine zl_ild4 I95_88 ?_
          refine zr_iconst I95_90 ?_
          refine zr_iadd I95_91 (by unfold zInR; omega) ?_
          refine zl_ild3 I95_92 ?_
          refine zr_iast I95_93 (sT146 hS) (sN146 hS) (by omega) ?_
          refine zl_ald0 I95_94 ?_
          refine zr_getr (j := 0) I95_95 F9_7 rfl (sT145 hS) (sR145_0 hS) ?_
          refine zr_iconst I95_98 ?_
          refine zr_dup2 I95_99 ?_
          refine zr_iald I95_100 (sT146 hS) (sN146 hS) (by omega) ?_
          rw [zup_q, if_neg (by omega), zup_q, if_neg (by omega), zup_q, if_neg (by omega)]
          refine zr_iconst I95_101 ?_
          refine zr_iadd I95_102 (by unfold zInR; omega) ?_
          refine zr_iast I95_103 (sT146 hS) (sN146 hS) (by omega) ?_
          refine zl_ald0 I95_104 ?_
          refine zr_getr (j := 0) I95_105 F9_7 rfl (sT145 hS) (sR145_0 hS) ?_
          refine zr_iconst I95_108 ?_
          refine zr_iald I95_109 (sT146 hS) (sN146 hS) (by omega) ?_
          rw [zup_same]
          refine zr_iconst I95_110 ?_
          refine zr_isub I95_111 (by unfold zInR; omega) ?_
          refine zr_iret I95_112 rfl ?_
          exact ⟨_, _, rfl, rfl, Or.inr (Or.inr ⟨by omega, by omega, by rw [e146]; omega, c50, hd, fun k => by unfold zW3; rw [zup_q, zup_q, zup_q, zup_q], fun r hr => by rw [zup_ne hr, zup_ne hr, zup_ne hr, zup_ne hr], zBd_up (zBd_up (zBd_up (zBd_up hB1 (by omega)) (by omega)) (by omega)) (by omega)⟩)⟩
        · refine zr_bipush I95_46 ?_
          refine zr_iret I95_48 rfl ?_
          exact ⟨_, _, rfl, rfl, Or.inr (Or.inl ⟨by omega, by omega, rfl, rfl⟩)⟩
      · refine zr_iconst I95_33 ?_
        refine zr_iret I95_34 rfl ?_
        exact ⟨_, _, rfl, rfl, Or.inl ⟨by omega, rfl, rfl⟩⟩
