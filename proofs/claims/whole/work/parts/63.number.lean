/-! the model: numbers written -/
set_option maxRecDepth 10000 in
set_option maxHeartbeats 2000000 in
theorem e_X9_number {d n sl : Nat} {S : zSh} {c : zC} (hS : zSok S) (hB : zBd c) {l : List Int} (h : zTxt c l) (hn : l.length < 35) {x : Int} (hx : 0 ≤ x ∧ x ≤ 99999) : zE (d + 1) 133 0 (zent 133 [zA 145, zI x]) [] ((n, sl), (S, c)) (fun r μ' => ∃ c', r = none ∧ μ' = ((n, sl), (S, c')) ∧ (zTxt c' (l ++ zDg x) ∧ zF11 c c' ∧ zBd c')) := by
  show zE (d + 1) 133 0 [some (zA 145), some (zI x)] [] ((n, sl), (S, c)) _
  refine zl_ild1 I133_0 ?_
  refine zr_sipush I133_1 ?_
  refine zr_ic_lt (t := 19) I133_4 rfl (fun h4 => ?_) (fun h4 => ?_)
  · refine zl_ild1 I133_19 ?_
    refine zr_sipush I133_20 ?_
    refine zr_ic_lt (t := 41) I133_23 rfl (fun h23 => ?_) (fun h23 => ?_)
    · refine zl_ild1 I133_41 ?_
      refine zr_bipush I133_42 ?_
      refine zr_ic_lt (t := 61) I133_44 rfl (fun h44 => ?_) (fun h44 => ?_)
      · refine zl_ild1 I133_61 ?_
        refine zr_bipush I133_62 ?_
        refine zr_ic_lt (t := 81) I133_64 rfl (fun h64 => ?_) (fun h64 => ?_)
        · refine zl_ald0 I133_81 ?_
          refine zr_bipush I133_82 ?_
          refine zl_ild1 I133_84 ?_
          refine zr_bipush I133_85 ?_
          refine zr_irem I133_87 (by omega) ?_
          refine zr_iadd I133_88 (by unfold zInR; omega) ?_
          refine zr_callV I133_89 C9_141 ⟨rfl, rfl⟩ ⟨rfl, Nat.le_of_ble_eq_true rfl⟩ (Or.inl ⟨rfl, sT145 hS⟩) (e_X9_signs hS hB h (by omega) (by omega)) (fun v89 μ89 hv89 => ?_)
          obtain ⟨c89, rfl, rfl, hc89⟩ := hv89
          dsimp only [Option.toList, List.cons_append, List.nil_append]
          refine zr_vret I133_92 rfl ?_
          refine ⟨_, rfl, rfl, ?_, hc89.2.1, hc89.2.2⟩
          unfold zDg
          rw [if_neg (by omega), if_neg (by omega), if_neg (by omega), if_neg (by omega)]
          have h9 := hc89.1
          simp only [List.append_assoc, List.nil_append] at h9 ⊢
          exact h9
        · refine zl_ald0 I133_67 ?_
          refine zr_bipush I133_68 ?_
          refine zl_ild1 I133_70 ?_
          refine zr_bipush I133_71 ?_
          refine zr_idiv I133_73 (by omega) ?_
          refine zr_bipush I133_74 ?_
          refine zr_irem I133_76 (by omega) ?_
          refine zr_iadd I133_77 (by unfold zInR; omega) ?_
          refine zr_callV I133_78 C9_141 ⟨rfl, rfl⟩ ⟨rfl, Nat.le_of_ble_eq_true rfl⟩ (Or.inl ⟨rfl, sT145 hS⟩) (e_X9_signs hS hB h (by omega) (by omega)) (fun v78 μ78 hv78 => ?_)
          obtain ⟨c78, rfl, rfl, hc78⟩ := hv78
          dsimp only [Option.toList, List.cons_append, List.nil_append]
          refine zl_ald0 I133_81 ?_
          refine zr_bipush I133_82 ?_
          refine zl_ild1 I133_84 ?_
          refine zr_bipush I133_85 ?_
          refine zr_irem I133_87 (by omega) ?_
          refine zr_iadd I133_88 (by unfold zInR; omega) ?_
          refine zr_callV I133_89 C9_141 ⟨rfl, rfl⟩ ⟨rfl, Nat.le_of_ble_eq_true rfl⟩ (Or.inl ⟨rfl, sT145 hS⟩) (e_X9_signs hS hc78.2.2 hc78.1 (by simp only [List.length_append, List.length_cons, List.length_nil]; omega) (by omega)) (fun v89 μ89 hv89 => ?_)
          obtain ⟨c89, rfl, rfl, hc89⟩ := hv89
          dsimp only [Option.toList, List.cons_append, List.nil_append]
          refine zr_vret I133_92 rfl ?_
          refine ⟨_, rfl, rfl, ?_, (hc78.2.1).tr hc89.2.1, hc89.2.2⟩
          unfold zDg
          rw [if_neg (by omega), if_neg (by omega), if_neg (by omega), if_pos (by omega)]
          have h9 := hc89.1
          simp only [List.append_assoc, List.nil_append] at h9 ⊢
          exact h9
      · refine zl_ald0 I133_47 ?_
        refine zr_bipush I133_48 ?_
        refine zl_ild1 I133_50 ?_
        refine zr_bipush I133_51 ?_
        refine zr_idiv I133_53 (by omega) ?_
        refine zr_bipush I133_54 ?_
        refine zr_irem I133_56 (by omega) ?_
        refine zr_iadd I133_57 (by unfold zInR; omega) ?_
        refine zr_callV I133_58 C9_141 ⟨rfl, rfl⟩ ⟨rfl, Nat.le_of_ble_eq_true rfl⟩ (Or.inl ⟨rfl, sT145 hS⟩) (e_X9_signs hS hB h (by omega) (by omega)) (fun v58 μ58 hv58 => ?_)
        obtain ⟨c58, rfl, rfl, hc58⟩ := hv58
        dsimp only [Option.toList, List.cons_append, List.nil_append]
        refine zl_ild1 I133_61 ?_
        refine zr_bipush I133_62 ?_
        refine zr_ic_lt (t := 81) I133_64 rfl (fun h64 => ?_) (fun h64 => ?_)
        · refine zl_ald0 I133_81 ?_
          refine zr_bipush I133_82 ?_
          refine zl_ild1 I133_84 ?_
          refine zr_bipush I133_85 ?_
          refine zr_irem I133_87 (by omega) ?_
          refine zr_iadd I133_88 (by unfold zInR; omega) ?_
          refine zr_callV I133_89 C9_141 ⟨rfl, rfl⟩ ⟨rfl, Nat.le_of_ble_eq_true rfl⟩ (Or.inl ⟨rfl, sT145 hS⟩) (e_X9_signs hS hc58.2.2 hc58.1 (by simp only [List.length_append, List.length_cons, List.length_nil]; omega) (by omega)) (fun v89 μ89 hv89 => ?_)
          obtain ⟨c89, rfl, rfl, hc89⟩ := hv89
          dsimp only [Option.toList, List.cons_append, List.nil_append]
          refine zr_vret I133_92 rfl ?_
          exfalso
          omega
        · refine zl_ald0 I133_67 ?_
          refine zr_bipush I133_68 ?_
          refine zl_ild1 I133_70 ?_
          refine zr_bipush I133_71 ?_
          refine zr_idiv I133_73 (by omega) ?_
          refine zr_bipush I133_74 ?_
          refine zr_irem I133_76 (by omega) ?_
          refine zr_iadd I133_77 (by unfold zInR; omega) ?_
          refine zr_callV I133_78 C9_141 ⟨rfl, rfl⟩ ⟨rfl, Nat.le_of_ble_eq_true rfl⟩ (Or.inl ⟨rfl, sT145 hS⟩) (e_X9_signs hS hc58.2.2 hc58.1 (by simp only [List.length_append, List.length_cons, List.length_nil]; omega) (by omega)) (fun v78 μ78 hv78 => ?_)
          obtain ⟨c78, rfl, rfl, hc78⟩ := hv78
          dsimp only [Option.toList, List.cons_append, List.nil_append]
          refine zl_ald0 I133_81 ?_
          refine zr_bipush I133_82 ?_
          refine zl_ild1 I133_84 ?_
          refine zr_bipush I133_85 ?_
          refine zr_irem I133_87 (by omega) ?_
          refine zr_iadd I133_88 (by unfold zInR; omega) ?_
          refine zr_callV I133_89 C9_141 ⟨rfl, rfl⟩ ⟨rfl, Nat.le_of_ble_eq_true rfl⟩ (Or.inl ⟨rfl, sT145 hS⟩) (e_X9_signs hS hc78.2.2 hc78.1 (by simp only [List.length_append, List.length_cons, List.length_nil]; omega) (by omega)) (fun v89 μ89 hv89 => ?_)
          obtain ⟨c89, rfl, rfl, hc89⟩ := hv89
          dsimp only [Option.toList, List.cons_append, List.nil_append]
          refine zr_vret I133_92 rfl ?_
          refine ⟨_, rfl, rfl, ?_, ((hc58.2.1).tr hc78.2.1).tr hc89.2.1, hc89.2.2⟩
          unfold zDg
          rw [if_neg (by omega), if_neg (by omega), if_pos (by omega), if_pos (by omega)]
          have h9 := hc89.1
          simp only [List.append_assoc, List.nil_append] at h9 ⊢
          exact h9
    · refine zl_ald0 I133_26 ?_
      refine zr_bipush I133_27 ?_
      refine zl_ild1 I133_29 ?_
      refine zr_sipush I133_30 ?_
      refine zr_idiv I133_33 (by omega) ?_
      refine zr_bipush I133_34 ?_
      refine zr_irem I133_36 (by omega) ?_
      refine zr_iadd I133_37 (by unfold zInR; omega) ?_
      refine zr_callV I133_38 C9_141 ⟨rfl, rfl⟩ ⟨rfl, Nat.le_of_ble_eq_true rfl⟩ (Or.inl ⟨rfl, sT145 hS⟩) (e_X9_signs hS hB h (by omega) (by omega)) (fun v38 μ38 hv38 => ?_)
      obtain ⟨c38, rfl, rfl, hc38⟩ := hv38
      dsimp only [Option.toList, List.cons_append, List.nil_append]
      refine zl_ild1 I133_41 ?_
      refine zr_bipush I133_42 ?_
      refine zr_ic_lt (t := 61) I133_44 rfl (fun h44 => ?_) (fun h44 => ?_)
      · refine zl_ild1 I133_61 ?_
        refine zr_bipush I133_62 ?_
        refine zr_ic_lt (t := 81) I133_64 rfl (fun h64 => ?_) (fun h64 => ?_)
        · refine zl_ald0 I133_81 ?_
          refine zr_bipush I133_82 ?_
          refine zl_ild1 I133_84 ?_
          refine zr_bipush I133_85 ?_
          refine zr_irem I133_87 (by omega) ?_
          refine zr_iadd I133_88 (by unfold zInR; omega) ?_
          refine zr_callV I133_89 C9_141 ⟨rfl, rfl⟩ ⟨rfl, Nat.le_of_ble_eq_true rfl⟩ (Or.inl ⟨rfl, sT145 hS⟩) (e_X9_signs hS hc38.2.2 hc38.1 (by simp only [List.length_append, List.length_cons, List.length_nil]; omega) (by omega)) (fun v89 μ89 hv89 => ?_)
          obtain ⟨c89, rfl, rfl, hc89⟩ := hv89
          dsimp only [Option.toList, List.cons_append, List.nil_append]
          refine zr_vret I133_92 rfl ?_
          exfalso
          omega
        · refine zl_ald0 I133_67 ?_
          refine zr_bipush I133_68 ?_
          refine zl_ild1 I133_70 ?_
          refine zr_bipush I133_71 ?_
          refine zr_idiv I133_73 (by omega) ?_
          refine zr_bipush I133_74 ?_
          refine zr_irem I133_76 (by omega) ?_
          refine zr_iadd I133_77 (by unfold zInR; omega) ?_
          refine zr_callV I133_78 C9_141 ⟨rfl, rfl⟩ ⟨rfl, Nat.le_of_ble_eq_true rfl⟩ (Or.inl ⟨rfl, sT145 hS⟩) (e_X9_signs hS hc38.2.2 hc38.1 (by simp only [List.length_append, List.length_cons, List.length_nil]; omega) (by omega)) (fun v78 μ78 hv78 => ?_)
          obtain ⟨c78, rfl, rfl, hc78⟩ := hv78
          dsimp only [Option.toList, List.cons_append, List.nil_append]
          refine zl_ald0 I133_81 ?_
          refine zr_bipush I133_82 ?_
          refine zl_ild1 I133_84 ?_
          refine zr_bipush I133_85 ?_
          refine zr_irem I133_87 (by omega) ?_
          refine zr_iadd I133_88 (by unfold zInR; omega) ?_
          refine zr_callV I133_89 C9_141 ⟨rfl, rfl⟩ ⟨rfl, Nat.le_of_ble_eq_true rfl⟩ (Or.inl ⟨rfl, sT145 hS⟩) (e_X9_signs hS hc78.2.2 hc78.1 (by simp only [List.length_append, List.length_cons, List.length_nil]; omega) (by omega)) (fun v89 μ89 hv89 => ?_)
          obtain ⟨c89, rfl, rfl, hc89⟩ := hv89
          dsimp only [Option.toList, List.cons_append, List.nil_append]
          refine zr_vret I133_92 rfl ?_
          exfalso
          omega
      · refine zl_ald0 I133_47 ?_
        refine zr_bipush I133_48 ?_
        refine zl_ild1 I133_50 ?_
        refine zr_bipush I133_51 ?_
        refine zr_idiv I133_53 (by omega) ?_
        refine zr_bipush I133_54 ?_
        refine zr_irem I133_56 (by omega) ?_
        refine zr_iadd I133_57 (by unfold zInR; omega) ?_
        refine zr_callV I133_58 C9_141 ⟨rfl, rfl⟩ ⟨rfl, Nat.le_of_ble_eq_true rfl⟩ (Or.inl ⟨rfl, sT145 hS⟩) (e_X9_signs hS hc38.2.2 hc38.1 (by simp only [List.length_append, List.length_cons, List.length_nil]; omega) (by omega)) (fun v58 μ58 hv58 => ?_)
        obtain ⟨c58, rfl, rfl, hc58⟩ := hv58
        dsimp only [Option.toList, List.cons_append, List.nil_append]
        refine zl_ild1 I133_61 ?_
        refine zr_bipush I133_62 ?_
        refine zr_ic_lt (t := 81) I133_64 rfl (fun h64 => ?_) (fun h64 => ?_)
        · refine zl_ald0 I133_81 ?_
          refine zr_bipush I133_82 ?_
          refine zl_ild1 I133_84 ?_
          refine zr_bipush I133_85 ?_
          refine zr_irem I133_87 (by omega) ?_
          refine zr_iadd I133_88 (by unfold zInR; omega) ?_
          refine zr_callV I133_89 C9_141 ⟨rfl, rfl⟩ ⟨rfl, Nat.le_of_ble_eq_true rfl⟩ (Or.inl ⟨rfl, sT145 hS⟩) (e_X9_signs hS hc58.2.2 hc58.1 (by simp only [List.length_append, List.length_cons, List.length_nil]; omega) (by omega)) (fun v89 μ89 hv89 => ?_)
          obtain ⟨c89, rfl, rfl, hc89⟩ := hv89
          dsimp only [Option.toList, List.cons_append, List.nil_append]
          refine zr_vret I133_92 rfl ?_
          exfalso
          omega
        · refine zl_ald0 I133_67 ?_
          refine zr_bipush I133_68 ?_
          refine zl_ild1 I133_70 ?_
          refine zr_bipush I133_71 ?_
          refine zr_idiv I133_73 (by omega) ?_
          refine zr_bipush I133_74 ?_
          refine zr_irem I133_76 (by omega) ?_
          refine zr_iadd I133_77 (by unfold zInR; omega) ?_
          refine zr_callV I133_78 C9_141 ⟨rfl, rfl⟩ ⟨rfl, Nat.le_of_ble_eq_true rfl⟩ (Or.inl ⟨rfl, sT145 hS⟩) (e_X9_signs hS hc58.2.2 hc58.1 (by simp only [List.length_append, List.length_cons, List.length_nil]; omega) (by omega)) (fun v78 μ78 hv78 => ?_)
          obtain ⟨c78, rfl, rfl, hc78⟩ := hv78
          dsimp only [Option.toList, List.cons_append, List.nil_append]
          refine zl_ald0 I133_81 ?_
          refine zr_bipush I133_82 ?_
          refine zl_ild1 I133_84 ?_
          refine zr_bipush I133_85 ?_
          refine zr_irem I133_87 (by omega) ?_
          refine zr_iadd I133_88 (by unfold zInR; omega) ?_
          refine zr_callV I133_89 C9_141 ⟨rfl, rfl⟩ ⟨rfl, Nat.le_of_ble_eq_true rfl⟩ (Or.inl ⟨rfl, sT145 hS⟩) (e_X9_signs hS hc78.2.2 hc78.1 (by simp only [List.length_append, List.length_cons, List.length_nil]; omega) (by omega)) (fun v89 μ89 hv89 => ?_)
          obtain ⟨c89, rfl, rfl, hc89⟩ := hv89
          dsimp only [Option.toList, List.cons_append, List.nil_append]
          refine zr_vret I133_92 rfl ?_
          refine ⟨_, rfl, rfl, ?_, (((hc38.2.1).tr hc58.2.1).tr hc78.2.1).tr hc89.2.1, hc89.2.2⟩
          unfold zDg
          rw [if_neg (by omega), if_pos (by omega), if_pos (by omega), if_pos (by omega)]
          have h9 := hc89.1
          simp only [List.append_assoc, List.nil_append] at h9 ⊢
          exact h9
  · refine zl_ald0 I133_7 ?_
    refine zr_bipush I133_8 ?_
    refine zl_ild1 I133_10 ?_
    refine zr_sipush I133_11 ?_
    refine zr_idiv I133_14 (by omega) ?_
    refine zr_iadd I133_15 (by unfold zInR; omega) ?_
    refine zr_callV I133_16 C9_141 ⟨rfl, rfl⟩ ⟨rfl, Nat.le_of_ble_eq_true rfl⟩ (Or.inl ⟨rfl, sT145 hS⟩) (e_X9_signs hS hB h (by omega) (by omega)) (fun v16 μ16 hv16 => ?_)
    obtain ⟨c16, rfl, rfl, hc16⟩ := hv16
    dsimp only [Option.toList, List.cons_append, List.nil_append]
    refine zl_ild1 I133_19 ?_
    refine zr_sipush I133_20 ?_
    refine zr_ic_lt (t := 41) I133_23 rfl (fun h23 => ?_) (fun h23 => ?_)
    · refine zl_ild1 I133_41 ?_
      refine zr_bipush I133_42 ?_
      refine zr_ic_lt (t := 61) I133_44 rfl (fun h44 => ?_) (fun h44 => ?_)
      · refine zl_ild1 I133_61 ?_
        refine zr_bipush I133_62 ?_
        refine zr_ic_lt (t := 81) I133_64 rfl (fun h64 => ?_) (fun h64 => ?_)
        · refine zl_ald0 I133_81 ?_
          refine zr_bipush I133_82 ?_
          refine zl_ild1 I133_84 ?_
          refine zr_bipush I133_85 ?_
          refine zr_irem I133_87 (by omega) ?_
          refine zr_iadd I133_88 (by unfold zInR; omega) ?_
          refine zr_callV I133_89 C9_141 ⟨rfl, rfl⟩ ⟨rfl, Nat.le_of_ble_eq_true rfl⟩ (Or.inl ⟨rfl, sT145 hS⟩) (e_X9_signs hS hc16.2.2 hc16.1 (by simp only [List.length_append, List.length_cons, List.length_nil]; omega) (by omega)) (fun v89 μ89 hv89 => ?_)
          obtain ⟨c89, rfl, rfl, hc89⟩ := hv89
          dsimp only [Option.toList, List.cons_append, List.nil_append]
          refine zr_vret I133_92 rfl ?_
          exfalso
          omega
        · refine zl_ald0 I133_67 ?_
          refine zr_bipush I133_68 ?_
          refine zl_ild1 I133_70 ?_
          refine zr_bipush I133_71 ?_
          refine zr_idiv I133_73 (by omega) ?_
          refine zr_bipush I133_74 ?_
          refine zr_irem I133_76 (by omega) ?_
          refine zr_iadd I133_77 (by unfold zInR; omega) ?_
          refine zr_callV I133_78 C9_141 ⟨rfl, rfl⟩ ⟨rfl, Nat.le_of_ble_eq_true rfl⟩ (Or.inl ⟨rfl, sT145 hS⟩) (e_X9_signs hS hc16.2.2 hc16.1 (by simp only [List.length_append, List.length_cons, List.length_nil]; omega) (by omega)) (fun v78 μ78 hv78 => ?_)
          obtain ⟨c78, rfl, rfl, hc78⟩ := hv78
          dsimp only [Option.toList, List.cons_append, List.nil_append]
          refine zl_ald0 I133_81 ?_
          refine zr_bipush I133_82 ?_
          refine zl_ild1 I133_84 ?_
          refine zr_bipush I133_85 ?_
          refine zr_irem I133_87 (by omega) ?_
          refine zr_iadd I133_88 (by unfold zInR; omega) ?_
          refine zr_callV I133_89 C9_141 ⟨rfl, rfl⟩ ⟨rfl, Nat.le_of_ble_eq_true rfl⟩ (Or.inl ⟨rfl, sT145 hS⟩) (e_X9_signs hS hc78.2.2 hc78.1 (by simp only [List.length_append, List.length_cons, List.length_nil]; omega) (by omega)) (fun v89 μ89 hv89 => ?_)
          obtain ⟨c89, rfl, rfl, hc89⟩ := hv89
          dsimp only [Option.toList, List.cons_append, List.nil_append]
          refine zr_vret I133_92 rfl ?_
          exfalso
          omega
      · refine zl_ald0 I133_47 ?_
        refine zr_bipush I133_48 ?_
        refine zl_ild1 I133_50 ?_
        refine zr_bipush I133_51 ?_
        refine zr_idiv I133_53 (by omega) ?_
        refine zr_bipush I133_54 ?_
        refine zr_irem I133_56 (by omega) ?_
        refine zr_iadd I133_57 (by unfold zInR; omega) ?_
        refine zr_callV I133_58 C9_141 ⟨rfl, rfl⟩ ⟨rfl, Nat.le_of_ble_eq_true rfl⟩ (Or.inl ⟨rfl, sT145 hS⟩) (e_X9_signs hS hc16.2.2 hc16.1 (by simp only [List.length_append, List.length_cons, List.length_nil]; omega) (by omega)) (fun v58 μ58 hv58 => ?_)
        obtain ⟨c58, rfl, rfl, hc58⟩ := hv58
        dsimp only [Option.toList, List.cons_append, List.nil_append]
        refine zl_ild1 I133_61 ?_
        refine zr_bipush I133_62 ?_
        refine zr_ic_lt (t := 81) I133_64 rfl (fun h64 => ?_) (fun h64 => ?_)
        · refine zl_ald0 I133_81 ?_
          refine zr_bipush I133_82 ?_
          refine zl_ild1 I133_84 ?_
          refine zr_bipush I133_85 ?_
          refine zr_irem I133_87 (by omega) ?_
          refine zr_iadd I133_88 (by unfold zInR; omega) ?_
          refine zr_callV I133_89 C9_141 ⟨rfl, rfl⟩ ⟨rfl, Nat.le_of_ble_eq_true rfl⟩ (Or.inl ⟨rfl, sT145 hS⟩) (e_X9_signs hS hc58.2.2 hc58.1 (by simp only [List.length_append, List.length_cons, List.length_nil]; omega) (by omega)) (fun v89 μ89 hv89 => ?_)
          obtain ⟨c89, rfl, rfl, hc89⟩ := hv89
          dsimp only [Option.toList, List.cons_append, List.nil_append]
          refine zr_vret I133_92 rfl ?_
          exfalso
          omega
        · refine zl_ald0 I133_67 ?_
          refine zr_bipush I133_68 ?_
          refine zl_ild1 I133_70 ?_
          refine zr_bipush I133_71 ?_
          refine zr_idiv I133_73 (by omega) ?_
          refine zr_bipush I133_74 ?_
          refine zr_irem I133_76 (by omega) ?_
          refine zr_iadd I133_77 (by unfold zInR; omega) ?_
          refine zr_callV I133_78 C9_141 ⟨rfl, rfl⟩ ⟨rfl, Nat.le_of_ble_eq_true rfl⟩ (Or.inl ⟨rfl, sT145 hS⟩) (e_X9_signs hS hc58.2.2 hc58.1 (by simp only [List.length_append, List.length_cons, List.length_nil]; omega) (by omega)) (fun v78 μ78 hv78 => ?_)
          obtain ⟨c78, rfl, rfl, hc78⟩ := hv78
          dsimp only [Option.toList, List.cons_append, List.nil_append]
          refine zl_ald0 I133_81 ?_
          refine zr_bipush I133_82 ?_
          refine zl_ild1 I133_84 ?_
          refine zr_bipush I133_85 ?_
          refine zr_irem I133_87 (by omega) ?_
          refine zr_iadd I133_88 (by unfold zInR; omega) ?_
          refine zr_callV I133_89 C9_141 ⟨rfl, rfl⟩ ⟨rfl, Nat.le_of_ble_eq_true rfl⟩ (Or.inl ⟨rfl, sT145 hS⟩) (e_X9_signs hS hc78.2.2 hc78.1 (by simp only [List.length_append, List.length_cons, List.length_nil]; omega) (by omega)) (fun v89 μ89 hv89 => ?_)
          obtain ⟨c89, rfl, rfl, hc89⟩ := hv89
          dsimp only [Option.toList, List.cons_append, List.nil_append]
          refine zr_vret I133_92 rfl ?_
          exfalso
          omega
    · refine zl_ald0 I133_26 ?_
      refine zr_bipush I133_27 ?_
      refine zl_ild1 I133_29 ?_
      refine zr_sipush I133_30 ?_
      refine zr_idiv I133_33 (by omega) ?_
      refine zr_bipush I133_34 ?_
      refine zr_irem I133_36 (by omega) ?_
      refine zr_iadd I133_37 (by unfold zInR; omega) ?_
      refine zr_callV I133_38 C9_141 ⟨rfl, rfl⟩ ⟨rfl, Nat.le_of_ble_eq_true rfl⟩ (Or.inl ⟨rfl, sT145 hS⟩) (e_X9_signs hS hc16.2.2 hc16.1 (by simp only [List.length_append, List.length_cons, List.length_nil]; omega) (by omega)) (fun v38 μ38 hv38 => ?_)
      obtain ⟨c38, rfl, rfl, hc38⟩ := hv38
      dsimp only [Option.toList, List.cons_append, List.nil_append]
      refine zl_ild1 I133_41 ?_
      refine zr_bipush I133_42 ?_
      refine zr_ic_lt (t := 61) I133_44 rfl (fun h44 => ?_) (fun h44 => ?_)
      · refine zl_ild1 I133_61 ?_
        refine zr_bipush I133_62 ?_
        refine zr_ic_lt (t := 81) I133_64 rfl (fun h64 => ?_) (fun h64 => ?_)
        · refine zl_ald0 I133_81 ?_
          refine zr_bipush I133_82 ?_
          refine zl_ild1 I133_84 ?_
          refine zr_bipush I133_85 ?_
          refine zr_irem I133_87 (by omega) ?_
          refine zr_iadd I133_88 (by unfold zInR; omega) ?_
          refine zr_callV I133_89 C9_141 ⟨rfl, rfl⟩ ⟨rfl, Nat.le_of_ble_eq_true rfl⟩ (Or.inl ⟨rfl, sT145 hS⟩) (e_X9_signs hS hc38.2.2 hc38.1 (by simp only [List.length_append, List.length_cons, List.length_nil]; omega) (by omega)) (fun v89 μ89 hv89 => ?_)
          obtain ⟨c89, rfl, rfl, hc89⟩ := hv89
          dsimp only [Option.toList, List.cons_append, List.nil_append]
          refine zr_vret I133_92 rfl ?_
          exfalso
          omega
        · refine zl_ald0 I133_67 ?_
          refine zr_bipush I133_68 ?_
          refine zl_ild1 I133_70 ?_
          refine zr_bipush I133_71 ?_
          refine zr_idiv I133_73 (by omega) ?_
          refine zr_bipush I133_74 ?_
          refine zr_irem I133_76 (by omega) ?_
          refine zr_iadd I133_77 (by unfold zInR; omega) ?_
          refine zr_callV I133_78 C9_141 ⟨rfl, rfl⟩ ⟨rfl, Nat.le_of_ble_eq_true rfl⟩ (Or.inl ⟨rfl, sT145 hS⟩) (e_X9_signs hS hc38.2.2 hc38.1 (by simp only [List.length_append, List.length_cons, List.length_nil]; omega) (by omega)) (fun v78 μ78 hv78 => ?_)
          obtain ⟨c78, rfl, rfl, hc78⟩ := hv78
          dsimp only [Option.toList, List.cons_append, List.nil_append]
          refine zl_ald0 I133_81 ?_
          refine zr_bipush I133_82 ?_
          refine zl_ild1 I133_84 ?_
          refine zr_bipush I133_85 ?_
          refine zr_irem I133_87 (by omega) ?_
          refine zr_iadd I133_88 (by unfold zInR; omega) ?_
          refine zr_callV I133_89 C9_141 ⟨rfl, rfl⟩ ⟨rfl, Nat.le_of_ble_eq_true rfl⟩ (Or.inl ⟨rfl, sT145 hS⟩) (e_X9_signs hS hc78.2.2 hc78.1 (by simp only [List.length_append, List.length_cons, List.length_nil]; omega) (by omega)) (fun v89 μ89 hv89 => ?_)
          obtain ⟨c89, rfl, rfl, hc89⟩ := hv89
          dsimp only [Option.toList, List.cons_append, List.nil_append]
          refine zr_vret I133_92 rfl ?_
          exfalso
          omega
      · refine zl_ald0 I133_47 ?_
        refine zr_bipush I133_48 ?_
        refine zl_ild1 I133_50 ?_
        refine zr_bipush I133_51 ?_
        refine zr_idiv I133_53 (by omega) ?_
        refine zr_bipush I133_54 ?_
        refine zr_irem I133_56 (by omega) ?_
        refine zr_iadd I133_57 (by unfold zInR; omega) ?_
        refine zr_callV I133_58 C9_141 ⟨rfl, rfl⟩ ⟨rfl, Nat.le_of_ble_eq_true rfl⟩ (Or.inl ⟨rfl, sT145 hS⟩) (e_X9_signs hS hc38.2.2 hc38.1 (by simp only [List.length_append, List.length_cons, List.length_nil]; omega) (by omega)) (fun v58 μ58 hv58 => ?_)
        obtain ⟨c58, rfl, rfl, hc58⟩ := hv58
        dsimp only [Option.toList, List.cons_append, List.nil_append]
        refine zl_ild1 I133_61 ?_
        refine zr_bipush I133_62 ?_
        refine zr_ic_lt (t := 81) I133_64 rfl (fun h64 => ?_) (fun h64 => ?_)
        · refine zl_ald0 I133_81 ?_
          refine zr_bipush I133_82 ?_
          refine zl_ild1 I133_84 ?_
          refine zr_bipush I133_85 ?_
          refine zr_irem I133_87 (by omega) ?_
          refine zr_iadd I133_88 (by unfold zInR; omega) ?_
          refine zr_callV I133_89 C9_141 ⟨rfl, rfl⟩ ⟨rfl, Nat.le_of_ble_eq_true rfl⟩ (Or.inl ⟨rfl, sT145 hS⟩) (e_X9_signs hS hc58.2.2 hc58.1 (by simp only [List.length_append, List.length_cons, List.length_nil]; omega) (by omega)) (fun v89 μ89 hv89 => ?_)
          obtain ⟨c89, rfl, rfl, hc89⟩ := hv89
          dsimp only [Option.toList, List.cons_append, List.nil_append]
          refine zr_vret I133_92 rfl ?_
          exfalso
          omega
        · refine zl_ald0 I133_67 ?_
          refine zr_bipush I133_68 ?_
          refine zl_ild1 I133_70 ?_
          refine zr_bipush I133_71 ?_
          refine zr_idiv I133_73 (by omega) ?_
          refine zr_bipush I133_74 ?_
          refine zr_irem I133_76 (by omega) ?_
          refine zr_iadd I133_77 (by unfold zInR; omega) ?_
          refine zr_callV I133_78 C9_141 ⟨rfl, rfl⟩ ⟨rfl, Nat.le_of_ble_eq_true rfl⟩ (Or.inl ⟨rfl, sT145 hS⟩) (e_X9_signs hS hc58.2.2 hc58.1 (by simp only [List.length_append, List.length_cons, List.length_nil]; omega) (by omega)) (fun v78 μ78 hv78 => ?_)
          obtain ⟨c78, rfl, rfl, hc78⟩ := hv78
          dsimp only [Option.toList, List.cons_append, List.nil_append]
          refine zl_ald0 I133_81 ?_
          refine zr_bipush I133_82 ?_
          refine zl_ild1 I133_84 ?_
          refine zr_bipush I133_85 ?_
          refine zr_irem I133_87 (by omega) ?_
          refine zr_iadd I133_88 (by unfold zInR; omega) ?_
          refine zr_callV I133_89 C9_141 ⟨rfl, rfl⟩ ⟨rfl, Nat.le_of_ble_eq_true rfl⟩ (Or.inl ⟨rfl, sT145 hS⟩) (e_X9_signs hS hc78.2.2 hc78.1 (by simp only [List.length_append, List.length_cons, List.length_nil]; omega) (by omega)) (fun v89 μ89 hv89 => ?_)
          obtain ⟨c89, rfl, rfl, hc89⟩ := hv89
          dsimp only [Option.toList, List.cons_append, List.nil_append]
          refine zr_vret I133_92 rfl ?_
          refine ⟨_, rfl, rfl, ?_, ((((hc16.2.1).tr hc38.2.1).tr hc58.2.1).tr hc78.2.1).tr hc89.2.1, hc89.2.2⟩
          unfold zDg
          rw [if_pos (by omega), if_pos (by omega), if_pos (by omega), if_pos (by omega)]
          have h9 := hc89.1
          simp only [List.append_assoc, List.nil_append] at h9 ⊢
          exact h9
