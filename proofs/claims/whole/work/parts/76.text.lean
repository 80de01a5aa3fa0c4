/-! the text's own methods -/
/-- what stands below the objects that are made: the two texts, the two tables of digits -/
def zLow (S : zSh) (c : zC) : Prop := ((S 1).1 = 11 ∧ (S 1).2.2 0 = some 2) ∧ ((S 2).1 = 31 ∧ (S 2).2.1 = 2 ∧ c 2 0 = 32 ∧ c 2 1 = 43) ∧ ((S 3).1 = 11 ∧ (S 3).2.2 0 = some 4) ∧ ((S 4).1 = 31 ∧ (S 4).2.1 = 2 ∧ c 4 0 = 32 ∧ c 4 1 = 80) ∧ ((S 5).1 = 31 ∧ (S 5).2.1 = 100 ∧ ∀ k, c 5 k = 48 + k % 10) ∧ ((S 6).1 = 31 ∧ (S 6).2.1 = 100 ∧ ∀ k, c 6 k = 48 + k / 10 % 10)
theorem zLow_c {S S' : zSh} {c c' : zC} (h : zLow S c) (hs : ∀ r, r < 8 → S' r = S r) (hc : ∀ r, r < 8 → c' r = c r) : zLow S' c' := by
  unfold zLow
  rw [hs 1 (by decide), hs 2 (by decide), hs 3 (by decide), hs 4 (by decide), hs 5 (by decide), hs 6 (by decide), hc 2 (by decide), hc 4 (by decide), hc 5 (by decide), hc 6 (by decide)]
  exact h
/-- the text holds l; its bytes lie at bq, of N -/
def zSB (S : zSh) (c : zC) (n sl sl0 : Nat) (l : List Int) (bq : Nat) (N : Int) : Prop := (zSok S ∧ zLow S c ∧ zBd c) ∧ ((S 143).1 = 0 ∧ (S 143).2.2 0 = some bq ∧ c 143 1 = 0 ∧ c 143 3 = l.length) ∧ (l.length : Int) ≤ N ∧ ((S bq).1 = 21 ∧ (S bq).2.1 = N ∧ ∀ (k : Nat) (x : Int), l[k]? = some x → c bq k = x) ∧ ((bq = 144 ∧ N = 16 ∧ n = 155 ∧ sl ≤ 50000) ∨ (bq = 155 ∧ N = 34 ∧ n = 156 ∧ sl ≤ 50034)) ∧ ((S 0).1 = 30 ∧ (S 0).2.1 = sl0)
def zFt (c c' : zC) : Prop := ∀ r, r ≠ 143 → r ≠ 144 → r ≠ 155 → c' r = c r
theorem zFt.rf {c : zC} : zFt c c := fun _ _ _ _ => rfl
theorem zFt.tr {a b c : zC} (h : zFt a b) (h2 : zFt b c) : zFt a c := fun r h3 h4 h5 => (h2 r h3 h4 h5).trans (h r h3 h4 h5)
def zDn (x : Int) : Int := if x < 10 then 1 else if x < 100 then 2 else if x < 1000 then 3 else if x < 10000 then 4 else 5
set_option maxRecDepth 10000 in
set_option maxHeartbeats 2000000 in
theorem e_J5_isLatin1 {d n sl : Nat} {S : zSh} {c : zC} {bq : Nat} (hT : (S 143).1 = 0) (hV : (S 143).2.2 0 = some bq) (hco : c 143 1 = 0) : zE (d + 0) 155 0 (zent 155 [zA 143]) [] ((n, sl), (S, c)) (zRd (1) ((n, sl), (S, c))) := by
  show zE (d + 0) 155 0 [some (zA 143)] [] ((n, sl), (S, c)) _
  refine zr_next I155_0 rfl ?_
  refine zr_if_eq (t := 17) I155_3 rfl (fun h3 => absurd h3 (by omega)) (fun h3 => ?_)
  refine zl_ald0 I155_6 ?_
  refine zr_geti (j := 1) I155_7 F12_22 rfl (hT) ?_
  refine zr_if_ne (t := 17) I155_10 rfl (fun h10 => absurd h10 (by omega)) (fun h10 => ?_)
  refine zr_iconst I155_13 ?_
  refine zr_goto (t := 18) I155_14 rfl ?_
  refine zr_zret I155_18 rfl (by decide) ?_
  exact ⟨rfl, rfl⟩
set_option maxRecDepth 10000 in
set_option maxHeartbeats 2000000 in
theorem e_J5_length {d n sl : Nat} {S : zSh} {c : zC} {bq : Nat} (hT : (S 143).1 = 0) (hV : (S 143).2.2 0 = some bq) : zE (d + 0) 147 0 (zent 147 [zA 143]) [] ((n, sl), (S, c)) (zRd (c 143 3) ((n, sl), (S, c))) := by
  show zE (d + 0) 147 0 [some (zA 143)] [] ((n, sl), (S, c)) _
  refine zl_ald0 I147_0 ?_
  refine zr_geti (j := 3) I147_1 F12_79 rfl (hT) ?_
  refine zr_iret I147_4 rfl ?_
  exact ⟨rfl, rfl⟩
set_option maxRecDepth 10000 in
set_option maxHeartbeats 2000000 in
theorem e_J1_canEncode {d n sl : Nat} {S : zSh} {c : zC} {x : Int} (hx : 0 ≤ x ∧ x < 256) : zE (d + 0) 164 0 (zent 164 [zI x]) [] ((n, sl), (S, c)) (zRd (1) ((n, sl), (S, c))) := by
  show zE (d + 0) 164 0 [some (zI x)] [] ((n, sl), (S, c)) _
  refine zl_ild0 I164_0 ?_
  refine zr_sipush I164_1 ?_
  refine zr_ic_gt (t := 11) I164_4 rfl (fun h4 => absurd h4 (by omega)) (fun h4 => ?_)
  refine zr_iconst I164_7 ?_
  refine zr_goto (t := 12) I164_8 rfl ?_
  refine zr_zret I164_12 rfl (by decide) ?_
  exact ⟨rfl, rfl⟩
set_option maxRecDepth 10000 in
set_option maxHeartbeats 2000000 in
theorem e_J6_stringSize {d n sl : Nat} {S : zSh} {c : zC} {x : Int} (hx : 0 ≤ x ∧ x ≤ 99999) : zE (d + 0) 159 0 (zent 159 [zI x]) [] ((n, sl), (S, c)) (zRd (zDn x) ((n, sl), (S, c))) := by
  show zE (d + 0) 159 0 [some (zI x), none, none, none] [] ((n, sl), (S, c)) _
  refine zr_iconst I159_0 ?_
  refine zl_ist1 I159_1 ?_
  refine zl_ild0 I159_2 ?_
  refine zr_if_lt (t := 11) I159_3 rfl (fun h3 => absurd h3 (by omega)) (fun h3 => ?_)
  refine zr_iconst I159_6 ?_
  refine zl_ist1 I159_7 ?_
  refine zl_ild0 I159_8 ?_
  refine zr_ineg I159_9 (by unfold zInR; omega) ?_
  refine zl_ist0 I159_10 ?_
  refine zr_bipush I159_11 ?_
  refine zl_ist2 I159_13 ?_
  refine zr_iconst I159_14 ?_
  refine zl_ist3 I159_15 ?_
  refine zl_ild3 I159_16 ?_
  refine zr_bipush I159_17 ?_
  refine zr_ic_ge (t := 42) I159_19 rfl (fun h19 => absurd h19 (by omega)) (fun h19 => ?_)
  refine zl_ild0 I159_22 ?_
  refine zl_ild2 I159_23 ?_
  refine zr_ic_le (t := 31) I159_24 rfl (fun h24 => ?_) (fun h24 => ?_)
  · refine zr_bipush I159_31 ?_
    refine zl_ild2 I159_33 ?_
    refine zr_imul I159_34 (by unfold zInR; omega) ?_
    refine zl_ist2 I159_35 ?_
    refine zl_iinc3 I159_36 (by unfold zInR; omega) ?_
    refine zr_goto (t := 16) I159_39 rfl ?_
    refine zl_ild3 I159_16 ?_
    refine zr_bipush I159_17 ?_
    refine zr_ic_ge (t := 42) I159_19 rfl (fun h19 => absurd h19 (by omega)) (fun h19 => ?_)
    refine zl_ild0 I159_22 ?_
    refine zl_ild2 I159_23 ?_
    refine zr_ic_le (t := 31) I159_24 rfl (fun h24 => ?_) (fun h24 => ?_)
    · refine zr_bipush I159_31 ?_
      refine zl_ild2 I159_33 ?_
      refine zr_imul I159_34 (by unfold zInR; omega) ?_
      refine zl_ist2 I159_35 ?_
      refine zl_iinc3 I159_36 (by unfold zInR; omega) ?_
      refine zr_goto (t := 16) I159_39 rfl ?_
      refine zl_ild3 I159_16 ?_
      refine zr_bipush I159_17 ?_
      refine zr_ic_ge (t := 42) I159_19 rfl (fun h19 => absurd h19 (by omega)) (fun h19 => ?_)
      refine zl_ild0 I159_22 ?_
      refine zl_ild2 I159_23 ?_
      refine zr_ic_le (t := 31) I159_24 rfl (fun h24 => ?_) (fun h24 => ?_)
      · refine zr_bipush I159_31 ?_
        refine zl_ild2 I159_33 ?_
        refine zr_imul I159_34 (by unfold zInR; omega) ?_
        refine zl_ist2 I159_35 ?_
        refine zl_iinc3 I159_36 (by unfold zInR; omega) ?_
        refine zr_goto (t := 16) I159_39 rfl ?_
        refine zl_ild3 I159_16 ?_
        refine zr_bipush I159_17 ?_
        refine zr_ic_ge (t := 42) I159_19 rfl (fun h19 => absurd h19 (by omega)) (fun h19 => ?_)
        refine zl_ild0 I159_22 ?_
        refine zl_ild2 I159_23 ?_
        refine zr_ic_le (t := 31) I159_24 rfl (fun h24 => ?_) (fun h24 => ?_)
        · refine zr_bipush I159_31 ?_
          refine zl_ild2 I159_33 ?_
          refine zr_imul I159_34 (by unfold zInR; omega) ?_
          refine zl_ist2 I159_35 ?_
          refine zl_iinc3 I159_36 (by unfold zInR; omega) ?_
          refine zr_goto (t := 16) I159_39 rfl ?_
          refine zl_ild3 I159_16 ?_
          refine zr_bipush I159_17 ?_
          refine zr_ic_ge (t := 42) I159_19 rfl (fun h19 => absurd h19 (by omega)) (fun h19 => ?_)
          refine zl_ild0 I159_22 ?_
          refine zl_ild2 I159_23 ?_
          refine zr_ic_le (t := 31) I159_24 rfl (fun h24 => absurd h24 (by omega)) (fun h24 => ?_)
          refine zl_ild3 I159_27 ?_
          refine zl_ild1 I159_28 ?_
          refine zr_iadd I159_29 (by unfold zInR; omega) ?_
          refine zr_iret I159_30 rfl ?_
          refine ⟨congrArg (fun z => some (zI z)) ?_, rfl⟩
          unfold zDn
          (repeat' split) <;> omega
        · refine zl_ild3 I159_27 ?_
          refine zl_ild1 I159_28 ?_
          refine zr_iadd I159_29 (by unfold zInR; omega) ?_
          refine zr_iret I159_30 rfl ?_
          refine ⟨congrArg (fun z => some (zI z)) ?_, rfl⟩
          unfold zDn
          (repeat' split) <;> omega
      · refine zl_ild3 I159_27 ?_
        refine zl_ild1 I159_28 ?_
        refine zr_iadd I159_29 (by unfold zInR; omega) ?_
        refine zr_iret I159_30 rfl ?_
        refine ⟨congrArg (fun z => some (zI z)) ?_, rfl⟩
        unfold zDn
        (repeat' split) <;> omega
    · refine zl_ild3 I159_27 ?_
      refine zl_ild1 I159_28 ?_
      refine zr_iadd I159_29 (by unfold zInR; omega) ?_
      refine zr_iret I159_30 rfl ?_
      refine ⟨congrArg (fun z => some (zI z)) ?_, rfl⟩
      unfold zDn
      (repeat' split) <;> omega
  · refine zl_ild3 I159_27 ?_
    refine zl_ild1 I159_28 ?_
    refine zr_iadd I159_29 (by unfold zInR; omega) ?_
    refine zr_iret I159_30 rfl ?_
    refine ⟨congrArg (fun z => some (zI z)) ?_, rfl⟩
    unfold zDn
    (repeat' split) <;> omega
set_option maxRecDepth 10000 in
set_option maxHeartbeats 2000000 in
theorem e_J6_getChars {d n sl : Nat} {S : zSh} {c : zC} {bq : Nat} {N x ix : Int} (hTb : (S bq).1 = 21) (hNb : (S bq).2.1 = N) (hlo : zLow S c) (hB : zBd c) (hq8 : 8 ≤ bq) (hx : 0 ≤ x ∧ x ≤ 99999) (hix : zDn x ≤ ix ∧ ix ≤ N) (hN9 : N ≤ 100) : zE (d + 0) 158 0 (zent 158 [zI x, zI ix, zA bq]) [] ((n, sl), (S, c)) (fun r μ' => ∃ c' : zC, r = some (zI (ix - zDn x)) ∧ μ' = ((n, sl), (S, c')) ∧ (∀ r, r ≠ bq → c' r = c r) ∧ (∀ j, (j < ix - zDn x ∨ ix ≤ j) → c' bq j = c bq j) ∧ (∀ (k : Nat) (y : Int), (zDg x)[k]? = some y → c' bq (ix - zDn x + k) = y) ∧ zBd c') := by
  show zE (d + 0) 158 0 [some (zI x), some (zI ix), some (zA bq), none, none, none, none] [] ((n, sl), (S, c)) _
  obtain ⟨_, _, _, _, h5, h6⟩ := hlo
  have hdn : zDn x ≤ ix := hix.1
  unfold zDn at hdn
  refine zl_ild1 I158_0 ?_
  refine zl_ist5 I158_1 ?_
  refine zl_ild0 I158_3 ?_
  refine zr_if_ge (t := 11) I158_4 rfl (fun h4 => ?_) (fun h4 => absurd h4 (by omega))
  refine zr_iconst I158_11 ?_
  refine zl_ist6 I158_12 ?_
  refine zl_ild6 I158_14 ?_
  refine zr_if_ne (t := 22) I158_16 rfl (fun h16 => absurd h16 (by omega)) (fun h16 => ?_)
  refine zl_ild0 I158_19 ?_
  refine zr_ineg I158_20 (by unfold zInR; omega) ?_
  refine zl_ist0 I158_21 ?_
  refine zl_ild0 I158_22 ?_
  refine zr_bipush I158_23 ?_
  refine zr_ic_gt (t := 72) I158_25 rfl (fun h25 => ?_) (fun h25 => ?_)
  · refine zl_ald2 I158_72 ?_
    refine zl_iinc5 I158_73 (by unfold zInR; omega) ?_
    refine zl_ild5 I158_76 ?_
    refine zr_next I158_78 rfl ?_
    refine zl_ild0 I158_81 ?_
    refine zr_ineg I158_82 (by unfold zInR; omega) ?_
    refine zr_bald I158_83 (Or.inr h5.1) (h5.2.1) (by omega) ?_
    simp only [zup_oth (show (5 : Nat) ≠ bq by omega), h5.2.2]
    refine zr_bast I158_84 (hTb) (hNb) (by omega) (by omega) ?_
    refine zl_ild0 I158_85 ?_
    refine zr_bipush I158_86 ?_
    refine zr_ic_ge (t := 104) I158_88 rfl (fun h88 => ?_) (fun h88 => ?_)
    · refine zl_ild6 I158_104 ?_
      refine zr_if_eq (t := 118) I158_106 rfl (fun h106 => ?_) (fun h106 => absurd h106 (by omega))
      refine zl_ild5 I158_118 ?_
      refine zr_iret I158_120 rfl ?_
      have eD : zDg x = [48 + x % 10] := by
        unfold zDg
        rw [if_neg (show ¬ 10000 ≤ x by omega)]
        rw [if_neg (show ¬ 1000 ≤ x by omega)]
        rw [if_neg (show ¬ 100 ≤ x by omega)]
        rw [if_neg (show ¬ 10 ≤ x by omega)]
        rfl
      have eN : zDn x = 1 := by
        unfold zDn
        rw [if_pos (show x < 10 by omega)]
      rw [eD, eN]
      refine ⟨_, congrArg (fun z => some (zI z)) (by omega), rfl, fun r hr => by rw [zup_ne hr], fun j hj => by rw [zup_k (by omega)], fun k y hk => ?_, (zBd_up hB (by omega))⟩
      match k, hk with
      | 0, hk => 
        injection hk with hk
        rw [zup_q, if_pos (by omega)]
        omega
      | k + 1, hk => simp at hk
    · refine zl_ald2 I158_91 ?_
      refine zl_iinc5 I158_92 (by unfold zInR; omega) ?_
      refine zl_ild5 I158_95 ?_
      refine zr_next I158_97 rfl ?_
      refine zl_ild0 I158_100 ?_
      refine zr_ineg I158_101 (by unfold zInR; omega) ?_
      refine zr_bald I158_102 (Or.inr h6.1) (h6.2.1) (by omega) ?_
      simp only [zup_oth (show (6 : Nat) ≠ bq by omega), h6.2.2]
      refine zr_bast I158_103 (hTb) (hNb) (by omega) (by omega) ?_
      refine zl_ild6 I158_104 ?_
      refine zr_if_eq (t := 118) I158_106 rfl (fun h106 => ?_) (fun h106 => absurd h106 (by omega))
      refine zl_ild5 I158_118 ?_
      refine zr_iret I158_120 rfl ?_
      have eD : zDg x = [48 + x / 10 % 10, 48 + x % 10] := by
        unfold zDg
        rw [if_neg (show ¬ 10000 ≤ x by omega)]
        rw [if_neg (show ¬ 1000 ≤ x by omega)]
        rw [if_neg (show ¬ 100 ≤ x by omega)]
        rw [if_pos (show 10 ≤ x by omega)]
        rfl
      have eN : zDn x = 2 := by
        unfold zDn
        rw [if_neg (show ¬ x < 10 by omega)]
        rw [if_pos (show x < 100 by omega)]
      rw [eD, eN]
      refine ⟨_, congrArg (fun z => some (zI z)) (by omega), rfl, fun r hr => by rw [zup_ne hr, zup_ne hr], fun j hj => by rw [zup_k (by omega), zup_k (by omega)], fun k y hk => ?_, (zBd_up (zBd_up hB (by omega)) (by omega))⟩
      match k, hk with
      | 0, hk => 
        injection hk with hk
        rw [zup_q, if_pos (by omega)]
        omega
      | 1, hk => 
        injection hk with hk
        rw [zup_k (by omega), zup_q, if_pos (by omega)]
        omega
      | k + 2, hk => simp at hk
  · refine zl_ild0 I158_28 ?_
    refine zr_bipush I158_29 ?_
    refine zr_idivN I158_31 (by omega) ?_
    refine zl_ist3 I158_32 ?_
    refine zl_ild3 I158_33 ?_
    refine zr_bipush I158_34 ?_
    refine zr_imul I158_36 (by unfold zInR; omega) ?_
    refine zl_ild0 I158_37 ?_
    refine zr_isub I158_38 (by unfold zInR; omega) ?_
    refine zl_ist4 I158_39 ?_
    refine zl_ild3 I158_41 ?_
    refine zl_ist0 I158_42 ?_
    refine zl_ald2 I158_43 ?_
    refine zl_iinc5 I158_44 (by unfold zInR; omega) ?_
    refine zl_ild5 I158_47 ?_
    refine zr_next I158_49 rfl ?_
    refine zl_ild4 I158_52 ?_
    refine zr_bald I158_54 (Or.inr h5.1) (h5.2.1) (by omega) ?_
    simp only [zup_oth (show (5 : Nat) ≠ bq by omega), h5.2.2]
    refine zr_bast I158_55 (hTb) (hNb) (by omega) (by omega) ?_
    refine zl_ald2 I158_56 ?_
    refine zl_iinc5 I158_57 (by unfold zInR; omega) ?_
    refine zl_ild5 I158_60 ?_
    refine zr_next I158_62 rfl ?_
    refine zl_ild4 I158_65 ?_
    refine zr_bald I158_67 (Or.inr h6.1) (h6.2.1) (by omega) ?_
    simp only [zup_oth (show (6 : Nat) ≠ bq by omega), h6.2.2]
    refine zr_bast I158_68 (hTb) (hNb) (by omega) (by omega) ?_
    refine zr_goto (t := 22) I158_69 rfl ?_
    refine zl_ild0 I158_22 ?_
    refine zr_bipush I158_23 ?_
    refine zr_ic_gt (t := 72) I158_25 rfl (fun h25 => ?_) (fun h25 => ?_)
    · refine zl_ald2 I158_72 ?_
      refine zl_iinc5 I158_73 (by unfold zInR; omega) ?_
      refine zl_ild5 I158_76 ?_
      refine zr_next I158_78 rfl ?_
      refine zl_ild0 I158_81 ?_
      refine zr_ineg I158_82 (by unfold zInR; omega) ?_
      refine zr_bald I158_83 (Or.inr h5.1) (h5.2.1) (by omega) ?_
      simp only [zup_oth (show (5 : Nat) ≠ bq by omega), h5.2.2]
      refine zr_bast I158_84 (hTb) (hNb) (by omega) (by omega) ?_
      refine zl_ild0 I158_85 ?_
      refine zr_bipush I158_86 ?_
      refine zr_ic_ge (t := 104) I158_88 rfl (fun h88 => ?_) (fun h88 => ?_)
      · refine zl_ild6 I158_104 ?_
        refine zr_if_eq (t := 118) I158_106 rfl (fun h106 => ?_) (fun h106 => absurd h106 (by omega))
        refine zl_ild5 I158_118 ?_
        refine zr_iret I158_120 rfl ?_
        have eD : zDg x = [48 + x / 100 % 10, 48 + x / 10 % 10, 48 + x % 10] := by
          unfold zDg
          rw [if_neg (show ¬ 10000 ≤ x by omega)]
          rw [if_neg (show ¬ 1000 ≤ x by omega)]
          rw [if_pos (show 100 ≤ x by omega)]
          rw [if_pos (show 10 ≤ x by omega)]
          rfl
        have eN : zDn x = 3 := by
          unfold zDn
          rw [if_neg (show ¬ x < 10 by omega)]
          rw [if_neg (show ¬ x < 100 by omega)]
          rw [if_pos (show x < 1000 by omega)]
        rw [eD, eN]
        refine ⟨_, congrArg (fun z => some (zI z)) (by omega), rfl, fun r hr => by rw [zup_ne hr, zup_ne hr, zup_ne hr], fun j hj => by rw [zup_k (by omega), zup_k (by omega), zup_k (by omega)], fun k y hk => ?_, (zBd_up (zBd_up (zBd_up hB (by omega)) (by omega)) (by omega))⟩
        match k, hk with
        | 0, hk => 
          injection hk with hk
          rw [zup_q, if_pos (by omega)]
          omega
        | 1, hk => 
          injection hk with hk
          rw [zup_k (by omega), zup_q, if_pos (by omega)]
          omega
        | 2, hk => 
          injection hk with hk
          rw [zup_k (by omega), zup_k (by omega), zup_q, if_pos (by omega)]
          omega
        | k + 3, hk => simp at hk
      · refine zl_ald2 I158_91 ?_
        refine zl_iinc5 I158_92 (by unfold zInR; omega) ?_
        refine zl_ild5 I158_95 ?_
        refine zr_next I158_97 rfl ?_
        refine zl_ild0 I158_100 ?_
        refine zr_ineg I158_101 (by unfold zInR; omega) ?_
        refine zr_bald I158_102 (Or.inr h6.1) (h6.2.1) (by omega) ?_
        simp only [zup_oth (show (6 : Nat) ≠ bq by omega), h6.2.2]
        refine zr_bast I158_103 (hTb) (hNb) (by omega) (by omega) ?_
        refine zl_ild6 I158_104 ?_
        refine zr_if_eq (t := 118) I158_106 rfl (fun h106 => ?_) (fun h106 => absurd h106 (by omega))
        refine zl_ild5 I158_118 ?_
        refine zr_iret I158_120 rfl ?_
        have eD : zDg x = [48 + x / 1000 % 10, 48 + x / 100 % 10, 48 + x / 10 % 10, 48 + x % 10] := by
          unfold zDg
          rw [if_neg (show ¬ 10000 ≤ x by omega)]
          rw [if_pos (show 1000 ≤ x by omega)]
          rw [if_pos (show 100 ≤ x by omega)]
          rw [if_pos (show 10 ≤ x by omega)]
          rfl
        have eN : zDn x = 4 := by
          unfold zDn
          rw [if_neg (show ¬ x < 10 by omega)]
          rw [if_neg (show ¬ x < 100 by omega)]
          rw [if_neg (show ¬ x < 1000 by omega)]
          rw [if_pos (show x < 10000 by omega)]
        rw [eD, eN]
        refine ⟨_, congrArg (fun z => some (zI z)) (by omega), rfl, fun r hr => by rw [zup_ne hr, zup_ne hr, zup_ne hr, zup_ne hr], fun j hj => by rw [zup_k (by omega), zup_k (by omega), zup_k (by omega), zup_k (by omega)], fun k y hk => ?_, (zBd_up (zBd_up (zBd_up (zBd_up hB (by omega)) (by omega)) (by omega)) (by omega))⟩
        match k, hk with
        | 0, hk => 
          injection hk with hk
          rw [zup_q, if_pos (by omega)]
          omega
        | 1, hk => 
          injection hk with hk
          rw [zup_k (by omega), zup_q, if_pos (by omega)]
          omega
        | 2, hk => 
          injection hk with hk
          rw [zup_k (by omega), zup_k (by omega), zup_q, if_pos (by omega)]
          omega
        | 3, hk => 
          injection hk with hk
          rw [zup_k (by omega), zup_k (by omega), zup_k (by omega), zup_q, if_pos (by omega)]
          omega
        | k + 4, hk => simp at hk
    · refine zl_ild0 I158_28 ?_
      refine zr_bipush I158_29 ?_
      refine zr_idivN I158_31 (by omega) ?_
      refine zl_ist3 I158_32 ?_
      refine zl_ild3 I158_33 ?_
      refine zr_bipush I158_34 ?_
      refine zr_imul I158_36 (by unfold zInR; omega) ?_
      refine zl_ild0 I158_37 ?_
      refine zr_isub I158_38 (by unfold zInR; omega) ?_
      refine zl_ist4 I158_39 ?_
      refine zl_ild3 I158_41 ?_
      refine zl_ist0 I158_42 ?_
      refine zl_ald2 I158_43 ?_
      refine zl_iinc5 I158_44 (by unfold zInR; omega) ?_
      refine zl_ild5 I158_47 ?_
      refine zr_next I158_49 rfl ?_
      refine zl_ild4 I158_52 ?_
      refine zr_bald I158_54 (Or.inr h5.1) (h5.2.1) (by omega) ?_
      simp only [zup_oth (show (5 : Nat) ≠ bq by omega), h5.2.2]
      refine zr_bast I158_55 (hTb) (hNb) (by omega) (by omega) ?_
      refine zl_ald2 I158_56 ?_
      refine zl_iinc5 I158_57 (by unfold zInR; omega) ?_
      refine zl_ild5 I158_60 ?_
      refine zr_next I158_62 rfl ?_
      refine zl_ild4 I158_65 ?_
      refine zr_bald I158_67 (Or.inr h6.1) (h6.2.1) (by omega) ?_
      simp only [zup_oth (show (6 : Nat) ≠ bq by omega), h6.2.2]
      refine zr_bast I158_68 (hTb) (hNb) (by omega) (by omega) ?_
      refine zr_goto (t := 22) I158_69 rfl ?_
      refine zl_ild0 I158_22 ?_
      refine zr_bipush I158_23 ?_
      refine zr_ic_gt (t := 72) I158_25 rfl (fun h25 => ?_) (fun h25 => absurd h25 (by omega))
      refine zl_ald2 I158_72 ?_
      refine zl_iinc5 I158_73 (by unfold zInR; omega) ?_
      refine zl_ild5 I158_76 ?_
      refine zr_next I158_78 rfl ?_
      refine zl_ild0 I158_81 ?_
      refine zr_ineg I158_82 (by unfold zInR; omega) ?_
      refine zr_bald I158_83 (Or.inr h5.1) (h5.2.1) (by omega) ?_
      simp only [zup_oth (show (5 : Nat) ≠ bq by omega), h5.2.2]
      refine zr_bast I158_84 (hTb) (hNb) (by omega) (by omega) ?_
      refine zl_ild0 I158_85 ?_
      refine zr_bipush I158_86 ?_
      refine zr_ic_ge (t := 104) I158_88 rfl (fun h88 => ?_) (fun h88 => absurd h88 (by omega))
      refine zl_ild6 I158_104 ?_
      refine zr_if_eq (t := 118) I158_106 rfl (fun h106 => ?_) (fun h106 => absurd h106 (by omega))
      refine zl_ild5 I158_118 ?_
      refine zr_iret I158_120 rfl ?_
      have eD : zDg x = [48 + x / 10000, 48 + x / 1000 % 10, 48 + x / 100 % 10, 48 + x / 10 % 10, 48 + x % 10] := by
        unfold zDg
        rw [if_pos (show 10000 ≤ x by omega)]
        rw [if_pos (show 1000 ≤ x by omega)]
        rw [if_pos (show 100 ≤ x by omega)]
        rw [if_pos (show 10 ≤ x by omega)]
        rfl
      have eN : zDn x = 5 := by
        unfold zDn
        rw [if_neg (show ¬ x < 10 by omega)]
        rw [if_neg (show ¬ x < 100 by omega)]
        rw [if_neg (show ¬ x < 1000 by omega)]
        rw [if_neg (show ¬ x < 10000 by omega)]
      rw [eD, eN]
      refine ⟨_, congrArg (fun z => some (zI z)) (by omega), rfl, fun r hr => by rw [zup_ne hr, zup_ne hr, zup_ne hr, zup_ne hr, zup_ne hr], fun j hj => by rw [zup_k (by omega), zup_k (by omega), zup_k (by omega), zup_k (by omega), zup_k (by omega)], fun k y hk => ?_, (zBd_up (zBd_up (zBd_up (zBd_up (zBd_up hB (by omega)) (by omega)) (by omega)) (by omega)) (by omega))⟩
      match k, hk with
      | 0, hk => 
        injection hk with hk
        rw [zup_q, if_pos (by omega)]
        omega
      | 1, hk => 
        injection hk with hk
        rw [zup_k (by omega), zup_q, if_pos (by omega)]
        omega
      | 2, hk => 
        injection hk with hk
        rw [zup_k (by omega), zup_k (by omega), zup_q, if_pos (by omega)]
        omega
      | 3, hk => 
        injection hk with hk
        rw [zup_k (by omega), zup_k (by omega), zup_k (by omega), zup_q, if_pos (by omega)]
        omega
      | 4, hk => 
        injection hk with hk
        rw [zup_k (by omega), zup_k (by omega), zup_k (by omega), zup_k (by omega), zup_q, if_pos (by omega)]
        omega
      | k + 5, hk => simp at hk
