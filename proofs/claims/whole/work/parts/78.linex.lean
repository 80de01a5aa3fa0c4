/-! the text: strings, characters, its length; the class: line -/
theorem zLow_q {S : zSh} {c : zC} (h : zLow S c) {q v : Nat} {b : Int} (hq : (q = 1 ∧ v = 2 ∧ b = 43) ∨ (q = 3 ∧ v = 4 ∧ b = 80)) : (S q).1 = 11 ∧ (S q).2.2 0 = some v ∧ (S v).1 = 31 ∧ (S v).2.1 = 2 ∧ c v 0 = 32 ∧ c v 1 = b ∧ v < 8 := by
  obtain ⟨h1, h2, h3, h4, -⟩ := h
  rcases hq with ⟨rfl, rfl, rfl⟩ | ⟨rfl, rfl, rfl⟩
  · exact ⟨h1.1, h1.2, h2.1, h2.2.1, h2.2.2.1, h2.2.2.2, by decide⟩
  · exact ⟨h3.1, h3.2, h4.1, h4.2.1, h4.2.2.1, h4.2.2.2, by decide⟩
theorem zDg_1 {x : Int} (hx : 0 ≤ x ∧ x < 10) : zDg x = [48 + x] := by
  unfold zDg
  rw [if_neg (by omega), if_neg (by omega), if_neg (by omega), if_neg (by omega), show x % 10 = x by omega]
  rfl
theorem zDg_in {y x : Int} (hy : 0 ≤ y ∧ y ≤ 99999) (h : x ∈ zDg y) : 0 ≤ x ∧ x < 128 := by
  unfold zDg at h
  simp only [List.mem_append, List.mem_singleton] at h
  rcases h with (((h | h) | h) | h) | h
  · split at h
    · rw [List.mem_singleton] at h; omega
    · cases h
  · split at h
    · rw [List.mem_singleton] at h; omega
    · cases h
  · split at h
    · rw [List.mem_singleton] at h; omega
    · cases h
  · split at h
    · rw [List.mem_singleton] at h; omega
    · cases h
  · omega
theorem zLn_in {s l p f x : Int} (hs : 0 ≤ s ∧ s ≤ 10080) (hl : 0 ≤ l ∧ l ≤ 99999) (hp : 0 ≤ p ∧ p ≤ 99999) (h : x ∈ zLn s l p f) : 0 ≤ x ∧ x < 128 := by
  unfold zLn at h
  simp only [List.mem_append, List.mem_singleton] at h
  rcases h with (((((((((((((h | h) | h) | h) | h) | h) | h) | h) | h) | h) | h) | h) | h) | h)
  any_goals omega
  · exact zDg_in hl h
  · exact zDg_in hp h
  · split at h
    · rw [List.mem_singleton] at h; omega
    · cases h
set_option maxRecDepth 10000 in
set_option maxHeartbeats 2000000 in
theorem e_J0_coder {d n sl : Nat} {S : zSh} {c : zC} (hlo : zLow S c) {q v : Nat} {b : Int} (hq : (q = 1 ∧ v = 2 ∧ b = 43) ∨ (q = 3 ∧ v = 4 ∧ b = 80)) : zE (d + 0) 162 0 (zent 162 [zA q]) [] ((n, sl), (S, c)) (zRd (0) ((n, sl), (S, c))) := by
  show zE (d + 0) 162 0 [some (zA q)] [] ((n, sl), (S, c)) _
  have hz := zLow_q hlo hq
  refine zr_next I162_0 rfl ?_
  refine zr_if_eq (t := 13) I162_3 rfl (fun h3 => absurd h3 (by omega)) (fun h3 => ?_)
  refine zl_ald0 I162_6 ?_
  refine zr_gstc I162_7 rfl zF_15_15 (hz.1) ?_
  refine zr_goto (t := 14) I162_10 rfl ?_
  refine zr_bret I162_14 rfl rfl ?_
  exact ⟨rfl, rfl⟩
set_option maxRecDepth 10000 in
set_option maxHeartbeats 2000000 in
theorem e_J0_length {d n sl : Nat} {S : zSh} {c : zC} (hlo : zLow S c) {q v : Nat} {b : Int} (hq : (q = 1 ∧ v = 2 ∧ b = 43) ∨ (q = 3 ∧ v = 4 ∧ b = 80)) : zE (d + 1) 160 0 (zent 160 [zA q]) [] ((n, sl), (S, c)) (zRd (2) ((n, sl), (S, c))) := by
  show zE (d + 1) 160 0 [some (zA q)] [] ((n, sl), (S, c)) _
  have hz := zLow_q hlo hq
  refine zl_ald0 I160_0 ?_
  refine zr_gstr I160_1 rfl zF_15_9 (hz.1) (hz.2.1) ?_
  refine zr_alen I160_4 (Or.inr (Or.inr (Or.inr hz.2.2.1))) (hz.2.2.2.1) ?_
  refine zl_ald0 I160_5 ?_
  refine zr_callV I160_6 C15_335 ⟨rfl, rfl⟩ ⟨rfl, Nat.le_of_ble_eq_true rfl⟩ (Or.inl ⟨rfl, hz.1⟩) (e_J0_coder hlo hq) (fun v6 μ6 hv6 => ?_)
  obtain ⟨rfl, rfl⟩ := hv6
  dsimp only [Option.toList, List.cons_append, List.nil_append]
  refine zr_shr I160_9 ?_
  refine zr_iret I160_10 rfl ?_
  exact ⟨rfl, rfl⟩
set_option maxRecDepth 10000 in
set_option maxHeartbeats 2000000 in
theorem e_J0_getBytes {d n sl : Nat} {S : zSh} {c : zC} (hlo : zLow S c) {bq : Nat} {N ix : Int} (hTb : (S bq).1 = 21) (hNb : (S bq).2.1 = N) {q v : Nat} {b : Int} (hq : (q = 1 ∧ v = 2 ∧ b = 43) ∨ (q = 3 ∧ v = 4 ∧ b = 80)) (hix : 0 ≤ ix ∧ ix + 2 ≤ N) : zE (d + 1) 161 0 (zent 161 [zA q, zA bq, zI ix, zI 0]) [] ((n, sl), (S, c)) (fun r μ' => r = none ∧ μ' = ((n, sl), (S, zcpy c v 0 bq ix 2))) := by
  show zE (d + 1) 161 0 [some (zA q), some (zA bq), some (zI ix), some (zI 0)] [] ((n, sl), (S, c)) _
  have hz := zLow_q hlo hq
  refine zl_ald0 I161_0 ?_
  refine zr_callV I161_1 C15_335 ⟨rfl, rfl⟩ ⟨rfl, Nat.le_of_ble_eq_true rfl⟩ (Or.inl ⟨rfl, hz.1⟩) (e_J0_coder hlo hq) (fun v1 μ1 hv1 => ?_)
  obtain ⟨rfl, rfl⟩ := hv1
  dsimp only [Option.toList, List.cons_append, List.nil_append]
  refine zl_ild3 I161_4 ?_
  refine zr_ic_ne (t := 28) I161_5 rfl (fun h5 => absurd h5 (by omega)) (fun h5 => ?_)
  refine zl_ald0 I161_8 ?_
  refine zr_gstr I161_9 rfl zF_15_9 (hz.1) (hz.2.1) ?_
  refine zr_iconst I161_12 ?_
  refine zl_ald1 I161_13 ?_
  refine zl_ild2 I161_14 ?_
  refine zl_ild3 I161_15 ?_
  refine zr_shl I161_16 ?_
  refine zl_ald0 I161_17 ?_
  refine zr_gstr I161_18 rfl zF_15_9 (hz.1) (hz.2.1) ?_
  refine zr_alen I161_21 (Or.inr (Or.inr (Or.inr hz.2.2.1))) (hz.2.2.2.1) ?_
  refine zr_bcopy I161_22 C15_212 (Or.inr hz.2.2.1) (hTb) (hz.2.2.2.1) (hNb) (by omega) (Nat.le_of_ble_eq_true rfl) ?_
  refine zr_goto (t := 43) I161_25 rfl ?_
  refine zr_vret I161_43 rfl ?_
  exact ⟨rfl, rfl⟩
set_option maxRecDepth 10000 in
set_option maxHeartbeats 2000000 in
theorem e_J5_inflate {d n sl : Nat} {S : zSh} {c : zC} {bq : Nat} (hT : (S 143).1 = 0) (hV : (S 143).2.2 0 = some bq) (hco : c 143 1 = 0) (hlo : zLow S c) {q v : Nat} {b : Int} (hq : (q = 1 ∧ v = 2 ∧ b = 43) ∨ (q = 3 ∧ v = 4 ∧ b = 80)) : zE (d + 1) 156 0 (zent 156 [zA 143, zA q]) [] ((n, sl), (S, c)) (fun r μ' => r = none ∧ μ' = ((n, sl), (S, c))) := by
  show zE (d + 1) 156 0 [some (zA 143), some (zA q)] [] ((n, sl), (S, c)) _
  have hz := zLow_q hlo hq
  refine zr_next I156_0 rfl ?_
  refine zr_if_eq (t := 21) I156_3 rfl (fun h3 => absurd h3 (by omega)) (fun h3 => ?_)
  refine zl_ald0 I156_6 ?_
  refine zr_geti (j := 1) I156_7 F12_22 rfl (hT) ?_
  rw [hco]
  refine zl_ald1 I156_10 ?_
  refine zr_callV I156_11 C12_40 ⟨rfl, rfl⟩ ⟨rfl, Nat.le_of_ble_eq_true rfl⟩ (Or.inl ⟨rfl, hz.1⟩) (e_J0_coder hlo hq) (fun v11 μ11 hv11 => ?_)
  obtain ⟨rfl, rfl⟩ := hv11
  dsimp only [Option.toList, List.cons_append, List.nil_append]
  refine zr_ic_eq (t := 21) I156_14 rfl (fun h14 => ?_) (fun h14 => absurd h14 (by omega))
  refine zr_vret I156_21 rfl ?_
  exact ⟨rfl, rfl⟩
set_option maxRecDepth 10000 in
set_option maxHeartbeats 2000000 in
theorem e_J5_putStringAt {d n sl : Nat} {S : zSh} {c : zC} {bq : Nat} (hT : (S 143).1 = 0) (hV : (S 143).2.2 0 = some bq) (hco : c 143 1 = 0) {N ix : Int} (hTb : (S bq).1 = 21) (hNb : (S bq).2.1 = N) (hlo : zLow S c) {q v : Nat} {b : Int} (hq : (q = 1 ∧ v = 2 ∧ b = 43) ∨ (q = 3 ∧ v = 4 ∧ b = 80)) (hix : 0 ≤ ix ∧ ix + 2 ≤ N) : zE (d + 2) 157 0 (zent 157 [zA 143, zI ix, zA q]) [] ((n, sl), (S, c)) (fun r μ' => r = none ∧ μ' = ((n, sl), (S, zcpy c v 0 bq ix 2))) := by
  show zE (d + 2) 157 0 [some (zA 143), some (zI ix), some (zA q)] [] ((n, sl), (S, c)) _
  have hz := zLow_q hlo hq
  refine zl_ald0 I157_0 ?_
  refine zl_ald2 I157_1 ?_
  refine zr_callV I157_2 C12_397 ⟨rfl, rfl⟩ ⟨rfl, Nat.le_of_ble_eq_true rfl⟩ (Or.inr ⟨rfl, hT⟩) (e_J5_inflate hT hV hco hlo hq) (fun v2 μ2 hv2 => ?_)
  obtain ⟨rfl, rfl⟩ := hv2
  dsimp only [Option.toList, List.cons_append, List.nil_append]
  refine zl_ald2 I157_5 ?_
  refine zl_ald0 I157_6 ?_
  refine zr_getr (j := 0) I157_7 F12_15 rfl (hT) (hV) ?_
  refine zl_ild1 I157_10 ?_
  refine zl_ald0 I157_11 ?_
  refine zr_geti (j := 1) I157_12 F12_22 rfl (hT) ?_
  rw [hco]
  refine zr_callV I157_15 C12_399 ⟨rfl, rfl⟩ ⟨rfl, Nat.le_of_ble_eq_true rfl⟩ (Or.inl ⟨rfl, hz.1⟩) (e_J0_getBytes hlo hTb hNb hq (by omega)) (fun v15 μ15 hv15 => ?_)
  obtain ⟨rfl, rfl⟩ := hv15
  dsimp only [Option.toList, List.cons_append, List.nil_append]
  refine zr_vret I157_18 rfl ?_
  exact ⟨rfl, rfl⟩
set_option maxRecDepth 10000 in
set_option maxHeartbeats 2000000 in
theorem e_J5_appendS {d n sl : Nat} {S : zSh} {c : zC} {sl0 bq : Nat} {l : List Int} {N : Int} (hsb : zSB S c n sl sl0 l bq N) (hl5 : l.length + 2 ≤ 34) {q v : Nat} {b : Int} (hq : (q = 1 ∧ v = 2 ∧ b = 43) ∨ (q = 3 ∧ v = 4 ∧ b = 80)) : zE (d + 4) 152 0 (zent 152 [zA 143, zA q]) [] ((n, sl), (S, c)) (fun r μ' => ∃ (n' sl' : Nat) (S' : zSh) (c' : zC) (bq' : Nat) (N' : Int), r = some (zA 143) ∧ μ' = ((n', sl'), (S', c')) ∧ zSB S' c' n' sl' sl0 (l ++ [32, b]) bq' N' ∧ zFt c c') := by
  show zE (d + 4) 152 0 [some (zA 143), some (zA q), none] [] ((n, sl), (S, c)) _
  obtain ⟨⟨hS, hlo, hB⟩, ⟨hT, hV, hco, hcn⟩, hlN, ⟨hTb, hNb, hby⟩, hmd⟩ := id hsb
  have hz := zLow_q hlo hq
  refine zl_ald1 I152_0 ?_
  refine zr_ifnonnull (t := 9) I152_1 rfl ?_
  refine zl_ald1 I152_9 ?_
  refine zr_callV I152_10 C12_32 ⟨rfl, rfl⟩ ⟨rfl, Nat.le_of_ble_eq_true rfl⟩ (Or.inl ⟨rfl, hz.1⟩) (e_J0_length hlo hq) (fun v10 μ10 hv10 => ?_)
  obtain ⟨rfl, rfl⟩ := hv10
  dsimp only [Option.toList, List.cons_append, List.nil_append]
  refine zl_ist2 I152_13 ?_
  refine zl_ald0 I152_14 ?_
  refine zl_ald0 I152_15 ?_
  refine zr_geti (j := 3) I152_16 F12_79 rfl (hT) ?_
  rw [hcn]
  refine zl_ild2 I152_19 ?_
  refine zr_iadd I152_20 (by unfold zInR; omega) ?_
  refine zr_callV I152_21 C12_100 ⟨rfl, rfl⟩ ⟨rfl, Nat.le_of_ble_eq_true rfl⟩ (Or.inr ⟨rfl, hT⟩) (e_J5_ensure hsb (by omega)) (fun v21 μ21 hv21 => ?_)
  obtain ⟨n1, sl1, S1, c1, bq1, N1, rfl, rfl, hsb1, hft1, hm1⟩ := hv21
  obtain ⟨⟨hS, hlo, hB⟩, ⟨hT, hV, hco, hcn⟩, hlN, ⟨hTb, hNb, hby⟩, hmd⟩ := id hsb1
  have hz := zLow_q hlo hq
  dsimp only [Option.toList, List.cons_append, List.nil_append]
  refine zl_ald0 I152_24 ?_
  refine zl_ald0 I152_25 ?_
  refine zr_geti (j := 3) I152_26 F12_79 rfl (hT) ?_
  rw [hcn]
  refine zl_ald1 I152_29 ?_
  refine zr_callV I152_30 C12_208 ⟨rfl, rfl⟩ ⟨rfl, Nat.le_of_ble_eq_true rfl⟩ (Or.inr ⟨rfl, hT⟩) (e_J5_putStringAt hT hV hco hTb hNb hlo hq (by omega)) (fun v30 μ30 hv30 => ?_)
  obtain ⟨rfl, rfl⟩ := hv30
  dsimp only [Option.toList, List.cons_append, List.nil_append]
  refine zl_ald0 I152_33 ?_
  refine zr_dup I152_34 ?_
  refine zr_geti (j := 3) I152_35 F12_79 rfl (hT) ?_
  rw [zcpy_ne (by omega), hcn]
  refine zl_ild2 I152_38 ?_
  refine zr_iadd I152_39 (by unfold zInR; omega) ?_
  refine zr_puti (j := 3) I152_40 F12_79 rfl (hT) ⟨rfl, fun _ h9 => by omega⟩ ?_
  refine zl_ald0 I152_43 ?_
  refine zr_aret I152_44 rfl ?_
  have hv8 := hz.2.2.2.2.2.2
  refine ⟨_, _, _, _, bq1, N1, rfl, rfl, ⟨⟨hS, zLow_c hlo (fun r hr => rfl) (fun r hr => ?_), zBd_up (?_) (by omega)⟩, ⟨hT, hV, ?_, ?_⟩, ?_, ⟨hTb, hNb, fun k y hk => ?_⟩, hmd⟩, fun r h1 h2 h3 => ?_⟩
  · rw [zup_ne (by omega), zcpy_ne (by omega)]
  · intro r k hr
    unfold zcpy
    split
    · rename_i h9
      rcases (show 0 + (k - (l.length : Int)) = 0 ∨ 0 + (k - (l.length : Int)) = 1 by omega) with e9 | e9
      · rw [e9, hz.2.2.2.2.1]
        decide
      · rw [e9, hz.2.2.2.2.2.1]
        omega
    · exact hB r k hr
  · rw [zup_k (by decide), zcpy_ne (by omega)]
    exact hco
  · rw [zup_same, List.length_append]
    rfl
  · rw [List.length_append]
    show ((l.length + 2 : Nat) : Int) ≤ N1
    omega
  · rw [zup_oth (by omega)]
    unfold zcpy
    by_cases e : k < l.length
    · rw [List.getElem?_append_left e] at hk
      rw [if_neg (by omega)]
      exact hby k y hk
    · rw [List.getElem?_append_right (by omega)] at hk
      have hlt := (List.getElem?_eq_some_iff.mp hk).1
      simp only [List.length_cons, List.length_nil] at hlt
      rw [if_pos ⟨rfl, by omega, by omega⟩]
      rcases (show k - l.length = 0 ∨ k - l.length = 1 by omega) with e9 | e9
      · rw [e9] at hk
        injection hk with hk
        rw [show 0 + ((k : Int) - l.length) = 0 by omega, hz.2.2.2.2.1]
        exact hk
      · rw [e9] at hk
        injection hk with hk
        rw [show 0 + ((k : Int) - l.length) = 1 by omega, hz.2.2.2.2.2.1]
        exact hk
  · rw [zup_ne h1, zcpy_ne (by omega)]
    exact hft1 r h1 h2 h3
set_option maxRecDepth 10000 in
set_option maxHeartbeats 2000000 in
theorem e_J4_appendS {d n sl : Nat} {S : zSh} {c : zC} {sl0 bq : Nat} {l : List Int} {N : Int} (hsb : zSB S c n sl sl0 l bq N) (hl5 : l.length + 2 ≤ 34) {q v : Nat} {b : Int} (hq : (q = 1 ∧ v = 2 ∧ b = 43) ∨ (q = 3 ∧ v = 4 ∧ b = 80)) : zE (d + 5) 140 0 (zent 140 [zA 143, zA q]) [] ((n, sl), (S, c)) (fun r μ' => ∃ (n' sl' : Nat) (S' : zSh) (c' : zC) (bq' : Nat) (N' : Int), r = some (zA 143) ∧ μ' = ((n', sl'), (S', c')) ∧ zSB S' c' n' sl' sl0 (l ++ [32, b]) bq' N' ∧ zFt c c') := by
  show zE (d + 5) 140 0 [some (zA 143), some (zA q)] [] ((n, sl), (S, c)) _
  obtain ⟨⟨hS, hlo, hB⟩, ⟨hT, hV, hco, hcn⟩, hlN, ⟨hTb, hNb, hby⟩, hmd⟩ := id hsb
  refine zl_ald0 I140_0 ?_
  refine zl_ald1 I140_1 ?_
  refine zr_callI I140_2 C11_29 ⟨rfl, rfl⟩ ⟨rfl, Nat.le_of_ble_eq_true rfl⟩ (Or.inr (Or.inr ⟨rfl, hT⟩)) (e_J5_appendS hsb hl5 hq) (fun v2 μ2 hv2 => ?_)
  obtain ⟨n1, sl1, S1, c1, bq1, N1, rfl, rfl, hsb1, hft1⟩ := hv2
  dsimp only [Option.toList, List.cons_append, List.nil_append]
  refine zr_pop I140_5 ?_
  refine zl_ald0 I140_6 ?_
  refine zr_aret I140_7 rfl ?_
  exact ⟨_, _, _, _, bq1, N1, rfl, rfl, hsb1, hft1⟩
set_option maxRecDepth 10000 in
set_option maxHeartbeats 2000000 in
theorem e_J4_appendC {d n sl : Nat} {S : zSh} {c : zC} {sl0 bq : Nat} {l : List Int} {N : Int} (hsb : zSB S c n sl sl0 l bq N) (hl5 : l.length + 1 ≤ 34) {x : Int} (hx : 0 ≤ x ∧ x < 128) : zE (d + 5) 141 0 (zent 141 [zA 143, zI x]) [] ((n, sl), (S, c)) (fun r μ' => ∃ (n' sl' : Nat) (S' : zSh) (c' : zC) (bq' : Nat) (N' : Int), r = some (zA 143) ∧ μ' = ((n', sl'), (S', c')) ∧ zSB S' c' n' sl' sl0 (l ++ [x]) bq' N' ∧ zFt c c') := by
  show zE (d + 5) 141 0 [some (zA 143), some (zI x)] [] ((n, sl), (S, c)) _
  obtain ⟨⟨hS, hlo, hB⟩, ⟨hT, hV, hco, hcn⟩, hlN, ⟨hTb, hNb, hby⟩, hmd⟩ := id hsb
  refine zl_ald0 I141_0 ?_
  refine zl_ild1 I141_1 ?_
  refine zr_callI I141_2 C11_50 ⟨rfl, rfl⟩ ⟨rfl, Nat.le_of_ble_eq_true rfl⟩ (Or.inr (Or.inr ⟨rfl, hT⟩)) (e_J5_appendC hsb hl5 hx) (fun v2 μ2 hv2 => ?_)
  obtain ⟨n1, sl1, S1, c1, bq1, N1, rfl, rfl, hsb1, hft1⟩ := hv2
  dsimp only [Option.toList, List.cons_append, List.nil_append]
  refine zr_pop I141_5 ?_
  refine zl_ald0 I141_6 ?_
  refine zr_aret I141_7 rfl ?_
  exact ⟨_, _, _, _, bq1, N1, rfl, rfl, hsb1, hft1⟩
set_option maxRecDepth 10000 in
set_option maxHeartbeats 2000000 in
theorem e_J4_appendI {d n sl : Nat} {S : zSh} {c : zC} {sl0 bq : Nat} {l : List Int} {N : Int} (hsb : zSB S c n sl sl0 l bq N) (hl5 : l.length + 5 ≤ 34) {x : Int} (hx : 0 ≤ x ∧ x ≤ 99999) : zE (d + 5) 142 0 (zent 142 [zA 143, zI x]) [] ((n, sl), (S, c)) (fun r μ' => ∃ (n' sl' : Nat) (S' : zSh) (c' : zC) (bq' : Nat) (N' : Int), r = some (zA 143) ∧ μ' = ((n', sl'), (S', c')) ∧ zSB S' c' n' sl' sl0 (l ++ zDg x) bq' N' ∧ zFt c c') := by
  show zE (d + 5) 142 0 [some (zA 143), some (zI x)] [] ((n, sl), (S, c)) _
  obtain ⟨⟨hS, hlo, hB⟩, ⟨hT, hV, hco, hcn⟩, hlN, ⟨hTb, hNb, hby⟩, hmd⟩ := id hsb
  refine zl_ald0 I142_0 ?_
  refine zl_ild1 I142_1 ?_
  refine zr_callI I142_2 C11_53 ⟨rfl, rfl⟩ ⟨rfl, Nat.le_of_ble_eq_true rfl⟩ (Or.inr (Or.inr ⟨rfl, hT⟩)) (e_J5_appendI hsb hl5 hx) (fun v2 μ2 hv2 => ?_)
  obtain ⟨n1, sl1, S1, c1, bq1, N1, rfl, rfl, hsb1, hft1⟩ := hv2
  dsimp only [Option.toList, List.cons_append, List.nil_append]
  refine zr_pop I142_5 ?_
  refine zl_ald0 I142_6 ?_
  refine zr_aret I142_7 rfl ?_
  exact ⟨_, _, _, _, bq1, N1, rfl, rfl, hsb1, hft1⟩
theorem e_J4_appendD {d n sl : Nat} {S : zSh} {c : zC} {sl0 bq : Nat} {l : List Int} {N : Int} (hsb : zSB S c n sl sl0 l bq N) (hl5 : l.length + 5 ≤ 34) {x : Int} (hx : 0 ≤ x ∧ x < 10) : zE (d + 5) 142 0 (zent 142 [zA 143, zI x]) [] ((n, sl), (S, c)) (fun r μ' => ∃ (n' sl' : Nat) (S' : zSh) (c' : zC) (bq' : Nat) (N' : Int), r = some (zA 143) ∧ μ' = ((n', sl'), (S', c')) ∧ zSB S' c' n' sl' sl0 (l ++ [48 + x]) bq' N' ∧ zFt c c') := by
  have h9 := e_J4_appendI (d := d) hsb hl5 (x := x) (by omega)
  rw [zDg_1 hx] at h9
  exact h9
set_option maxRecDepth 10000 in
set_option maxHeartbeats 2000000 in
theorem e_J3_checkIndex {d n sl : Nat} {S : zSh} {c : zC} {x m : Int} (hx : 0 ≤ x ∧ x < m) : zE (d + 0) 167 0 (zent 167 [zI x, zI m, Sum.inr (Sum.inr none)]) [] ((n, sl), (S, c)) (zRd (x) ((n, sl), (S, c))) := by
  show zE (d + 0) 167 0 [some (zI x), some (zI m), some (Sum.inr (Sum.inr none))] [] ((n, sl), (S, c)) _
  refine zl_ild0 I167_0 ?_
  refine zr_if_lt (t := 9) I167_1 rfl (fun h1 => absurd h1 (by omega)) (fun h1 => ?_)
  refine zl_ild0 I167_4 ?_
  refine zl_ild1 I167_5 ?_
  refine zr_ic_lt (t := 16) I167_6 rfl (fun h6 => ?_) (fun h6 => absurd h6 (by omega))
  refine zl_ild0 I167_16 ?_
  refine zr_iret I167_17 rfl ?_
  exact ⟨rfl, rfl⟩
set_option maxRecDepth 10000 in
set_option maxHeartbeats 2000000 in
theorem e_J0_checkIndex {d n sl : Nat} {S : zSh} {c : zC} {x m : Int} (hx : 0 ≤ x ∧ x < m) : zE (d + 1) 163 0 (zent 163 [zI x, zI m]) [] ((n, sl), (S, c)) (fun r μ' => r = none ∧ μ' = ((n, sl), (S, c))) := by
  show zE (d + 1) 163 0 [some (zI x), some (zI m)] [] ((n, sl), (S, c)) _
  refine zl_ild0 I163_0 ?_
  refine zl_ild1 I163_1 ?_
  refine zr_next I163_2 rfl ?_
  refine zr_callS I163_5 C15_1059 ⟨rfl, rfl⟩ ⟨by simp, rfl, Nat.le_of_ble_eq_true rfl⟩ (e_J3_checkIndex hx) (fun v5 μ5 hv5 => ?_)
  obtain ⟨rfl, rfl⟩ := hv5
  dsimp only [Option.toList, List.cons_append, List.nil_append]
  refine zr_pop I163_8 ?_
  refine zr_vret I163_9 rfl ?_
  exact ⟨rfl, rfl⟩
set_option maxRecDepth 10000 in
set_option maxHeartbeats 2000000 in
theorem e_J5_charAt {d n sl : Nat} {S : zSh} {c : zC} {sl0 bq : Nat} {l : List Int} {N : Int} (hsb : zSB S c n sl sl0 l bq N) {k x : Int} (hk : 0 ≤ k ∧ l[k.toNat]? = some x) (hx : 0 ≤ x ∧ x < 128) : zE (d + 2) 151 0 (zent 151 [zA 143, zI k]) [] ((n, sl), (S, c)) (zRd (x) ((n, sl), (S, c))) := by
  show zE (d + 2) 151 0 [some (zA 143), some (zI k), none, none, none] [] ((n, sl), (S, c)) _
  obtain ⟨⟨hS, hlo, hB⟩, ⟨hT, hV, hco, hcn⟩, hlN, ⟨hTb, hNb, hby⟩, hmd⟩ := id hsb
  have hlt := (List.getElem?_eq_some_iff.mp hk.2).1
  have hv9 := hby _ x hk.2
  rw [show ((k.toNat : Nat) : Int) = k by omega] at hv9
  refine zl_ald0 I151_0 ?_
  refine zr_geti (j := 1) I151_1 F12_22 rfl (hT) ?_
  rw [hco]
  refine zl_ist2 I151_4 ?_
  refine zl_ald0 I151_5 ?_
  refine zr_getr (j := 0) I151_6 F12_15 rfl (hT) (hV) ?_
  refine zl_ast3 I151_9 ?_
  refine zl_ald0 I151_10 ?_
  refine zr_geti (j := 3) I151_11 F12_79 rfl (hT) ?_
  rw [hcn]
  refine zl_ald3 I151_14 ?_
  refine zr_alen I151_15 (Or.inr (Or.inl hTb)) (hNb) ?_
  refine zl_ild2 I151_16 ?_
  refine zr_shr I151_17 ?_
  refine zr_min I151_18 C12_138 (Nat.le_of_ble_eq_true rfl) ?_
  rw [if_neg (show ¬ N < (l.length : Int) by omega)]
  refine zl_ist4 I151_21 ?_
  refine zl_ild1 I151_23 ?_
  refine zl_ild4 I151_24 ?_
  refine zr_callS I151_26 C12_144 ⟨rfl, rfl⟩ ⟨by simp, rfl, Nat.le_of_ble_eq_true rfl⟩ (e_J0_checkIndex (by omega)) (fun v26 μ26 hv26 => ?_)
  obtain ⟨rfl, rfl⟩ := hv26
  dsimp only [Option.toList, List.cons_append, List.nil_append]
  refine zl_ild2 I151_29 ?_
  refine zr_if_ne (t := 42) I151_30 rfl (fun h30 => absurd h30 (by omega)) (fun h30 => ?_)
  refine zl_ald3 I151_33 ?_
  refine zl_ild1 I151_34 ?_
  refine zr_bald I151_35 (Or.inl hTb) (hNb) (by omega) ?_
  rw [hv9]
  refine zr_sipush I151_36 ?_
  refine zr_and255 I151_39 (by omega) ?_
  refine zr_i2c I151_40 (by omega) ?_
  refine zr_cret I151_41 rfl (by omega) ?_
  exact ⟨rfl, rfl⟩
set_option maxRecDepth 10000 in
set_option maxHeartbeats 2000000 in
theorem e_J4_charAt {d n sl : Nat} {S : zSh} {c : zC} {sl0 bq : Nat} {l : List Int} {N : Int} (hsb : zSB S c n sl sl0 l bq N) {k x : Int} (hk : 0 ≤ k ∧ l[k.toNat]? = some x) (hx : 0 ≤ x ∧ x < 128) : zE (d + 3) 143 0 (zent 143 [zA 143, zI k]) [] ((n, sl), (S, c)) (zRd (x) ((n, sl), (S, c))) := by
  show zE (d + 3) 143 0 [some (zA 143), some (zI k)] [] ((n, sl), (S, c)) _
  obtain ⟨⟨hS, hlo, hB⟩, ⟨hT, hV, hco, hcn⟩, hlN, ⟨hTb, hNb, hby⟩, hmd⟩ := id hsb
  refine zl_ald0 I143_0 ?_
  refine zl_ild1 I143_1 ?_
  refine zr_callI I143_2 C11_329 ⟨rfl, rfl⟩ ⟨rfl, Nat.le_of_ble_eq_true rfl⟩ (Or.inr (Or.inr ⟨rfl, hT⟩)) (e_J5_charAt hsb hk hx) (fun v2 μ2 hv2 => ?_)
  obtain ⟨rfl, rfl⟩ := hv2
  dsimp only [Option.toList, List.cons_append, List.nil_append]
  refine zr_cret I143_5 rfl (by omega) ?_
  exact ⟨rfl, rfl⟩
set_option maxRecDepth 10000 in
set_option maxHeartbeats 2000000 in
theorem e_J4_length {d n sl : Nat} {S : zSh} {c : zC} {sl0 bq : Nat} {l : List Int} {N : Int} (hsb : zSB S c n sl sl0 l bq N) : zE (d + 1) 145 0 (zent 145 [zA 143]) [] ((n, sl), (S, c)) (zRd (l.length) ((n, sl), (S, c))) := by
  show zE (d + 1) 145 0 [some (zA 143)] [] ((n, sl), (S, c)) _
  obtain ⟨⟨hS, hlo, hB⟩, ⟨hT, hV, hco, hcn⟩, hlN, ⟨hTb, hNb, hby⟩, hmd⟩ := id hsb
  refine zl_ald0 I145_0 ?_
  refine zr_callI I145_1 C11_343 ⟨rfl, rfl⟩ ⟨rfl, Nat.le_of_ble_eq_true rfl⟩ (Or.inr (Or.inr ⟨rfl, hT⟩)) (e_J5_length hT hV) (fun v1 μ1 hv1 => ?_)
  obtain ⟨rfl, rfl⟩ := hv1
  dsimp only [Option.toList, List.cons_append, List.nil_append]
  rw [hcn]
  refine zr_iret I145_4 rfl ?_
  exact ⟨rfl, rfl⟩
set_option maxRecDepth 10000 in
set_option maxHeartbeats 2000000 in
theorem e_J5_setLength {d n sl : Nat} {S : zSh} {c : zC} {sl0 bq : Nat} {l : List Int} {N : Int} (hsb : zSB S c n sl sl0 l bq N) : zE (d + 4) 150 0 (zent 150 [zA 143, zI 0]) [] ((n, sl), (S, c)) (fun r μ' => ∃ (n' sl' : Nat) (S' : zSh) (c' : zC) (bq' : Nat) (N' : Int), r = none ∧ μ' = ((n', sl'), (S', c')) ∧ zSB S' c' n' sl' sl0 ([]) bq' N' ∧ zFt c c') := by
  show zE (d + 4) 150 0 [some (zA 143), some (zI 0)] [] ((n, sl), (S, c)) _
  obtain ⟨⟨hS, hlo, hB⟩, ⟨hT, hV, hco, hcn⟩, hlN, ⟨hTb, hNb, hby⟩, hmd⟩ := id hsb
  refine zl_ild1 I150_0 ?_
  refine zr_if_ge (t := 13) I150_1 rfl (fun h1 => ?_) (fun h1 => absurd h1 (by omega))
  refine zl_ald0 I150_13 ?_
  refine zl_ild1 I150_14 ?_
  refine zr_callV I150_15 C12_100 ⟨rfl, rfl⟩ ⟨rfl, Nat.le_of_ble_eq_true rfl⟩ (Or.inr ⟨rfl, hT⟩) (e_J5_ensure hsb (by decide)) (fun v15 μ15 hv15 => ?_)
  obtain ⟨n1, sl1, S1, c1, bq1, N1, rfl, rfl, hsb1, hft1, hm1⟩ := hv15
  obtain ⟨⟨hS, hlo, hB⟩, ⟨hT, hV, hco, hcn⟩, hlN, ⟨hTb, hNb, hby⟩, hmd⟩ := id hsb1
  dsimp only [Option.toList, List.cons_append, List.nil_append]
  refine zl_ald0 I150_18 ?_
  refine zr_geti (j := 3) I150_19 F12_79 rfl (hT) ?_
  rw [hcn]
  refine zl_ild1 I150_22 ?_
  refine zr_ic_ge (t := 63) I150_23 rfl (fun h23 => ?_) (fun h23 => absurd h23 (by omega))
  refine zl_ald0 I150_63 ?_
  refine zr_geti (j := 3) I150_64 F12_79 rfl (hT) ?_
  rw [hcn]
  refine zl_ild1 I150_67 ?_
  refine zr_ic_le (t := 76) I150_68 rfl (fun h68 => ?_) (fun h68 => ?_)
  · refine zl_ald0 I150_76 ?_
    refine zl_ild1 I150_77 ?_
    refine zr_puti (j := 3) I150_78 F12_79 rfl (hT) ⟨rfl, fun _ h9 => by omega⟩ ?_
    refine zr_vret I150_81 rfl ?_
    refine ⟨_, _, _, _, bq1, N1, rfl, rfl, ⟨⟨hS, zLow_c hlo (fun r hr => rfl) (fun r hr => ?_), ?_⟩, ⟨hT, hV, ?_, ?_⟩, ?_, ⟨hTb, hNb, fun k y hk => by cases hk⟩, hmd⟩, fun r h1 h2 h3 => ?_⟩
    · rw [zup_ne (by omega)]
    · exact zBd_up hB (by decide)
    · rw [zup_k (by decide)]
      exact hco
    · rw [zup_same]
      rfl
    · show ((0 : Nat) : Int) ≤ N1
      omega
    · rw [zup_ne h1]
      exact hft1 r h1 h2 h3
  · refine zl_ald0 I150_71 ?_
    refine zr_iconst I150_72 ?_
    refine zr_puti (j := 2) I150_73 F12_73 rfl (hT) ⟨rfl, fun _ _ => Or.inr rfl⟩ ?_
    refine zl_ald0 I150_76 ?_
    refine zl_ild1 I150_77 ?_
    refine zr_puti (j := 3) I150_78 F12_79 rfl (hT) ⟨rfl, fun _ h9 => by omega⟩ ?_
    refine zr_vret I150_81 rfl ?_
    refine ⟨_, _, _, _, bq1, N1, rfl, rfl, ⟨⟨hS, zLow_c hlo (fun r hr => rfl) (fun r hr => ?_), ?_⟩, ⟨hT, hV, ?_, ?_⟩, ?_, ⟨hTb, hNb, fun k y hk => by cases hk⟩, hmd⟩, fun r h1 h2 h3 => ?_⟩
    · rw [zup_ne (by omega), zup_ne (by omega)]
    · exact zBd_up (zBd_up hB (by decide)) (by decide)
    · rw [zup_k (by decide), zup_k (by decide)]
      exact hco
    · rw [zup_same]
      rfl
    · show ((0 : Nat) : Int) ≤ N1
      omega
    · rw [zup_ne h1, zup_ne h1]
      exact hft1 r h1 h2 h3
set_option maxRecDepth 10000 in
set_option maxHeartbeats 2000000 in
theorem e_J4_setLength {d n sl : Nat} {S : zSh} {c : zC} {sl0 bq : Nat} {l : List Int} {N : Int} (hsb : zSB S c n sl sl0 l bq N) : zE (d + 5) 144 0 (zent 144 [zA 143, zI 0]) [] ((n, sl), (S, c)) (fun r μ' => ∃ (n' sl' : Nat) (S' : zSh) (c' : zC) (bq' : Nat) (N' : Int), r = none ∧ μ' = ((n', sl'), (S', c')) ∧ zSB S' c' n' sl' sl0 ([]) bq' N' ∧ zFt c c') := by
  show zE (d + 5) 144 0 [some (zA 143), some (zI 0)] [] ((n, sl), (S, c)) _
  obtain ⟨⟨hS, hlo, hB⟩, ⟨hT, hV, hco, hcn⟩, hlN, ⟨hTb, hNb, hby⟩, hmd⟩ := id hsb
  refine zl_ald0 I144_0 ?_
  refine zl_ild1 I144_1 ?_
  refine zr_callI I144_2 C11_333 ⟨rfl, rfl⟩ ⟨rfl, Nat.le_of_ble_eq_true rfl⟩ (Or.inr (Or.inr ⟨rfl, hT⟩)) (e_J5_setLength hsb) (fun v2 μ2 hv2 => ?_)
  obtain ⟨n1, sl1, S1, c1, bq1, N1, rfl, rfl, hsb1, hft1⟩ := hv2
  dsimp only [Option.toList, List.cons_append, List.nil_append]
  refine zr_vret I144_5 rfl ?_
  exact ⟨_, _, _, _, bq1, N1, rfl, rfl, hsb1, hft1⟩
set_option maxRecDepth 10000 in
set_option maxHeartbeats 2000000 in
theorem e_X8_writeTwoDigits {d n sl : Nat} {S : zSh} {c : zC} {sl0 bq : Nat} {l : List Int} {N : Int} (hsb : zSB S c n sl sl0 l bq N) (hl5 : l.length + 6 ≤ 34) {x : Int} (hx : 0 ≤ x ∧ x ≤ 99) : zE (d + 6) 83 0 (zent 83 [zA 8, zI x]) [] ((n, sl), (S, c)) (fun r μ' => ∃ (n' sl' : Nat) (S' : zSh) (c' : zC) (bq' : Nat) (N' : Int), r = none ∧ μ' = ((n', sl'), (S', c')) ∧ zSB S' c' n' sl' sl0 (l ++ [48 + x / 10] ++ [48 + x % 10]) bq' N' ∧ zFt c c') := by
  show zE (d + 6) 83 0 [some (zA 8), some (zI x)] [] ((n, sl), (S, c)) _
  obtain ⟨⟨hS, hlo, hB⟩, ⟨hT, hV, hco, hcn⟩, hlN, ⟨hTb, hNb, hby⟩, hmd⟩ := id hsb
  have ft : zFt c c := zFt.rf
  refine zl_ald0 I83_0 ?_
  refine zr_getr (j := 4) I83_1 F8_40 rfl (sT8 hS) (sR8_4 hS) ?_
  refine zl_ild1 I83_4 ?_
  refine zr_bipush I83_5 ?_
  refine zr_idiv I83_7 (by omega) ?_
  refine zr_callV I83_8 C8_262 ⟨rfl, rfl⟩ ⟨rfl, Nat.le_of_ble_eq_true rfl⟩ (Or.inl ⟨rfl, hT⟩) (e_J4_appendD hsb (by omega) (by omega)) (fun v8 μ8 hv8 => ?_)
  obtain ⟨n8, sl8, S8, c8, bq8, N8, rfl, rfl, hs8, hf8⟩ := hv8
  obtain ⟨⟨hS, hlo, hB⟩, ⟨hT, hV, hco, hcn⟩, hlN, ⟨hTb, hNb, hby⟩, hmd⟩ := id hs8
  have ft : zFt c c8 := ft.tr hf8
  dsimp only [Option.toList, List.cons_append, List.nil_append]
  refine zl_ild1 I83_11 ?_
  refine zr_bipush I83_12 ?_
  refine zr_irem I83_14 (by omega) ?_
  refine zr_callV I83_15 C8_262 ⟨rfl, rfl⟩ ⟨rfl, Nat.le_of_ble_eq_true rfl⟩ (Or.inl ⟨rfl, hT⟩) (e_J4_appendD hs8 (by simp only [List.length_append, List.length_cons, List.length_nil]; omega) (by omega)) (fun v15 μ15 hv15 => ?_)
  obtain ⟨n15, sl15, S15, c15, bq15, N15, rfl, rfl, hs15, hf15⟩ := hv15
  obtain ⟨⟨hS, hlo, hB⟩, ⟨hT, hV, hco, hcn⟩, hlN, ⟨hTb, hNb, hby⟩, hmd⟩ := id hs15
  have ft : zFt c c15 := ft.tr hf15
  dsimp only [Option.toList, List.cons_append, List.nil_append]
  refine zr_pop I83_18 ?_
  refine zr_vret I83_19 rfl ?_
  exact ⟨_, _, _, _, bq15, N15, rfl, rfl, hs15, ft⟩
set_option maxRecDepth 10000 in
set_option maxHeartbeats 2000000 in
theorem e_X8_writeLine {d n sl : Nat} {S : zSh} {c : zC} {sl0 bq : Nat} {l : List Int} {N : Int} (hsb : zSB S c n sl sl0 l bq N) (hc : 0 ≤ c 24 0 ∧ c 24 0 ≤ 60) (hit : ∀ i, 0 ≤ i → i < c 24 0 → 0 ≤ c 25 i ∧ c 25 i < 16 ∧ 0 ≤ c 26 i ∧ 0 ≤ c 27 i ∧ c 26 i + c 27 i ≤ 10080) {it : Int} (hi : 0 ≤ it ∧ it < c 24 0) : zE (d + 7) 82 0 (zent 82 [zA 8, zI it]) [] ((n, sl), (S, c)) (fun r μ' => ∃ (n' sl' : Nat) (S' : zSh) (c' : zC) (bq' : Nat) (N' : Int), r = none ∧ μ' = ((n', sl'), (S', c')) ∧ zSB S' c' n' sl' sl0 (zLn (c 26 it) (c 27 it) (c 25 it) (c 28 it)) bq' N' ∧ zFt c c') := by
  show zE (d + 7) 82 0 [some (zA 8), some (zI it), none] [] ((n, sl), (S, c)) _
  obtain ⟨⟨hS, hlo, hB⟩, ⟨hT, hV, hco, hcn⟩, hlN, ⟨hTb, hNb, hby⟩, hmd⟩ := id hsb
  have ft : zFt c c := zFt.rf
  have hit0 := hit it hi.1 hi.2
  refine zl_ald0 I82_0 ?_
  refine zr_getr (j := 0) I82_1 F8_12 rfl (sT8 hS) (sR8_0 hS) ?_
  refine zr_getr (j := 3) I82_4 F8_102 rfl (sT9 hS) (sR9_3 hS) ?_
  refine zr_getr (j := 2) I82_7 F8_150 rfl (sT24 hS) (sR24_2 hS) ?_
  refine zl_ild1 I82_10 ?_
  refine zr_iaB hB (by decide) I82_11 (sT26 hS) (sN26 hS) (by omega) (fun b11 => ?_)
  refine zr_sipush I82_12 ?_
  refine zr_irem I82_15 (by omega) ?_
  refine zl_ist2 I82_16 ?_
  refine zl_ald0 I82_17 ?_
  refine zr_getr (j := 4) I82_18 F8_40 rfl (sT8 hS) (sR8_4 hS) ?_
  refine zr_iconst I82_21 ?_
  refine zr_callV I82_22 C8_259 ⟨rfl, rfl⟩ ⟨rfl, Nat.le_of_ble_eq_true rfl⟩ (Or.inl ⟨rfl, hT⟩) (e_J4_setLength hsb ) (fun v22 μ22 hv22 => ?_)
  obtain ⟨n22, sl22, S22, c22, bq22, N22, rfl, rfl, hs22, hf22⟩ := hv22
  obtain ⟨⟨hS, hlo, hB⟩, ⟨hT, hV, hco, hcn⟩, hlN, ⟨hTb, hNb, hby⟩, hmd⟩ := id hs22
  have ft : zFt c c22 := ft.tr hf22
  have e26 : c22 26 = c 26 := ft 26 (by decide) (by decide) (by decide)
  dsimp only [Option.toList, List.cons_append, List.nil_append]
  refine zl_ald0 I82_25 ?_
  refine zr_getr (j := 4) I82_26 F8_40 rfl (sT8 hS) (sR8_4 hS) ?_
  refine zl_ald0 I82_29 ?_
  refine zr_getr (j := 0) I82_30 F8_12 rfl (sT8 hS) (sR8_0 hS) ?_
  refine zr_getr (j := 3) I82_33 F8_102 rfl (sT9 hS) (sR9_3 hS) ?_
  refine zr_getr (j := 2) I82_36 F8_150 rfl (sT24 hS) (sR24_2 hS) ?_
  refine zl_ild1 I82_39 ?_
  refine zr_iaB hB (by decide) I82_40 (sT26 hS) (sN26 hS) (by omega) (fun b40 => ?_)
  rw [e26]
  refine zr_sipush I82_41 ?_
  refine zr_idiv I82_44 (by omega) ?_
  refine zr_callV I82_45 C8_262 ⟨rfl, rfl⟩ ⟨rfl, Nat.le_of_ble_eq_true rfl⟩ (Or.inl ⟨rfl, hT⟩) (e_J4_appendD hs22 (by simp only [List.length_append, List.length_cons, List.length_nil]; (try have hd9 := zDg_len (c 27 it)); (try have hd8 := zDg_len (c 25 it)); omega) (by omega)) (fun v45 μ45 hv45 => ?_)
  obtain ⟨n45, sl45, S45, c45, bq45, N45, rfl, rfl, hs45, hf45⟩ := hv45
  obtain ⟨⟨hS, hlo, hB⟩, ⟨hT, hV, hco, hcn⟩, hlN, ⟨hTb, hNb, hby⟩, hmd⟩ := id hs45
  have ft : zFt c c45 := ft.tr hf45
  dsimp only [Option.toList, List.cons_append, List.nil_append]
  refine zr_bipush I82_48 ?_
  refine zr_callV I82_50 C8_265 ⟨rfl, rfl⟩ ⟨rfl, Nat.le_of_ble_eq_true rfl⟩ (Or.inl ⟨rfl, hT⟩) (e_J4_appendC hs45 (by simp only [List.length_append, List.length_cons, List.length_nil]; (try have hd9 := zDg_len (c 27 it)); (try have hd8 := zDg_len (c 25 it)); omega) (by decide)) (fun v50 μ50 hv50 => ?_)
  obtain ⟨n50, sl50, S50, c50, bq50, N50, rfl, rfl, hs50, hf50⟩ := hv50
  obtain ⟨⟨hS, hlo, hB⟩, ⟨hT, hV, hco, hcn⟩, hlN, ⟨hTb, hNb, hby⟩, hmd⟩ := id hs50
  have ft : zFt c c50 := ft.tr hf50
  dsimp only [Option.toList, List.cons_append, List.nil_append]
  refine zr_pop I82_53 ?_
  refine zl_ald0 I82_54 ?_
  refine zl_ild2 I82_55 ?_
  refine zr_bipush I82_56 ?_
  refine zr_idiv I82_58 (by omega) ?_
  refine zr_callV I82_59 C8_268 ⟨rfl, rfl⟩ ⟨rfl, Nat.le_of_ble_eq_true rfl⟩ (Or.inl ⟨rfl, sT8 hS⟩) (e_X8_writeTwoDigits hs50 (by simp only [List.length_append, List.length_cons, List.length_nil]; (try have hd9 := zDg_len (c 27 it)); (try have hd8 := zDg_len (c 25 it)); omega) (by omega)) (fun v59 μ59 hv59 => ?_)
  obtain ⟨n59, sl59, S59, c59, bq59, N59, rfl, rfl, hs59, hf59⟩ := hv59
  obtain ⟨⟨hS, hlo, hB⟩, ⟨hT, hV, hco, hcn⟩, hlN, ⟨hTb, hNb, hby⟩, hmd⟩ := id hs59
  have ft : zFt c c59 := ft.tr hf59
  dsimp only [Option.toList, List.cons_append, List.nil_append]
  refine zl_ald0 I82_62 ?_
  refine zr_getr (j := 4) I82_63 F8_40 rfl (sT8 hS) (sR8_4 hS) ?_
  refine zr_bipush I82_66 ?_
  refine zr_callV I82_68 C8_265 ⟨rfl, rfl⟩ ⟨rfl, Nat.le_of_ble_eq_true rfl⟩ (Or.inl ⟨rfl, hT⟩) (e_J4_appendC hs59 (by simp only [List.length_append, List.length_cons, List.length_nil]; (try have hd9 := zDg_len (c 27 it)); (try have hd8 := zDg_len (c 25 it)); omega) (by decide)) (fun v68 μ68 hv68 => ?_)
  obtain ⟨n68, sl68, S68, c68, bq68, N68, rfl, rfl, hs68, hf68⟩ := hv68
  obtain ⟨⟨hS, hlo, hB⟩, ⟨hT, hV, hco, hcn⟩, hlN, ⟨hTb, hNb, hby⟩, hmd⟩ := id hs68
  have ft : zFt c c68 := ft.tr hf68
  dsimp only [Option.toList, List.cons_append, List.nil_append]
  refine zr_pop I82_71 ?_
  refine zl_ald0 I82_72 ?_
  refine zl_ild2 I82_73 ?_
  refine zr_bipush I82_74 ?_
  refine zr_irem I82_76 (by omega) ?_
  refine zr_callV I82_77 C8_268 ⟨rfl, rfl⟩ ⟨rfl, Nat.le_of_ble_eq_true rfl⟩ (Or.inl ⟨rfl, sT8 hS⟩) (e_X8_writeTwoDigits hs68 (by simp only [List.length_append, List.length_cons, List.length_nil]; (try have hd9 := zDg_len (c 27 it)); (try have hd8 := zDg_len (c 25 it)); omega) (by omega)) (fun v77 μ77 hv77 => ?_)
  obtain ⟨n77, sl77, S77, c77, bq77, N77, rfl, rfl, hs77, hf77⟩ := hv77
  obtain ⟨⟨hS, hlo, hB⟩, ⟨hT, hV, hco, hcn⟩, hlN, ⟨hTb, hNb, hby⟩, hmd⟩ := id hs77
  have ft : zFt c c77 := ft.tr hf77
  dsimp only [Option.toList, List.cons_append, List.nil_append]
  refine zl_ald0 I82_80 ?_
  refine zr_getr (j := 4) I82_81 F8_40 rfl (sT8 hS) (sR8_4 hS) ?_
  refine zr_next I82_84 rfl ?_
  refine zr_callV I82_87 C8_273 ⟨rfl, rfl⟩ ⟨rfl, Nat.le_of_ble_eq_true rfl⟩ (Or.inl ⟨rfl, hT⟩) (e_J4_appendS hs77 (by simp only [List.length_append, List.length_cons, List.length_nil]; (try have hd9 := zDg_len (c 27 it)); (try have hd8 := zDg_len (c 25 it)); omega) (Or.inl ⟨rfl, rfl, rfl⟩)) (fun v87 μ87 hv87 => ?_)
  obtain ⟨n87, sl87, S87, c87, bq87, N87, rfl, rfl, hs87, hf87⟩ := hv87
  obtain ⟨⟨hS, hlo, hB⟩, ⟨hT, hV, hco, hcn⟩, hlN, ⟨hTb, hNb, hby⟩, hmd⟩ := id hs87
  have ft : zFt c c87 := ft.tr hf87
  have e27 : c87 27 = c 27 := ft 27 (by decide) (by decide) (by decide)
  dsimp only [Option.toList, List.cons_append, List.nil_append]
  refine zl_ald0 I82_90 ?_
  refine zr_getr (j := 0) I82_91 F8_12 rfl (sT8 hS) (sR8_0 hS) ?_
  refine zr_getr (j := 3) I82_94 F8_102 rfl (sT9 hS) (sR9_3 hS) ?_
  refine zr_getr (j := 3) I82_97 F8_140 rfl (sT24 hS) (sR24_3 hS) ?_
  refine zl_ild1 I82_100 ?_
  refine zr_iaB hB (by decide) I82_101 (sT27 hS) (sN27 hS) (by omega) (fun b101 => ?_)
  rw [e27]
  refine zr_callV I82_102 C8_262 ⟨rfl, rfl⟩ ⟨rfl, Nat.le_of_ble_eq_true rfl⟩ (Or.inl ⟨rfl, hT⟩) (e_J4_appendI hs87 (by simp only [List.length_append, List.length_cons, List.length_nil]; (try have hd9 := zDg_len (c 27 it)); (try have hd8 := zDg_len (c 25 it)); omega) (by omega)) (fun v102 μ102 hv102 => ?_)
  obtain ⟨n102, sl102, S102, c102, bq102, N102, rfl, rfl, hs102, hf102⟩ := hv102
  obtain ⟨⟨hS, hlo, hB⟩, ⟨hT, hV, hco, hcn⟩, hlN, ⟨hTb, hNb, hby⟩, hmd⟩ := id hs102
  have ft : zFt c c102 := ft.tr hf102
  dsimp only [Option.toList, List.cons_append, List.nil_append]
  refine zr_pop I82_105 ?_
  refine zl_ald0 I82_106 ?_
  refine zr_getr (j := 4) I82_107 F8_40 rfl (sT8 hS) (sR8_4 hS) ?_
  refine zr_next I82_110 rfl ?_
  refine zr_callV I82_113 C8_273 ⟨rfl, rfl⟩ ⟨rfl, Nat.le_of_ble_eq_true rfl⟩ (Or.inl ⟨rfl, hT⟩) (e_J4_appendS hs102 (by simp only [List.length_append, List.length_cons, List.length_nil]; (try have hd9 := zDg_len (c 27 it)); (try have hd8 := zDg_len (c 25 it)); omega) (Or.inr ⟨rfl, rfl, rfl⟩)) (fun v113 μ113 hv113 => ?_)
  obtain ⟨n113, sl113, S113, c113, bq113, N113, rfl, rfl, hs113, hf113⟩ := hv113
  obtain ⟨⟨hS, hlo, hB⟩, ⟨hT, hV, hco, hcn⟩, hlN, ⟨hTb, hNb, hby⟩, hmd⟩ := id hs113
  have ft : zFt c c113 := ft.tr hf113
  have e25 : c113 25 = c 25 := ft 25 (by decide) (by decide) (by decide)
  dsimp only [Option.toList, List.cons_append, List.nil_append]
  refine zl_ald0 I82_116 ?_
  refine zr_getr (j := 0) I82_117 F8_12 rfl (sT8 hS) (sR8_0 hS) ?_
  refine zr_getr (j := 3) I82_120 F8_102 rfl (sT9 hS) (sR9_3 hS) ?_
  refine zr_getr (j := 1) I82_123 F8_147 rfl (sT24 hS) (sR24_1 hS) ?_
  refine zl_ild1 I82_126 ?_
  refine zr_iaB hB (by decide) I82_127 (sT25 hS) (sN25 hS) (by omega) (fun b127 => ?_)
  rw [e25]
  refine zr_callV I82_128 C8_262 ⟨rfl, rfl⟩ ⟨rfl, Nat.le_of_ble_eq_true rfl⟩ (Or.inl ⟨rfl, hT⟩) (e_J4_appendI hs113 (by simp only [List.length_append, List.length_cons, List.length_nil]; (try have hd9 := zDg_len (c 27 it)); (try have hd8 := zDg_len (c 25 it)); omega) (by omega)) (fun v128 μ128 hv128 => ?_)
  obtain ⟨n128, sl128, S128, c128, bq128, N128, rfl, rfl, hs128, hf128⟩ := hv128
  obtain ⟨⟨hS, hlo, hB⟩, ⟨hT, hV, hco, hcn⟩, hlN, ⟨hTb, hNb, hby⟩, hmd⟩ := id hs128
  have ft : zFt c c128 := ft.tr hf128
  have e28 : c128 28 = c 28 := ft 28 (by decide) (by decide) (by decide)
  dsimp only [Option.toList, List.cons_append, List.nil_append]
  refine zr_pop I82_131 ?_
  refine zl_ald0 I82_132 ?_
  refine zr_getr (j := 0) I82_133 F8_12 rfl (sT8 hS) (sR8_0 hS) ?_
  refine zr_getr (j := 3) I82_136 F8_102 rfl (sT9 hS) (sR9_3 hS) ?_
  refine zr_getr (j := 4) I82_139 F8_153 rfl (sT24 hS) (sR24_4 hS) ?_
  refine zl_ild1 I82_142 ?_
  refine zr_iaB hB (by decide) I82_143 (sT28 hS) (sN28 hS) (by omega) (fun b143 => ?_)
  rw [e28]
  refine zr_iconst I82_144 ?_
  refine zr_ic_ne (t := 158) I82_145 rfl (fun h145 => ?_) (fun h145 => ?_)
  · refine zr_vret I82_158 rfl ?_
    have e9 : zLn (c 26 it) (c 27 it) (c 25 it) (c 28 it) = [] ++ [48 + c 26 it / 1440] ++ [32] ++ [48 + c 26 it % 1440 / 60 / 10] ++ [48 + c 26 it % 1440 / 60 % 10] ++ [58] ++ [48 + c 26 it % 1440 % 60 / 10] ++ [48 + c 26 it % 1440 % 60 % 10] ++ [32, 43] ++ zDg (c 27 it) ++ [32, 80] ++ zDg (c 25 it) := by
      unfold zLn
      rw [if_neg h145, show c 26 it % 1440 % 60 = c 26 it % 60 by omega]
      simp only [List.append_assoc, List.cons_append, List.nil_append, List.append_nil]
    rw [e9]
    exact ⟨_, _, _, _, bq128, N128, rfl, rfl, hs128, ft⟩
  · refine zl_ald0 I82_148 ?_
    refine zr_getr (j := 4) I82_149 F8_40 rfl (sT8 hS) (sR8_4 hS) ?_
    refine zr_bipush I82_152 ?_
    refine zr_callV I82_154 C8_265 ⟨rfl, rfl⟩ ⟨rfl, Nat.le_of_ble_eq_true rfl⟩ (Or.inl ⟨rfl, hT⟩) (e_J4_appendC hs128 (by simp only [List.length_append, List.length_cons, List.length_nil]; (try have hd9 := zDg_len (c 27 it)); (try have hd8 := zDg_len (c 25 it)); omega) (by decide)) (fun v154 μ154 hv154 => ?_)
    obtain ⟨n154, sl154, S154, c154, bq154, N154, rfl, rfl, hs154, hf154⟩ := hv154
    obtain ⟨⟨hS, hlo, hB⟩, ⟨hT, hV, hco, hcn⟩, hlN, ⟨hTb, hNb, hby⟩, hmd⟩ := id hs154
    have ft : zFt c c154 := ft.tr hf154
    dsimp only [Option.toList, List.cons_append, List.nil_append]
    refine zr_pop I82_157 ?_
    refine zr_vret I82_158 rfl ?_
    have e9 : zLn (c 26 it) (c 27 it) (c 25 it) (c 28 it) = [] ++ [48 + c 26 it / 1440] ++ [32] ++ [48 + c 26 it % 1440 / 60 / 10] ++ [48 + c 26 it % 1440 / 60 % 10] ++ [58] ++ [48 + c 26 it % 1440 % 60 / 10] ++ [48 + c 26 it % 1440 % 60 % 10] ++ [32, 43] ++ zDg (c 27 it) ++ [32, 80] ++ zDg (c 25 it) ++ [33] := by
      unfold zLn
      rw [if_pos h145, show c 26 it % 1440 % 60 = c 26 it % 60 by omega]
      simp only [List.append_assoc, List.cons_append, List.nil_append]
    rw [e9]
    exact ⟨_, _, _, _, bq154, N154, rfl, rfl, hs154, ft⟩
set_option maxRecDepth 10000 in
set_option maxHeartbeats 2000000 in
theorem e_X8_line {d n sl : Nat} {S : zSh} {c : zC} {sl0 bq : Nat} {l : List Int} {N : Int} (hsb : zSB S c n sl sl0 l bq N) (hc : 0 ≤ c 24 0 ∧ c 24 0 ≤ 60) (hit : ∀ i, 0 ≤ i → i < c 24 0 → 0 ≤ c 25 i ∧ c 25 i < 16 ∧ 0 ≤ c 26 i ∧ 0 ≤ c 27 i ∧ c 26 i + c 27 i ≤ 10080) {it k : Int} : zE (d + 8) 59 0 (zent 59 [zA 8, zI it, zI k]) [] ((n, sl), (S, c)) (fun r μ' => ∃ (x : Int) (n' sl' : Nat) (S' : zSh) (c' : zC) (bq' : Nat) (N' : Int) (l' : List Int), r = some (zI x) ∧ μ' = ((n', sl'), (S', c')) ∧ zSB S' c' n' sl' sl0 l' bq' N' ∧ zFt c c' ∧ ((¬ ((0 ≤ it ∧ it < c 24 0) ∧ 0 ≤ k) ∧ x = -1) ∨ (((0 ≤ it ∧ it < c 24 0) ∧ 0 ≤ k) ∧ zLnR (zLn (c 26 it) (c 27 it) (c 25 it) (c 28 it)) k x))) := by
  show zE (d + 8) 59 0 [some (zA 8), some (zI it), some (zI k)] [] ((n, sl), (S, c)) _
  obtain ⟨⟨hS, hlo, hB⟩, ⟨hT, hV, hco, hcn⟩, hlN, ⟨hTb, hNb, hby⟩, hmd⟩ := id hsb
  have ft : zFt c c := zFt.rf
  refine zl_ald0 I59_0 ?_
  refine zl_ild1 I59_1 ?_
  refine zr_callV I59_2 C8_99 ⟨rfl, rfl⟩ ⟨rfl, Nat.le_of_ble_eq_true rfl⟩ (Or.inl ⟨rfl, sT8 hS⟩) (e_X8_isItem hS hB) (fun v2 μ2 hv2 => ?_)
  obtain ⟨x2, rfl, hx2, rfl⟩ := hv2
  dsimp only [Option.toList, List.cons_append, List.nil_append]
  unfold zTf at hx2
  refine zr_if_eq (t := 12) I59_5 rfl (fun h5 => ?_) (fun h5 => ?_)
  · refine zr_iconst I59_12 ?_
    refine zr_iret I59_13 rfl ?_
    exact ⟨_, _, _, _, _, bq, N, l, rfl, rfl, hsb, zFt.rf, Or.inl ⟨by omega, rfl⟩⟩
  · refine zl_ild2 I59_8 ?_
    refine zr_if_ge (t := 14) I59_9 rfl (fun h9 => ?_) (fun h9 => ?_)
    · refine zl_ald0 I59_14 ?_
      refine zl_ild1 I59_15 ?_
      refine zr_callV I59_16 C8_188 ⟨rfl, rfl⟩ ⟨rfl, Nat.le_of_ble_eq_true rfl⟩ (Or.inl ⟨rfl, sT8 hS⟩) (e_X8_writeLine hsb hc hit (by omega)) (fun v16 μ16 hv16 => ?_)
      obtain ⟨n16, sl16, S16, c16, bq16, N16, rfl, rfl, hs16, hf16⟩ := hv16
      obtain ⟨⟨hS, hlo, hB⟩, ⟨hT, hV, hco, hcn⟩, hlN, ⟨hTb, hNb, hby⟩, hmd⟩ := id hs16
      have ft : zFt c c16 := ft.tr hf16
      dsimp only [Option.toList, List.cons_append, List.nil_append]
      refine zl_ild2 I59_19 ?_
      refine zl_ald0 I59_20 ?_
      refine zr_getr (j := 4) I59_21 F8_40 rfl (sT8 hS) (sR8_4 hS) ?_
      refine zr_callV I59_24 C8_191 ⟨rfl, rfl⟩ ⟨rfl, Nat.le_of_ble_eq_true rfl⟩ (Or.inl ⟨rfl, hT⟩) (e_J4_length hs16) (fun v24 μ24 hv24 => ?_)
      obtain ⟨rfl, rfl⟩ := hv24
      dsimp only [Option.toList, List.cons_append, List.nil_append]
      refine zr_ic_ge (t := 41) I59_27 rfl (fun h27 => ?_) (fun h27 => ?_)
      · refine zr_bipush I59_41 ?_
        refine zr_iret I59_43 rfl ?_
        exact ⟨_, _, _, _, _, bq16, N16, _, rfl, rfl, hs16, ft, Or.inr ⟨by omega, Or.inr ⟨by omega, rfl⟩⟩⟩
      · obtain ⟨x9, hk9⟩ : ∃ x9, (zLn (c 26 it) (c 27 it) (c 25 it) (c 28 it))[k.toNat]? = some x9 := ⟨_, List.getElem?_eq_getElem (by omega)⟩
        have hit0 := hit it (by omega) (by omega)
        have hxb := zLn_in (by omega) (by omega) (by omega) (List.mem_of_getElem? hk9)
        refine zl_ald0 I59_30 ?_
        refine zr_getr (j := 4) I59_31 F8_40 rfl (sT8 hS) (sR8_4 hS) ?_
        refine zl_ild2 I59_34 ?_
        refine zr_callV I59_35 C8_194 ⟨rfl, rfl⟩ ⟨rfl, Nat.le_of_ble_eq_true rfl⟩ (Or.inl ⟨rfl, hT⟩) (e_J4_charAt hs16 ⟨by omega, hk9⟩ hxb) (fun v35 μ35 hv35 => ?_)
        obtain ⟨rfl, rfl⟩ := hv35
        dsimp only [Option.toList, List.cons_append, List.nil_append]
        refine zr_goto (t := 43) I59_38 rfl ?_
        refine zr_iret I59_43 rfl ?_
        exact ⟨_, _, _, _, _, bq16, N16, _, rfl, rfl, hs16, ft, Or.inr ⟨by omega, Or.inl ⟨h27, hk9⟩⟩⟩
    · refine zr_iconst I59_12 ?_
      refine zr_iret I59_13 rfl ?_
      exact ⟨_, _, _, _, _, bq, N, l, rfl, rfl, hsb, zFt.rf, Or.inl ⟨by omega, rfl⟩⟩
