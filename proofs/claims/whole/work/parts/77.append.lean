/-! the text: appending -/
theorem zsup_eq {S : zSh} {r : Nat} {x : Nat × (Int × (Int → Option Nat))} : zsup S r x r = x := if_pos rfl
theorem zfr_ne {c : zC} {r q : Nat} (h : q ≠ r) : zfr c r q = c q := by
  funext k
  exact if_neg h
theorem zfr_eq {c : zC} {r : Nat} {k : Int} : zfr c r r k = 0 := if_pos rfl
theorem zBd_fr {c : zC} {r : Nat} (h : zBd c) : zBd (zfr c r) := fun q k hq => by
  by_cases e : q = r
  · rw [e, zfr_eq]
    decide
  · rw [zfr_ne e]
    exact h q k hq
theorem zDn_b (x : Int) : 1 ≤ zDn x ∧ zDn x ≤ 5 := by
  unfold zDn
  (repeat' split) <;> omega
theorem zDg_n {x : Int} (hx : 0 ≤ x ∧ x ≤ 99999) : ((zDg x).length : Int) = zDn x := by
  unfold zDg zDn
  simp only [List.length_append, List.length_cons, List.length_nil]
  (repeat' split) <;> (try omega) <;> simp
set_option maxRecDepth 10000 in
set_option maxHeartbeats 2000000 in
theorem e_J8_newLength {d n sl : Nat} {S : zSh} {c : zC} {o g p : Int} (ho : 0 ≤ o ∧ o ≤ 1000) (hg : 0 < g ∧ g ≤ p ∧ p ≤ 1000) : zE (d + 1) 166 0 (zent 166 [zI o, zI g, zI p]) [] ((n, sl), (S, c)) (zRd (o + p) ((n, sl), (S, c))) := by
  show zE (d + 1) 166 0 [some (zI o), some (zI g), some (zI p), none] [] ((n, sl), (S, c)) _
  refine zl_ild0 I166_0 ?_
  refine zl_ild1 I166_1 ?_
  refine zl_ild2 I166_2 ?_
  refine zr_max I166_3 C18_194 (Nat.le_of_ble_eq_true rfl) ?_
  rw [show (if g < p then p else g) = p by split <;> omega]
  refine zr_iadd I166_6 (by unfold zInR; omega) ?_
  refine zl_ist3 I166_7 ?_
  refine zr_iconst I166_8 ?_
  refine zl_ild3 I166_9 ?_
  refine zr_ic_ge (t := 21) I166_10 rfl (fun h10 => absurd h10 (by omega)) (fun h10 => ?_)
  refine zl_ild3 I166_13 ?_
  refine zr_next I166_14 rfl ?_
  refine zr_ic_gt (t := 21) I166_16 rfl (fun h16 => absurd h16 (by omega)) (fun h16 => ?_)
  refine zl_ild3 I166_19 ?_
  refine zr_iret I166_20 rfl ?_
  exact ⟨rfl, rfl⟩
set_option maxRecDepth 10000 in
set_option maxHeartbeats 2000000 in
theorem e_J5_newCapacity {d n sl : Nat} {S : zSh} {c : zC} {bq : Nat} (hT : (S 143).1 = 0) (hV : (S 143).2.2 0 = some bq) (hco : c 143 1 = 0) (ha9 : (S bq).1 = 21) (hn9 : (S bq).2.1 = 16) {m : Int} (hm : 16 < m ∧ m ≤ 34) : zE (d + 2) 149 0 (zent 149 [zA 143, zI m]) [] ((n, sl), (S, c)) (zRd (34) ((n, sl), (S, c))) := by
  show zE (d + 2) 149 0 [some (zA 143), some (zI m), none, none, none, none] [] ((n, sl), (S, c)) _
  refine zl_ald0 I149_0 ?_
  refine zr_getr (j := 0) I149_1 F12_15 rfl (hT) (hV) ?_
  refine zr_alen I149_4 (Or.inr (Or.inl ha9)) (hn9) ?_
  refine zl_ist2 I149_5 ?_
  refine zl_ild1 I149_6 ?_
  refine zl_ald0 I149_7 ?_
  refine zr_geti (j := 1) I149_8 F12_22 rfl (hT) ?_
  rw [hco]
  refine zr_shl I149_11 ?_
  refine zl_ist3 I149_12 ?_
  refine zl_ild3 I149_13 ?_
  refine zl_ild2 I149_14 ?_
  refine zr_isub I149_15 (by unfold zInR; omega) ?_
  refine zl_ist4 I149_16 ?_
  refine zl_ild2 I149_18 ?_
  refine zl_ild4 I149_19 ?_
  refine zl_ild2 I149_21 ?_
  refine zr_iconst I149_22 ?_
  refine zl_ald0 I149_23 ?_
  refine zr_geti (j := 1) I149_24 F12_22 rfl (hT) ?_
  rw [hco]
  refine zr_shl I149_27 ?_
  refine zr_iadd I149_28 (by unfold zInR; omega) ?_
  refine zr_callS I149_29 C12_114 ⟨rfl, rfl⟩ ⟨by simp, rfl, Nat.le_of_ble_eq_true rfl⟩ (e_J8_newLength (by omega) (by omega)) (fun v29 μ29 hv29 => ?_)
  obtain ⟨rfl, rfl⟩ := hv29
  dsimp only [Option.toList, List.cons_append, List.nil_append]
  refine zl_ist5 I149_32 ?_
  refine zl_ild5 I149_34 ?_
  refine zr_next I149_36 rfl ?_
  refine zr_ic_ne (t := 51) I149_38 rfl (fun h38 => ?_) (fun h38 => absurd h38 (by omega))
  refine zl_ild5 I149_51 ?_
  refine zl_ald0 I149_53 ?_
  refine zr_geti (j := 1) I149_54 F12_22 rfl (hT) ?_
  rw [hco]
  refine zr_shr I149_57 ?_
  refine zr_iret I149_58 rfl ?_
  exact ⟨rfl, rfl⟩
set_option maxRecDepth 10000 in
set_option maxHeartbeats 2000000 in
theorem e_J7_copyOf {d n sl : Nat} {S : zSh} {c : zC} {bq : Nat} {N k : Int} (ha9 : (S bq).1 = 21) (hn9 : (S bq).2.1 = N) (hne : bq ≠ n) (hk : 0 ≤ N ∧ N < k ∧ k ≤ 100) : zE (d + 1) 165 0 (zent 165 [zA bq, zI k]) [] ((n, sl), (S, c)) (fun r μ' => r = some (zA n) ∧ μ' = ((n + 1, sl + k.toNat), (zsup S n (21, (k, fun _ => none)), zcpy (zfr c n) bq 0 n 0 N))) := by
  show zE (d + 1) 165 0 [some (zA bq), some (zI k), none] [] ((n, sl), (S, c)) _
  refine zl_ild1 I165_0 ?_
  refine zl_ald0 I165_1 ?_
  refine zr_alen I165_2 (Or.inr (Or.inl (by first | exact ha9 | (rw [zsup_ne hne]; exact ha9)))) ((by first | exact hn9 | (rw [zsup_ne hne]; exact hn9) | rw [zsup_ne hne])) ?_
  refine zr_ic_ne (t := 14) I165_3 rfl (fun h3 => ?_) (fun h3 => absurd h3 (by omega))
  refine zl_ild1 I165_14 ?_
  refine zr_newb I165_15 (by omega) ?_
  refine zl_ast2 I165_17 ?_
  refine zl_ald0 I165_18 ?_
  refine zr_iconst I165_19 ?_
  refine zl_ald2 I165_20 ?_
  refine zr_iconst I165_21 ?_
  refine zl_ald0 I165_22 ?_
  refine zr_alen I165_23 (Or.inr (Or.inl (by first | exact ha9 | (rw [zsup_ne hne]; exact ha9)))) ((by first | exact hn9 | (rw [zsup_ne hne]; exact hn9) | rw [zsup_ne hne])) ?_
  refine zl_ild1 I165_24 ?_
  refine zr_min I165_25 C17_304 (Nat.le_of_ble_eq_true rfl) ?_
  rw [hn9, if_neg (show ¬ k < N by omega)]
  refine zr_bcopy I165_28 C17_150 (Or.inl (by first | exact ha9 | (rw [zsup_ne hne]; exact ha9))) (by rw [zsup_eq]) ((by first | exact hn9 | (rw [zsup_ne hne]; exact hn9) | rw [zsup_ne hne])) ((by rw [zsup_eq] : (zsup S n (21, (k, fun _ => none)) n).2.1 = k)) (by omega) (Nat.le_of_ble_eq_true rfl) ?_
  refine zl_ald2 I165_31 ?_
  refine zr_aret2 I165_32 rfl ?_
  exact ⟨rfl, rfl⟩
set_option maxRecDepth 10000 in
set_option maxHeartbeats 2000000 in
theorem e_J5_ensure {d n sl : Nat} {S : zSh} {c : zC} {sl0 bq : Nat} {l : List Int} {N : Int} (hsb : zSB S c n sl sl0 l bq N) {m : Int} (hm : 0 ≤ m ∧ m ≤ 34) : zE (d + 3) 148 0 (zent 148 [zA 143, zI m]) [] ((n, sl), (S, c)) (fun r μ' => ∃ (n' sl' : Nat) (S' : zSh) (c' : zC) (bq' : Nat) (N' : Int), r = none ∧ μ' = ((n', sl'), (S', c')) ∧ zSB S' c' n' sl' sl0 (l) bq' N' ∧ zFt c c' ∧ m ≤ N') := by
  show zE (d + 3) 148 0 [some (zA 143), some (zI m), none] [] ((n, sl), (S, c)) _
  obtain ⟨⟨hS, hlo, hB⟩, ⟨hT, hV, hco, hcn⟩, hlN, ⟨hTb, hNb, hby⟩, hmd⟩ := id hsb
  refine zl_ald0 I148_0 ?_
  refine zr_getr (j := 0) I148_1 F12_15 rfl ((by first | exact hT | (rw [zsup_ne (by decide)]; exact hT))) (hV) ?_
  refine zr_alen I148_4 (Or.inr (Or.inl hTb)) (hNb) ?_
  refine zl_ald0 I148_5 ?_
  refine zr_geti (j := 1) I148_6 F12_22 rfl ((by first | exact hT | (rw [zsup_ne (by decide)]; exact hT))) ?_
  rw [hco]
  refine zr_shr I148_9 ?_
  refine zl_ist2 I148_10 ?_
  refine zl_ild1 I148_11 ?_
  refine zl_ild2 I148_12 ?_
  refine zr_isub I148_13 (by unfold zInR; omega) ?_
  refine zr_if_le (t := 38) I148_14 rfl (fun h14 => ?_) (fun h14 => ?_)
  · refine zr_vret I148_38 rfl ?_
    exact ⟨n, sl, S, c, bq, N, rfl, rfl, hsb, zFt.rf, by omega⟩
  · have hmA : bq = 144 ∧ N = 16 ∧ n = 155 ∧ sl ≤ 50000 := by omega
    obtain ⟨rfl, rfl, rfl, hsl9⟩ := hmA
    refine zl_ald0 I148_17 ?_
    refine zl_ald0 I148_18 ?_
    refine zr_getr (j := 0) I148_19 F12_15 rfl ((by first | exact hT | (rw [zsup_ne (by decide)]; exact hT))) (hV) ?_
    refine zl_ald0 I148_22 ?_
    refine zl_ild1 I148_23 ?_
    refine zr_callV I148_24 C12_104 ⟨rfl, rfl⟩ ⟨rfl, Nat.le_of_ble_eq_true rfl⟩ (Or.inr ⟨rfl, (by first | exact hT | (rw [zsup_ne (by decide)]; exact hT))⟩) (e_J5_newCapacity hT hV hco hTb hNb (by omega)) (fun v24 μ24 hv24 => ?_)
    obtain ⟨rfl, rfl⟩ := hv24
    dsimp only [Option.toList, List.cons_append, List.nil_append]
    refine zl_ald0 I148_27 ?_
    refine zr_geti (j := 1) I148_28 F12_22 rfl ((by first | exact hT | (rw [zsup_ne (by decide)]; exact hT))) ?_
    rw [hco]
    refine zr_shl I148_31 ?_
    refine zr_callS I148_32 C12_108 ⟨rfl, rfl⟩ ⟨by simp, rfl, Nat.le_of_ble_eq_true rfl⟩ (e_J7_copyOf hTb hNb (by decide) (by omega)) (fun v32 μ32 hv32 => ?_)
    obtain ⟨rfl, rfl⟩ := hv32
    dsimp only [Option.toList, List.cons_append, List.nil_append]
    refine zr_putr (j := 0) I148_35 F12_15 rfl ((by first | exact hT | (rw [zsup_ne (by decide)]; exact hT))) (Or.inl rfl) ?_
    refine zr_vret I148_38 rfl ?_
    refine ⟨_, _, _, _, 155, 34, rfl, rfl, ⟨⟨fun r h1 h2 h3 => ?_, zLow_c hlo (fun r hr => ?_) (fun r hr => ?_), ?_⟩, ⟨?_, ?_, ?_, ?_⟩, by omega, ⟨?_, ?_, fun k x hk => ?_⟩, Or.inr ⟨rfl, rfl, rfl, by omega⟩, by rw [zsup_ne (by decide), zsup_ne (by decide)]; exact hmd.2⟩, fun r h1 h2 h3 => ?_, by omega⟩
    · rw [zsup_ne h3, zsup_ne (by omega)]
      exact hS r h1 h2 h3
    · rw [zsup_ne (by omega), zsup_ne (by omega)]
    · rw [zcpy_ne (by omega), zfr_ne (by omega)]
    · exact zBd_cpy (zBd_fr hB) (by decide)
    · rw [zsup_eq]
      dsimp only
      rw [zsup_ne (by decide)]
      exact hT
    · rw [zsup_eq]
      rfl
    · rw [zcpy_ne (by decide), zfr_ne (by decide)]
      exact hco
    · rw [zcpy_ne (by decide), zfr_ne (by decide)]
      exact hcn
    · rw [zsup_ne (by decide), zsup_eq]
    · rw [zsup_ne (by decide), zsup_eq]
    · have hlt := (List.getElem?_eq_some_iff.mp hk).1
      unfold zcpy
      rw [if_pos ⟨rfl, by omega, by omega⟩, zfr_ne (by decide), show (0 : Int) + ((k : Int) - 0) = k by omega]
      exact hby k x hk
    · rw [zcpy_ne h3, zfr_ne h3]
set_option maxRecDepth 10000 in
set_option maxHeartbeats 2000000 in
theorem e_J5_appendI {d n sl : Nat} {S : zSh} {c : zC} {sl0 bq : Nat} {l : List Int} {N : Int} (hsb : zSB S c n sl sl0 l bq N) (hl5 : l.length + 5 ≤ 34) {x : Int} (hx : 0 ≤ x ∧ x ≤ 99999) : zE (d + 4) 154 0 (zent 154 [zA 143, zI x]) [] ((n, sl), (S, c)) (fun r μ' => ∃ (n' sl' : Nat) (S' : zSh) (c' : zC) (bq' : Nat) (N' : Int), r = some (zA 143) ∧ μ' = ((n', sl'), (S', c')) ∧ zSB S' c' n' sl' sl0 (l ++ zDg x) bq' N' ∧ zFt c c') := by
  show zE (d + 4) 154 0 [some (zA 143), some (zI x), none, none] [] ((n, sl), (S, c)) _
  obtain ⟨⟨hS, hlo, hB⟩, ⟨hT, hV, hco, hcn⟩, hlN, ⟨hTb, hNb, hby⟩, hmd⟩ := id hsb
  refine zl_ald0 I154_0 ?_
  refine zr_geti (j := 3) I154_1 F12_79 rfl (hT) ?_
  rw [hcn]
  have hdb := zDn_b x
  refine zl_ist2 I154_4 ?_
  refine zl_ild2 I154_5 ?_
  refine zl_ild1 I154_6 ?_
  refine zr_callS I154_7 C12_245 ⟨rfl, rfl⟩ ⟨by simp, rfl, Nat.le_of_ble_eq_true rfl⟩ (e_J6_stringSize hx) (fun v7 μ7 hv7 => ?_)
  obtain ⟨rfl, rfl⟩ := hv7
  dsimp only [Option.toList, List.cons_append, List.nil_append]
  refine zr_iadd I154_10 (by unfold zInR; omega) ?_
  refine zl_ist3 I154_11 ?_
  refine zl_ald0 I154_12 ?_
  refine zl_ild3 I154_13 ?_
  refine zr_callV I154_14 C12_100 ⟨rfl, rfl⟩ ⟨rfl, Nat.le_of_ble_eq_true rfl⟩ (Or.inr ⟨rfl, hT⟩) (e_J5_ensure hsb (by omega)) (fun v14 μ14 hv14 => ?_)
  obtain ⟨n1, sl1, S1, c1, bq1, N1, rfl, rfl, hsb1, hft1, hm1⟩ := hv14
  obtain ⟨⟨hS, hlo, hB⟩, ⟨hT, hV, hco, hcn⟩, hlN, ⟨hTb, hNb, hby⟩, hmd⟩ := id hsb1
  dsimp only [Option.toList, List.cons_append, List.nil_append]
  refine zl_ald0 I154_17 ?_
  refine zr_callV I154_18 C12_83 ⟨rfl, rfl⟩ ⟨rfl, Nat.le_of_ble_eq_true rfl⟩ (Or.inr ⟨rfl, hT⟩) (e_J5_isLatin1 hT hV hco) (fun v18 μ18 hv18 => ?_)
  obtain ⟨rfl, rfl⟩ := hv18
  dsimp only [Option.toList, List.cons_append, List.nil_append]
  refine zr_if_eq (t := 37) I154_21 rfl (fun h21 => absurd h21 (by omega)) (fun h21 => ?_)
  refine zl_ild1 I154_24 ?_
  refine zl_ild3 I154_25 ?_
  refine zl_ald0 I154_26 ?_
  refine zr_getr (j := 0) I154_27 F12_15 rfl (hT) (hV) ?_
  refine zr_callS I154_30 C12_248 ⟨rfl, rfl⟩ ⟨by simp, rfl, Nat.le_of_ble_eq_true rfl⟩ (e_J6_getChars hTb hNb hlo hB (by omega) hx (by omega) (by omega)) (fun v30 μ30 hv30 => ?_)
  obtain ⟨c2, rfl, rfl, hg1, hg2, hg3, hbg⟩ := hv30
  dsimp only [Option.toList, List.cons_append, List.nil_append]
  refine zr_pop I154_33 ?_
  refine zr_goto (t := 48) I154_34 rfl ?_
  refine zl_ald0 I154_48 ?_
  refine zl_ild3 I154_49 ?_
  refine zr_puti (j := 3) I154_50 F12_79 rfl (hT) ⟨rfl, fun _ h9 => by omega⟩ ?_
  refine zl_ald0 I154_53 ?_
  refine zr_aret I154_54 rfl ?_
  have hdl := zDg_n hx
  refine ⟨_, _, _, _, bq1, N1, rfl, rfl, ⟨⟨hS, zLow_c hlo (fun r hr => rfl) (fun r hr => ?_), zBd_up hbg (by omega)⟩, ⟨hT, hV, ?_, ?_⟩, ?_, ⟨hTb, hNb, fun k y hk => ?_⟩, hmd⟩, fun r h1 h2 h3 => ?_⟩
  · rw [zup_ne (by omega), hg1 r (by omega)]
  · rw [zup_k (by decide), hg1 143 (by omega)]
    exact hco
  · rw [zup_same, List.length_append]
    omega
  · rw [List.length_append]
    omega
  · rw [zup_oth (by omega)]
    by_cases e : k < l.length
    · rw [List.getElem?_append_left e] at hk
      rw [hg2 k (Or.inl (by omega))]
      exact hby k y hk
    · rw [List.getElem?_append_right (by omega)] at hk
      have h9 := hg3 _ y hk
      rw [show (l.length : Int) + zDn x - zDn x + ((k - l.length : Nat) : Int) = k by omega] at h9
      exact h9
  · rw [zup_ne h1, hg1 r (by omega)]
    exact hft1 r h1 h2 h3
set_option maxRecDepth 10000 in
set_option maxHeartbeats 2000000 in
theorem e_J5_appendC {d n sl : Nat} {S : zSh} {c : zC} {sl0 bq : Nat} {l : List Int} {N : Int} (hsb : zSB S c n sl sl0 l bq N) (hl5 : l.length + 1 ≤ 34) {x : Int} (hx : 0 ≤ x ∧ x < 128) : zE (d + 4) 153 0 (zent 153 [zA 143, zI x]) [] ((n, sl), (S, c)) (fun r μ' => ∃ (n' sl' : Nat) (S' : zSh) (c' : zC) (bq' : Nat) (N' : Int), r = some (zA 143) ∧ μ' = ((n', sl'), (S', c')) ∧ zSB S' c' n' sl' sl0 (l ++ [x]) bq' N' ∧ zFt c c') := by
  show zE (d + 4) 153 0 [some (zA 143), some (zI x)] [] ((n, sl), (S, c)) _
  obtain ⟨⟨hS, hlo, hB⟩, ⟨hT, hV, hco, hcn⟩, hlN, ⟨hTb, hNb, hby⟩, hmd⟩ := id hsb
  refine zl_ald0 I153_0 ?_
  refine zl_ald0 I153_1 ?_
  refine zr_geti (j := 3) I153_2 F12_79 rfl (hT) ?_
  rw [hcn]
  refine zr_iconst I153_5 ?_
  refine zr_iadd I153_6 (by unfold zInR; omega) ?_
  refine zr_callV I153_7 C12_100 ⟨rfl, rfl⟩ ⟨rfl, Nat.le_of_ble_eq_true rfl⟩ (Or.inr ⟨rfl, hT⟩) (e_J5_ensure hsb (by omega)) (fun v7 μ7 hv7 => ?_)
  obtain ⟨n1, sl1, S1, c1, bq1, N1, rfl, rfl, hsb1, hft1, hm1⟩ := hv7
  obtain ⟨⟨hS, hlo, hB⟩, ⟨hT, hV, hco, hcn⟩, hlN, ⟨hTb, hNb, hby⟩, hmd⟩ := id hsb1
  dsimp only [Option.toList, List.cons_append, List.nil_append]
  refine zl_ald0 I153_10 ?_
  refine zr_callV I153_11 C12_83 ⟨rfl, rfl⟩ ⟨rfl, Nat.le_of_ble_eq_true rfl⟩ (Or.inr ⟨rfl, hT⟩) (e_J5_isLatin1 hT hV hco) (fun v11 μ11 hv11 => ?_)
  obtain ⟨rfl, rfl⟩ := hv11
  dsimp only [Option.toList, List.cons_append, List.nil_append]
  refine zr_if_eq (t := 45) I153_14 rfl (fun h14 => absurd h14 (by omega)) (fun h14 => ?_)
  refine zl_ild1 I153_17 ?_
  refine zr_callS I153_18 C12_191 ⟨rfl, rfl⟩ ⟨by simp, rfl, Nat.le_of_ble_eq_true rfl⟩ (e_J1_canEncode (by omega)) (fun v18 μ18 hv18 => ?_)
  obtain ⟨rfl, rfl⟩ := hv18
  dsimp only [Option.toList, List.cons_append, List.nil_append]
  refine zr_if_eq (t := 45) I153_21 rfl (fun h21 => absurd h21 (by omega)) (fun h21 => ?_)
  refine zl_ald0 I153_24 ?_
  refine zr_getr (j := 0) I153_25 F12_15 rfl (hT) (hV) ?_
  refine zl_ald0 I153_28 ?_
  refine zr_dup I153_29 ?_
  refine zr_geti (j := 3) I153_30 F12_79 rfl (hT) ?_
  rw [hcn]
  refine zr_dup_x1 I153_33 ?_
  refine zr_iconst I153_34 ?_
  refine zr_iadd I153_35 (by unfold zInR; omega) ?_
  refine zr_puti (j := 3) I153_36 F12_79 rfl (hT) ⟨rfl, fun _ h9 => by omega⟩ ?_
  refine zl_ild1 I153_39 ?_
  refine zr_i2b I153_40 (by omega) ?_
  refine zr_bast I153_41 (hTb) (hNb) (by omega) (by omega) ?_
  refine zr_goto (t := 75) I153_42 rfl ?_
  refine zl_ald0 I153_75 ?_
  refine zr_aret I153_76 rfl ?_
  refine ⟨_, _, _, _, bq1, N1, rfl, rfl, ⟨⟨hS, zLow_c hlo (fun r hr => rfl) (fun r hr => ?_), zBd_up (zBd_up hB (by omega)) (by omega)⟩, ⟨hT, hV, ?_, ?_⟩, ?_, ⟨hTb, hNb, fun k y hk => ?_⟩, hmd⟩, fun r h1 h2 h3 => ?_⟩
  · rw [zup_ne (by omega), zup_ne (by omega)]
  · rw [zup_oth (by omega), zup_k (by decide)]
    exact hco
  · rw [zup_oth (by omega), zup_same, List.length_append]
    rfl
  · rw [List.length_append]
    show ((l.length + 1 : Nat) : Int) ≤ N1
    omega
  · by_cases e : k < l.length
    · rw [List.getElem?_append_left e] at hk
      rw [zup_k (by omega), zup_oth (by omega)]
      exact hby k y hk
    · rw [List.getElem?_append_right (by omega)] at hk
      have hlt := (List.getElem?_eq_some_iff.mp hk).1
      simp only [List.length_cons, List.length_nil] at hlt
      rw [show k - l.length = 0 by omega] at hk
      injection hk with hk
      rw [show (k : Int) = l.length by omega, zup_same]
      exact hk
  · rw [zup_ne (by omega), zup_ne h1]
    exact hft1 r h1 h2 h3
