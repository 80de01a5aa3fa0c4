/-! the model: the earliest start -/
theorem zFlt_u {f a b d : Prop} {x y : Int} (h : zFlt f a b d x) (h' : zFlt f a b d y) : x = y := by
  unfold zFlt at h h'
  by_cases hf : f <;> by_cases ha : a <;> by_cases hb : b <;> by_cases hd : d <;> simp [hf, ha, hb, hd] at h h' <;> omega
theorem zObM_u {c : zC} {p s x y : Int} (h : zObM c p s x) (h' : zObM c p s y) : x = y := zFlt_u h h'
theorem zObM_c {c c1 : zC} {p s x : Int} (e : c1 146 = c 146) : zObM c1 p s x = zObM c p s x := by
  unfold zObM zTM zPlM zMk
  rw [e]
/-- the first start -/
def zErl (c : zC) (p a x : Int) : Prop := (x = -9 ∧ ∀ j, a ≤ j → j ≤ a + 1439 → j < 10080 → ¬ zObM c p j 0) ∨ (a ≤ x ∧ x ≤ a + 1439 ∧ x < 10080 ∧ zObM c p x 0 ∧ ∀ j, a ≤ j → j < x → ¬ zObM c p j 0)
set_option maxRecDepth 10000 in
set_option maxHeartbeats 2000000 in
theorem e_X9_firstFor_l {d n sl : Nat} {S : zSh} {c : zC} (hS : zSok S) (hc : 0 ≤ c 146 3 ∧ c 146 3 ≤ 60) (hit : ∀ i, 0 ≤ i → i < c 146 3 → 0 ≤ c 146 (230 + 4 * i + 0) ∧ c 146 (230 + 4 * i + 0) < 16 ∧ 0 ≤ c 146 (230 + 4 * i + 1) ∧ c 146 (230 + 4 * i + 1) ≤ 20000 ∧ 0 ≤ c 146 (230 + 4 * i + 2) ∧ c 146 (230 + 4 * i + 2) ≤ 20000) (hso : zSrt (zAl (c 146) (c 146 3).toNat)) (hr : 0 ≤ c 146 2 ∧ c 146 2 ≤ 30) (hpl : ∀ r, 0 ≤ r → r < c 146 2 → 0 ≤ c 146 (110 + 4 * r + 3) ∧ c 146 (110 + 4 * r + 3) ≤ 50 ∧ 0 ≤ c 146 (110 + 4 * r)) (hbl : ∀ j, 0 ≤ j → j < c 146 1 → 0 ≤ c 146 (80 + 3 * j) ∧ c 146 (80 + 3 * j) < c 146 (80 + 3 * j + 1) ∧ c 146 (80 + 3 * j + 1) ≤ 1440) (hn : 0 ≤ c 146 1 ∧ c 146 1 ≤ 10) {p a : Int} (hpp : 0 ≤ p ∧ p < 16) (hln : 1 ≤ c 146 (10 + 4 * p + 1) ∧ c 146 (10 + 4 * p + 1) ≤ 240) (ha : 0 ≤ a ∧ a ≤ 10079) : ∀ t : Int, t ≤ a + 1440 → ∀ c1 : zC, (a ≤ t) → (zFm c c1) → (zBd c1) → (∀ j, a ≤ j → j < t → ¬ zObM c p j 0) → zE (d + 4) 108 2 [some (zA 145), some (zI p), some (zI a), some (zI t)] [] ((n, sl), (S, c1)) (fun r μ' => ∃ (x : Int) (c' : zC), r = some (zI x) ∧ μ' = ((n, sl), (S, c')) ∧ zErl c p a x ∧ zFm c c' ∧ zBd c') := by
  refine zind _ (fun t ih hN => ?_)
  intro c1 h0 hfr hBd hno
  have e146 := hfr.1 146 (by omega)
  refine zl_ild3 I108_2 ?_
  refine zl_ild2 I108_3 ?_
  refine zr_sipush I108_4 ?_
  refine zr_iadd I108_7 (by unfold zInR; omega) ?_
  refine zr_ic_gt (t := 35) I108_8 rfl (fun h8 => ?_) (fun h8 => ?_)
  · refine zr_bipush I108_35 ?_
    refine zr_iret I108_37 rfl ?_
    exact ⟨_, _, rfl, rfl, Or.inl ⟨rfl, fun j j1 j2 j3 => hno j j1 (by omega)⟩, hfr, hBd⟩
  · refine zl_ild3 I108_11 ?_
    refine zr_sipush I108_12 ?_
    refine zr_ic_ge (t := 35) I108_15 rfl (fun h15 => ?_) (fun h15 => ?_)
    · refine zr_bipush I108_35 ?_
      refine zr_iret I108_37 rfl ?_
      exact ⟨_, _, rfl, rfl, Or.inl ⟨rfl, fun j j1 j2 j3 => hno j j1 (by omega)⟩, hfr, hBd⟩
    · refine zl_ald0 I108_18 ?_
      refine zl_ild1 I108_19 ?_
      refine zl_ild3 I108_20 ?_
      refine zr_callV I108_21 C9_93 ⟨rfl, rfl⟩ ⟨rfl, Nat.le_of_ble_eq_true rfl⟩ (Or.inl ⟨rfl, sT145 hS⟩) (e_X9_fault hS hBd (by rw [e146]; exact hc) (by rw [e146]; exact hit) (by rw [e146]; exact hso) (by rw [e146]; exact hr) (by rw [e146]; exact hpl) (by rw [e146]; exact hbl) (by rw [e146]; exact hn) hpp (by rw [e146]; exact hln) (by omega)) (fun v21 μ21 hv21 => ?_)
      obtain ⟨x21, c21, rfl, rfl, ho, hf2, hb2⟩ := hv21
      rw [zObM_c e146] at ho
      dsimp only [Option.toList, List.cons_append, List.nil_append]
      refine zr_if_ne (t := 29) I108_24 rfl (fun h24 => ?_) (fun h24 => ?_)
      · refine zl_iinc3 I108_29 (by unfold zInR; omega) ?_
        refine zr_goto (t := 2) I108_32 rfl ?_
        refine ih _ (by omega) (by omega) _ (by omega) (hfr.tr hf2) hb2 (fun j j1 j2 => ?_)
        by_cases e : j = t
        · subst e
          intro h
          exact absurd (zObM_u ho h) (by omega)
        · exact hno j j1 (by omega)
      · refine zl_ild3 I108_27 ?_
        refine zr_iret I108_28 rfl ?_
        exact ⟨_, _, rfl, rfl, Or.inr ⟨h0, by omega, by omega, (show x21 = 0 by omega) ▸ ho, hno⟩, hfr.tr hf2, hb2⟩
set_option maxRecDepth 10000 in
set_option maxHeartbeats 2000000 in
theorem e_X9_firstFor {d n sl : Nat} {S : zSh} {c : zC} (hS : zSok S) (hB : zBd c) (hc : 0 ≤ c 146 3 ∧ c 146 3 ≤ 60) (hit : ∀ i, 0 ≤ i → i < c 146 3 → 0 ≤ c 146 (230 + 4 * i + 0) ∧ c 146 (230 + 4 * i + 0) < 16 ∧ 0 ≤ c 146 (230 + 4 * i + 1) ∧ c 146 (230 + 4 * i + 1) ≤ 20000 ∧ 0 ≤ c 146 (230 + 4 * i + 2) ∧ c 146 (230 + 4 * i + 2) ≤ 20000) (hso : zSrt (zAl (c 146) (c 146 3).toNat)) (hr : 0 ≤ c 146 2 ∧ c 146 2 ≤ 30) (hpl : ∀ r, 0 ≤ r → r < c 146 2 → 0 ≤ c 146 (110 + 4 * r + 3) ∧ c 146 (110 + 4 * r + 3) ≤ 50 ∧ 0 ≤ c 146 (110 + 4 * r)) (hbl : ∀ j, 0 ≤ j → j < c 146 1 → 0 ≤ c 146 (80 + 3 * j) ∧ c 146 (80 + 3 * j) < c 146 (80 + 3 * j + 1) ∧ c 146 (80 + 3 * j + 1) ≤ 1440) (hn : 0 ≤ c 146 1 ∧ c 146 1 ≤ 10) {p a : Int} (hpp : 0 ≤ p ∧ p < 16) (hln : 1 ≤ c 146 (10 + 4 * p + 1) ∧ c 146 (10 + 4 * p + 1) ≤ 240) (ha : 0 ≤ a ∧ a ≤ 10079) : zE (d + 4) 108 0 (zent 108 [zA 145, zI p, zI a]) [] ((n, sl), (S, c)) (fun r μ' => ∃ (x : Int) (c' : zC), r = some (zI x) ∧ μ' = ((n, sl), (S, c')) ∧ zErl c p a x ∧ zFm c c' ∧ zBd c') := by
  show zE (d + 4) 108 0 [some (zA 145), some (zI p), some (zI a), none] [] ((n, sl), (S, c)) _
  refine zl_ild2 I108_0 ?_
  refine zl_ist3 I108_1 ?_
  exact e_X9_firstFor_l hS hc hit hso hr hpl hbl hn hpp hln ha a (by omega) c (by omega) zFm.rf hB (fun j j1 j2 => absurd j1 (by omega))
set_option maxRecDepth 10000 in
set_option maxHeartbeats 2000000 in
theorem e_X9_earliest {d n sl : Nat} {S : zSh} {c : zC} (hS : zSok S) (hB : zBd c) (hc : 0 ≤ c 146 3 ∧ c 146 3 ≤ 60) (hit : ∀ i, 0 ≤ i → i < c 146 3 → 0 ≤ c 146 (230 + 4 * i + 0) ∧ c 146 (230 + 4 * i + 0) < 16 ∧ 0 ≤ c 146 (230 + 4 * i + 1) ∧ c 146 (230 + 4 * i + 1) ≤ 20000 ∧ 0 ≤ c 146 (230 + 4 * i + 2) ∧ c 146 (230 + 4 * i + 2) ≤ 20000) (hso : zSrt (zAl (c 146) (c 146 3).toNat)) (hr : 0 ≤ c 146 2 ∧ c 146 2 ≤ 30) (hpl : ∀ r, 0 ≤ r → r < c 146 2 → 0 ≤ c 146 (110 + 4 * r + 3) ∧ c 146 (110 + 4 * r + 3) ≤ 50 ∧ 0 ≤ c 146 (110 + 4 * r)) (hbl : ∀ j, 0 ≤ j → j < c 146 1 → 0 ≤ c 146 (80 + 3 * j) ∧ c 146 (80 + 3 * j) < c 146 (80 + 3 * j + 1) ∧ c 146 (80 + 3 * j + 1) ≤ 1440) (hn : 0 ≤ c 146 1 ∧ c 146 1 ≤ 10) (hlen : ∀ p, 0 ≤ p → p < c 146 0 → 1 ≤ c 146 (10 + 4 * p + 1) ∧ c 146 (10 + 4 * p + 1) ≤ 240) (hpn : 0 ≤ c 146 0 ∧ c 146 0 ≤ 16) {p a : Int} : zE (d + 5) 109 0 (zent 109 [zA 145, zI p, zI a]) [] ((n, sl), (S, c)) (fun r μ' => ∃ (x : Int) (c' : zC), r = some (zI x) ∧ μ' = ((n, sl), (S, c')) ∧ ((¬ ((0 ≤ p ∧ p < c 146 0) ∧ (0 ≤ a ∧ a ≤ 10079)) ∧ x = -1 ∧ c' = c) ∨ (((0 ≤ p ∧ p < c 146 0) ∧ (0 ≤ a ∧ a ≤ 10079)) ∧ zErl c p a x ∧ zFm c c' ∧ zBd c'))) := by
  show zE (d + 5) 109 0 [some (zA 145), some (zI p), some (zI a)] [] ((n, sl), (S, c)) _
  refine zl_ald0 I109_0 ?_
  refine zl_ild1 I109_1 ?_
  refine zr_callV I109_2 C9_52 ⟨rfl, rfl⟩ ⟨rfl, Nat.le_of_ble_eq_true rfl⟩ (Or.inl ⟨rfl, sT145 hS⟩) (e_X9_isProgramme hS hB) (fun v2 μ2 hv2 => ?_)
  obtain ⟨x2, rfl, hx2, rfl⟩ := hv2
  dsimp only [Option.toList, List.cons_append, List.nil_append]
  unfold zTf at hx2
  refine zr_if_eq (t := 28) I109_5 rfl (fun h5 => ?_) (fun h5 => ?_)
  · refine zr_iconst I109_28 ?_
    refine zr_iret I109_29 rfl ?_
    exact ⟨_, _, rfl, rfl, Or.inl ⟨by omega, rfl, rfl⟩⟩
  · refine zl_ild2 I109_8 ?_
    refine zr_iconst I109_9 ?_
    refine zr_sipush I109_10 ?_
    refine zr_callS I109_13 C9_41 ⟨rfl, rfl⟩ ⟨by simp, rfl, Nat.le_of_ble_eq_true rfl⟩ (e_X9_in ) (fun v13 μ13 hv13 => ?_)
    obtain ⟨x13, rfl, hx13, rfl⟩ := hv13
    dsimp only [Option.toList, List.cons_append, List.nil_append]
    unfold zTf at hx13
    refine zr_if_eq (t := 28) I109_16 rfl (fun h16 => ?_) (fun h16 => ?_)
    · refine zr_iconst I109_28 ?_
      refine zr_iret I109_29 rfl ?_
      exact ⟨_, _, rfl, rfl, Or.inl ⟨by omega, rfl, rfl⟩⟩
    · refine zl_ald0 I109_19 ?_
      refine zl_ild1 I109_20 ?_
      refine zl_ild2 I109_21 ?_
      have hl9 := hlen p (by omega) (by omega)
      refine zr_callV I109_22 C9_107 ⟨rfl, rfl⟩ ⟨rfl, Nat.le_of_ble_eq_true rfl⟩ (Or.inl ⟨rfl, sT145 hS⟩) (e_X9_firstFor hS hB hc hit hso hr hpl hbl hn (by omega) hl9 (by omega)) (fun v22 μ22 hv22 => ?_)
      obtain ⟨x22, c22, rfl, rfl, hv22⟩ := hv22
      dsimp only [Option.toList, List.cons_append, List.nil_append]
      refine zr_goto (t := 29) I109_25 rfl ?_
      refine zr_iret I109_29 rfl ?_
      exact ⟨_, _, rfl, rfl, Or.inr ⟨⟨by omega, by omega⟩, hv22⟩⟩
