/-! the model: place -/
theorem zObM_0 {c : zC} {p s : Int} (h : zObM c p s 0) : ¬ 60 ≤ c 146 3 := by
  unfold zObM zFlt at h
  rcases h with h | h | h | h | h
  · exact absurd h.2 (by decide)
  all_goals exact h.1
/-- what place leaves behind -/
def zPl (c c' : zC) (p s fx x : Int) : Prop := ∃ (f : Int) (c1 : zC), zObM c p s f ∧ zFm c c1 ∧ zBd c1 ∧ ((f ≠ 0 ∧ x = f ∧ c' = c1) ∨ (f = 0 ∧ ∃ c2, zDid c1 c2 ∧ zPut c2 c' p s (c 146 (10 + 4 * p + 1)) fx x))
set_option maxRecDepth 10000 in
set_option maxHeartbeats 2000000 in
theorem e_X9_place {d n sl : Nat} {S : zSh} {c : zC} (hS : zSok S) (hB : zBd c) (hc : 0 ≤ c 146 3 ∧ c 146 3 ≤ 60) (hit : ∀ i, 0 ≤ i → i < c 146 3 → 0 ≤ c 146 (230 + 4 * i + 0) ∧ c 146 (230 + 4 * i + 0) < 16 ∧ 0 ≤ c 146 (230 + 4 * i + 1) ∧ c 146 (230 + 4 * i + 1) ≤ 20000 ∧ 0 ≤ c 146 (230 + 4 * i + 2) ∧ c 146 (230 + 4 * i + 2) ≤ 20000) (hso : zSrt (zAl (c 146) (c 146 3).toNat)) (hr : 0 ≤ c 146 2 ∧ c 146 2 ≤ 30) (hpl : ∀ r, 0 ≤ r → r < c 146 2 → 0 ≤ c 146 (110 + 4 * r + 3) ∧ c 146 (110 + 4 * r + 3) ≤ 50 ∧ 0 ≤ c 146 (110 + 4 * r)) (hbl : ∀ j, 0 ≤ j → j < c 146 1 → 0 ≤ c 146 (80 + 3 * j) ∧ c 146 (80 + 3 * j) < c 146 (80 + 3 * j + 1) ∧ c 146 (80 + 3 * j + 1) ≤ 1440) (hn : 0 ≤ c 146 1 ∧ c 146 1 ≤ 10) (hlen : ∀ p, 0 ≤ p → p < c 146 0 → 1 ≤ c 146 (10 + 4 * p + 1) ∧ c 146 (10 + 4 * p + 1) ≤ 240) (hpn : 0 ≤ c 146 0 ∧ c 146 0 ≤ 16) (hm : 0 ≤ c 145 2 ∧ c 145 2 ≤ 5) {p s f : Int} : zE (d + 4) 106 0 (zent 106 [zA 145, zI p, zI s, zI f]) [] ((n, sl), (S, c)) (fun r μ' => ∃ (x : Int) (c' : zC), r = some (zI x) ∧ μ' = ((n, sl), (S, c')) ∧ ((¬ ((0 ≤ p ∧ p < c 146 0) ∧ (0 ≤ s ∧ s ≤ 10079)) ∧ x = -1 ∧ c' = c) ∨ (((0 ≤ p ∧ p < c 146 0) ∧ (0 ≤ s ∧ s ≤ 10079)) ∧ zPl c c' p s (if f = 0 then 0 else 1) x))) := by
  show zE (d + 4) 106 0 [some (zA 145), some (zI p), some (zI s), some (zI f), none] [] ((n, sl), (S, c)) _
  refine zl_ald0 I106_0 ?_
  refine zl_ild1 I106_1 ?_
  refine zr_callV I106_2 C9_52 ⟨rfl, rfl⟩ ⟨rfl, Nat.le_of_ble_eq_true rfl⟩ (Or.inl ⟨rfl, sT145 hS⟩) (e_X9_isProgramme hS hB) (fun v2 μ2 hv2 => ?_)
  obtain ⟨x2, rfl, hx2, rfl⟩ := hv2
  dsimp only [Option.toList, List.cons_append, List.nil_append]
  unfold zTf at hx2
  refine zr_if_eq (t := 19) I106_5 rfl (fun h5 => ?_) (fun h5 => ?_)
  · refine zr_iconst I106_19 ?_
    refine zr_iret I106_20 rfl ?_
    exact ⟨_, _, rfl, rfl, Or.inl ⟨by omega, rfl, rfl⟩⟩
  · refine zl_ild2 I106_8 ?_
    refine zr_iconst I106_9 ?_
    refine zr_sipush I106_10 ?_
    refine zr_callS I106_13 C9_41 ⟨rfl, rfl⟩ ⟨by simp, rfl, Nat.le_of_ble_eq_true rfl⟩ (e_X9_in ) (fun v13 μ13 hv13 => ?_)
    obtain ⟨x13, rfl, hx13, rfl⟩ := hv13
    dsimp only [Option.toList, List.cons_append, List.nil_append]
    unfold zTf at hx13
    refine zr_if_ne (t := 21) I106_16 rfl (fun h16 => ?_) (fun h16 => ?_)
    · refine zl_ald0 I106_21 ?_
      refine zl_ild1 I106_22 ?_
      refine zl_ild2 I106_23 ?_
      have hl9 := hlen p (by omega) (by omega)
      refine zr_callV I106_24 C9_93 ⟨rfl, rfl⟩ ⟨rfl, Nat.le_of_ble_eq_true rfl⟩ (Or.inl ⟨rfl, sT145 hS⟩) (e_X9_fault hS hB hc hit hso hr hpl hbl hn (by omega) hl9 (by omega)) (fun v24 μ24 hv24 => ?_)
      obtain ⟨x24, c24, rfl, rfl, hob, hfm, hB1⟩ := hv24
      have e146 := hfm.1 146 (by omega)
      have hl1 := hB1 146 (10 + 4 * p + 1) (by decide)
      dsimp only [Option.toList, List.cons_append, List.nil_append]
      refine zl_ist4 I106_27 ?_
      refine zl_ild4 I106_29 ?_
      refine zr_if_eq (t := 37) I106_31 rfl (fun h31 => ?_) (fun h31 => ?_)
      · refine zl_ald0 I106_37 ?_
        have hf0 : x24 = 0 := by omega
        have hn0 := zObM_0 (hf0 ▸ hob)
        have hp2 := hfm.2 2 (by decide)
        refine zr_callV I106_38 C9_49 ⟨rfl, rfl⟩ ⟨rfl, Nat.le_of_ble_eq_true rfl⟩ (Or.inl ⟨rfl, sT145 hS⟩) (e_X9_act hS hB1 (by rw [hp2]; exact hm)) (fun v38 μ38 hv38 => ?_)
        obtain ⟨c38, rfl, rfl, hc38⟩ := hv38
        dsimp only [Option.toList, List.cons_append, List.nil_append]
        have hd : zDid c24 c38 := hc38
        have e146b := hd.v
        have hB2 := hd.b
        refine zl_ald0 I106_41 ?_
        refine zl_ild1 I106_42 ?_
        refine zl_ild2 I106_43 ?_
        refine zl_ald0 I106_44 ?_
        refine zl_ild1 I106_45 ?_
        refine zr_callV I106_46 C9_73 ⟨rfl, rfl⟩ ⟨rfl, Nat.le_of_ble_eq_true rfl⟩ (Or.inl ⟨rfl, sT145 hS⟩) (e_X9_length hS hB2 (by omega)) (fun v46 μ46 hv46 => ?_)
        obtain ⟨rfl, rfl⟩ := hv46
        dsimp only [Option.toList, List.cons_append, List.nil_append]
        rw [e146b, e146]
        refine zl_ild3 I106_49 ?_
        refine zr_if_eq (t := 57) I106_50 rfl (fun h50 => ?_) (fun h50 => ?_)
        · refine zr_iconst I106_57 ?_
          refine zr_callV I106_58 C9_96 ⟨rfl, rfl⟩ ⟨rfl, Nat.le_of_ble_eq_true rfl⟩ (Or.inl ⟨rfl, sT145 hS⟩) (e_X9_puts hS hB2 (by rw [e146b, e146]; omega) (by omega) (by omega) (by omega) (by omega)) (fun v58 μ58 hv58 => ?_)
          obtain ⟨at58, c58, rfl, rfl, hp58⟩ := hv58
          dsimp only [Option.toList, List.cons_append, List.nil_append]
          refine zr_iret I106_61 rfl ?_
          exact ⟨_, _, rfl, rfl, Or.inr ⟨⟨by omega, by omega⟩, x24, c24, hob, hfm, hB1, Or.inr ⟨by omega, c38, hd, by rw [if_pos (by omega)]; exact hp58⟩⟩⟩
        · refine zr_iconst I106_53 ?_
          refine zr_goto (t := 58) I106_54 rfl ?_
          refine zr_callV I106_58 C9_96 ⟨rfl, rfl⟩ ⟨rfl, Nat.le_of_ble_eq_true rfl⟩ (Or.inl ⟨rfl, sT145 hS⟩) (e_X9_puts hS hB2 (by rw [e146b, e146]; omega) (by omega) (by omega) (by omega) (by omega)) (fun v58 μ58 hv58 => ?_)
          obtain ⟨at58, c58, rfl, rfl, hp58⟩ := hv58
          dsimp only [Option.toList, List.cons_append, List.nil_append]
          refine zr_iret I106_61 rfl ?_
          exact ⟨_, _, rfl, rfl, Or.inr ⟨⟨by omega, by omega⟩, x24, c24, hob, hfm, hB1, Or.inr ⟨by omega, c38, hd, by rw [if_neg (by omega)]; exact hp58⟩⟩⟩
      · refine zl_ild4 I106_34 ?_
        refine zr_iret I106_36 rfl ?_
        exact ⟨_, _, rfl, rfl, Or.inr ⟨⟨by omega, by omega⟩, x24, c24, hob, hfm, hB1, Or.inl ⟨by omega, rfl, rfl⟩⟩⟩
    · refine zr_iconst I106_19 ?_
      refine zr_iret I106_20 rfl ?_
      exact ⟨_, _, rfl, rfl, Or.inl ⟨by omega, rfl, rfl⟩⟩
