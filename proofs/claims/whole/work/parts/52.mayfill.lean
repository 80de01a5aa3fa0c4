/-! the model: what may fill -/
def zMf (c : zC) (p b t z : Int) : Prop := c 146 (10 + 4 * p) = 2 ∧ p ≠ b ∧ t + c 146 (10 + 4 * p + 1) ≤ z ∧ ¬ zDk (c 146 1) (fun j => c 146 (80 + 3 * j)) (fun j => c 146 (80 + 3 * j + 1)) (fun j => c 146 (80 + 3 * j + 2)) (c 146 (10 + 4 * p + 2)) t (t + c 146 (10 + 4 * p + 1))
set_option maxRecDepth 10000 in
set_option maxHeartbeats 2000000 in
theorem e_X9_mayFill {d n sl : Nat} {S : zSh} {c : zC} (hS : zSok S) (hB : zBd c) (hbl : ∀ j, 0 ≤ j → j < c 146 1 → 0 ≤ c 146 (80 + 3 * j) ∧ c 146 (80 + 3 * j) < c 146 (80 + 3 * j + 1) ∧ c 146 (80 + 3 * j + 1) ≤ 1440) (hn : 0 ≤ c 146 1 ∧ c 146 1 ≤ 10) {p b t z : Int} (hp : 0 ≤ p ∧ p < 16) (ht : 0 ≤ t ∧ t ≤ 20000) (hz : z ≤ 20000) : zE (d + 2) 110 0 (zent 110 [zA 145, zI p, zI b, zI t, zI z]) [] ((n, sl), (S, c)) (zRp (zTf (zMf c p b t z)) ((n, sl), (S, c))) := by
  show zE (d + 2) 110 0 [some (zA 145), some (zI p), some (zI b), some (zI t), some (zI z)] [] ((n, sl), (S, c)) _
  have hl0 := hB 146 (10 + 4 * p + 1) (by decide)
  refine zl_ald0 I110_0 ?_
  refine zl_ild1 I110_1 ?_
  refine zr_callV I110_2 C9_59 ⟨rfl, rfl⟩ ⟨rfl, Nat.le_of_ble_eq_true rfl⟩ (Or.inl ⟨rfl, sT145 hS⟩) (e_X9_kind hS hB (by omega)) (fun v2 μ2 hv2 => ?_)
  obtain ⟨rfl, rfl⟩ := hv2
  dsimp only [Option.toList, List.cons_append, List.nil_append]
  refine zr_iconst I110_5 ?_
  refine zr_ic_ne (t := 46) I110_6 rfl (fun h6 => ?_) (fun h6 => ?_)
  · refine zr_iconst I110_46 ?_
    refine zr_zret I110_47 rfl (by decide) ?_
    exact ⟨_, rfl, Or.inr ⟨rfl, fun h => by have h1 := h.1; have h2 := h.2.1; have h3 := h.2.2.1; omega⟩, rfl⟩
  · refine zl_ild1 I110_9 ?_
    refine zl_ild2 I110_10 ?_
    refine zr_ic_eq (t := 46) I110_11 rfl (fun h11 => ?_) (fun h11 => ?_)
    · refine zr_iconst I110_46 ?_
      refine zr_zret I110_47 rfl (by decide) ?_
      exact ⟨_, rfl, Or.inr ⟨rfl, fun h => by have h1 := h.1; have h2 := h.2.1; have h3 := h.2.2.1; omega⟩, rfl⟩
    · refine zl_ild3 I110_14 ?_
      refine zl_ald0 I110_15 ?_
      refine zl_ild1 I110_16 ?_
      refine zr_callV I110_17 C9_73 ⟨rfl, rfl⟩ ⟨rfl, Nat.le_of_ble_eq_true rfl⟩ (Or.inl ⟨rfl, sT145 hS⟩) (e_X9_length hS hB (by omega)) (fun v17 μ17 hv17 => ?_)
      obtain ⟨rfl, rfl⟩ := hv17
      dsimp only [Option.toList, List.cons_append, List.nil_append]
      refine zr_iadd I110_20 (by unfold zInR; omega) ?_
      refine zl_ild4 I110_21 ?_
      refine zr_ic_gt (t := 46) I110_23 rfl (fun h23 => ?_) (fun h23 => ?_)
      · refine zr_iconst I110_46 ?_
        refine zr_zret I110_47 rfl (by decide) ?_
        exact ⟨_, rfl, Or.inr ⟨rfl, fun h => by have h1 := h.1; have h2 := h.2.1; have h3 := h.2.2.1; omega⟩, rfl⟩
      · refine zl_ald0 I110_26 ?_
        refine zl_ild1 I110_27 ?_
        refine zl_ild3 I110_28 ?_
        refine zl_ild3 I110_29 ?_
        refine zl_ald0 I110_30 ?_
        refine zl_ild1 I110_31 ?_
        refine zr_callV I110_32 C9_73 ⟨rfl, rfl⟩ ⟨rfl, Nat.le_of_ble_eq_true rfl⟩ (Or.inl ⟨rfl, sT145 hS⟩) (e_X9_length hS hB (by omega)) (fun v32 μ32 hv32 => ?_)
        obtain ⟨rfl, rfl⟩ := hv32
        dsimp only [Option.toList, List.cons_append, List.nil_append]
        refine zr_iadd I110_35 (by unfold zInR; omega) ?_
        refine zr_callV I110_36 C9_90 ⟨rfl, rfl⟩ ⟨rfl, Nat.le_of_ble_eq_true rfl⟩ (Or.inl ⟨rfl, sT145 hS⟩) (e_X9_isDark hS hB hbl hn hp (by omega) (by omega)) (fun v36 μ36 hv36 => ?_)
        obtain ⟨x36, rfl, hx36, rfl⟩ := hv36
        dsimp only [Option.toList, List.cons_append, List.nil_append]
        unfold zTf at hx36
        refine zr_if_ne (t := 46) I110_39 rfl (fun h39 => ?_) (fun h39 => ?_)
        · refine zr_iconst I110_46 ?_
          refine zr_zret I110_47 rfl (by decide) ?_
          have hd := hx36.elim (fun h => h.2) (fun h => absurd h.1 h39)
          exact ⟨_, rfl, Or.inr ⟨rfl, fun h => h.2.2.2 hd⟩, rfl⟩
        · refine zr_iconst I110_42 ?_
          refine zr_goto (t := 47) I110_43 rfl ?_
          refine zr_zret I110_47 rfl (by decide) ?_
          have hd := hx36.elim (fun h => absurd (h.1.symm.trans h39) (by decide)) (fun h => h.2)
          exact ⟨_, rfl, Or.inl ⟨rfl, by omega, by omega, by omega, hd⟩, rfl⟩
