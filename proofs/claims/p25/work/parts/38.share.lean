/-! rights shared among entries -/
theorem zup_same {c : zC} {r : Nat} {k v : Int} : zup c r k v r k = v := by unfold zup; rw [if_pos ⟨rfl, rfl⟩]
theorem zup_oth {c : zC} {q r : Nat} {k v j : Int} (h : r ≠ q) : zup c q k v r j = c r j := by rw [zup_ne h]
theorem zBd_up {c : zC} (h : zBd c) {q : Nat} {k v : Int} (hv : -100000 ≤ v ∧ v ≤ 100000) : zBd (zup c q k v) := by
  intro r j hr
  unfold zup
  split
  · exact hv
  · exact h r j hr
theorem zBd_cpy {c : zC} (h : zBd c) {a b : Nat} {sp dp n : Int} (ha : 8 ≤ a) : zBd (zcpy c a sp b dp n) := by
  intro r j hr
  unfold zcpy
  split
  · exact h a _ ha
  · exact h r j hr
theorem zcpy_oth {c : zC} {a b r : Nat} {sp dp n j : Int} (h : r ≠ b) : zcpy c a sp b dp n r j = c r j := by rw [zcpy_ne h]
/-- the entries have shared the rights: what changed, what each uses, what is left -/
def zShd (c c' : zC) : Prop := (∀ r, r ≠ 135 → r ≠ 136 → c' r = c r) ∧ zBd c' ∧ (∀ j, 0 ≤ j → j < c 131 0 → c' 135 j = zUs (zTX c) (c 19) (c 132) (c 133) (c 134) j.toNat) ∧ (∀ r, 0 ≤ r → r < c 15 0 → c' 136 r = zLf (zTX c) (c 19) (c 132) (c 133) (c 134) (c 131 0).toNat r)
def zAll (c : zC) (n : Int) : Prop := ∀ j, 0 ≤ j → j < n → zUs (zTX c) (c 19) (c 132) (c 133) (c 134) j.toNat ≠ -9
set_option maxRecDepth 10000 in
set_option maxHeartbeats 2000000 in
theorem e_X6_share_l {d n sl : Nat} {S : zSh} {c : zC} (hS : zSok S) (hB : zBd c) (hr : 0 ≤ c 15 0 ∧ c 15 0 ≤ 30) (he : 0 ≤ c 131 0 ∧ c 131 0 ≤ 61) (hpl : ∀ r, 0 ≤ r → r < c 15 0 → 0 ≤ c 19 r ∧ c 19 r ≤ 50) : ∀ i : Int, i ≤ c 131 0 → ∀ y : Int, ∀ c1 : zC, (0 ≤ i) → (∀ r, r ≠ 135 → r ≠ 136 → c1 r = c r) → (zBd c1) → (∀ j, 0 ≤ j → j < i → c1 135 j = zUs (zTX c) (c 19) (c 132) (c 133) (c 134) j.toNat) → (∀ r, 0 ≤ r → r < c 15 0 → c1 136 r = zLf (zTX c) (c 19) (c 132) (c 133) (c 134) i.toNat r) → (zTf (zAll c i) y) → zE (d + 2) 35 21 [some (zA 131), some (zA 15), some (zI y), some (zI i)] [] ((n, sl), (S, c1)) (fun r μ' => ∃ (x : Int) (c' : zC), r = some (zI x) ∧ μ' = ((n, sl), (S, c')) ∧ zTf (zAll c (c 131 0)) x ∧ zShd c c') := by
  refine zind _ (fun i ih hN => ?_)
  intro y c1 h0 hfr hBd hus hlf hy
  have e15 := hfr 15 (by decide) (by decide)
  have e131 := hfr 131 (by decide) (by decide)
  have e16 := hfr 16 (by decide) (by decide)
  have e17 := hfr 17 (by decide) (by decide)
  have e18 := hfr 18 (by decide) (by decide)
  have e132 := hfr 132 (by decide) (by decide)
  have e133 := hfr 133 (by decide) (by decide)
  have e134 := hfr 134 (by decide) (by decide)
  have n131 : c1 131 0 = c 131 0 := by rw [e131]
  have n15 : c1 15 0 = c 15 0 := by rw [e15]
  have hui : zBst (zTX c1) (c1 136) (c1 132 i) (c1 133 i) (c1 134 i) (c1 15 0).toNat = zUs (zTX c) (c 19) (c 132) (c 133) (c 134) i.toNat := by
    unfold zUs
    rw [n15, e132, e133, e134]
    unfold zTX
    rw [e15, e16, e17, e18]
    dsimp only
    rw [show ((i.toNat : Nat) : Int) = i by omega]
    exact zBst_congr _ (fun j j1 j2 => ⟨rfl, rfl, rfl, hlf j j1 (by omega)⟩)
  have hub := zBst_in (zTX c) (zLf (zTX c) (c 19) (c 132) (c 133) (c 134) i.toNat) (c 132 (i.toNat : Int)) (c 133 (i.toNat : Int)) (c 134 (i.toNat : Int)) (zTX c).1
  have hub : zUs (zTX c) (c 19) (c 132) (c 133) (c 134) i.toNat = -9 ∨ (0 ≤ zUs (zTX c) (c 19) (c 132) (c 133) (c 134) i.toNat ∧ zUs (zTX c) (c 19) (c 132) (c 133) (c 134) i.toNat < c 15 0) := by
    have e9 : ((zTX c).1 : Int) = c 15 0 := by
      unfold zTX
      dsimp only
      omega
    unfold zUs
    omega
  have hlb := zLf_b (zTX c) (ep := c 132) (es := c 133) (ee := c 134) (pl := c 19) (fun r r1 r2 => hpl r r1 (by unfold zTX at r2; dsimp only at r2; omega)) i.toNat
  refine zl_ild3 I35_21 ?_
  refine zl_ald0 I35_22 ?_
  refine zr_giB (j := 0) hBd (by decide) I35_23 F6_27 rfl (sT131 hS) (fun b23 => ?_)
  refine zr_ic_ge (t := 78) I35_26 rfl (fun h26 => ?_) (fun h26 => ?_)
  · refine zl_ild2 I35_78 ?_
    refine zr_zret I35_79 rfl (by unfold zTf at hy; omega) ?_
    refine ⟨_, _, rfl, rfl, ?_, hfr, hBd, fun j j1 j2 => hus j j1 (by omega), fun r r1 r2 => ?_⟩
    · rw [show c 131 0 = i by omega]
      exact hy
    · rw [show c 131 0 = i by omega]
      exact hlf r r1 r2
  · refine zl_ald0 I35_29 ?_
    refine zr_getr (j := 4) I35_30 F6_21 rfl (sT131 hS) (sR131_4 hS) ?_
    refine zl_ild3 I35_33 ?_
    refine zl_ald0 I35_34 ?_
    refine zl_ild3 I35_35 ?_
    refine zl_ald1 I35_36 ?_
    refine zr_callV I35_37 C6_43 ⟨rfl, rfl⟩ ⟨rfl, Nat.le_of_ble_eq_true rfl⟩ (Or.inl ⟨rfl, sT131 hS⟩) (e_X6_rightFor hS hBd (by omega) (by omega)) (fun v37 μ37 hv37 => ?_)
    obtain ⟨rfl, rfl⟩ := hv37
    dsimp only [Option.toList, List.cons_append, List.nil_append]
    rw [hui]
    refine zr_iast I35_40 (sT135 hS) (sN135 hS) (by omega) ?_
    refine zl_ald0 I35_41 ?_
    refine zr_getr (j := 4) I35_42 F6_21 rfl (sT131 hS) (sR131_4 hS) ?_
    refine zl_ild3 I35_45 ?_
    refine zr_iald I35_46 (sT135 hS) (sN135 hS) (by omega) ?_
    simp only [zup_same]
    refine zr_bipush I35_47 ?_
    refine zr_ic_ne (t := 57) I35_49 rfl (fun h49 => ?_) (fun h49 => ?_)
    · refine zl_ald0 I35_57 ?_
      refine zr_getr (j := 5) I35_58 F6_24 rfl (sT131 hS) (sR131_5 hS) ?_
      refine zl_ald0 I35_61 ?_
      refine zr_getr (j := 4) I35_62 F6_21 rfl (sT131 hS) (sR131_4 hS) ?_
      refine zl_ild3 I35_65 ?_
      refine zr_iald I35_66 (sT135 hS) (sN135 hS) (by omega) ?_
      simp only [zup_same]
      refine zr_dup2 I35_67 ?_
      have hT1 : ((zTX c).1 : Int) = c 15 0 := by
        unfold zTX
        dsimp only
        omega
      have hb4 := hlb (zUs (zTX c) (c 19) (c 132) (c 133) (c 134) i.toNat) (by omega) (by rw [hT1]; omega)
      have hb5 := hlf (zUs (zTX c) (c 19) (c 132) (c 133) (c 134) i.toNat) (by omega) (by omega)
      refine zr_iald I35_68 (sT136 hS) (sN136 hS) (by omega) ?_
      simp only [zup_oth (show (136 : Nat) ≠ 135 by decide)]
      refine zr_iconst I35_69 ?_
      refine zr_isub I35_70 (by unfold zInR; omega) ?_
      refine zr_iast I35_71 (sT136 hS) (sN136 hS) (by omega) ?_
      refine zl_iinc3 I35_72 (by unfold zInR; omega) ?_
      refine zr_goto (t := 21) I35_75 rfl ?_
      refine ih _ (by omega) (by omega) _ _ (by omega) (fun r r1 r2 => ?_) ?_ (fun j j1 j2 => ?_) (fun r r1 r2 => ?_) ?_
      · rw [zup_ne r2, zup_ne r1, hfr r r1 r2]
      · exact zBd_up (zBd_up hBd (by omega)) (by rw [hlf _ (by omega) (by omega)]; omega)
      · rw [zup_oth (by decide)]
        by_cases e : j = i
        · subst e
          rw [zup_same]
        · rw [zup_q, if_neg e]
          exact hus j j1 (by omega)
      · rw [zup_q, zup_oth (by decide), show (i + 1).toNat = i.toNat + 1 by omega, hlf r r1 r2, hlf _ (by omega) (by omega)]
        show _ = (if r = zUs (zTX c) (c 19) (c 132) (c 133) (c 134) i.toNat then zLf (zTX c) (c 19) (c 132) (c 133) (c 134) i.toNat r - 1 else zLf (zTX c) (c 19) (c 132) (c 133) (c 134) i.toNat r)
        by_cases e : r = zUs (zTX c) (c 19) (c 132) (c 133) (c 134) i.toNat
        · rw [if_pos e, if_pos e, e]
        · rw [if_neg e, if_neg e]
      · rcases hy with ⟨e1, e2⟩ | ⟨e1, e2⟩
        · refine Or.inl ⟨e1, fun j j1 j2 => ?_⟩
          by_cases e : j = i
          · subst e
            assumption
          · exact e2 j j1 (by omega)
        · exact Or.inr ⟨e1, fun h => e2 (fun j j1 j2 => h j j1 (by omega))⟩
    · refine zr_iconst I35_52 ?_
      refine zl_ist2 I35_53 ?_
      refine zr_goto (t := 72) I35_54 rfl ?_
      refine zl_iinc3 I35_72 (by unfold zInR; omega) ?_
      refine zr_goto (t := 21) I35_75 rfl ?_
      refine ih _ (by omega) (by omega) _ _ (by omega) (fun r r1 r2 => ?_) ?_ (fun j j1 j2 => ?_) (fun r r1 r2 => ?_) ?_
      · rw [zup_ne r1, hfr r r1 r2]
      · exact zBd_up hBd (by omega)
      · by_cases e : j = i
        · subst e
          rw [zup_same]
        · rw [zup_q, if_neg e]
          exact hus j j1 (by omega)
      · rw [zup_oth (by decide), show (i + 1).toNat = i.toNat + 1 by omega]
        show _ = (if r = zUs (zTX c) (c 19) (c 132) (c 133) (c 134) i.toNat then _ else _)
        rw [if_neg (by omega)]
        exact hlf r r1 r2
      · refine Or.inr ⟨rfl, fun h => ?_⟩
        exact h i h0 (by omega) (by omega)
set_option maxRecDepth 10000 in
set_option maxHeartbeats 2000000 in
theorem e_X6_share {d n sl : Nat} {S : zSh} {c : zC} (hS : zSok S) (hB : zBd c) (hr : 0 ≤ c 15 0 ∧ c 15 0 ≤ 30) (he : 0 ≤ c 131 0 ∧ c 131 0 ≤ 61) (hpl : ∀ r, 0 ≤ r → r < c 15 0 → 0 ≤ c 19 r ∧ c 19 r ≤ 50) : zE (d + 2) 35 0 (zent 35 [zA 131, zA 15]) [] ((n, sl), (S, c)) (fun r μ' => ∃ (x : Int) (c' : zC), r = some (zI x) ∧ μ' = ((n, sl), (S, c')) ∧ zTf (zAll c (c 131 0)) x ∧ zShd c c') := by
  show zE (d + 2) 35 0 [some (zA 131), some (zA 15), none, none] [] ((n, sl), (S, c)) _
  refine zl_ald1 I35_0 ?_
  refine zr_getr (j := 4) I35_1 F6_31 rfl (sT15 hS) (sR15_4 hS) ?_
  refine zr_iconst I35_4 ?_
  refine zl_ald0 I35_5 ?_
  refine zr_getr (j := 5) I35_6 F6_24 rfl (sT131 hS) (sR131_5 hS) ?_
  refine zr_iconst I35_9 ?_
  refine zl_ald1 I35_10 ?_
  refine zr_giB (j := 0) hB (by decide) I35_11 F6_36 rfl (sT15 hS) (fun b11 => ?_)
  refine zr_acopy I35_14 C6_37 (sT19 hS) (sT136 hS) (sN19 hS) (sN136 hS) (by omega) (Nat.le_of_ble_eq_true rfl) ?_
  refine zr_iconst I35_17 ?_
  refine zl_ist2 I35_18 ?_
  refine zr_iconst I35_19 ?_
  refine zl_ist3 I35_20 ?_
  refine e_X6_share_l hS hB hr he hpl 0 (by omega) _ _ (by omega) (fun r r1 r2 => zcpy_ne r2) (zBd_cpy hB (by decide)) (fun j j1 j2 => absurd j1 (by omega)) (fun r r1 r2 => ?_) (Or.inl ⟨rfl, fun j j1 j2 => absurd j1 (by omega)⟩)
  rw [zcpy_q, if_pos (by omega), show 0 + (r - 0) = r by omega]
  rfl
