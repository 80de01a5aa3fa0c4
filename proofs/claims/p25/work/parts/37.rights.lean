/-! rights: which one an item takes -/
abbrev zRT : Type := Nat × ((Int → Int) × ((Int → Int) × (Int → Int)))
def zBst (T : zRT) (left : Int → Int) (p s e : Int) : Nat → Int
  | 0 => -9
  | k + 1 => if T.2.1 k = p ∧ T.2.2.1 k ≤ s ∧ e ≤ T.2.2.2 k ∧ 0 < left k ∧ (zBst T left p s e k = -9 ∨ T.2.2.2 k < T.2.2.2 (zBst T left p s e k)) then (k : Int) else zBst T left p s e k
theorem zBst_in (T : zRT) (left : Int → Int) (p s e : Int) : ∀ k : Nat, zBst T left p s e k = -9 ∨ (0 ≤ zBst T left p s e k ∧ zBst T left p s e k < k ∧ T.2.1 (zBst T left p s e k) = p ∧ T.2.2.1 (zBst T left p s e k) ≤ s ∧ e ≤ T.2.2.2 (zBst T left p s e k) ∧ 0 < left (zBst T left p s e k))
  | 0 => Or.inl rfl
  | k + 1 => by
    unfold zBst
    have ih := zBst_in T left p s e k
    split
    · rename_i h
      exact Or.inr ⟨by omega, by omega, h.1, h.2.1, h.2.2.1, h.2.2.2.1⟩
    · omega
theorem zBst_s (T : zRT) (left : Int → Int) (p s e : Int) {i : Int} (h : 0 ≤ i) : zBst T left p s e (i + 1).toNat = if T.2.1 i = p ∧ T.2.2.1 i ≤ s ∧ e ≤ T.2.2.2 i ∧ 0 < left i ∧ (zBst T left p s e i.toNat = -9 ∨ T.2.2.2 i < T.2.2.2 (zBst T left p s e i.toNat)) then i else zBst T left p s e i.toNat := by
  rw [show (i + 1).toNat = i.toNat + 1 by omega]
  show (if _ then _ else _) = _
  rw [show ((i.toNat : Nat) : Int) = i by omega]
theorem zBst_congr {T T' : zRT} {left left' : Int → Int} {p s e : Int} : ∀ k : Nat, (∀ j : Int, 0 ≤ j → j < k → T.2.1 j = T'.2.1 j ∧ T.2.2.1 j = T'.2.2.1 j ∧ T.2.2.2 j = T'.2.2.2 j ∧ left j = left' j) → zBst T left p s e k = zBst T' left' p s e k
  | 0, _ => rfl
  | k + 1, h => by
    have ih := zBst_congr (p := p) (s := s) (e := e) k (fun j h1 h2 => h j h1 (by omega))
    unfold zBst
    obtain ⟨h1, h2, h3, h4⟩ := h k (by omega) (by omega)
    rw [ih, h1, h2, h3, h4]
    have e9 : zBst T' left' p s e k = -9 ∨ T.2.2.2 (zBst T' left' p s e k) = T'.2.2.2 (zBst T' left' p s e k) := by
      rcases zBst_in T' left' p s e k with g | g
      · exact Or.inl g
      · exact Or.inr (h (zBst T' left' p s e k) g.1 (by omega)).2.2.1
    rcases e9 with e9 | e9
    · rw [e9]
      simp
    · rw [e9]
def zLf (T : zRT) (pl ep es ee : Int → Int) : Nat → Int → Int
  | 0 => pl
  | k + 1 => fun r => if r = zBst T (zLf T pl ep es ee k) (ep k) (es k) (ee k) T.1 then zLf T pl ep es ee k r - 1 else zLf T pl ep es ee k r
def zUs (T : zRT) (pl ep es ee : Int → Int) (k : Nat) : Int := zBst T (zLf T pl ep es ee k) (ep k) (es k) (ee k) T.1
theorem zLf_b (T : zRT) {pl ep es ee : Int → Int} (h : ∀ r : Int, 0 ≤ r → r < T.1 → 0 ≤ pl r ∧ pl r ≤ 50) : ∀ (k : Nat) (r : Int), 0 ≤ r → r < T.1 → 0 ≤ zLf T pl ep es ee k r ∧ zLf T pl ep es ee k r ≤ 50
  | 0, r, h1, h2 => h r h1 h2
  | k + 1, r, h1, h2 => by
    have ih := zLf_b T (ep := ep) (es := es) (ee := ee) h k r h1 h2
    have key : zLf T pl ep es ee (k + 1) r = if r = zBst T (zLf T pl ep es ee k) (ep k) (es k) (ee k) T.1 then zLf T pl ep es ee k r - 1 else zLf T pl ep es ee k r := rfl
    have g := zBst_in T (zLf T pl ep es ee k) (ep k) (es k) (ee k) T.1
    by_cases e : r = zBst T (zLf T pl ep es ee k) (ep k) (es k) (ee k) T.1
    · rw [if_pos e] at key
      rw [← e] at g
      omega
    · rw [if_neg e] at key
      omega
def zTX (c : zC) : zRT := ((c 15 0).toNat, (c 16, (c 17, c 18)))
def zTM (c : zC) : zRT := ((c 146 2).toNat, (fun r => c 146 (110 + 4 * r), (fun r => c 146 (110 + 4 * r + 1), fun r => c 146 (110 + 4 * r + 2))))
set_option maxRecDepth 10000 in
set_option maxHeartbeats 2000000 in
theorem e_X5_covers {d n sl : Nat} {S : zSh} {c : zC} (hS : zSok S) (hB : zBd c) {r p s e : Int} (hr : 0 ≤ r ∧ r < 30) : zE (d + 0) 30 0 (zent 30 [zA 15, zI r, zI p, zI s, zI e]) [] ((n, sl), (S, c)) (zRp (zTf (c 16 r = p ∧ c 17 r ≤ s ∧ e ≤ c 18 r)) ((n, sl), (S, c))) := by
  show zE (d + 0) 30 0 [some (zA 15), some (zI r), some (zI p), some (zI s), some (zI e)] [] ((n, sl), (S, c)) _
  refine zl_ald0 I30_0 ?_
  refine zr_getr (j := 1) I30_1 F5_9 rfl (sT15 hS) (sR15_1 hS) ?_
  refine zl_ild1 I30_4 ?_
  refine zr_iaB hB (by decide) I30_5 (sT16 hS) (sN16 hS) (by omega) (fun b5 => ?_)
  refine zl_ild2 I30_6 ?_
  refine zr_ic_ne (t := 35) I30_7 rfl (fun h7 => ?_) (fun h7 => ?_)
  · refine zr_iconst I30_35 ?_
    refine zr_zret I30_36 rfl (by omega) ?_
    exact ⟨_, rfl, by unfold zTf; omega, rfl⟩
  · refine zl_ald0 I30_10 ?_
    refine zr_getr (j := 2) I30_11 F5_15 rfl (sT15 hS) (sR15_2 hS) ?_
    refine zl_ild1 I30_14 ?_
    refine zr_iaB hB (by decide) I30_15 (sT17 hS) (sN17 hS) (by omega) (fun b15 => ?_)
    refine zl_ild3 I30_16 ?_
    refine zr_ic_gt (t := 35) I30_17 rfl (fun h17 => ?_) (fun h17 => ?_)
    · refine zr_iconst I30_35 ?_
      refine zr_zret I30_36 rfl (by omega) ?_
      exact ⟨_, rfl, by unfold zTf; omega, rfl⟩
    · refine zl_ild4 I30_20 ?_
      refine zl_ald0 I30_22 ?_
      refine zr_getr (j := 3) I30_23 F5_18 rfl (sT15 hS) (sR15_3 hS) ?_
      refine zl_ild1 I30_26 ?_
      refine zr_iaB hB (by decide) I30_27 (sT18 hS) (sN18 hS) (by omega) (fun b27 => ?_)
      refine zr_ic_gt (t := 35) I30_28 rfl (fun h28 => ?_) (fun h28 => ?_)
      · refine zr_iconst I30_35 ?_
        refine zr_zret I30_36 rfl (by omega) ?_
        exact ⟨_, rfl, by unfold zTf; omega, rfl⟩
      · refine zr_iconst I30_31 ?_
        refine zr_goto (t := 36) I30_32 rfl ?_
        refine zr_zret I30_36 rfl (by omega) ?_
        exact ⟨_, rfl, by unfold zTf; omega, rfl⟩
set_option maxRecDepth 10000 in
set_option maxHeartbeats 2000000 in
theorem e_X6_rightFor_l {d n sl : Nat} {S : zSh} {c : zC} (hS : zSok S) (hB : zBd c) (hr : 0 ≤ c 15 0 ∧ c 15 0 ≤ 30) {k : Int} (hk : 0 ≤ k ∧ k < 61) : ∀ i : Int, i ≤ c 15 0 → ∀ b : Int, (0 ≤ i) → (b = zBst (zTX c) (c 136) (c 132 k) (c 133 k) (c 134 k) i.toNat) → zE (d + 1) 36 6 [some (zA 131), some (zI k), some (zA 15), some (zI b), some (zI i)] [] ((n, sl), (S, c)) (zRd (zBst (zTX c) (c 136) (c 132 k) (c 133 k) (c 134 k) (c 15 0).toNat) ((n, sl), (S, c))) := by
  refine zind _ (fun i ih hN => ?_)
  intro b h0 hb
  have hs := zBst_s (zTX c) (c 136) (c 132 k) (c 133 k) (c 134 k) h0
  have hbi := zBst_in (zTX c) (c 136) (c 132 k) (c 133 k) (c 134 k) i.toNat
  rw [← hb] at hbi
  refine zl_ild4 I36_6 ?_
  refine zl_ald2 I36_8 ?_
  refine zr_giB (j := 0) hB (by decide) I36_9 F6_36 rfl (sT15 hS) (fun b9 => ?_)
  refine zr_ic_ge (t := 83) I36_12 rfl (fun h12 => ?_) (fun h12 => ?_)
  · refine zl_ild3 I36_83 ?_
    refine zr_iret I36_84 rfl ?_
    exact ⟨by rw [hb, show i = c 15 0 by omega], rfl⟩
  · refine zl_ald0 I36_15 ?_
    refine zr_getr (j := 5) I36_16 F6_24 rfl (sT131 hS) (sR131_5 hS) ?_
    refine zl_ild4 I36_19 ?_
    refine zr_iaB hB (by decide) I36_21 (sT136 hS) (sN136 hS) (by omega) (fun b21 => ?_)
    refine zr_if_le (t := 77) I36_22 rfl (fun h22 => ?_) (fun h22 => ?_)
    · refine zl_iinc4 I36_77 (by unfold zInR; omega) ?_
      refine zr_goto (t := 6) I36_80 rfl ?_
      refine ih _ (by omega) (by omega) _ (by omega) ?_
      rw [hs, ← hb]
      unfold zTX
      dsimp only
      split <;> omega
    · refine zl_ald2 I36_25 ?_
      refine zl_ild4 I36_26 ?_
      refine zl_ald0 I36_28 ?_
      refine zr_getr (j := 1) I36_29 F6_11 rfl (sT131 hS) (sR131_1 hS) ?_
      refine zl_ild1 I36_32 ?_
      refine zr_iaB hB (by decide) I36_33 (sT132 hS) (sN132 hS) (by omega) (fun b33 => ?_)
      refine zl_ald0 I36_34 ?_
      refine zr_getr (j := 2) I36_35 F6_15 rfl (sT131 hS) (sR131_2 hS) ?_
      refine zl_ild1 I36_38 ?_
      refine zr_iaB hB (by decide) I36_39 (sT133 hS) (sN133 hS) (by omega) (fun b39 => ?_)
      refine zl_ald0 I36_40 ?_
      refine zr_getr (j := 3) I36_41 F6_18 rfl (sT131 hS) (sR131_3 hS) ?_
      refine zl_ild1 I36_44 ?_
      refine zr_iaB hB (by decide) I36_45 (sT134 hS) (sN134 hS) (by omega) (fun b45 => ?_)
      refine zr_callV I36_46 C6_47 ⟨rfl, rfl⟩ ⟨rfl, Nat.le_of_ble_eq_true rfl⟩ (Or.inl ⟨rfl, sT15 hS⟩) (e_X5_covers hS hB (by omega)) (fun v46 μ46 hv46 => ?_)
      obtain ⟨x46, rfl, hx46, rfl⟩ := hv46
      dsimp only [Option.toList, List.cons_append, List.nil_append]
      unfold zTf at hx46
      refine zr_if_eq (t := 77) I36_49 rfl (fun h49 => ?_) (fun h49 => ?_)
      · refine zl_iinc4 I36_77 (by unfold zInR; omega) ?_
        refine zr_goto (t := 6) I36_80 rfl ?_
        refine ih _ (by omega) (by omega) _ (by omega) ?_
        rw [hs, ← hb]
        unfold zTX
        dsimp only
        split <;> omega
      · refine zl_ild3 I36_52 ?_
        refine zr_bipush I36_53 ?_
        refine zr_ic_eq (t := 74) I36_55 rfl (fun h55 => ?_) (fun h55 => ?_)
        · refine zl_ild4 I36_74 ?_
          refine zl_ist3 I36_76 ?_
          refine zl_iinc4 I36_77 (by unfold zInR; omega) ?_
          refine zr_goto (t := 6) I36_80 rfl ?_
          refine ih _ (by omega) (by omega) _ (by omega) ?_
          rw [hs, ← hb]
          unfold zTX
          dsimp only
          split <;> omega
        · refine zl_ald2 I36_58 ?_
          refine zr_getr (j := 3) I36_59 F6_51 rfl (sT15 hS) (sR15_3 hS) ?_
          refine zl_ild4 I36_62 ?_
          refine zr_iaB hB (by decide) I36_64 (sT18 hS) (sN18 hS) (by omega) (fun b64 => ?_)
          refine zl_ald2 I36_65 ?_
          refine zr_getr (j := 3) I36_66 F6_51 rfl (sT15 hS) (sR15_3 hS) ?_
          refine zl_ild3 I36_69 ?_
          refine zr_iaB hB (by decide) I36_70 (sT18 hS) (sN18 hS) (by omega) (fun b70 => ?_)
          refine zr_ic_ge (t := 77) I36_71 rfl (fun h71 => ?_) (fun h71 => ?_)
          · refine zl_iinc4 I36_77 (by unfold zInR; omega) ?_
            refine zr_goto (t := 6) I36_80 rfl ?_
            refine ih _ (by omega) (by omega) _ (by omega) ?_
            rw [hs, ← hb]
            unfold zTX
            dsimp only
            split <;> omega
          · refine zl_ild4 I36_74 ?_
            refine zl_ist3 I36_76 ?_
            refine zl_iinc4 I36_77 (by unfold zInR; omega) ?_
            refine zr_goto (t := 6) I36_80 rfl ?_
            refine ih _ (by omega) (by omega) _ (by omega) ?_
            rw [hs, ← hb]
            unfold zTX
            dsimp only
            split <;> omega
set_option maxRecDepth 10000 in
set_option maxHeartbeats 2000000 in
theorem e_X6_rightFor {d n sl : Nat} {S : zSh} {c : zC} (hS : zSok S) (hB : zBd c) (hr : 0 ≤ c 15 0 ∧ c 15 0 ≤ 30) {k : Int} (hk : 0 ≤ k ∧ k < 61) : zE (d + 1) 36 0 (zent 36 [zA 131, zI k, zA 15]) [] ((n, sl), (S, c)) (zRd (zBst (zTX c) (c 136) (c 132 k) (c 133 k) (c 134 k) (c 15 0).toNat) ((n, sl), (S, c))) := by
  show zE (d + 1) 36 0 [some (zA 131), some (zI k), some (zA 15), none, none] [] ((n, sl), (S, c)) _
  refine zr_bipush I36_0 ?_
  refine zl_ist3 I36_2 ?_
  refine zr_iconst I36_3 ?_
  refine zl_ist4 I36_4 ?_
  exact e_X6_rightFor_l hS hB hr hk 0 (by omega) _ (by omega) rfl
