/-! the class: earliest, makeGood -/
theorem zGt_c {c c1 : zC} (h : ∀ r, (r < 131 ∨ 136 < r) → c1 r = c r) (p : Int) : ∀ k : Nat, zGt c1 p k = zGt c p k
  | 0 => rfl
  | k + 1 => by
    unfold zGt
    rw [h 25 (by decide), h 26 (by decide), h 27 (by decide), zGt_c h p k]
theorem zObs_c {c c1 : zC} (h : ∀ r, (r < 131 ∨ 136 < r) → c1 r = c r) (p s x : Int) : zObs c1 p s x = zObs c p s x := by
  unfold zObs zTX
  rw [h 24 (by decide), h 12 (by decide), h 26 (by decide), h 27 (by decide), h 11 (by decide), h 15 (by decide), h 16 (by decide), h 17 (by decide), h 18 (by decide), h 19 (by decide), h 20 (by decide), h 21 (by decide), h 22 (by decide), h 23 (by decide), h 13 (by decide), zGt_c h]
def zNw (c : zC) (p s n x : Int) : Prop := s < x ∧ x ≤ 10080 ∧ ∀ r, 0 ≤ r → r < n → c 16 r = p → s < c 17 r → x ≤ c 17 r
def zRtH (c : zC) (p : Int) : Prop := ∀ s t, 0 ≤ s → s < t → t ≤ 10079 → zObs c p s (-5) → (∀ r, 0 ≤ r → r < c 15 0 → c 16 r = p → s < c 17 r → t < c 17 r) → ¬ zObs c p t 0
theorem zRtH_c {c c1 : zC} (h : ∀ r, (r < 131 ∨ 136 < r) → c1 r = c r) {p : Int} (hr : zRtH c p) : zRtH c1 p := fun s t h1 h2 h3 h4 h5 h6 => by
  rw [zObs_c h] at h4 h6
  rw [h 15 (by decide), h 16 (by decide), h 17 (by decide)] at h5
  exact hr s t h1 h2 h3 h4 h5 h6
def zSkp (c : zC) (p s x : Int) : Prop := s < x ∧ x ≤ 40000 ∧ ∀ t, s < t → t < x → t ≤ 10079 → ¬ zObs c p t 0
def zErlX (c : zC) (p a x : Int) : Prop := (x = -9 ∧ ∀ j, a ≤ j → j ≤ a + 1439 → j < 10080 → ¬ zObs c p j 0) ∨ (a ≤ x ∧ x ≤ a + 1439 ∧ x < 10080 ∧ zObs c p x 0 ∧ ∀ j, a ≤ j → j < x → ¬ zObs c p j 0)
theorem zFlt_dk {f a b d : Prop} {x : Int} (h : zFlt f a b d x) (e : x = -6) : d := by
  unfold zFlt at h
  rcases h with h | h | h | h | h
  · omega
  · omega
  · omega
  · exact h.2.2.2.1
  · omega
theorem zFlt_0 {f a b d : Prop} (h : zFlt f a b d 0) : ¬ f ∧ ¬ a ∧ b ∧ ¬ d := by
  unfold zFlt at h
  rcases h with h | h | h | h | h
  · omega
  · omega
  · omega
  · omega
  · exact ⟨h.1, h.2.1, h.2.2.1, h.2.2.2.1⟩
theorem zFlt_e {f a b d : Prop} {x : Int} (h : zFlt f a b d x) (h0 : x ≠ 0) (h5 : x ≠ -5) (h6 : x ≠ -6) : (x = -3 ∧ f) ∨ (x = -4 ∧ a) := by
  unfold zFlt at h
  rcases h with h | h | h | h | h
  · exact Or.inl ⟨h.2, h.1⟩
  · exact Or.inr ⟨h.2.2, h.2.1⟩
  · omega
  · omega
  · omega
set_option maxRecDepth 10000 in
set_option maxHeartbeats 2000000 in
theorem e_X8_nextWindow_l {d n sl : Nat} {S : zSh} {c : zC} (hS : zSok S) (hB : zBd c) (hr : 0 ≤ c 15 0 ∧ c 15 0 ≤ 30) {p s : Int} (hs : 0 ≤ s ∧ s ≤ 10079) : ∀ i : Int, i ≤ c 15 0 → ∀ x : Int, ∀ w5 : Option zV, (0 ≤ i) → (s < x ∧ x ≤ 10080) → (∀ r, 0 ≤ r → r < i → c 16 r = p → s < c 17 r → x ≤ c 17 r) → zE (d + 0) 73 7 [some (zA 8), some (zI p), some (zI s), some (zI x), some (zI i), w5] [] ((n, sl), (S, c)) (zRp (zNw c p s (c 15 0)) ((n, sl), (S, c))) := by
  refine zind _ (fun i ih hN => ?_)
  intro x w5 h0 hx hmin
  refine zl_ild4 I73_7 ?_
  refine zl_ald0 I73_9 ?_
  refine zr_getr (j := 0) I73_10 F8_12 rfl (sT8 hS) (sR8_0 hS) ?_
  refine zr_getr (j := 1) I73_13 F8_73 rfl (sT9 hS) (sR9_1 hS) ?_
  refine zr_giB (j := 0) hB (by decide) I73_16 F8_77 rfl (sT15 hS) (fun b16 => ?_)
  refine zr_ic_ge (t := 75) I73_19 rfl (fun h19 => ?_) (fun h19 => ?_)
  · refine zl_ild3 I73_75 ?_
    refine zr_iret I73_76 rfl ?_
    exact ⟨_, rfl, ⟨hx.1, hx.2, fun r r1 r2 r3 r4 => hmin r r1 (by omega) r3 r4⟩, rfl⟩
  · refine zl_ald0 I73_22 ?_
    refine zr_getr (j := 0) I73_23 F8_12 rfl (sT8 hS) (sR8_0 hS) ?_
    refine zr_getr (j := 1) I73_26 F8_73 rfl (sT9 hS) (sR9_1 hS) ?_
    refine zr_getr (j := 2) I73_29 F8_239 rfl (sT15 hS) (sR15_2 hS) ?_
    refine zl_ild4 I73_32 ?_
    refine zr_iaB hB (by decide) I73_34 (sT17 hS) (sN17 hS) (by omega) (fun b34 => ?_)
    refine zl_ist5 I73_35 ?_
    refine zl_ald0 I73_37 ?_
    refine zr_getr (j := 0) I73_38 F8_12 rfl (sT8 hS) (sR8_0 hS) ?_
    refine zr_getr (j := 1) I73_41 F8_73 rfl (sT9 hS) (sR9_1 hS) ?_
    refine zr_getr (j := 1) I73_44 F8_242 rfl (sT15 hS) (sR15_1 hS) ?_
    refine zl_ild4 I73_47 ?_
    refine zr_iaB hB (by decide) I73_49 (sT16 hS) (sN16 hS) (by omega) (fun b49 => ?_)
    refine zl_ild1 I73_50 ?_
    refine zr_ic_ne (t := 69) I73_51 rfl (fun h51 => ?_) (fun h51 => ?_)
    · refine zl_iinc4 I73_69 (by unfold zInR; omega) ?_
      refine zr_goto (t := 7) I73_72 rfl ?_
      refine ih _ (by omega) (by omega) _ _ (by omega) (by omega) (fun r r1 r2 r3 r4 => ?_)
      by_cases e9 : r = i
      · subst e9
        omega
      · have := hmin r r1 (by omega) r3 r4
        omega
    · refine zl_ild5 I73_54 ?_
      refine zl_ild2 I73_56 ?_
      refine zr_ic_le (t := 69) I73_57 rfl (fun h57 => ?_) (fun h57 => ?_)
      · refine zl_iinc4 I73_69 (by unfold zInR; omega) ?_
        refine zr_goto (t := 7) I73_72 rfl ?_
        refine ih _ (by omega) (by omega) _ _ (by omega) (by omega) (fun r r1 r2 r3 r4 => ?_)
        by_cases e9 : r = i
        · subst e9
          omega
        · have := hmin r r1 (by omega) r3 r4
          omega
      · refine zl_ild5 I73_60 ?_
        refine zl_ild3 I73_62 ?_
        refine zr_ic_ge (t := 69) I73_63 rfl (fun h63 => ?_) (fun h63 => ?_)
        · refine zl_iinc4 I73_69 (by unfold zInR; omega) ?_
          refine zr_goto (t := 7) I73_72 rfl ?_
          refine ih _ (by omega) (by omega) _ _ (by omega) (by omega) (fun r r1 r2 r3 r4 => ?_)
          by_cases e9 : r = i
          · subst e9
            omega
          · have := hmin r r1 (by omega) r3 r4
            omega
        · refine zl_ild5 I73_66 ?_
          refine zl_ist3 I73_68 ?_
          refine zl_iinc4 I73_69 (by unfold zInR; omega) ?_
          refine zr_goto (t := 7) I73_72 rfl ?_
          refine ih _ (by omega) (by omega) _ _ (by omega) (by omega) (fun r r1 r2 r3 r4 => ?_)
          by_cases e9 : r = i
          · subst e9
            omega
          · have := hmin r r1 (by omega) r3 r4
            omega
set_option maxRecDepth 10000 in
set_option maxHeartbeats 2000000 in
theorem e_X8_nextWindow {d n sl : Nat} {S : zSh} {c : zC} (hS : zSok S) (hB : zBd c) (hr : 0 ≤ c 15 0 ∧ c 15 0 ≤ 30) {p s : Int} (hs : 0 ≤ s ∧ s ≤ 10079) : zE (d + 0) 73 0 (zent 73 [zA 8, zI p, zI s]) [] ((n, sl), (S, c)) (zRp (zNw c p s (c 15 0)) ((n, sl), (S, c))) := by
  show zE (d + 0) 73 0 [some (zA 8), some (zI p), some (zI s), none, none, none] [] ((n, sl), (S, c)) _
  refine zr_sipush I73_0 ?_
  refine zl_ist3 I73_3 ?_
  refine zr_iconst I73_4 ?_
  refine zl_ist4 I73_5 ?_
  exact e_X8_nextWindow_l hS hB hr hs 0 (by omega) _ _ (by omega) (by omega) (fun r r1 r2 => absurd r1 (by omega))
set_option maxRecDepth 10000 in
set_option maxHeartbeats 2000000 in
theorem e_X8_nextToTry {d n sl : Nat} {S : zSh} {c : zC} (hS : zSok S) (hB : zBd c) (hc : 0 ≤ c 24 0 ∧ c 24 0 ≤ 60) (hit : ∀ i, 0 ≤ i → i < c 24 0 → 0 ≤ c 25 i ∧ c 25 i < 16 ∧ 0 ≤ c 26 i ∧ c 26 i ≤ 20000 ∧ 0 ≤ c 27 i ∧ c 27 i ≤ 20000) (hr : 0 ≤ c 15 0 ∧ c 15 0 ≤ 30) (hpl : ∀ r, 0 ≤ r → r < c 15 0 → 0 ≤ c 19 r ∧ c 19 r ≤ 50) (hbl : ∀ j, 0 ≤ j → j < c 20 0 → 0 ≤ c 21 j ∧ c 21 j < c 22 j ∧ c 22 j ≤ 1440) (hn : 0 ≤ c 20 0 ∧ c 20 0 ≤ 10) {p s x : Int} (hpp : 0 ≤ p ∧ p < c 10 0 ∧ c 10 0 ≤ 16) (hln : 1 ≤ c 12 p ∧ c 12 p ≤ 240) (hs : 0 ≤ s ∧ s ≤ 10079) (hRt : zRtH c p) (hob : zObs c p s x) (hx0 : x ≠ 0) : zE (d + 2) 72 0 (zent 72 [zA 8, zI p, zI s, zI x]) [] ((n, sl), (S, c)) (zRp (zSkp c p s) ((n, sl), (S, c))) := by
  show zE (d + 2) 72 0 [some (zA 8), some (zI p), some (zI s), some (zI x), none, none] [] ((n, sl), (S, c)) _
  have hl9 := hln
  refine zl_ild2 I72_0 ?_
  refine zl_ald0 I72_1 ?_
  refine zr_getr (j := 0) I72_2 F8_12 rfl (sT8 hS) (sR8_0 hS) ?_
  refine zr_getr (j := 0) I72_5 F8_48 rfl (sT9 hS) (sR9_0 hS) ?_
  refine zr_getr (j := 2) I72_8 F8_130 rfl (sT10 hS) (sR10_2 hS) ?_
  refine zl_ild1 I72_11 ?_
  refine zr_iaB hB (by decide) I72_12 (sT12 hS) (sN12 hS) (by omega) (fun b12 => ?_)
  refine zr_iadd I72_13 (by unfold zInR; omega) ?_
  refine zl_ist4 I72_14 ?_
  refine zl_ild3 I72_16 ?_
  refine zr_bipush I72_17 ?_
  refine zr_ic_ne (t := 29) I72_19 rfl (fun h19 => ?_) (fun h19 => ?_)
  · refine zl_ild3 I72_29 ?_
    refine zr_bipush I72_30 ?_
    refine zr_ic_ne (t := 61) I72_32 rfl (fun h32 => ?_) (fun h32 => ?_)
    · refine zl_ald0 I72_61 ?_
      refine zr_getr (j := 0) I72_62 F8_12 rfl (sT8 hS) (sR8_0 hS) ?_
      refine zr_getr (j := 3) I72_65 F8_102 rfl (sT9 hS) (sR9_3 hS) ?_
      refine zl_ild2 I72_68 ?_
      refine zl_ild4 I72_69 ?_
      refine zr_callV I72_71 C8_119 ⟨rfl, rfl⟩ ⟨rfl, Nat.le_of_ble_eq_true rfl⟩ (Or.inl ⟨rfl, sT24 hS⟩) (e_X3_firstIn hS hB hc) (fun v71 μ71 hv71 => ?_)
      obtain ⟨x71, rfl, hx71, rfl⟩ := hv71
      dsimp only [Option.toList, List.cons_append, List.nil_append]
      refine zl_ist5 I72_74 ?_
      refine zl_ild3 I72_76 ?_
      refine zr_bipush I72_77 ?_
      refine zr_ic_eq (t := 89) I72_79 rfl (fun h79 => ?_) (fun h79 => ?_)
      · refine zr_sipush I72_89 ?_
        refine zr_goto (t := 107) I72_92 rfl ?_
        refine zr_iret I72_107 rfl ?_
        rcases zFlt_e hob hx0 h19 h32 with ⟨e1, e2⟩ | ⟨e1, e2⟩
        · refine ⟨_, rfl, ⟨by omega, by omega, fun t t1 t2 t3 h9 => (zFlt_0 h9).1 e2⟩, rfl⟩
        · omega
      · refine zl_ild5 I72_82 ?_
        refine zr_bipush I72_84 ?_
        refine zr_ic_ne (t := 95) I72_86 rfl (fun h86 => ?_) (fun h86 => ?_)
        · refine zl_ald0 I72_95 ?_
          refine zr_getr (j := 0) I72_96 F8_12 rfl (sT8 hS) (sR8_0 hS) ?_
          refine zr_getr (j := 3) I72_99 F8_102 rfl (sT9 hS) (sR9_3 hS) ?_
          refine zl_ild5 I72_102 ?_
          refine zr_callV I72_104 C8_137 ⟨rfl, rfl⟩ ⟨rfl, Nat.le_of_ble_eq_true rfl⟩ (Or.inl ⟨rfl, sT24 hS⟩) (e_X3_end hS hB (by have e3 := (zFst_hit hx71).2.resolve_left h86; omega)) (fun v104 μ104 hv104 => ?_)
          obtain ⟨rfl, rfl⟩ := hv104
          dsimp only [Option.toList, List.cons_append, List.nil_append]
          refine zr_iret I72_107 rfl ?_
          have e3 := (zFst_hit hx71).2.resolve_left h86
          have h26 := hB 26 x71 (by decide)
          have h27 := hB 27 x71 (by decide)
          have hi9 := hit x71 (by omega) (by omega)
          exact ⟨_, rfl, ⟨by omega, by omega, fun t t1 t2 t3 h9 => (zFlt_0 h9).2.1 (Or.inr ⟨x71, e3.1, e3.2.1, by omega, by omega⟩)⟩, rfl⟩
        · refine zr_sipush I72_89 ?_
          refine zr_goto (t := 107) I72_92 rfl ?_
          refine zr_iret I72_107 rfl ?_
          rcases zFlt_e hob hx0 h19 h32 with ⟨e1, e2⟩ | ⟨e1, e2⟩
          · refine ⟨_, rfl, ⟨by omega, by omega, fun t t1 t2 t3 h9 => (zFlt_0 h9).1 e2⟩, rfl⟩
          · have e3 := (zFst_hit hx71).1
            have e4 := e2.resolve_right (e3.mp h86)
            exact ⟨_, rfl, ⟨by omega, by omega, fun t t1 t2 t3 h9 => (zFlt_0 h9).2.1 (Or.inl (by omega))⟩, rfl⟩
    · refine zl_ald0 I72_35 ?_
      refine zr_getr (j := 0) I72_36 F8_12 rfl (sT8 hS) (sR8_0 hS) ?_
      refine zr_getr (j := 2) I72_39 F8_83 rfl (sT9 hS) (sR9_2 hS) ?_
      refine zl_ald0 I72_42 ?_
      refine zr_getr (j := 0) I72_43 F8_12 rfl (sT8 hS) (sR8_0 hS) ?_
      refine zr_getr (j := 0) I72_46 F8_48 rfl (sT9 hS) (sR9_0 hS) ?_
      refine zr_getr (j := 3) I72_49 F8_182 rfl (sT10 hS) (sR10_3 hS) ?_
      refine zl_ild1 I72_52 ?_
      refine zr_iaB hB (by decide) I72_53 (sT13 hS) (sN13 hS) (by omega) (fun b53 => ?_)
      refine zl_ild2 I72_54 ?_
      refine zl_ild4 I72_55 ?_
      refine zr_callV I72_57 C8_185 ⟨rfl, rfl⟩ ⟨rfl, Nat.le_of_ble_eq_true rfl⟩ (Or.inl ⟨rfl, sT20 hS⟩) (e_X0_darkUntil hS hB hbl hn (by omega) (by omega)) (fun v57 μ57 hv57 => ?_)
      obtain ⟨x57, rfl, hx57, rfl⟩ := hv57
      dsimp only [Option.toList, List.cons_append, List.nil_append]
      refine zr_iret I72_60 rfl ?_
      have hd9 := zFlt_dk hob h32
      refine ⟨_, rfl, ?_, rfl⟩
      rcases hx57 with ⟨_, h9⟩ | ⟨j, m, j1, j2, j3, m1, m2, m3, m4, m5⟩
      · exact absurd hd9 h9
      · have hb9 := hbl j j1 j2
        refine ⟨by omega, by omega, fun t t1 t2 t3 h9 => (zFlt_0 h9).2.2.2 ?_⟩
        exact ⟨j, max t (m + c 21 j), j1, j2, j3, by omega, by omega, by omega, by omega⟩
  · refine zl_ald0 I72_22 ?_
    refine zl_ild1 I72_23 ?_
    refine zl_ild2 I72_24 ?_
    refine zr_callV I72_25 C8_236 ⟨rfl, rfl⟩ ⟨rfl, Nat.le_of_ble_eq_true rfl⟩ (Or.inl ⟨rfl, sT8 hS⟩) (e_X8_nextWindow hS hB hr hs) (fun v25 μ25 hv25 => ?_)
    obtain ⟨x25, rfl, hx25, rfl⟩ := hv25
    dsimp only [Option.toList, List.cons_append, List.nil_append]
    refine zr_iret I72_28 rfl ?_
    refine ⟨_, rfl, ⟨hx25.1, by have := hx25.2.1; omega, fun t t1 t2 t3 => hRt s t hs.1 t1 t3 (h19 ▸ hob) (fun r r1 r2 r3 r4 => by have := hx25.2.2 r r1 r2 r3 r4; omega)⟩, rfl⟩
set_option maxRecDepth 10000 in
set_option maxHeartbeats 2000000 in
theorem e_X8_earliestStart_l {d n sl : Nat} {S : zSh} {c : zC} (hS : zSok S) (hc : 0 ≤ c 24 0 ∧ c 24 0 ≤ 60) (hit : ∀ i, 0 ≤ i → i < c 24 0 → 0 ≤ c 25 i ∧ c 25 i < 16 ∧ 0 ≤ c 26 i ∧ c 26 i ≤ 20000 ∧ 0 ≤ c 27 i ∧ c 27 i ≤ 20000) (hr : 0 ≤ c 15 0 ∧ c 15 0 ≤ 30) (hpl : ∀ r, 0 ≤ r → r < c 15 0 → 0 ≤ c 19 r ∧ c 19 r ≤ 50) (hbl : ∀ j, 0 ≤ j → j < c 20 0 → 0 ≤ c 21 j ∧ c 21 j < c 22 j ∧ c 22 j ≤ 1440) (hn : 0 ≤ c 20 0 ∧ c 20 0 ≤ 10) {p a : Int} (hpp : 0 ≤ p ∧ p < c 10 0 ∧ c 10 0 ≤ 16) (hln : 1 ≤ c 12 p ∧ c 12 p ≤ 240) (hRt : zRtH c p) (ha : 0 ≤ a ∧ a ≤ 10079) : ∀ i : Int, i ≤ 1440 → ∀ s : Int, ∀ c1 : zC, ∀ w6 : Option zV, (0 ≤ i) → (a + i ≤ s ∧ s ≤ 40000) → (∀ j, a ≤ j → j < s → j ≤ 10079 → ¬ zObs c p j 0) → (∀ r, (r < 131 ∨ 136 < r) → c1 r = c r) → (zBd c1) → zE (d + 5) 71 20 [some (zA 8), some (zI p), some (zI a), some (zI (if 10079 < a + 1440 - 1 then 10079 else a + 1440 - 1)), some (zI s), some (zI i), w6] [] ((n, sl), (S, c1)) (fun r μ' => ∃ (x : Int) (c' : zC), r = some (zI x) ∧ μ' = ((n, sl), (S, c')) ∧ zErlX c p a x ∧ (∀ r, (r < 131 ∨ 136 < r) → c' r = c r) ∧ zBd c') := by
  refine zind _ (fun i ih hN => ?_)
  intro s c1 w6 h0 hs hno hfr hBd
  refine zl_ild5 I71_20 ?_
  refine zr_sipush I71_22 ?_
  refine zr_ic_ge (t := 68) I71_25 rfl (fun h25 => ?_) (fun h25 => ?_)
  · refine zr_bipush I71_68 ?_
    refine zr_iret I71_70 rfl ?_
    exact ⟨_, _, rfl, rfl, Or.inl ⟨rfl, fun j j1 j2 j3 => hno j j1 (by omega) (by omega)⟩, hfr, hBd⟩
  · refine zl_ild4 I71_28 ?_
    refine zl_ild3 I71_30 ?_
    refine zr_ic_gt (t := 68) I71_31 rfl (fun h31 => ?_) (fun h31 => ?_)
    · refine zr_bipush I71_68 ?_
      refine zr_iret I71_70 rfl ?_
      exact ⟨_, _, rfl, rfl, Or.inl ⟨rfl, fun j j1 j2 j3 => hno j j1 (by omega) (by omega)⟩, hfr, hBd⟩
    · refine zl_ald0 I71_34 ?_
      refine zl_ild1 I71_35 ?_
      refine zl_ild4 I71_36 ?_
      refine zr_callV I71_38 C8_165 ⟨rfl, rfl⟩ ⟨rfl, Nat.le_of_ble_eq_true rfl⟩ (Or.inl ⟨rfl, sT8 hS⟩) (e_X8_obstacle hS hBd (by rw [hfr 24 (by decide)]; exact hc) (by rw [hfr 24 (by decide), hfr 25 (by decide), hfr 26 (by decide), hfr 27 (by decide)]; exact hit) (by rw [hfr 15 (by decide)]; exact hr) (by rw [hfr 15 (by decide), hfr 19 (by decide)]; exact hpl) (by rw [hfr 20 (by decide), hfr 21 (by decide), hfr 22 (by decide)]; exact hbl) (by rw [hfr 20 (by decide)]; exact hn) (by rw [hfr 10 (by decide)]; exact hpp) (by rw [hfr 12 (by decide)]; exact hln) (by omega)) (fun v38 μ38 hv38 => ?_)
      obtain ⟨x38, c38, rfl, rfl, hob38, hf38, hB38⟩ := hv38
      rw [zObs_c hfr] at hob38
      replace hf38 : ∀ r, (r < 131 ∨ 136 < r) → c38 r = c r := fun r hr => (hf38 r hr).trans (hfr r hr)
      dsimp only [Option.toList, List.cons_append, List.nil_append]
      refine zl_ist6 I71_41 ?_
      refine zl_ild6 I71_43 ?_
      refine zr_if_ne (t := 51) I71_45 rfl (fun h45 => ?_) (fun h45 => ?_)
      · refine zl_ald0 I71_51 ?_
        refine zl_ild1 I71_52 ?_
        refine zl_ild4 I71_53 ?_
        refine zl_ild6 I71_55 ?_
        refine zr_callV I71_57 C8_233 ⟨rfl, rfl⟩ ⟨rfl, Nat.le_of_ble_eq_true rfl⟩ (Or.inl ⟨rfl, sT8 hS⟩) (e_X8_nextToTry hS hB38 (by rw [hf38 24 (by decide)]; exact hc) (by rw [hf38 24 (by decide), hf38 25 (by decide), hf38 26 (by decide), hf38 27 (by decide)]; exact hit) (by rw [hf38 15 (by decide)]; exact hr) (by rw [hf38 15 (by decide), hf38 19 (by decide)]; exact hpl) (by rw [hf38 20 (by decide), hf38 21 (by decide), hf38 22 (by decide)]; exact hbl) (by rw [hf38 20 (by decide)]; exact hn) (by rw [hf38 10 (by decide)]; exact hpp) (by rw [hf38 12 (by decide)]; exact hln) (by omega) (zRtH_c hf38 hRt) (by rw [zObs_c hf38]; exact hob38) h45) (fun v57 μ57 hv57 => ?_)
        obtain ⟨x57, rfl, hx57, rfl⟩ := hv57
        unfold zSkp at hx57
        simp only [zObs_c hf38] at hx57
        dsimp only [Option.toList, List.cons_append, List.nil_append]
        refine zl_ist4 I71_60 ?_
        refine zl_iinc5 I71_62 (by unfold zInR; omega) ?_
        refine zr_goto (t := 20) I71_65 rfl ?_
        refine ih _ (by omega) (by omega) _ _ _ (by omega) (by omega) (fun j j1 j2 j3 => ?_) hf38 hB38
        rcases Int.lt_trichotomy j s with h9 | h9 | h9
        · exact hno j j1 h9 j3
        · rw [h9]
          exact fun h8 => h45 (zFlt_u hob38 h8)
        · exact hx57.2.2 j h9 j2 j3
      · refine zl_ild4 I71_48 ?_
        refine zr_iret I71_50 rfl ?_
        exact ⟨_, _, rfl, rfl, Or.inr ⟨by omega, by omega, by omega, h45 ▸ hob38, fun j j1 j2 => hno j j1 j2 (by omega)⟩, hf38, hB38⟩
set_option maxRecDepth 10000 in
set_option maxHeartbeats 2000000 in
theorem e_X8_earliestStart {d n sl : Nat} {S : zSh} {c : zC} (hS : zSok S) (hB : zBd c) (hc : 0 ≤ c 24 0 ∧ c 24 0 ≤ 60) (hit : ∀ i, 0 ≤ i → i < c 24 0 → 0 ≤ c 25 i ∧ c 25 i < 16 ∧ 0 ≤ c 26 i ∧ c 26 i ≤ 20000 ∧ 0 ≤ c 27 i ∧ c 27 i ≤ 20000) (hr : 0 ≤ c 15 0 ∧ c 15 0 ≤ 30) (hpl : ∀ r, 0 ≤ r → r < c 15 0 → 0 ≤ c 19 r ∧ c 19 r ≤ 50) (hbl : ∀ j, 0 ≤ j → j < c 20 0 → 0 ≤ c 21 j ∧ c 21 j < c 22 j ∧ c 22 j ≤ 1440) (hn : 0 ≤ c 20 0 ∧ c 20 0 ≤ 10) {p a : Int} (hpp : 0 ≤ p ∧ p < c 10 0 ∧ c 10 0 ≤ 16) (hln : 1 ≤ c 12 p ∧ c 12 p ≤ 240) (hRt : zRtH c p) (ha : 0 ≤ a ∧ a ≤ 10079) : zE (d + 5) 71 0 (zent 71 [zA 8, zI p, zI a]) [] ((n, sl), (S, c)) (fun r μ' => ∃ (x : Int) (c' : zC), r = some (zI x) ∧ μ' = ((n, sl), (S, c')) ∧ zErlX c p a x ∧ (∀ r, (r < 131 ∨ 136 < r) → c' r = c r) ∧ zBd c') := by
  show zE (d + 5) 71 0 [some (zA 8), some (zI p), some (zI a), none, none, none, none] [] ((n, sl), (S, c)) _
  refine zl_ild2 I71_0 ?_
  refine zr_sipush I71_1 ?_
  refine zr_iadd I71_4 (by unfold zInR; omega) ?_
  refine zr_iconst I71_5 ?_
  refine zr_isub I71_6 (by unfold zInR; omega) ?_
  refine zr_sipush I71_7 ?_
  refine zr_min I71_10 C8_171 (Nat.le_of_ble_eq_true rfl) ?_
  refine zl_ist3 I71_13 ?_
  refine zl_ild2 I71_14 ?_
  refine zl_ist4 I71_15 ?_
  refine zr_iconst I71_17 ?_
  refine zl_ist5 I71_18 ?_
  refine e_X8_earliestStart_l hS hc hit hr hpl hbl hn hpp hln hRt ha 0 (by omega) a c _ (by omega) (by omega) (fun j j1 j2 => absurd j1 (by omega)) (fun r _ => rfl) hB
set_option maxRecDepth 10000 in
set_option maxHeartbeats 2000000 in
theorem e_X8_earliest {d n sl : Nat} {S : zSh} {c : zC} (hS : zSok S) (hB : zBd c) (hc : 0 ≤ c 24 0 ∧ c 24 0 ≤ 60) (hit : ∀ i, 0 ≤ i → i < c 24 0 → 0 ≤ c 25 i ∧ c 25 i < 16 ∧ 0 ≤ c 26 i ∧ c 26 i ≤ 20000 ∧ 0 ≤ c 27 i ∧ c 27 i ≤ 20000) (hr : 0 ≤ c 15 0 ∧ c 15 0 ≤ 30) (hpl : ∀ r, 0 ≤ r → r < c 15 0 → 0 ≤ c 19 r ∧ c 19 r ≤ 50) (hbl : ∀ j, 0 ≤ j → j < c 20 0 → 0 ≤ c 21 j ∧ c 21 j < c 22 j ∧ c 22 j ≤ 1440) (hn : 0 ≤ c 20 0 ∧ c 20 0 ≤ 10) (hpq : 0 ≤ c 10 0 ∧ c 10 0 ≤ 16) (hln : ∀ p, 0 ≤ p → p < c 10 0 → 1 ≤ c 12 p ∧ c 12 p ≤ 240) (hRa : ∀ p, 0 ≤ p → p < c 10 0 → zRtH c p) {p a : Int} : zE (d + 6) 45 0 (zent 45 [zA 8, zI p, zI a]) [] ((n, sl), (S, c)) (fun r μ' => ∃ (x : Int) (c' : zC), r = some (zI x) ∧ μ' = ((n, sl), (S, c')) ∧ ((¬ ((0 ≤ p ∧ p < c 10 0) ∧ (0 ≤ a ∧ a ≤ 10079)) ∧ x = -1 ∧ c' = c) ∨ (((0 ≤ p ∧ p < c 10 0) ∧ (0 ≤ a ∧ a ≤ 10079)) ∧ zErlX c p a x ∧ (∀ r, (r < 131 ∨ 136 < r) → c' r = c r) ∧ zBd c'))) := by
  show zE (d + 6) 45 0 [some (zA 8), some (zI p), some (zI a)] [] ((n, sl), (S, c)) _
  refine zl_ald0 I45_0 ?_
  refine zl_ild1 I45_1 ?_
  refine zr_callV I45_2 C8_66 ⟨rfl, rfl⟩ ⟨rfl, Nat.le_of_ble_eq_true rfl⟩ (Or.inl ⟨rfl, sT8 hS⟩) (e_X8_isProgramme hS hB) (fun v2 μ2 hv2 => ?_)
  obtain ⟨x2, rfl, hx2, rfl⟩ := hv2
  dsimp only [Option.toList, List.cons_append, List.nil_append]
  unfold zTf at hx2
  refine zr_if_eq (t := 15) I45_5 rfl (fun h5 => ?_) (fun h5 => ?_)
  · refine zr_iconst I45_15 ?_
    refine zr_iret I45_16 rfl ?_
    exact ⟨_, _, rfl, rfl, Or.inl ⟨by omega, rfl, rfl⟩⟩
  · refine zl_ild2 I45_8 ?_
    refine zr_callS I45_9 C8_113 ⟨rfl, rfl⟩ ⟨by simp, rfl, Nat.le_of_ble_eq_true rfl⟩ (e_X8_isTime ) (fun v9 μ9 hv9 => ?_)
    obtain ⟨x9, rfl, hx9, rfl⟩ := hv9
    dsimp only [Option.toList, List.cons_append, List.nil_append]
    unfold zTf at hx9
    refine zr_if_ne (t := 17) I45_12 rfl (fun h12 => ?_) (fun h12 => ?_)
    · refine zl_ald0 I45_17 ?_
      refine zl_ild1 I45_18 ?_
      refine zl_ild2 I45_19 ?_
      refine zr_callV I45_20 C8_116 ⟨rfl, rfl⟩ ⟨rfl, Nat.le_of_ble_eq_true rfl⟩ (Or.inl ⟨rfl, sT8 hS⟩) (e_X8_earliestStart hS hB hc hit hr hpl hbl hn (by omega) (hln p (by omega) (by omega)) (hRa p (by omega) (by omega)) (by omega)) (fun v20 μ20 hv20 => ?_)
      obtain ⟨x20, c20, rfl, rfl, her, hf9, hB9⟩ := hv20
      dsimp only [Option.toList, List.cons_append, List.nil_append]
      refine zr_iret I45_23 rfl ?_
      exact ⟨_, _, rfl, rfl, Or.inr ⟨by omega, her, hf9, hB9⟩⟩
    · refine zr_iconst I45_15 ?_
      refine zr_iret I45_16 rfl ?_
      exact ⟨_, _, rfl, rfl, Or.inl ⟨by omega, rfl, rfl⟩⟩
set_option maxRecDepth 10000 in
set_option maxHeartbeats 2000000 in
theorem e_X8_makeGood {d n sl : Nat} {S : zSh} {c : zC} (hS : zSok S) (hB : zBd c) (hc : 0 ≤ c 24 0 ∧ c 24 0 ≤ 60) (hit : ∀ i, 0 ≤ i → i < c 24 0 → 0 ≤ c 25 i ∧ c 25 i < 16 ∧ 0 ≤ c 26 i ∧ c 26 i ≤ 20000 ∧ 0 ≤ c 27 i ∧ c 27 i ≤ 20000) (hr : 0 ≤ c 15 0 ∧ c 15 0 ≤ 30) (hpl : ∀ r, 0 ≤ r → r < c 15 0 → 0 ≤ c 19 r ∧ c 19 r ≤ 50) (hbl : ∀ j, 0 ≤ j → j < c 20 0 → 0 ≤ c 21 j ∧ c 21 j < c 22 j ∧ c 22 j ≤ 1440) (hn : 0 ≤ c 20 0 ∧ c 20 0 ≤ 10) (hpq : 0 ≤ c 10 0 ∧ c 10 0 ≤ 16) (hln : ∀ p, 0 ≤ p → p < c 10 0 → 1 ≤ c 12 p ∧ c 12 p ≤ 240) (hRa : ∀ p, 0 ≤ p → p < c 10 0 → zRtH c p) (hk : 0 ≤ c 29 0 ∧ c 29 0 ≤ 5) (ho : 0 ≤ c 29 1 ∧ c 29 1 ≤ 4) (hcn : zCnW c 9) {p a : Int} : zE (d + 6) 48 0 (zent 48 [zA 8, zI p, zI a]) [] ((n, sl), (S, c)) (fun r μ' => ∃ (x : Int) (c' : zC), r = some (zI x) ∧ μ' = ((n, sl), (S, c')) ∧ ((¬ ((0 ≤ p ∧ p < c 10 0) ∧ (0 ≤ a ∧ a ≤ 10079)) ∧ x = -1 ∧ c' = c) ∨ (((0 ≤ p ∧ p < c 10 0) ∧ (0 ≤ a ∧ a ≤ 10079)) ∧ c 14 p ≤ 0 ∧ x = -2 ∧ c' = c) ∨ (((0 ≤ p ∧ p < c 10 0) ∧ (0 ≤ a ∧ a ≤ 10079)) ∧ 0 < c 14 p ∧ ∃ (y : Int) (c1 : zC), zErlX c p a y ∧ (∀ r, (r < 131 ∨ 136 < r) → c1 r = c r) ∧ zBd c1 ∧ ((y = -9 ∧ x = -9 ∧ c' = c1) ∨ (y ≠ -9 ∧ x = y ∧ ∃ c2 c3 : zC, zKpt c1 c2 ∧ zIns c2 c3 (zSum (fun j => if c 26 j < y then 1 else 0) (c 24 0)) p y (c 12 p) 0 ∧ c' = zup c3 14 p (c 14 p - 1)))))) := by
  show zE (d + 6) 48 0 [some (zA 8), some (zI p), some (zI a), none] [] ((n, sl), (S, c)) _
  refine zl_ald0 I48_0 ?_
  refine zl_ild1 I48_1 ?_
  refine zr_callV I48_2 C8_66 ⟨rfl, rfl⟩ ⟨rfl, Nat.le_of_ble_eq_true rfl⟩ (Or.inl ⟨rfl, sT8 hS⟩) (e_X8_isProgramme hS hB) (fun v2 μ2 hv2 => ?_)
  obtain ⟨x2, rfl, hx2, rfl⟩ := hv2
  dsimp only [Option.toList, List.cons_append, List.nil_append]
  unfold zTf at hx2
  refine zr_if_eq (t := 15) I48_5 rfl (fun h5 => ?_) (fun h5 => ?_)
  · refine zr_iconst I48_15 ?_
    refine zr_iret I48_16 rfl ?_
    exact ⟨_, _, rfl, rfl, Or.inl ⟨by omega, rfl, rfl⟩⟩
  · refine zl_ild2 I48_8 ?_
    refine zr_callS I48_9 C8_113 ⟨rfl, rfl⟩ ⟨by simp, rfl, Nat.le_of_ble_eq_true rfl⟩ (e_X8_isTime ) (fun v9 μ9 hv9 => ?_)
    obtain ⟨x9, rfl, hx9, rfl⟩ := hv9
    dsimp only [Option.toList, List.cons_append, List.nil_append]
    unfold zTf at hx9
    refine zr_if_ne (t := 17) I48_12 rfl (fun h12 => ?_) (fun h12 => ?_)
    · refine zl_ald0 I48_17 ?_
      refine zr_getr (j := 0) I48_18 F8_12 rfl (sT8 hS) (sR8_0 hS) ?_
      refine zr_getr (j := 0) I48_21 F8_48 rfl (sT9 hS) (sR9_0 hS) ?_
      refine zr_getr (j := 4) I48_24 F8_144 rfl (sT10 hS) (sR10_4 hS) ?_
      refine zl_ild1 I48_27 ?_
      refine zr_iaB hB (by decide) I48_28 (sT14 hS) (sN14 hS) (by omega) (fun b28 => ?_)
      refine zr_if_gt (t := 35) I48_29 rfl (fun h29 => ?_) (fun h29 => ?_)
      · refine zl_ald0 I48_35 ?_
        refine zl_ild1 I48_36 ?_
        refine zl_ild2 I48_37 ?_
        refine zr_callV I48_38 C8_116 ⟨rfl, rfl⟩ ⟨rfl, Nat.le_of_ble_eq_true rfl⟩ (Or.inl ⟨rfl, sT8 hS⟩) (e_X8_earliestStart hS hB hc hit hr hpl hbl hn (by omega) (hln p (by omega) (by omega)) (hRa p (by omega) (by omega)) (by omega)) (fun v38 μ38 hv38 => ?_)
        obtain ⟨x38, c38, rfl, rfl, her, hf9, hB9⟩ := hv38
        dsimp only [Option.toList, List.cons_append, List.nil_append]
        refine zl_ist3 I48_41 ?_
        refine zl_ild3 I48_42 ?_
        refine zr_bipush I48_43 ?_
        refine zr_ic_ne (t := 51) I48_45 rfl (fun h45 => ?_) (fun h45 => ?_)
        · have her2 : a ≤ x38 ∧ x38 ≤ 10079 ∧ zObs c p x38 0 := by
            rcases her with ⟨h1, -⟩ | ⟨h1, h2, h3, h4, h5⟩
            · omega
            · exact ⟨h1, by omega, h4⟩
          have hn0 := zObs_0 her2.2.2
          have hx3 := her2.2.1
          have hx4 := her2.1
          have e29 := hf9 29 (by decide)
          refine zl_ald0 I48_51 ?_
          refine zr_getr (j := 1) I48_52 F8_19 rfl (sT8 hS) (sR8_1 hS) ?_
          refine zl_ald0 I48_55 ?_
          refine zr_getr (j := 0) I48_56 F8_12 rfl (sT8 hS) (sR8_0 hS) ?_
          refine zr_callV I48_59 C8_58 ⟨rfl, rfl⟩ ⟨rfl, Nat.le_of_ble_eq_true rfl⟩ (Or.inl ⟨rfl, sT29 hS⟩) (e_X2_keep hS hB9 (by rw [e29]; exact hk) (by rw [e29]; exact ho) ⟨by rw [hf9 (9 + 1) (by decide)]; exact hcn.1, by rw [hf9 (9 + 6) (by decide)]; exact hcn.2.1, by rw [hf9 (9 + 11) (by decide)]; exact hcn.2.2.1, by rw [hf9 (9 + 15) (by decide)]; exact hcn.2.2.2⟩) (fun v59 μ59 hv59 => ?_)
          obtain ⟨c59, rfl, rfl, hc59⟩ := hv59
          dsimp only [Option.toList, List.cons_append, List.nil_append]
          have hkp : zKpt c38 c59 := hc59
          have fr := zKpt_fr hkp (by rw [e29]; exact hk)
          have e24 : c59 24 = c 24 := (fr.1 24 (by decide) (by decide)).trans (hf9 24 (by decide))
          have e26 : c59 26 = c 26 := (fr.1 26 (by decide) (by decide)).trans (hf9 26 (by decide))
          have e12 : c59 12 = c 12 := (fr.1 12 (by decide) (by decide)).trans (hf9 12 (by decide))
          have e14 : c59 14 = c 14 := (fr.1 14 (by decide) (by decide)).trans (hf9 14 (by decide))
          refine zl_ald0 I48_62 ?_
          refine zl_ild1 I48_63 ?_
          refine zl_ild3 I48_64 ?_
          refine zr_iconst I48_65 ?_
          refine zr_callV I48_66 C8_95 ⟨rfl, rfl⟩ ⟨rfl, Nat.le_of_ble_eq_true rfl⟩ (Or.inl ⟨rfl, sT8 hS⟩) (e_X8_putOnAir hS fr.2 (by rw [e24]; omega) (by omega) (by omega)) (fun v66 μ66 hv66 => ?_)
          obtain ⟨c66, rfl, rfl, hv66⟩ := hv66
          rw [e24, e26, e12, if_pos rfl] at hv66
          rw [e24, e26]
          dsimp only [Option.toList, List.cons_append, List.nil_append]
          refine zr_pop I48_69 ?_
          refine zl_ald0 I48_70 ?_
          refine zr_getr (j := 0) I48_71 F8_12 rfl (sT8 hS) (sR8_0 hS) ?_
          refine zr_getr (j := 0) I48_74 F8_48 rfl (sT9 hS) (sR9_0 hS) ?_
          refine zr_getr (j := 4) I48_77 F8_144 rfl (sT10 hS) (sR10_4 hS) ?_
          refine zl_ild1 I48_80 ?_
          refine zr_dup2 I48_81 ?_
          refine zr_iald I48_82 (sT14 hS) (sN14 hS) (by omega) ?_
          rw [show c66 14 = c 14 from (hv66.2.2.1 14 (by decide)).trans e14]
          refine zr_iconst I48_83 ?_
          refine zr_isub I48_84 (by unfold zInR; omega) ?_
          refine zr_iast I48_85 (sT14 hS) (sN14 hS) (by omega) ?_
          refine zl_ild3 I48_86 ?_
          refine zr_iret I48_87 rfl ?_
          exact ⟨_, _, rfl, rfl, Or.inr (Or.inr ⟨by omega, by omega, x38, c38, her, hf9, hB9, Or.inr ⟨h45, rfl, c59, c66, hkp, hv66, rfl⟩⟩)⟩
        · refine zr_bipush I48_48 ?_
          refine zr_iret I48_50 rfl ?_
          exact ⟨_, _, rfl, rfl, Or.inr (Or.inr ⟨by omega, by omega, x38, c38, her, hf9, hB9, Or.inl ⟨h45, rfl, rfl⟩⟩)⟩
      · refine zr_bipush I48_32 ?_
        refine zr_iret I48_34 rfl ?_
        exact ⟨_, _, rfl, rfl, Or.inr (Or.inl ⟨by omega, by omega, rfl, rfl⟩)⟩
    · refine zr_iconst I48_15 ?_
      refine zr_iret I48_16 rfl ?_
      exact ⟨_, _, rfl, rfl, Or.inl ⟨by omega, rfl, rfl⟩⟩
