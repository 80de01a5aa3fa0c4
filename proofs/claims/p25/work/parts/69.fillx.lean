/-! the class: fill -/
def zFnd (c c' : zC) (a z x : Int) (s : List Int) : Prop := ∃ (c2 : zC) (fb : Int), (c2 137 1 = a ∧ c2 137 2 = z - a) ∧ (∃ i, zFind (c 24 0) (c 26) z i ∧ zFo c i (c2 137 3)) ∧ (∃ i, zFind (c 24 0) (fun j => c 26 j + c 27 j) a i ∧ zFo c i fb) ∧ (∀ t, 0 ≤ t → t < z - a → zSt c2 t) ∧ ((zChs c2 s 0 fb ∧ x = s.length ∧ ∀ (k : Nat) (y : Int), s[k]? = some y → c' 138 k = y) ∨ (zChN c2 s 0 fb ∧ x = -9)) ∧ (∀ r, r ≠ 138 → c' r = c2 r) ∧ (∀ r, (r < 137 ∨ 142 < r) → c2 r = c r) ∧ zBd c'
def zPs : List Int → zC → Int → zC → Prop
  | [], c, _, c' => c' = c
  | q :: r, c, t, c' => ∃ c1, zIns c c1 (zSum (fun j => if c 26 j < t then 1 else 0) (c 24 0)) q t (c 12 q) 0 ∧ zPs r c1 (t + c 12 q) c'
theorem zPk_in {c : zC} {t l q : Int} (h : zSt c t) (hp : zPk c t l q) (hq : q ≠ -9) : 0 ≤ q ∧ q < c 10 0 := by
  obtain ⟨N, n1, n2⟩ := h
  unfold zPk at hp
  rcases n2 with ⟨a1, a2, a3, a4, a5⟩ | ⟨⟨a1, a2, a3, a4⟩, a5, a6, a7⟩
  · omega
  · rcases a7 with ⟨b1, b2, b3⟩ | ⟨⟨b1, b2, b3, b4, b5⟩, b6, b7⟩ <;> omega
theorem zChs_len {c : zC} (hst : ∀ t, 0 ≤ t → t < c 137 2 → zSt c t) (hl : ∀ p, 0 ≤ p → p < c 10 0 → 1 ≤ c 12 p) : ∀ (s : List Int) (t l : Int), 0 ≤ t → zChs c s t l → (s.length : Int) ≤ max 0 (c 137 2 - t)
  | [], t, l, _, _ => by simp only [List.length_nil]; omega
  | q :: s, t, l, h0, h => by
    obtain ⟨h1, h2, h3, h4⟩ := h
    have hq := zPk_in (hst t h0 h1) h2 h3
    have hq1 := hl q hq.1 hq.2
    have := zChs_len hst hl s (t + c 12 q) q (by omega) h4
    simp only [List.length_cons]
    omega
def zFlX (c c' : zC) (a z x : Int) : Prop := ∃ (f : Int) (c3 : zC) (s : List Int), zFnd c c3 a z f s ∧ ((f = -9 ∧ x = -9 ∧ c' = c3) ∨ (f ≠ -9 ∧ 60 < c 24 0 + f ∧ x = -3 ∧ c' = c3) ∨ (f ≠ -9 ∧ c 24 0 + f ≤ 60 ∧ x = f ∧ ∃ c4, zKpt c3 c4 ∧ zPs s c4 a c'))
set_option maxRecDepth 10000 in
set_option maxHeartbeats 2000000 in
theorem e_X1_find_l {d n sl : Nat} {S : zSh} {c : zC} (hS : zSok S) (hc : 0 ≤ c 24 0 ∧ c 24 0 ≤ 60) (hip : ∀ i, 0 ≤ i → i < c 24 0 → 0 ≤ c 25 i ∧ c 25 i < 16) (hbl : ∀ j, 0 ≤ j → j < c 20 0 → 0 ≤ c 21 j ∧ c 21 j < c 22 j ∧ c 22 j ≤ 1440) (hn : 0 ≤ c 20 0 ∧ c 20 0 ≤ 10) (hpq : 0 ≤ c 10 0 ∧ c 10 0 ≤ 16) (hlx : ∀ p, 0 ≤ p → p < c 10 0 → 1 ≤ c 12 p ∧ c 12 p ≤ 240) (hL : 1 ≤ c 137 2 ∧ c 137 2 ≤ 240) (hF : 0 ≤ c 137 1 ∧ c 137 1 ≤ 10080) {a z : Int} : ∀ i : Int, i ≤ c 137 2 → ∀ c1 : zC, (0 ≤ i) → (∀ r, (r < 139 ∨ 142 < r) → c1 r = c r) → (zBd c1) → (∀ k, c 137 2 - 1 - i < k → k < c 137 2 → zSt c1 k) → zE (d + 3) 5 42 [some (zA 137), some (zA 9), some (zI a), some (zI z), some (zI (c 137 2 - 1 - i))] [] ((n, sl), (S, c1)) (fun r μ' => ∃ (x : Int) (c' : zC) (s : List Int), r = some (zI x) ∧ μ' = ((n, sl), (S, c')) ∧ ∃ (c2 : zC) (fb : Int), (∃ i, zFind (c 24 0) (fun j => c 26 j + c 27 j) a i ∧ zFo c i fb) ∧ (∀ t, 0 ≤ t → t < c 137 2 → zSt c2 t) ∧ ((zChs c2 s 0 fb ∧ x = s.length ∧ ∀ (k : Nat) (y : Int), s[k]? = some y → c' 138 k = y) ∨ (zChN c2 s 0 fb ∧ x = -9)) ∧ (∀ r, r ≠ 138 → c' r = c2 r) ∧ (∀ r, (r < 139 ∨ 142 < r) → c2 r = c r) ∧ zBd c') := by
  refine zind _ (fun i ih hN => ?_)
  intro c1 h0 hfr hBd hst
  refine zl_ild4 I5_42 ?_
  refine zr_if_lt (t := 60) I5_44 rfl (fun h44 => ?_) (fun h44 => ?_)
  · refine zl_ald0 I5_60 ?_
    refine zl_ald1 I5_61 ?_
    refine zr_getr (j := 0) I5_62 F1_63 rfl (sT9 hS) (sR9_0 hS) ?_
    refine zl_ald1 I5_65 ?_
    refine zl_ald1 I5_66 ?_
    refine zr_getr (j := 3) I5_67 F1_40 rfl (sT9 hS) (sR9_3 hS) ?_
    refine zl_ild2 I5_70 ?_
    refine zr_callV I5_71 C1_67 ⟨rfl, rfl⟩ ⟨rfl, Nat.le_of_ble_eq_true rfl⟩ (Or.inl ⟨rfl, sT24 hS⟩) (e_X3_endingAt hS hBd (by rw [hfr 24 (by decide)]; exact hc)) (fun v71 μ71 hv71 => ?_)
    obtain ⟨x71, rfl, hx71, rfl⟩ := hv71
    rw [hfr 24 (by decide), hfr 26 (by decide), hfr 27 (by decide)] at hx71
    dsimp only [Option.toList, List.cons_append, List.nil_append]
    refine zr_callS I5_74 C1_52 ⟨rfl, rfl⟩ ⟨by simp, rfl, Nat.le_of_ble_eq_true rfl⟩ (e_X1_fillerOf hS hBd (by rw [hfr 24 (by decide)]; exact hc) (by rw [hfr 24 (by decide), hfr 25 (by decide)]; exact hip)) (fun v74 μ74 hv74 => ?_)
    obtain ⟨x74, rfl, hx74, rfl⟩ := hv74
    unfold zFo at hx74
    rw [hfr 24 (by decide), hfr 25 (by decide), hfr 11 (by decide)] at hx74
    dsimp only [Option.toList, List.cons_append, List.nil_append]
    refine zr_callV I5_77 C1_70 ⟨rfl, rfl⟩ ⟨rfl, Nat.le_of_ble_eq_true rfl⟩ (Or.inl ⟨rfl, sT137 hS⟩) (e_X1_choose hS hBd (by rw [hfr 10 (by decide)]; exact hpq) (by rw [hfr 10 (by decide), hfr 12 (by decide)]; exact hlx) (by rw [hfr 137 (by decide)]; exact hL) (by rw [hfr 137 (by decide)]; exact hF) (by rw [hfr 137 (by decide)]; exact fun t t1 t2 => hst t (by omega) t2)) (fun v77 μ77 hv77 => ?_)
    obtain ⟨x77, c77, s77, rfl, rfl, h77, f77, b77⟩ := hv77
    dsimp only [Option.toList, List.cons_append, List.nil_append]
    refine zr_iret I5_80 rfl ?_
    refine ⟨x77, c77, s77, rfl, rfl, c1, x74, ⟨x71, hx71, hx74⟩, fun t t1 t2 => hst t (by omega) t2, h77, f77, hfr, b77⟩
  · refine zl_ald0 I5_47 ?_
    refine zl_ald1 I5_48 ?_
    refine zl_ild4 I5_49 ?_
    refine zr_callV I5_51 C1_59 ⟨rfl, rfl⟩ ⟨rfl, Nat.le_of_ble_eq_true rfl⟩ (Or.inl ⟨rfl, sT137 hS⟩) (e_X1_settle hS hBd (by rw [hfr 20 (by decide), hfr 21 (by decide), hfr 22 (by decide)]; exact hbl) (by rw [hfr 20 (by decide)]; exact hn) (by rw [hfr 10 (by decide)]; exact hpq) (by rw [hfr 10 (by decide), hfr 12 (by decide)]; exact hlx) (by rw [hfr 137 (by decide)]; exact hL) (by rw [hfr 137 (by decide)]; exact hF) (by rw [hfr 137 (by decide)]; omega)) (fun v51 μ51 hv51 => ?_)
    obtain ⟨c51, rfl, rfl, hs51⟩ := hv51
    dsimp only [Option.toList, List.cons_append, List.nil_append]
    refine zl_iinc4 I5_54 (by unfold zInR; omega) ?_
    refine zr_goto (t := 42) I5_57 rfl ?_
    have := ih (i + 1) (by omega) (by omega) c51 (by omega) (fun r hr => by rw [hs51.2.1 r hr]; exact hfr r hr) hs51.2.2.2 (fun k k1 k2x => ?_)
    · rw [show c 137 2 - 1 - (i + 1) = c 137 2 - 1 - i + (-1) by omega] at this
      exact this
    · by_cases e : k = c 137 2 - 1 - i
      · rw [e]
        exact hs51.1
      · refine zSt_c (fun r hr => hs51.2.1 r (by omega)) (by rw [hfr 10 (by decide), hfr 12 (by decide)]; exact fun p p1 p2 => (hlx p p1 p2).1) (fun k2 hk => ?_) (hst k (by omega) k2x)
        exact ⟨hs51.2.2.1 139 (by decide) (by decide) k2 (by omega), hs51.2.2.1 140 (by decide) (by decide) k2 (by omega), hs51.2.2.1 141 (by decide) (by decide) k2 (by omega), hs51.2.2.1 142 (by decide) (by decide) k2 (by omega)⟩
set_option maxRecDepth 10000 in
set_option maxHeartbeats 2000000 in
theorem e_X1_find {d n sl : Nat} {S : zSh} {c : zC} (hS : zSok S) (hB : zBd c) (hc : 0 ≤ c 24 0 ∧ c 24 0 ≤ 60) (hip : ∀ i, 0 ≤ i → i < c 24 0 → 0 ≤ c 25 i ∧ c 25 i < 16) (hbl : ∀ j, 0 ≤ j → j < c 20 0 → 0 ≤ c 21 j ∧ c 21 j < c 22 j ∧ c 22 j ≤ 1440) (hn : 0 ≤ c 20 0 ∧ c 20 0 ≤ 10) (hpq : 0 ≤ c 10 0 ∧ c 10 0 ≤ 16) (hlx : ∀ p, 0 ≤ p → p < c 10 0 → 1 ≤ c 12 p ∧ c 12 p ≤ 240) {a z : Int} (ha : 0 ≤ a ∧ a ≤ 10079) (hz : a < z ∧ z ≤ 10080 ∧ z - a ≤ 240) : zE (d + 3) 5 0 (zent 5 [zA 137, zA 9, zI a, zI z]) [] ((n, sl), (S, c)) (fun r μ' => ∃ (x : Int) (c' : zC) (s : List Int), r = some (zI x) ∧ μ' = ((n, sl), (S, c')) ∧ zFnd c c' a z x s) := by
  show zE (d + 3) 5 0 [some (zA 137), some (zA 9), some (zI a), some (zI z), none] [] ((n, sl), (S, c)) _
  refine zl_ald0 I5_0 ?_
  refine zl_ild2 I5_1 ?_
  refine zr_puti (j := 1) I5_2 F1_27 rfl (sT137 hS) ⟨rfl, fun h => absurd h (by decide)⟩ ?_
  refine zl_ald0 I5_5 ?_
  refine zl_ild3 I5_6 ?_
  refine zl_ild2 I5_7 ?_
  refine zr_isub I5_8 (by unfold zInR; omega) ?_
  refine zr_sipush I5_9 ?_
  refine zr_min I5_12 C1_31 (Nat.le_of_ble_eq_true rfl) ?_
  rw [if_neg (show ¬ (240 : Int) < z - a by omega)]
  refine zr_puti (j := 2) I5_15 F1_37 rfl (sT137 hS) ⟨rfl, fun h => absurd h (by decide)⟩ ?_
  have hB2 : zBd (zup (zup c 137 1 a) 137 2 (z - a)) := zBd_up (zBd_up hB (by omega)) (by omega)
  refine zl_ald0 I5_18 ?_
  refine zl_ald1 I5_19 ?_
  refine zl_ald1 I5_20 ?_
  refine zr_getr (j := 3) I5_21 F1_40 rfl (sT9 hS) (sR9_3 hS) ?_
  refine zl_ild3 I5_24 ?_
  refine zr_callV I5_25 C1_46 ⟨rfl, rfl⟩ ⟨rfl, Nat.le_of_ble_eq_true rfl⟩ (Or.inl ⟨rfl, sT24 hS⟩) (e_X3_beginningAt hS hB2 (by rw [zup_ne (by decide), zup_ne (by decide)]; exact hc)) (fun v25 μ25 hv25 => ?_)
  obtain ⟨x25, rfl, hx25, rfl⟩ := hv25
  rw [zup_ne (by decide), zup_ne (by decide), zup_ne (by decide), zup_ne (by decide)] at hx25
  dsimp only [Option.toList, List.cons_append, List.nil_append]
  refine zr_callS I5_28 C1_52 ⟨rfl, rfl⟩ ⟨by simp, rfl, Nat.le_of_ble_eq_true rfl⟩ (e_X1_fillerOf hS hB2 (by rw [zup_ne (by decide), zup_ne (by decide)]; exact hc) (by rw [zup_ne (by decide), zup_ne (by decide), zup_ne (by decide), zup_ne (by decide)]; exact hip)) (fun v28 μ28 hv28 => ?_)
  obtain ⟨x28, rfl, hx28, rfl⟩ := hv28
  unfold zFo at hx28
  rw [zup_ne (by decide), zup_ne (by decide), zup_ne (by decide), zup_ne (by decide), zup_ne (by decide), zup_ne (by decide)] at hx28
  dsimp only [Option.toList, List.cons_append, List.nil_append]
  refine zr_puti (j := 3) I5_31 F1_56 rfl (sT137 hS) ⟨rfl, fun h => absurd h (by decide)⟩ ?_
  refine zl_ald0 I5_34 ?_
  refine zr_geti (j := 2) I5_35 F1_37 rfl (sT137 hS) ?_
  rw [show (zup (zup (zup c 137 1 a) 137 2 (z - a)) 137 3 x28) 137 2 = z - a by rw [zup_q, if_neg (by decide), zup_same]]
  refine zr_iconst I5_38 ?_
  refine zr_isub I5_39 (by unfold zInR; omega) ?_
  refine zl_ist4 I5_40 ?_
  have e3 : ∀ r, r ≠ 137 → (zup (zup (zup c 137 1 a) 137 2 (z - a)) 137 3 x28) r = c r := fun r hr => by rw [zup_ne hr, zup_ne hr, zup_ne hr]
  have eL : (zup (zup (zup c 137 1 a) 137 2 (z - a)) 137 3 x28) 137 2 = z - a := by rw [zup_q, if_neg (by decide), zup_same]
  have eF : (zup (zup (zup c 137 1 a) 137 2 (z - a)) 137 3 x28) 137 1 = a := by rw [zup_q, if_neg (by decide), zup_q, if_neg (by decide), zup_same]
  have eA : (zup (zup (zup c 137 1 a) 137 2 (z - a)) 137 3 x28) 137 3 = x28 := zup_same
  have hB3 : zBd (zup (zup (zup c 137 1 a) 137 2 (z - a)) 137 3 x28) := zBd_up hB2 (by
    rcases hx28 with h9 | h9 | h9
    · omega
    · omega
    · have := hip x25 h9.1.1 h9.1.2
      omega)
  have hm := e_X1_find_l (d := d) (n := n) (sl := sl) (c := (zup (zup (zup c 137 1 a) 137 2 (z - a)) 137 3 x28)) hS (by rw [e3 24 (by decide)]; exact hc) (by rw [e3 24 (by decide), e3 25 (by decide)]; exact hip) (by rw [e3 20 (by decide), e3 21 (by decide), e3 22 (by decide)]; exact hbl) (by rw [e3 20 (by decide)]; exact hn) (by rw [e3 10 (by decide)]; exact hpq) (by rw [e3 10 (by decide), e3 12 (by decide)]; exact hlx) (by rw [eL]; omega) (by rw [eF]; omega) (a := a) (z := z) 0 (by rw [eL]; omega) _ (by omega) (fun r hr => rfl) hB3 (fun k k1 k2 => absurd k1 (by omega))
  rw [show (zup (zup (zup c 137 1 a) 137 2 (z - a)) 137 3 x28) 137 2 - 1 - 0 = z - a - 1 by omega] at hm
  refine zE.mono hm ?_
  rintro r μ' ⟨x, c', s, rfl, rfl, c2, fb, ⟨i2, g1, g2⟩, g3, g4, g5, g6, g7⟩
  rw [e3 24 (by decide), e3 26 (by decide), e3 27 (by decide)] at g1
  unfold zFo at g2
  rw [e3 24 (by decide), e3 25 (by decide), e3 11 (by decide)] at g2
  rw [eL] at g3
  refine ⟨x, c', s, rfl, rfl, c2, fb, ⟨by rw [g6 137 (by decide)]; exact eF, by rw [g6 137 (by decide)]; exact eL⟩, ⟨x25, hx25, by rw [g6 137 (by decide), eA]; exact hx28⟩, ⟨i2, g1, g2⟩, g3, g4, g5, fun r hr => by rw [g6 r (by omega)]; exact e3 r (by omega), g7⟩
set_option maxRecDepth 10000 in
set_option maxHeartbeats 2000000 in
theorem e_X8_fill_l {d n sl : Nat} {S : zSh} {c : zC} (hS : zSok S) (hpq : 0 ≤ c 10 0 ∧ c 10 0 ≤ 16) (hlx : ∀ p, 0 ≤ p → p < c 10 0 → 1 ≤ c 12 p ∧ c 12 p ≤ 240) {a z f : Int} {c2 : zC} (ha : 0 ≤ a ∧ a ≤ 10079) (hz : a < z ∧ z ≤ 10080 ∧ z - a ≤ 240) (hf : 0 ≤ f) (hL : c2 137 2 = z - a) (hst : ∀ t, 0 ≤ t → t < z - a → zSt c2 t) (hfrc2 : ∀ r, (r < 16 ∧ r ≠ 14) → c2 r = c r) : ∀ i : Int, i ≤ f → ∀ c1 : zC, ∀ st : Int, ∀ s : List Int, ∀ lq : Int, ∀ w6 : Option zV, (0 ≤ i) → (zChs c2 s (st - a) lq) → (a + i ≤ st) → (f = i + s.length) → (∀ (k : Nat) (y : Int), s[k]? = some y → c 138 (i + k) = y) → (∀ r, (r < 24 ∨ 28 < r) → c1 r = c r) → (zBd c1) → (0 ≤ c1 24 0 ∧ c1 24 0 + (f - i) ≤ 60) → zE (d + 4) 46 102 [some (zA 8), some (zI a), some (zI z), some (zI f), some (zI st), some (zI i), w6] [] ((n, sl), (S, c1)) (fun r μ' => ∃ c', r = some (zI f) ∧ μ' = ((n, sl), (S, c')) ∧ zPs s c1 st c') := by
  refine zind _ (fun i ih hN => ?_)
  intro c1 st s lq w6 h0 hch hsa hlen9 hcc hfr hBd h60
  refine zl_ild5 I46_102 ?_
  refine zl_ild3 I46_104 ?_
  refine zr_ic_ge (t := 154) I46_105 rfl (fun h105 => ?_) (fun h105 => ?_)
  · refine zl_ild3 I46_154 ?_
    refine zr_iret I46_155 rfl ?_
    have hs0 : s = [] := List.eq_nil_of_length_eq_zero (by omega)
    refine ⟨_, rfl, rfl, ?_⟩
    rw [hs0]
    exact rfl
  · have hlt9 : 0 < s.length := by omega
    obtain ⟨q9, hq9⟩ : ∃ q9, s[0]? = some q9 := ⟨s[0], List.getElem?_eq_getElem hlt9⟩
    have hsq : s = q9 :: s.tail := by
      cases s with
      | nil => cases hq9
      | cons y l => cases hq9; rfl
    rw [hsq] at hch
    have ht9 := hch.1
    have hqin := zPk_in (hst (st - a) (by omega) (by omega)) hch.2.1 hch.2.2.1
    rw [hfrc2 10 (by decide)] at hqin
    have hcc0 := hcc 0 q9 hq9
    rw [show i + ((0 : Nat) : Int) = i by omega] at hcc0
    have hl9 := hlx q9 hqin.1 hqin.2
    have e138 := hfr 138 (by decide)
    refine zl_ald0 I46_108 ?_
    refine zr_getr (j := 3) I46_109 F8_33 rfl (sT8 hS) (sR8_3 hS) ?_
    refine zr_getr (j := 0) I46_112 F8_126 rfl (sT137 hS) (sR137_0 hS) ?_
    refine zl_ild5 I46_115 ?_
    refine zr_iaB hBd (by decide) I46_117 (sT138 hS) (sN138 hS) (by omega) (fun b117 => ?_)
    rw [e138, hcc0]
    refine zl_ist6 I46_118 ?_
    refine zl_ald0 I46_120 ?_
    refine zl_ild6 I46_121 ?_
    refine zl_ild4 I46_123 ?_
    refine zr_iconst I46_125 ?_
    refine zr_callV I46_126 C8_95 ⟨rfl, rfl⟩ ⟨rfl, Nat.le_of_ble_eq_true rfl⟩ (Or.inl ⟨rfl, sT8 hS⟩) (e_X8_putOnAir hS hBd (by omega) (by omega) (by omega)) (fun v126 μ126 hv126 => ?_)
    obtain ⟨c129, rfl, rfl, hv129⟩ := hv126
    rw [if_pos rfl] at hv129
    dsimp only [Option.toList, List.cons_append, List.nil_append]
    refine zr_pop I46_129 ?_
    refine zl_ild4 I46_130 ?_
    refine zl_ald0 I46_132 ?_
    have e129 : c129 12 = c 12 := by rw [hv129.2.2.1 12 (by decide)]; exact hfr 12 (by decide)
    refine zr_getr (j := 0) I46_133 F8_12 rfl (sT8 hS) (sR8_0 hS) ?_
    refine zr_getr (j := 0) I46_136 F8_48 rfl (sT9 hS) (sR9_0 hS) ?_
    refine zr_getr (j := 2) I46_139 F8_130 rfl (sT10 hS) (sR10_2 hS) ?_
    refine zl_ild6 I46_142 ?_
    refine zr_iald I46_144 (sT12 hS) (sN12 hS) (by omega) ?_
    rw [e129]
    refine zr_iadd I46_145 (by unfold zInR; omega) ?_
    refine zl_ist4 I46_146 ?_
    refine zl_iinc5 I46_148 (by unfold zInR; omega) ?_
    refine zr_goto (t := 102) I46_151 rfl ?_
    have hp129 := hv129
    have e12 : c129 12 = c 12 := by rw [hp129.2.2.1 12 (by decide)]; exact hfr 12 (by decide)
    have hcs2 : zChs c2 (s.tail) (st - a + c2 12 q9) q9 := by
      rw [hsq]
      exact hch.2.2.2
    refine zE.mono (ih (i + 1) (by omega) (by omega) c129 _ (s.tail) q9 _ (by omega) ?_ (by omega) (by rw [List.length_tail]; omega) ?_ ?_ hp129.2.2.2.2.2.2.2 (by rw [hp129.1]; omega)) ?_
    · rw [hfrc2 12 (by decide)] at hcs2
      rw [show st + c 12 q9 - a = st - a + c 12 q9 by omega]
      exact hcs2
    · intro k y hk
      have hk9 := hcc (k + 1) y (by rw [hsq]; rw [hsq] at hk; exact hk)
      rw [show i + 1 + (k : Int) = i + ((k + 1 : Nat) : Int) by omega]
      exact hk9
    · intro r hr
      rw [hp129.2.2.1 r hr]
      exact hfr r hr
    · rintro r μ' ⟨c', rfl, rfl, h9⟩
      refine ⟨c', rfl, rfl, ?_⟩
      rw [hsq]
      rw [hsq] at h9
      exact ⟨c129, hp129, by rw [hfr 12 (by decide)]; exact h9⟩
set_option maxRecDepth 10000 in
set_option maxHeartbeats 2000000 in
theorem e_X8_fill {d n sl : Nat} {S : zSh} {c : zC} (hS : zSok S) (hB : zBd c) (hc : 0 ≤ c 24 0 ∧ c 24 0 ≤ 60) (hip : ∀ i, 0 ≤ i → i < c 24 0 → 0 ≤ c 25 i ∧ c 25 i < 16) (hbl : ∀ j, 0 ≤ j → j < c 20 0 → 0 ≤ c 21 j ∧ c 21 j < c 22 j ∧ c 22 j ≤ 1440) (hn : 0 ≤ c 20 0 ∧ c 20 0 ≤ 10) (hpq : 0 ≤ c 10 0 ∧ c 10 0 ≤ 16) (hlx : ∀ p, 0 ≤ p → p < c 10 0 → 1 ≤ c 12 p ∧ c 12 p ≤ 240) (hk : 0 ≤ c 29 0 ∧ c 29 0 ≤ 5) (ho : 0 ≤ c 29 1 ∧ c 29 1 ≤ 4) (hcn : zCnW c 9) {a z : Int} : zE (d + 4) 46 0 (zent 46 [zA 8, zI a, zI z]) [] ((n, sl), (S, c)) (fun r μ' => ∃ (x : Int) (c' : zC), r = some (zI x) ∧ μ' = ((n, sl), (S, c')) ∧ ((¬ (0 ≤ a ∧ a < z ∧ z ≤ 10080 ∧ z - a ≤ 240) ∧ x = -1 ∧ c' = c) ∨ ((0 ≤ a ∧ a < z ∧ z ≤ 10080 ∧ z - a ≤ 240) ∧ zHit (c 24 0) (c 26) (c 27) a z ∧ x = -4 ∧ c' = c) ∨ ((0 ≤ a ∧ a < z ∧ z ≤ 10080 ∧ z - a ≤ 240) ∧ ¬ zHit (c 24 0) (c 26) (c 27) a z ∧ zFlX c c' a z x))) := by
  show zE (d + 4) 46 0 [some (zA 8), some (zI a), some (zI z), none, none, none, none] [] ((n, sl), (S, c)) _
  refine zl_ild1 I46_0 ?_
  refine zl_ild2 I46_1 ?_
  refine zr_sipush I46_2 ?_
  refine zr_callS I46_5 C8_70 ⟨rfl, rfl⟩ ⟨by simp, rfl, Nat.le_of_ble_eq_true rfl⟩ (e_X8_isInterval ) (fun v5 μ5 hv5 => ?_)
  obtain ⟨x5, rfl, hx5, rfl⟩ := hv5
  dsimp only [Option.toList, List.cons_append, List.nil_append]
  unfold zTf at hx5
  refine zr_if_eq (t := 20) I46_8 rfl (fun h8 => ?_) (fun h8 => ?_)
  · refine zr_iconst I46_20 ?_
    refine zr_iret I46_21 rfl ?_
    exact ⟨_, _, rfl, rfl, Or.inl ⟨by omega, rfl, rfl⟩⟩
  · refine zl_ild2 I46_11 ?_
    refine zl_ild1 I46_12 ?_
    refine zr_isub I46_13 (by unfold zInR; omega) ?_
    refine zr_sipush I46_14 ?_
    refine zr_ic_le (t := 22) I46_17 rfl (fun h17 => ?_) (fun h17 => ?_)
    · refine zl_ald0 I46_22 ?_
      refine zr_getr (j := 0) I46_23 F8_12 rfl (sT8 hS) (sR8_0 hS) ?_
      refine zr_getr (j := 3) I46_26 F8_102 rfl (sT9 hS) (sR9_3 hS) ?_
      refine zl_ild1 I46_29 ?_
      refine zl_ild2 I46_30 ?_
      refine zr_callV I46_31 C8_119 ⟨rfl, rfl⟩ ⟨rfl, Nat.le_of_ble_eq_true rfl⟩ (Or.inl ⟨rfl, sT24 hS⟩) (e_X3_firstIn hS hB hc) (fun v31 μ31 hv31 => ?_)
      obtain ⟨x31, rfl, hx31, rfl⟩ := hv31
      have hzh := (zFst_hit hx31).1
      clear hx31
      dsimp only [Option.toList, List.cons_append, List.nil_append]
      refine zr_bipush I46_34 ?_
      refine zr_ic_eq (t := 42) I46_36 rfl (fun h36 => ?_) (fun h36 => ?_)
      · refine zl_ald0 I46_42 ?_
        refine zr_getr (j := 3) I46_43 F8_33 rfl (sT8 hS) (sR8_3 hS) ?_
        refine zl_ald0 I46_46 ?_
        refine zr_getr (j := 0) I46_47 F8_12 rfl (sT8 hS) (sR8_0 hS) ?_
        refine zl_ild1 I46_50 ?_
        refine zl_ild2 I46_51 ?_
        refine zr_callV I46_52 C8_122 ⟨rfl, rfl⟩ ⟨rfl, Nat.le_of_ble_eq_true rfl⟩ (Or.inl ⟨rfl, sT137 hS⟩) (e_X1_find hS hB hc hip hbl hn hpq hlx (by omega) (by omega)) (fun v52 μ52 hv52 => ?_)
        obtain ⟨x52, c52, s52, rfl, rfl, hfd⟩ := hv52
        obtain ⟨c9, fb9, ⟨k1, k2⟩, k3, k4, k5, k6, k7, k8, k9⟩ := id hfd
        have e24 : c52 24 = c 24 := (k7 24 (by decide)).trans (k8 24 (by decide))
        have e29 : c52 29 = c 29 := (k7 29 (by decide)).trans (k8 29 (by decide))
        dsimp only [Option.toList, List.cons_append, List.nil_append]
        refine zl_ist3 I46_55 ?_
        refine zl_ild3 I46_56 ?_
        refine zr_bipush I46_57 ?_
        refine zr_ic_ne (t := 65) I46_59 rfl (fun h59 => ?_) (fun h59 => ?_)
        · have hlen52 : x52 ≤ 240 := by
            rcases k6 with ⟨m1, m2, m3⟩ | ⟨m1, m2⟩
            · have := zChs_len (fun t t1 t2 => k5 t t1 (by omega)) (by rw [k8 10 (by decide), k8 12 (by decide)]; exact fun p p1 p2 => (hlx p p1 p2).1) s52 0 fb9 (by omega) m1
              omega
            · omega
          refine zl_ald0 I46_65 ?_
          refine zr_getr (j := 0) I46_66 F8_12 rfl (sT8 hS) (sR8_0 hS) ?_
          refine zr_getr (j := 3) I46_69 F8_102 rfl (sT9 hS) (sR9_3 hS) ?_
          refine zr_geti (j := 0) I46_72 F8_112 rfl (sT24 hS) ?_
          rw [e24]
          refine zl_ild3 I46_75 ?_
          refine zr_iadd I46_76 (by unfold zInR; omega) ?_
          refine zr_bipush I46_77 ?_
          refine zr_ic_le (t := 85) I46_79 rfl (fun h79 => ?_) (fun h79 => ?_)
          · refine zl_ald0 I46_85 ?_
            refine zr_getr (j := 1) I46_86 F8_19 rfl (sT8 hS) (sR8_1 hS) ?_
            refine zl_ald0 I46_89 ?_
            refine zr_getr (j := 0) I46_90 F8_12 rfl (sT8 hS) (sR8_0 hS) ?_
            refine zr_callV I46_93 C8_58 ⟨rfl, rfl⟩ ⟨rfl, Nat.le_of_ble_eq_true rfl⟩ (Or.inl ⟨rfl, sT29 hS⟩) (e_X2_keep hS k9 (by rw [e29]; exact hk) (by rw [e29]; exact ho) ⟨by rw [k7 (9 + 1) (by decide), k8 (9 + 1) (by decide)]; exact hcn.1, by rw [k7 (9 + 6) (by decide), k8 (9 + 6) (by decide)]; exact hcn.2.1, by rw [k7 (9 + 11) (by decide), k8 (9 + 11) (by decide)]; exact hcn.2.2.1, by rw [k7 (9 + 15) (by decide), k8 (9 + 15) (by decide)]; exact hcn.2.2.2⟩) (fun v93 μ93 hv93 => ?_)
            obtain ⟨c93, rfl, rfl, hc93⟩ := hv93
            dsimp only [Option.toList, List.cons_append, List.nil_append]
            refine zl_ild1 I46_96 ?_
            refine zl_ist4 I46_97 ?_
            refine zr_iconst I46_99 ?_
            refine zl_ist5 I46_100 ?_
            have hkp : zKpt c52 c93 := hc93
            have fr := zKpt_fr hkp (by rw [e29]; exact hk)
            have k6b := k6.resolve_right (fun h9 => absurd h9.2 (by omega))
            obtain ⟨m1, m2, m3⟩ := k6b
            have f10 : c93 10 = c 10 := ((fr.1 10 (by decide) (by decide)).trans (k7 10 (by decide))).trans (k8 10 (by decide))
            have f12 : c93 12 = c 12 := ((fr.1 12 (by decide) (by decide)).trans (k7 12 (by decide))).trans (k8 12 (by decide))
            have f24 : c93 24 = c 24 := (fr.1 24 (by decide) (by decide)).trans e24
            have f138 : c93 138 = c52 138 := fr.1 138 (by decide) (by decide)
            refine zE.mono (e_X8_fill_l (c := c93) (c2 := c9) hS (by rw [f10]; exact hpq) (by rw [f10, f12]; exact hlx) (a := a) (z := z) (f := x52) (by omega) (by omega) (by omega) k2 k5 (fun r hr => ((fr.1 r (by omega) (by omega)).trans (k7 r (by omega))).symm) 0 (by omega) c93 a s52 fb9 _ (by omega) (by rw [show a - a = 0 by omega]; exact m1) (by omega) (by omega) (fun k y hy => by rw [f138, show (0 : Int) + k = k by omega]; exact m3 k y hy) (fun r hr => rfl) fr.2 (by rw [f24]; omega)) ?_
            rintro r μ' ⟨c', rfl, rfl, h9⟩
            exact ⟨_, c', rfl, rfl, Or.inr (Or.inr ⟨by omega, hzh.mp h36, x52, c52, s52, hfd, Or.inr (Or.inr ⟨by omega, by omega, rfl, c93, hkp, h9⟩)⟩)⟩
          · refine zr_bipush I46_82 ?_
            refine zr_iret I46_84 rfl ?_
            exact ⟨_, _, rfl, rfl, Or.inr (Or.inr ⟨by omega, hzh.mp h36, x52, c52, s52, hfd, Or.inr (Or.inl ⟨by omega, by omega, rfl, rfl⟩)⟩)⟩
        · refine zr_bipush I46_62 ?_
          refine zr_iret I46_64 rfl ?_
          exact ⟨_, _, rfl, rfl, Or.inr (Or.inr ⟨by omega, hzh.mp h36, x52, c52, s52, hfd, Or.inl ⟨by omega, rfl, rfl⟩⟩)⟩
      · refine zr_bipush I46_39 ?_
        refine zr_iret I46_41 rfl ?_
        exact ⟨_, _, rfl, rfl, Or.inr (Or.inl ⟨by omega, Classical.byContradiction (fun h9 => h36 (hzh.mpr h9)), rfl, rfl⟩)⟩
    · refine zr_iconst I46_20 ?_
      refine zr_iret I46_21 rfl ?_
      exact ⟨_, _, rfl, rfl, Or.inl ⟨by omega, rfl, rfl⟩⟩
