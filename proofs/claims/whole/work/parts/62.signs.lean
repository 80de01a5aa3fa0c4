/-! the model: signs and numbers written -/
def zTxt (c : zC) (l : List Int) : Prop := c 145 11 = l.length ∧ ∀ (k : Nat) (x : Int), l[k]? = some x → c 154 k = x
def zF11 (c c' : zC) : Prop := (∀ r, r ≠ 154 → r ≠ 145 → c' r = c r) ∧ (∀ k, k ≠ 11 → c' 145 k = c 145 k)
theorem zF11.tr {a b c : zC} (h : zF11 a b) (h2 : zF11 b c) : zF11 a c := ⟨fun r h3 h4 => (h2.1 r h3 h4).trans (h.1 r h3 h4), fun k hk => (h2.2 k hk).trans (h.2 k hk)⟩
theorem zF11.rf {c : zC} : zF11 c c := ⟨fun _ _ _ => rfl, fun _ _ => rfl⟩
theorem zTxt_s {c : zC} {l : List Int} {x : Int} (h : zTxt c l) : zTxt (zup (zup c 154 (c 145 11) x) 145 11 (c 145 11 + 1)) (l ++ [x]) := by
  refine ⟨by rw [zup_same, List.length_append, h.1]; simp, fun k y hy => ?_⟩
  rw [zup_oth (by decide), zup_q, h.1]
  by_cases e : (k : Int) = l.length
  · rw [if_pos e]
    have e2 : k = l.length := by omega
    subst e2
    rw [List.getElem?_append_right (Nat.le_refl _)] at hy
    simpa using hy
  · rw [if_neg e]
    have h2 := (List.getElem?_eq_some_iff.mp hy).1
    rw [List.length_append] at h2
    have h3 : k < l.length := by
      have : [x].length = 1 := rfl
      omega
    rw [List.getElem?_append_left h3] at hy
    exact h.2 k y hy
def zDg (x : Int) : List Int := (if 10000 ≤ x then [48 + x / 10000] else []) ++ (if 1000 ≤ x then [48 + x / 1000 % 10] else []) ++ (if 100 ≤ x then [48 + x / 100 % 10] else []) ++ (if 10 ≤ x then [48 + x / 10 % 10] else []) ++ [48 + x % 10]
set_option maxRecDepth 10000 in
set_option maxHeartbeats 2000000 in
theorem e_X9_signs {d n sl : Nat} {S : zSh} {c : zC} (hS : zSok S) (hB : zBd c) {l : List Int} (h : zTxt c l) (hn : l.length < 40) {x : Int} (hx : -100000 ≤ x ∧ x ≤ 100000) : zE (d + 0) 132 0 (zent 132 [zA 145, zI x]) [] ((n, sl), (S, c)) (fun r μ' => ∃ c', r = none ∧ μ' = ((n, sl), (S, c')) ∧ (zTxt c' (l ++ [x]) ∧ zF11 c c' ∧ zBd c')) := by
  show zE (d + 0) 132 0 [some (zA 145), some (zI x)] [] ((n, sl), (S, c)) _
  have hl := h.1
  refine zl_ald0 I132_0 ?_
  refine zr_getr (j := 10) I132_1 F9_34 rfl (sT145 hS) (sR145_10 hS) ?_
  refine zl_ald0 I132_4 ?_
  refine zr_giB (j := 11) hB (by decide) I132_5 F9_138 rfl (sT145 hS) (fun b5 => ?_)
  refine zl_ild1 I132_8 ?_
  refine zr_iast I132_9 (sT154 hS) (sN154 hS) (by omega) ?_
  refine zl_ald0 I132_10 ?_
  refine zr_dup I132_11 ?_
  refine zr_geti (j := 11) I132_12 F9_138 rfl (sT145 hS) ?_
  rw [zup_oth (by decide)]
  refine zr_iconst I132_15 ?_
  refine zr_iadd I132_16 (by unfold zInR; omega) ?_
  refine zr_puti (j := 11) I132_17 F9_138 rfl (sT145 hS) ⟨rfl, fun h => absurd h (by decide)⟩ ?_
  refine zr_vret I132_20 rfl ?_
  exact ⟨_, rfl, rfl, zTxt_s h, ⟨fun r h1 h2 => by rw [zup_ne h2, zup_ne h1], fun k hk => by rw [zup_q, if_neg hk, zup_oth (by decide)]⟩, zBd_up (zBd_up hB hx) (by omega)⟩
set_option maxRecDepth 10000 in
set_option maxHeartbeats 2000000 in
theorem e_X9_two {d n sl : Nat} {S : zSh} {c : zC} (hS : zSok S) (hB : zBd c) {l : List Int} (h : zTxt c l) (hn : l.length < 38) {x : Int} (hx : 0 ≤ x ∧ x ≤ 99) : zE (d + 1) 134 0 (zent 134 [zA 145, zI x]) [] ((n, sl), (S, c)) (fun r μ' => ∃ c', r = none ∧ μ' = ((n, sl), (S, c')) ∧ (zTxt c' (l ++ [48 + x / 10] ++ [48 + x % 10]) ∧ zF11 c c' ∧ zBd c')) := by
  show zE (d + 1) 134 0 [some (zA 145), some (zI x)] [] ((n, sl), (S, c)) _
  refine zl_ald0 I134_0 ?_
  refine zr_bipush I134_1 ?_
  refine zl_ild1 I134_3 ?_
  refine zr_bipush I134_4 ?_
  refine zr_idiv I134_6 (by omega) ?_
  refine zr_iadd I134_7 (by unfold zInR; omega) ?_
  refine zr_callV I134_8 C9_141 ⟨rfl, rfl⟩ ⟨rfl, Nat.le_of_ble_eq_true rfl⟩ (Or.inl ⟨rfl, sT145 hS⟩) (e_X9_signs hS hB h (by omega) (by omega)) (fun v8 μ8 hv8 => ?_)
  obtain ⟨c8, rfl, rfl, hc8⟩ := hv8
  dsimp only [Option.toList, List.cons_append, List.nil_append]
  refine zl_ald0 I134_11 ?_
  refine zr_bipush I134_12 ?_
  refine zl_ild1 I134_14 ?_
  refine zr_bipush I134_15 ?_
  refine zr_irem I134_17 (by omega) ?_
  refine zr_iadd I134_18 (by unfold zInR; omega) ?_
  refine zr_callV I134_19 C9_141 ⟨rfl, rfl⟩ ⟨rfl, Nat.le_of_ble_eq_true rfl⟩ (Or.inl ⟨rfl, sT145 hS⟩) (e_X9_signs hS hc8.2.2 hc8.1 (by rw [List.length_append]; have : ∀ y : Int, [y].length = 1 := fun _ => rfl; rw [this]; omega) (by omega)) (fun v19 μ19 hv19 => ?_)
  obtain ⟨c19, rfl, rfl, hc19⟩ := hv19
  dsimp only [Option.toList, List.cons_append, List.nil_append]
  refine zr_vret I134_22 rfl ?_
  exact ⟨_, rfl, rfl, hc19.1, hc8.2.1.tr hc19.2.1, hc19.2.2⟩
