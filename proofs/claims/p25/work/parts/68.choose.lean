/-! the class: the search for fillers -/
def zOkF (c : zC) (q t : Int) : Prop := c 11 q = 2 ∧ t + c 12 q ≤ c 137 2 ∧ ¬ zDk (c 20 0) (c 21) (c 22) (c 23) (c 13 q) (c 137 1 + t) (c 137 1 + (t + c 12 q))
def zIw (c : zC) (q t x : Int) : Prop := (¬ zOkF c q t ∧ x = 241) ∨ (zOkF c q t ∧ t + c 12 q = c 137 2 ∧ q = c 137 3 ∧ x = 241) ∨ (zOkF c q t ∧ t + c 12 q = c 137 2 ∧ q ≠ c 137 3 ∧ x = 1) ∨ (zOkF c q t ∧ t + c 12 q < c 137 2 ∧ ∃ y, ((c 139 (t + c 12 q) = q ∧ y = c 142 (t + c 12 q)) ∨ (c 139 (t + c 12 q) ≠ q ∧ y = c 140 (t + c 12 q))) ∧ ((y + 1 ≤ 241 ∧ x = y + 1) ∨ (241 < y + 1 ∧ x = 241)))
/-- what the search reads -/
def zFx (c c1 : zC) : Prop := ∀ r, r ≤ 137 → c1 r = c r
theorem zFx.rf {c : zC} : zFx c c := fun _ _ => rfl
theorem zOkF_c {c c1 : zC} (h : zFx c c1) (q t : Int) : zOkF c1 q t = zOkF c q t := by
  unfold zOkF
  rw [h 11 (by decide), h 12 (by decide), h 13 (by decide), h 20 (by decide), h 21 (by decide), h 22 (by decide), h 23 (by decide), h 137 (by decide)]
theorem zIw_c {c c1 : zC} (h : zFx c c1) {q t x : Int} (h1 : 1 ≤ c 12 q) (hk : ∀ k, t < k → c1 139 k = c 139 k ∧ c1 140 k = c 140 k ∧ c1 142 k = c 142 k) (hx : zIw c q t x) : zIw c1 q t x := by
  unfold zIw at hx ⊢
  obtain ⟨k1, k2, k3⟩ := hk (t + c 12 q) (by omega)
  rw [zOkF_c h, h 12 (by decide), h 137 (by decide), k1, k2, k3]
  exact hx
theorem zIw_u {c : zC} {q t x y : Int} (h : zIw c q t x) (h' : zIw c q t y) : x = y := by
  unfold zIw at h h'
  rcases h with ⟨h1, h2⟩ | ⟨h1, h2, h3, h4⟩ | ⟨h1, h2, h3, h4⟩ | ⟨h1, h2, u, h3, h4⟩ <;> rcases h' with ⟨k1, k2⟩ | ⟨k1, k2, k3, k4⟩ | ⟨k1, k2, k3, k4⟩ | ⟨k1, k2, w, k3, k4⟩ <;> first | exact absurd k1 h1 | exact absurd h1 k1 | omega
def zB2 (n : Int) (N : Int → Int) (b f s g : Int) : Prop := (b = -9 ∧ f = 241 ∧ s = -9 ∧ g = 241 ∧ ∀ q, 0 ≤ q → q < n → 241 ≤ N q) ∨ ((0 ≤ b ∧ b < n ∧ f = N b ∧ f < 241) ∧ (∀ q, 0 ≤ q → q < b → f < N q) ∧ (∀ q, 0 ≤ q → q < n → f ≤ N q) ∧ ((s = -9 ∧ g = 241 ∧ ∀ q, 0 ≤ q → q < n → q ≠ b → 241 ≤ N q) ∨ ((0 ≤ s ∧ s < n ∧ s ≠ b ∧ g = N s ∧ g < 241) ∧ (∀ q, 0 ≤ q → q < s → q ≠ b → g < N q) ∧ ∀ q, 0 ≤ q → q < n → q ≠ b → g ≤ N q)))
theorem zB2_congr {n : Int} {N N' : Int → Int} {b f s g : Int} (e : ∀ q, 0 ≤ q → q < n → N' q = N q) (h : zB2 n N b f s g) : zB2 n N' b f s g := by
  rcases h with ⟨h1, h2, h3, h4, h5⟩ | ⟨⟨h1, h2, h3, h4⟩, h5, h6, h7⟩
  · exact Or.inl ⟨h1, h2, h3, h4, fun q q1 q2 => by rw [e q q1 q2]; exact h5 q q1 q2⟩
  · refine Or.inr ⟨⟨h1, h2, by rw [e b h1 h2]; exact h3, h4⟩, fun q q1 q2 => by rw [e q q1 (by omega)]; exact h5 q q1 q2, fun q q1 q2 => by rw [e q q1 q2]; exact h6 q q1 q2, ?_⟩
    rcases h7 with ⟨k1, k2, k3⟩ | ⟨⟨k1, k2, k3, k4, k5⟩, k6, k7⟩
    · exact Or.inl ⟨k1, k2, fun q q1 q2 q3 => by rw [e q q1 q2]; exact k3 q q1 q2 q3⟩
    · exact Or.inr ⟨⟨k1, k2, k3, by rw [e s k1 k2]; exact k4, k5⟩, fun q q1 q2 q3 => by rw [e q q1 (by omega)]; exact k6 q q1 q2 q3, fun q q1 q2 q3 => by rw [e q q1 q2]; exact k7 q q1 q2 q3⟩
theorem zB2_1 {n : Int} {N : Int → Int} {b f s g : Int} (hn : 0 ≤ n) (h : zB2 n N b f s g) (hx : N n < f) : zB2 (n + 1) N n (N n) b f := by
  rcases h with ⟨h1, h2, h3, h4, h5⟩ | ⟨⟨h1, h2, h3, h4⟩, h5, h6, h7⟩
  · refine Or.inr ⟨⟨hn, by omega, rfl, by omega⟩, fun q q1 q2 => by have := h5 q q1 q2; omega, fun q q1 q2 => ?_, Or.inl ⟨h1, h2, fun q q1 q2 q3 => h5 q q1 (by omega)⟩⟩
    by_cases e : q = n
    · subst e; omega
    · have := h5 q q1 (by omega); omega
  · refine Or.inr ⟨⟨hn, by omega, rfl, by omega⟩, fun q q1 q2 => by have := h6 q q1 q2; omega, fun q q1 q2 => ?_, Or.inr ⟨⟨h1, by omega, by omega, h3, h4⟩, fun q q1 q2 q3 => h5 q q1 q2, fun q q1 q2 q3 => h6 q q1 (by omega)⟩⟩
    by_cases e : q = n
    · subst e; omega
    · have := h6 q q1 (by omega); omega
theorem zB2_2 {n : Int} {N : Int → Int} {b f s g : Int} (hn : 0 ≤ n) (h : zB2 n N b f s g) (hx : ¬ N n < f) (hy : N n < g) : zB2 (n + 1) N b f n (N n) := by
  rcases h with ⟨h1, h2, h3, h4, h5⟩ | ⟨⟨h1, h2, h3, h4⟩, h5, h6, h7⟩
  · omega
  · refine Or.inr ⟨⟨h1, by omega, h3, h4⟩, h5, fun q q1 q2 => ?_, Or.inr ⟨⟨hn, by omega, by omega, rfl, ?_⟩, fun q q1 q2 q3 => ?_, fun q q1 q2 q3 => ?_⟩⟩
    · by_cases e : q = n
      · subst e; omega
      · exact h6 q q1 (by omega)
    · rcases h7 with ⟨k1, k2, k3⟩ | ⟨⟨k1, k2, k3, k4, k5⟩, k6, k7⟩ <;> omega
    · rcases h7 with ⟨k1, k2, k3⟩ | ⟨⟨k1, k2, k3, k4, k5⟩, k6, k7⟩
      · have := k3 q q1 q2 q3; omega
      · have := k7 q q1 q2 q3; omega
    · by_cases e : q = n
      · subst e; omega
      · rcases h7 with ⟨k1, k2, k3⟩ | ⟨⟨k1, k2, k3, k4, k5⟩, k6, k7⟩
        · have := k3 q q1 (by omega) q3; omega
        · have := k7 q q1 (by omega) q3; omega
theorem zB2_3 {n : Int} {N : Int → Int} {b f s g : Int} (h : zB2 n N b f s g) (hx : ¬ N n < f) (hy : ¬ N n < g) : zB2 (n + 1) N b f s g := by
  rcases h with ⟨h1, h2, h3, h4, h5⟩ | ⟨⟨h1, h2, h3, h4⟩, h5, h6, h7⟩
  · refine Or.inl ⟨h1, h2, h3, h4, fun q q1 q2 => ?_⟩
    by_cases e : q = n
    · subst e; omega
    · exact h5 q q1 (by omega)
  · refine Or.inr ⟨⟨h1, by omega, h3, h4⟩, h5, fun q q1 q2 => ?_, ?_⟩
    · by_cases e : q = n
      · subst e; omega
      · exact h6 q q1 (by omega)
    · rcases h7 with ⟨k1, k2, k3⟩ | ⟨⟨k1, k2, k3, k4, k5⟩, k6, k7⟩
      · refine Or.inl ⟨k1, k2, fun q q1 q2 q3 => ?_⟩
        by_cases e : q = n
        · subst e; omega
        · exact k3 q q1 (by omega) q3
      · refine Or.inr ⟨⟨k1, by omega, k3, k4, k5⟩, k6, fun q q1 q2 q3 => ?_⟩
        by_cases e : q = n
        · subst e; omega
        · exact k7 q q1 (by omega) q3
/-- a minute that is settled -/
def zSt (c : zC) (t : Int) : Prop := ∃ N : Int → Int, (∀ q, 0 ≤ q → q < c 10 0 → zIw c q t (N q)) ∧ zB2 (c 10 0) N (c 139 t) (c 140 t) (c 141 t) (c 142 t)
theorem zSt_c {c c1 : zC} (h : zFx c c1) {t : Int} (hl : ∀ q, 0 ≤ q → q < c 10 0 → 1 ≤ c 12 q) (hk : ∀ k, t ≤ k → c1 139 k = c 139 k ∧ c1 140 k = c 140 k ∧ c1 141 k = c 141 k ∧ c1 142 k = c 142 k) (hx : zSt c t) : zSt c1 t := by
  obtain ⟨N, h1, h2⟩ := hx
  obtain ⟨k1, k2, k3, k4⟩ := hk t (by omega)
  refine ⟨N, fun q q1 q2 => ?_, by rw [h 10 (by decide), k1, k2, k3, k4]; exact h2⟩
  rw [h 10 (by decide)] at q2
  exact zIw_c h (hl q q1 q2) (fun k hk1 => ⟨(hk k (by omega)).1, (hk k (by omega)).2.1, (hk k (by omega)).2.2.2⟩) (h1 q q1 q2)
def zPk (c : zC) (t l q : Int) : Prop := (c 139 t = l ∧ q = c 141 t) ∨ (c 139 t ≠ l ∧ q = c 139 t)
def zChs (c : zC) : List Int → Int → Int → Prop
  | [], t, _ => ¬ t < c 137 2
  | q :: r, t, l => t < c 137 2 ∧ zPk c t l q ∧ q ≠ -9 ∧ zChs c r (t + c 12 q) q
def zChN (c : zC) : List Int → Int → Int → Prop
  | [], t, l => t < c 137 2 ∧ zPk c t l (-9)
  | q :: r, t, l => t < c 137 2 ∧ zPk c t l q ∧ q ≠ -9 ∧ zChN c r (t + c 12 q) q
theorem zPk_c {c c1 : zC} (h : ∀ r, r ≠ 138 → c1 r = c r) (t l q : Int) : zPk c1 t l q = zPk c t l q := by
  unfold zPk
  rw [h 139 (by decide), h 141 (by decide)]
theorem zChs_c {c c1 : zC} (h : ∀ r, r ≠ 138 → c1 r = c r) : ∀ (s : List Int) (t l : Int), zChs c1 s t l ↔ zChs c s t l
  | [], t, l => by
    unfold zChs
    rw [h 137 (by decide)]
  | q :: s, t, l => by
    unfold zChs
    rw [h 137 (by decide), h 12 (by decide), zPk_c h, zChs_c h s]
theorem zChN_c {c c1 : zC} (h : ∀ r, r ≠ 138 → c1 r = c r) : ∀ (s : List Int) (t l : Int), zChN c1 s t l ↔ zChN c s t l
  | [], t, l => by
    unfold zChN
    rw [h 137 (by decide), zPk_c h]
  | q :: s, t, l => by
    unfold zChN
    rw [h 137 (by decide), h 12 (by decide), zPk_c h, zChN_c h s]
def zFo (c : zC) (i x : Int) : Prop := (¬ (0 ≤ i ∧ i < c 24 0) ∧ x = -9) ∨ ((0 ≤ i ∧ i < c 24 0) ∧ c 11 (c 25 i) ≠ 2 ∧ x = -9) ∨ ((0 ≤ i ∧ i < c 24 0) ∧ c 11 (c 25 i) = 2 ∧ x = c 25 i)
set_option maxRecDepth 10000 in
set_option maxHeartbeats 2000000 in
theorem e_X1_fillerOf {d n sl : Nat} {S : zSh} {c : zC} (hS : zSok S) (hB : zBd c) (hc : 0 ≤ c 24 0 ∧ c 24 0 ≤ 60) (hip : ∀ i, 0 ≤ i → i < c 24 0 → 0 ≤ c 25 i ∧ c 25 i < 16) {i : Int} : zE (d + 0) 6 0 (zent 6 [zA 9, zI i]) [] ((n, sl), (S, c)) (zRp (zFo c i) ((n, sl), (S, c))) := by
  show zE (d + 0) 6 0 [some (zA 9), some (zI i), none] [] ((n, sl), (S, c)) _
  refine zl_ild1 I6_0 ?_
  refine zr_if_lt (t := 15) I6_1 rfl (fun h1 => ?_) (fun h1 => ?_)
  · refine zr_bipush I6_15 ?_
    refine zr_iret I6_17 rfl ?_
    exact ⟨_, rfl, Or.inl ⟨by omega, rfl⟩, rfl⟩
  · refine zl_ild1 I6_4 ?_
    refine zl_ald0 I6_5 ?_
    refine zr_getr (j := 3) I6_6 F1_40 rfl (sT9 hS) (sR9_3 hS) ?_
    refine zr_giB (j := 0) hB (by decide) I6_9 F1_74 rfl (sT24 hS) (fun b9 => ?_)
    refine zr_ic_lt (t := 18) I6_12 rfl (fun h12 => ?_) (fun h12 => ?_)
    · have hip1 := hip i (by omega) (by omega)
      refine zl_ald0 I6_18 ?_
      refine zr_getr (j := 3) I6_19 F1_40 rfl (sT9 hS) (sR9_3 hS) ?_
      refine zr_getr (j := 1) I6_22 F1_77 rfl (sT24 hS) (sR24_1 hS) ?_
      refine zl_ild1 I6_25 ?_
      refine zr_iaB hB (by decide) I6_26 (sT25 hS) (sN25 hS) (by omega) (fun b26 => ?_)
      refine zl_ist2 I6_27 ?_
      refine zl_ald0 I6_28 ?_
      refine zr_getr (j := 0) I6_29 F1_63 rfl (sT9 hS) (sR9_0 hS) ?_
      refine zr_getr (j := 1) I6_32 F1_80 rfl (sT10 hS) (sR10_1 hS) ?_
      refine zl_ild2 I6_35 ?_
      refine zr_iaB hB (by decide) I6_36 (sT11 hS) (sN11 hS) (by omega) (fun b36 => ?_)
      refine zr_iconst I6_37 ?_
      refine zr_ic_ne (t := 45) I6_38 rfl (fun h38 => ?_) (fun h38 => ?_)
      · refine zr_bipush I6_45 ?_
        refine zr_iret I6_47 rfl ?_
        exact ⟨_, rfl, Or.inr (Or.inl ⟨by omega, by omega, rfl⟩), rfl⟩
      · refine zl_ild2 I6_41 ?_
        refine zr_goto (t := 47) I6_42 rfl ?_
        refine zr_iret I6_47 rfl ?_
        exact ⟨_, rfl, Or.inr (Or.inr ⟨by omega, by omega, rfl⟩), rfl⟩
    · refine zr_bipush I6_15 ?_
      refine zr_iret I6_17 rfl ?_
      exact ⟨_, rfl, Or.inl ⟨by omega, rfl⟩, rfl⟩
set_option maxRecDepth 10000 in
set_option maxHeartbeats 2000000 in
theorem e_X1_itemsWith {d n sl : Nat} {S : zSh} {c : zC} (hS : zSok S) (hB : zBd c) (hbl : ∀ j, 0 ≤ j → j < c 20 0 → 0 ≤ c 21 j ∧ c 21 j < c 22 j ∧ c 22 j ≤ 1440) (hn : 0 ≤ c 20 0 ∧ c 20 0 ≤ 10) (hpq : 0 ≤ c 10 0 ∧ c 10 0 ≤ 16) (hlx : ∀ p, 0 ≤ p → p < c 10 0 → 1 ≤ c 12 p ∧ c 12 p ≤ 240) (hL : 1 ≤ c 137 2 ∧ c 137 2 ≤ 240) (hF : 0 ≤ c 137 1 ∧ c 137 1 ≤ 10080) {q t : Int} (hq : 0 ≤ q ∧ q < c 10 0) (ht : 0 ≤ t ∧ t < c 137 2) : zE (d + 1) 8 0 (zent 8 [zA 137, zI q, zA 9, zI t]) [] ((n, sl), (S, c)) (zRp (zIw c q t) ((n, sl), (S, c))) := by
  show zE (d + 1) 8 0 [some (zA 137), some (zI q), some (zA 9), some (zI t), none, none] [] ((n, sl), (S, c)) _
  have hl1 := hlx q hq.1 hq.2
  refine zl_ild3 I8_0 ?_
  refine zl_ald2 I8_1 ?_
  refine zr_getr (j := 0) I8_2 F1_63 rfl (sT9 hS) (sR9_0 hS) ?_
  refine zr_getr (j := 2) I8_5 F1_90 rfl (sT10 hS) (sR10_2 hS) ?_
  refine zl_ild1 I8_8 ?_
  refine zr_iaB hB (by decide) I8_9 (sT12 hS) (sN12 hS) (by omega) (fun b9 => ?_)
  refine zr_iadd I8_10 (by unfold zInR; omega) ?_
  refine zl_ist4 I8_11 ?_
  refine zl_ald2 I8_13 ?_
  refine zr_getr (j := 0) I8_14 F1_63 rfl (sT9 hS) (sR9_0 hS) ?_
  refine zr_getr (j := 1) I8_17 F1_80 rfl (sT10 hS) (sR10_1 hS) ?_
  refine zl_ild1 I8_20 ?_
  refine zr_iaB hB (by decide) I8_21 (sT11 hS) (sN11 hS) (by omega) (fun b21 => ?_)
  refine zr_iconst I8_22 ?_
  refine zr_ic_ne (t := 35) I8_23 rfl (fun h23 => ?_) (fun h23 => ?_)
  · refine zr_sipush I8_35 ?_
    refine zr_iret I8_38 rfl ?_
    exact ⟨_, rfl, Or.inl ⟨fun h => by have h1 := h.1; have h2 := h.2.1; omega, rfl⟩, rfl⟩
  · refine zl_ild4 I8_26 ?_
    refine zl_ald0 I8_28 ?_
    refine zr_giB (j := 2) hB (by decide) I8_29 F1_37 rfl (sT137 hS) (fun b29 => ?_)
    refine zr_ic_le (t := 39) I8_32 rfl (fun h32 => ?_) (fun h32 => ?_)
    · refine zl_ald2 I8_39 ?_
      refine zr_getr (j := 2) I8_40 F1_92 rfl (sT9 hS) (sR9_2 hS) ?_
      refine zl_ald2 I8_43 ?_
      refine zr_getr (j := 0) I8_44 F1_63 rfl (sT9 hS) (sR9_0 hS) ?_
      refine zr_getr (j := 3) I8_47 F1_96 rfl (sT10 hS) (sR10_3 hS) ?_
      refine zl_ild1 I8_50 ?_
      refine zr_iaB hB (by decide) I8_51 (sT13 hS) (sN13 hS) (by omega) (fun b51 => ?_)
      refine zl_ald0 I8_52 ?_
      refine zr_giB (j := 1) hB (by decide) I8_53 F1_27 rfl (sT137 hS) (fun b53 => ?_)
      refine zl_ild3 I8_56 ?_
      refine zr_iadd I8_57 (by unfold zInR; omega) ?_
      refine zl_ald0 I8_58 ?_
      refine zr_giB (j := 1) hB (by decide) I8_59 F1_27 rfl (sT137 hS) (fun b59 => ?_)
      refine zl_ild4 I8_62 ?_
      refine zr_iadd I8_64 (by unfold zInR; omega) ?_
      refine zr_callV I8_65 C1_99 ⟨rfl, rfl⟩ ⟨rfl, Nat.le_of_ble_eq_true rfl⟩ (Or.inl ⟨rfl, sT20 hS⟩) (e_X0_darkUntil hS hB hbl hn (by omega) (by omega)) (fun v65 μ65 hv65 => ?_)
      obtain ⟨x65, rfl, hx65, rfl⟩ := hv65
      have hdz := zDkU_hit hbl (by omega) hx65
      clear hx65
      dsimp only [Option.toList, List.cons_append, List.nil_append]
      refine zr_bipush I8_68 ?_
      refine zr_ic_eq (t := 77) I8_70 rfl (fun h70 => ?_) (fun h70 => ?_)
      · have hq9 := hq.1
        refine zl_ild4 I8_77 ?_
        refine zl_ald0 I8_79 ?_
        refine zr_giB (j := 2) hB (by decide) I8_80 F1_37 rfl (sT137 hS) (fun b80 => ?_)
        refine zr_ic_ne (t := 102) I8_83 rfl (fun h83 => ?_) (fun h83 => ?_)
        · refine zl_ald0 I8_102 ?_
          refine zr_getr (j := 4) I8_103 F1_15 rfl (sT137 hS) (sR137_4 hS) ?_
          refine zl_ild4 I8_106 ?_
          refine zr_iaB hB (by decide) I8_108 (sT139 hS) (sN139 hS) (by omega) (fun b108 => ?_)
          refine zl_ild1 I8_109 ?_
          refine zr_ic_ne (t := 123) I8_110 rfl (fun h110 => ?_) (fun h110 => ?_)
          · refine zl_ald0 I8_123 ?_
            refine zr_getr (j := 5) I8_124 F1_18 rfl (sT137 hS) (sR137_5 hS) ?_
            refine zl_ild4 I8_127 ?_
            refine zr_iaB hB (by decide) I8_129 (sT140 hS) (sN140 hS) (by omega) (fun b129 => ?_)
            refine zl_ist5 I8_130 ?_
            refine zl_ild5 I8_132 ?_
            refine zr_iconst I8_134 ?_
            refine zr_iadd I8_135 (by unfold zInR; omega) ?_
            refine zr_sipush I8_136 ?_
            refine zr_min I8_139 C1_31 (Nat.le_of_ble_eq_true rfl) ?_
            refine zr_iret I8_142 rfl ?_
            have hok9 : zOkF c q t := ⟨by omega, by omega, hdz.mp h70⟩
            refine ⟨_, rfl, Or.inr (Or.inr (Or.inr ⟨hok9, by omega, _, Or.inr ⟨h110, rfl⟩, ?_⟩)), rfl⟩
            split <;> omega
          · refine zl_ald0 I8_113 ?_
            refine zr_getr (j := 7) I8_114 F1_24 rfl (sT137 hS) (sR137_7 hS) ?_
            refine zl_ild4 I8_117 ?_
            refine zr_iaB hB (by decide) I8_119 (sT142 hS) (sN142 hS) (by omega) (fun b119 => ?_)
            refine zr_goto (t := 130) I8_120 rfl ?_
            refine zl_ist5 I8_130 ?_
            refine zl_ild5 I8_132 ?_
            refine zr_iconst I8_134 ?_
            refine zr_iadd I8_135 (by unfold zInR; omega) ?_
            refine zr_sipush I8_136 ?_
            refine zr_min I8_139 C1_31 (Nat.le_of_ble_eq_true rfl) ?_
            refine zr_iret I8_142 rfl ?_
            have hok9 : zOkF c q t := ⟨by omega, by omega, hdz.mp h70⟩
            refine ⟨_, rfl, Or.inr (Or.inr (Or.inr ⟨hok9, by omega, _, Or.inl ⟨h110, rfl⟩, ?_⟩)), rfl⟩
            split <;> omega
        · refine zl_ild1 I8_86 ?_
          refine zl_ald0 I8_87 ?_
          refine zr_giB (j := 3) hB (by decide) I8_88 F1_56 rfl (sT137 hS) (fun b88 => ?_)
          refine zr_ic_ne (t := 100) I8_91 rfl (fun h91 => ?_) (fun h91 => ?_)
          · refine zr_iconst I8_100 ?_
            refine zr_iret I8_101 rfl ?_
            have hok9 : zOkF c q t := ⟨by omega, by omega, hdz.mp h70⟩
            exact ⟨_, rfl, Or.inr (Or.inr (Or.inl ⟨hok9, by omega, by omega, rfl⟩)), rfl⟩
          · refine zr_sipush I8_94 ?_
            refine zr_goto (t := 101) I8_97 rfl ?_
            refine zr_iret I8_101 rfl ?_
            have hok9 : zOkF c q t := ⟨by omega, by omega, hdz.mp h70⟩
            exact ⟨_, rfl, Or.inr (Or.inl ⟨hok9, by omega, by omega, rfl⟩), rfl⟩
      · refine zr_sipush I8_73 ?_
        refine zr_iret I8_76 rfl ?_
        have hd9 : zDk (c 20 0) (c 21) (c 22) (c 23) (c 13 q) (c 137 1 + t) (c 137 1 + (t + c 12 q)) := Classical.byContradiction (fun h => h70 (hdz.mpr h))
        exact ⟨_, rfl, Or.inl ⟨fun h => h.2.2 hd9, rfl⟩, rfl⟩
    · refine zr_sipush I8_35 ?_
      refine zr_iret I8_38 rfl ?_
      exact ⟨_, rfl, Or.inl ⟨fun h => by have h1 := h.1; have h2 := h.2.1; omega, rfl⟩, rfl⟩
theorem zup_k {c : zC} {q r : Nat} {k v j : Int} (h : j ≠ k) : zup c q k v r j = c r j := by unfold zup; rw [if_neg (fun h9 => h h9.2)]
theorem zFx_b {c c1 : zC} (h : ∀ r, (r < 139 ∨ 142 < r) → c1 r = c r) : zFx c1 c := fun r hr => (h r (by omega)).symm
theorem zIw_b {c : zC} {q t x : Int} (h : zIw c q t x) (hB : zBd c) : -100000 ≤ x ∧ x ≤ 100000 := by
  unfold zIw at h
  rcases h with h | h | h | ⟨_, _, y, h1, h2⟩
  · omega
  · omega
  · omega
  · have := hB 142 (t + c 12 q) (by decide)
    have := hB 140 (t + c 12 q) (by decide)
    omega
set_option maxRecDepth 10000 in
set_option maxHeartbeats 2000000 in
theorem e_X1_settle_l {d n sl : Nat} {S : zSh} {c : zC} (hS : zSok S) (hbl : ∀ j, 0 ≤ j → j < c 20 0 → 0 ≤ c 21 j ∧ c 21 j < c 22 j ∧ c 22 j ≤ 1440) (hn : 0 ≤ c 20 0 ∧ c 20 0 ≤ 10) (hpq : 0 ≤ c 10 0 ∧ c 10 0 ≤ 16) (hlx : ∀ p, 0 ≤ p → p < c 10 0 → 1 ≤ c 12 p ∧ c 12 p ≤ 240) (hL : 1 ≤ c 137 2 ∧ c 137 2 ≤ 240) (hF : 0 ≤ c 137 1 ∧ c 137 1 ≤ 10080) {t : Int} (ht : 0 ≤ t ∧ t < c 137 2) : ∀ i : Int, i ≤ c 10 0 → ∀ c1 : zC, ∀ w4 : Option zV, (0 ≤ i) → (∀ r, (r < 139 ∨ 142 < r) → c1 r = c r) → (∀ r, 139 ≤ r → r ≤ 142 → ∀ k, k ≠ t → c1 r k = c r k) → (zBd c1) → (∃ N : Int → Int, (∀ q, 0 ≤ q → q < i → zIw c q t (N q)) ∧ zB2 i N (c1 139 t) (c1 140 t) (c1 141 t) (c1 142 t)) → zE (d + 2) 7 36 [some (zA 137), some (zA 9), some (zI t), some (zI i), w4] [] ((n, sl), (S, c1)) (fun r μ' => ∃ c', r = none ∧ μ' = ((n, sl), (S, c')) ∧ (zSt c' t ∧ (∀ r, (r < 139 ∨ 142 < r) → c' r = c r) ∧ (∀ r, 139 ≤ r → r ≤ 142 → ∀ k, k ≠ t → c' r k = c r k) ∧ zBd c')) := by
  refine zind _ (fun i ih hN => ?_)
  intro c1 w4 h0 hfr hfk hBd hN
  have e10 := hfr 10 (by decide)
  have e12 := hfr 12 (by decide)
  have e137 := hfr 137 (by decide)
  have n10 : c1 10 0 = c 10 0 := by rw [e10]
  refine zl_ild3 I7_36 ?_
  refine zl_ald1 I7_37 ?_
  refine zr_getr (j := 0) I7_38 F1_63 rfl (sT9 hS) (sR9_0 hS) ?_
  refine zr_giB (j := 0) hBd (by decide) I7_41 F1_85 rfl (sT10 hS) (fun b41 => ?_)
  refine zr_ic_ge (t := 141) I7_44 rfl (fun h44 => ?_) (fun h44 => ?_)
  · refine zr_vret I7_141 rfl ?_
    refine ⟨_, rfl, rfl, ?_, hfr, hfk, hBd⟩
    obtain ⟨N, n1, n2⟩ := hN
    refine ⟨N, fun q q1 q2 => zIw_c (fun r hr => hfr r (by omega)) (hlx q q1 (by omega)).1 (fun k hk => ⟨hfk 139 (by decide) (by decide) k (by omega), hfk 140 (by decide) (by decide) k (by omega), hfk 142 (by decide) (by decide) k (by omega)⟩) (n1 q q1 (by omega)), ?_⟩
    rw [n10, show c 10 0 = i by omega]
    exact n2
  · refine zl_ald0 I7_47 ?_
    refine zl_ild3 I7_48 ?_
    refine zl_ald1 I7_49 ?_
    refine zl_ild2 I7_50 ?_
    refine zr_callV I7_51 C1_86 ⟨rfl, rfl⟩ ⟨rfl, Nat.le_of_ble_eq_true rfl⟩ (Or.inl ⟨rfl, sT137 hS⟩) (e_X1_itemsWith hS hBd (by rw [hfr 20 (by decide), hfr 21 (by decide), hfr 22 (by decide)]; exact hbl) (by rw [hfr 20 (by decide)]; exact hn) (by rw [e10]; exact hpq) (by rw [e10, e12]; exact hlx) (by rw [e137]; exact hL) (by rw [e137]; exact hF) (by omega) (by rw [e137]; exact ht)) (fun v51 μ51 hv51 => ?_)
    obtain ⟨x51, rfl, hx51, rfl⟩ := hv51
    have hx52 := zIw_c (zFx_b hfr) (by rw [e12]; exact (hlx i h0 (by omega)).1) (fun k hk => ⟨(hfk 139 (by decide) (by decide) k (by omega)).symm, (hfk 140 (by decide) (by decide) k (by omega)).symm, (hfk 142 (by decide) (by decide) k (by omega)).symm⟩) hx51
    have hx53 : -100000 ≤ x51 ∧ x51 ≤ 100000 := zIw_b hx51 hBd
    obtain ⟨N2, hN2, hb2, hNi⟩ : ∃ N2 : Int → Int, (∀ q, 0 ≤ q → q < i + 1 → zIw c q t (N2 q)) ∧ zB2 i N2 (c1 139 t) (c1 140 t) (c1 141 t) (c1 142 t) ∧ N2 i = x51 := by
      obtain ⟨N, n1, n2⟩ := hN
      refine ⟨fun q => if q = i then x51 else N q, fun q q1 q2 => ?_, zB2_congr (fun q q1 q2 => if_neg (by omega)) n2, if_pos rfl⟩
      dsimp only
      by_cases e : q = i
      · rw [if_pos e, e]
        exact hx52
      · rw [if_neg e]
        exact n1 q q1 (by omega)
    clear hN hx51 hx52
    dsimp only [Option.toList, List.cons_append, List.nil_append]
    refine zl_ist4 I7_54 ?_
    refine zl_ild4 I7_56 ?_
    refine zl_ald0 I7_58 ?_
    refine zr_getr (j := 5) I7_59 F1_18 rfl (sT137 hS) (sR137_5 hS) ?_
    refine zl_ild2 I7_62 ?_
    refine zr_iaB hBd (by decide) I7_63 (sT140 hS) (sN140 hS) (by omega) (fun b63 => ?_)
    refine zr_ic_ge (t := 109) I7_64 rfl (fun h64 => ?_) (fun h64 => ?_)
    · refine zl_ild4 I7_109 ?_
      refine zl_ald0 I7_111 ?_
      refine zr_getr (j := 7) I7_112 F1_24 rfl (sT137 hS) (sR137_7 hS) ?_
      refine zl_ild2 I7_115 ?_
      refine zr_iaB hBd (by decide) I7_116 (sT142 hS) (sN142 hS) (by omega) (fun b116 => ?_)
      refine zr_ic_ge (t := 135) I7_117 rfl (fun h117 => ?_) (fun h117 => ?_)
      · refine zl_iinc3 I7_135 (by unfold zInR; omega) ?_
        refine zr_goto (t := 36) I7_138 rfl ?_
        refine ih _ (by omega) (by omega) _ _ (by omega) hfr ?_ hBd ?_
        · intro r r1 r2 k hk
          exact hfk r r1 r2 k hk
        · refine ⟨N2, hN2, ?_⟩
          exact zB2_3 hb2 (by omega) (by omega)
      · refine zl_ald0 I7_120 ?_
        refine zr_getr (j := 6) I7_121 F1_21 rfl (sT137 hS) (sR137_6 hS) ?_
        refine zl_ild2 I7_124 ?_
        refine zl_ild3 I7_125 ?_
        refine zr_iast I7_126 (sT141 hS) (sN141 hS) (by omega) ?_
        refine zl_ald0 I7_127 ?_
        refine zr_getr (j := 7) I7_128 F1_24 rfl (sT137 hS) (sR137_7 hS) ?_
        refine zl_ild2 I7_131 ?_
        refine zl_ild4 I7_132 ?_
        refine zr_iast I7_134 (sT142 hS) (sN142 hS) (by omega) ?_
        refine zl_iinc3 I7_135 (by unfold zInR; omega) ?_
        refine zr_goto (t := 36) I7_138 rfl ?_
        refine ih _ (by omega) (by omega) _ _ (by omega) (fun r hr => by rw [zup_ne (by omega), zup_ne (by omega)]; exact hfr r hr) ?_ (zBd_up (zBd_up hBd (by omega)) (by omega)) ?_
        · intro r r1 r2 k hk
          rw [zup_k hk, zup_k hk]
          exact hfk r r1 r2 k hk
        · refine ⟨N2, hN2, ?_⟩
          simp only [zup_same, zup_oth (show (139 : Nat) ≠ 141 by decide), zup_oth (show (139 : Nat) ≠ 142 by decide), zup_oth (show (140 : Nat) ≠ 141 by decide), zup_oth (show (140 : Nat) ≠ 142 by decide), zup_oth (show (141 : Nat) ≠ 142 by decide)]
          have h9 := zB2_2 h0 hb2 (by omega) (by omega)
          rw [hNi] at h9
          exact h9
    · refine zl_ald0 I7_67 ?_
      refine zr_getr (j := 6) I7_68 F1_21 rfl (sT137 hS) (sR137_6 hS) ?_
      refine zl_ild2 I7_71 ?_
      refine zl_ald0 I7_72 ?_
      refine zr_getr (j := 4) I7_73 F1_15 rfl (sT137 hS) (sR137_4 hS) ?_
      refine zl_ild2 I7_76 ?_
      refine zr_iald I7_77 (sT139 hS) (sN139 hS) (by omega) ?_
      refine zr_iast I7_78 (sT141 hS) (sN141 hS) (by omega) ?_
      refine zl_ald0 I7_79 ?_
      refine zr_getr (j := 7) I7_80 F1_24 rfl (sT137 hS) (sR137_7 hS) ?_
      refine zl_ild2 I7_83 ?_
      refine zl_ald0 I7_84 ?_
      refine zr_getr (j := 5) I7_85 F1_18 rfl (sT137 hS) (sR137_5 hS) ?_
      refine zl_ild2 I7_88 ?_
      refine zr_iald I7_89 (sT140 hS) (sN140 hS) (by omega) ?_
      refine zr_iast I7_90 (sT142 hS) (sN142 hS) (by omega) ?_
      refine zl_ald0 I7_91 ?_
      refine zr_getr (j := 4) I7_92 F1_15 rfl (sT137 hS) (sR137_4 hS) ?_
      refine zl_ild2 I7_95 ?_
      refine zl_ild3 I7_96 ?_
      refine zr_iast I7_97 (sT139 hS) (sN139 hS) (by omega) ?_
      refine zl_ald0 I7_98 ?_
      refine zr_getr (j := 5) I7_99 F1_18 rfl (sT137 hS) (sR137_5 hS) ?_
      refine zl_ild2 I7_102 ?_
      refine zl_ild4 I7_103 ?_
      refine zr_iast I7_105 (sT140 hS) (sN140 hS) (by omega) ?_
      refine zr_goto (t := 135) I7_106 rfl ?_
      refine zl_iinc3 I7_135 (by unfold zInR; omega) ?_
      refine zr_goto (t := 36) I7_138 rfl ?_
      refine ih _ (by omega) (by omega) _ _ (by omega) (fun r hr => by rw [zup_ne (by omega), zup_ne (by omega), zup_ne (by omega), zup_ne (by omega)]; exact hfr r hr) ?_ (zBd_up (zBd_up (zBd_up (zBd_up hBd (hBd 139 t (by decide))) (by rw [zup_oth (by decide)]; exact hBd 140 t (by decide))) (by omega)) (by omega)) ?_
      · intro r r1 r2 k hk
        rw [zup_k hk, zup_k hk, zup_k hk, zup_k hk]
        exact hfk r r1 r2 k hk
      · refine ⟨N2, hN2, ?_⟩
        simp only [zup_same, zup_oth (show (139 : Nat) ≠ 140 by decide), zup_oth (show (139 : Nat) ≠ 141 by decide), zup_oth (show (139 : Nat) ≠ 142 by decide), zup_oth (show (140 : Nat) ≠ 139 by decide), zup_oth (show (140 : Nat) ≠ 141 by decide), zup_oth (show (140 : Nat) ≠ 142 by decide), zup_oth (show (141 : Nat) ≠ 139 by decide), zup_oth (show (141 : Nat) ≠ 140 by decide), zup_oth (show (141 : Nat) ≠ 142 by decide), zup_oth (show (142 : Nat) ≠ 139 by decide), zup_oth (show (142 : Nat) ≠ 140 by decide), zup_oth (show (142 : Nat) ≠ 141 by decide)]
        have h9 := zB2_1 h0 hb2 (by omega)
        rw [hNi] at h9
        exact h9
set_option maxRecDepth 10000 in
set_option maxHeartbeats 2000000 in
theorem e_X1_settle {d n sl : Nat} {S : zSh} {c : zC} (hS : zSok S) (hB : zBd c) (hbl : ∀ j, 0 ≤ j → j < c 20 0 → 0 ≤ c 21 j ∧ c 21 j < c 22 j ∧ c 22 j ≤ 1440) (hn : 0 ≤ c 20 0 ∧ c 20 0 ≤ 10) (hpq : 0 ≤ c 10 0 ∧ c 10 0 ≤ 16) (hlx : ∀ p, 0 ≤ p → p < c 10 0 → 1 ≤ c 12 p ∧ c 12 p ≤ 240) (hL : 1 ≤ c 137 2 ∧ c 137 2 ≤ 240) (hF : 0 ≤ c 137 1 ∧ c 137 1 ≤ 10080) {t : Int} (ht : 0 ≤ t ∧ t < c 137 2) : zE (d + 2) 7 0 (zent 7 [zA 137, zA 9, zI t]) [] ((n, sl), (S, c)) (fun r μ' => ∃ c', r = none ∧ μ' = ((n, sl), (S, c')) ∧ (zSt c' t ∧ (∀ r, (r < 139 ∨ 142 < r) → c' r = c r) ∧ (∀ r, 139 ≤ r → r ≤ 142 → ∀ k, k ≠ t → c' r k = c r k) ∧ zBd c')) := by
  show zE (d + 2) 7 0 [some (zA 137), some (zA 9), some (zI t), none, none] [] ((n, sl), (S, c)) _
  refine zl_ald0 I7_0 ?_
  refine zr_getr (j := 4) I7_1 F1_15 rfl (sT137 hS) (sR137_4 hS) ?_
  refine zl_ild2 I7_4 ?_
  refine zr_bipush I7_5 ?_
  refine zr_iast I7_7 (sT139 hS) (sN139 hS) (by omega) ?_
  refine zl_ald0 I7_8 ?_
  refine zr_getr (j := 5) I7_9 F1_18 rfl (sT137 hS) (sR137_5 hS) ?_
  refine zl_ild2 I7_12 ?_
  refine zr_sipush I7_13 ?_
  refine zr_iast I7_16 (sT140 hS) (sN140 hS) (by omega) ?_
  refine zl_ald0 I7_17 ?_
  refine zr_getr (j := 6) I7_18 F1_21 rfl (sT137 hS) (sR137_6 hS) ?_
  refine zl_ild2 I7_21 ?_
  refine zr_bipush I7_22 ?_
  refine zr_iast I7_24 (sT141 hS) (sN141 hS) (by omega) ?_
  refine zl_ald0 I7_25 ?_
  refine zr_getr (j := 7) I7_26 F1_24 rfl (sT137 hS) (sR137_7 hS) ?_
  refine zl_ild2 I7_29 ?_
  refine zr_sipush I7_30 ?_
  refine zr_iast I7_33 (sT142 hS) (sN142 hS) (by omega) ?_
  refine zr_iconst I7_34 ?_
  refine zl_ist3 I7_35 ?_
  refine e_X1_settle_l hS hbl hn hpq hlx hL hF ht 0 (by omega) _ _ (by omega) (fun r hr => by rw [zup_ne (by omega), zup_ne (by omega), zup_ne (by omega), zup_ne (by omega)]) (fun r r1 r2 k hk => by rw [zup_k hk, zup_k hk, zup_k hk, zup_k hk]) (zBd_up (zBd_up (zBd_up (zBd_up hB (by decide)) (by decide)) (by decide)) (by decide)) ?_
  refine ⟨fun _ => 0, fun q q1 q2 => absurd q1 (by omega), Or.inl ⟨?_, ?_, ?_, ?_, fun q q1 q2 => absurd q1 (by omega)⟩⟩
  · rw [zup_oth (by decide), zup_oth (by decide), zup_oth (by decide), zup_same]
  · rw [zup_oth (by decide), zup_oth (by decide), zup_same]
  · rw [zup_oth (by decide), zup_same]
  · rw [zup_same]
set_option maxRecDepth 10000 in
set_option maxHeartbeats 2000000 in
theorem e_X1_choose_l {d n sl : Nat} {S : zSh} {c : zC} (hS : zSok S) (hpq : 0 ≤ c 10 0 ∧ c 10 0 ≤ 16) (hlx : ∀ p, 0 ≤ p → p < c 10 0 → 1 ≤ c 12 p ∧ c 12 p ≤ 240) (hL : 1 ≤ c 137 2 ∧ c 137 2 ≤ 240) (hF : 0 ≤ c 137 1 ∧ c 137 1 ≤ 10080) (hst : ∀ t, 0 ≤ t → t < c 137 2 → zSt c t) {fb : Int} : ∀ t : Int, t ≤ 480 → ∀ m : Int, ∀ l : Int, ∀ c1 : zC, ∀ w6 : Option zV, (0 ≤ t) → (0 ≤ m ∧ m ≤ t) → (∀ r, r ≠ 138 → c1 r = c r) → (zBd c1) → zE (d + 0) 9 8 [some (zA 137), some (zA 10), some (zI fb), some (zI m), some (zI l), some (zI t), w6] [] ((n, sl), (S, c1)) (fun r μ' => ∃ (x : Int) (c' : zC) (s : List Int), r = some (zI x) ∧ μ' = ((n, sl), (S, c')) ∧ ((zChs c s t l ∧ x = m + s.length ∧ ∀ (k : Nat) (y : Int), s[k]? = some y → c' 138 (m + k) = y) ∨ (zChN c s t l ∧ x = -9)) ∧ (∀ r, r ≠ 138 → c' r = c r) ∧ (∀ k, k < m → c' 138 k = c1 138 k) ∧ zBd c') := by
  refine zind _ (fun t ih hN => ?_)
  intro m l c1 w6 h0 hm hfr hBd
  have e137 := hfr 137 (by decide)
  have e139 := hfr 139 (by decide)
  have e141 := hfr 141 (by decide)
  have e12 := hfr 12 (by decide)
  have n137 : c1 137 2 = c 137 2 := by rw [e137]
  have n139 : c1 139 t = c 139 t := by rw [e139]
  have n141 : c1 141 t = c 141 t := by rw [e141]
  refine zl_ild5 I9_8 ?_
  refine zl_ald0 I9_10 ?_
  refine zr_giB (j := 2) hBd (by decide) I9_11 F1_37 rfl (sT137 hS) (fun b11 => ?_)
  refine zr_ic_ge (t := 95) I9_14 rfl (fun h14 => ?_) (fun h14 => ?_)
  · refine zl_ild3 I9_95 ?_
    refine zr_iret I9_96 rfl ?_
    exact ⟨_, _, [], rfl, rfl, Or.inl ⟨by show ¬ t < c 137 2; omega, by simp, fun k y hy => by cases hy⟩, hfr, fun _ _ => rfl, hBd⟩
  · refine zl_ild3 I9_17 ?_
    refine zr_sipush I9_18 ?_
    refine zr_ic_ge (t := 95) I9_21 rfl (fun h21 => ?_) (fun h21 => ?_)
    · refine zl_ild3 I9_95 ?_
      refine zr_iret I9_96 rfl ?_
      exact ⟨_, _, [], rfl, rfl, Or.inl ⟨by show ¬ t < c 137 2; omega, by simp, fun k y hy => by cases hy⟩, hfr, fun _ _ => rfl, hBd⟩
    · have hst9 := hst t h0 (by omega)
      obtain ⟨N, n1, n2⟩ := hst9
      have hbr : (c 139 t = -9 ∨ (0 ≤ c 139 t ∧ c 139 t < c 10 0 ∧ c 139 t = c 139 t)) ∧ (c 141 t = -9 ∨ (0 ≤ c 141 t ∧ c 141 t < c 10 0 ∧ c 141 t = c 141 t)) := by
        rcases n2 with ⟨a1, a2, a3, a4, a5⟩ | ⟨⟨a1, a2, a3, a4⟩, a5, a6, a7⟩
        · exact ⟨Or.inl a1, Or.inl a3⟩
        · rcases a7 with ⟨b1, b2, b3⟩ | ⟨⟨b1, b2, b3, b4, b5⟩, b6, b7⟩
          · exact ⟨Or.inr ⟨a1, a2, rfl⟩, Or.inl b1⟩
          · exact ⟨Or.inr ⟨a1, a2, rfl⟩, Or.inr ⟨b1, b2, rfl⟩⟩
      clear n1 n2
      refine zl_ald0 I9_24 ?_
      refine zr_getr (j := 4) I9_25 F1_15 rfl (sT137 hS) (sR137_4 hS) ?_
      refine zl_ild5 I9_28 ?_
      refine zr_iaB hBd (by decide) I9_30 (sT139 hS) (sN139 hS) (by omega) (fun b30 => ?_)
      rw [n139]
      refine zl_ild4 I9_31 ?_
      refine zr_ic_ne (t := 46) I9_33 rfl (fun h33 => ?_) (fun h33 => ?_)
      · refine zl_ald0 I9_46 ?_
        refine zr_getr (j := 4) I9_47 F1_15 rfl (sT137 hS) (sR137_4 hS) ?_
        refine zl_ild5 I9_50 ?_
        refine zr_iaB hBd (by decide) I9_52 (sT139 hS) (sN139 hS) (by omega) (fun b52 => ?_)
        rw [n139]
        refine zl_ist6 I9_53 ?_
        refine zl_ild6 I9_55 ?_
        refine zr_bipush I9_57 ?_
        refine zr_ic_ne (t := 65) I9_59 rfl (fun h59 => ?_) (fun h59 => ?_)
        · have hl9 := hlx (c 139 t) (by omega) (by omega)
          refine zl_ald0 I9_65 ?_
          refine zr_getr (j := 0) I9_66 F1_9 rfl (sT137 hS) (sR137_0 hS) ?_
          refine zl_ild3 I9_69 ?_
          refine zl_ild6 I9_70 ?_
          refine zr_iast I9_72 (sT138 hS) (sN138 hS) (by omega) ?_
          refine zl_iinc3 I9_73 (by unfold zInR; omega) ?_
          refine zl_ild5 I9_76 ?_
          refine zl_ald1 I9_78 ?_
          refine zr_getr (j := 2) I9_79 F1_90 rfl (sT10 hS) (sR10_2 hS) ?_
          refine zl_ild6 I9_82 ?_
          refine zr_iald I9_84 (sT12 hS) (sN12 hS) (by omega) ?_
          rw [show zup c1 138 m (c 139 t) 12 (c 139 t) = c 12 (c 139 t) by rw [zup_oth (by decide), e12]]
          refine zr_iadd I9_85 (by unfold zInR; omega) ?_
          refine zl_ist5 I9_86 ?_
          refine zl_ild6 I9_88 ?_
          refine zl_ist4 I9_90 ?_
          refine zr_goto (t := 8) I9_92 rfl ?_
          have hpk : zPk c t l (c 139 t) := Or.inr ⟨by omega, rfl⟩
          refine zE.mono (ih _ (by omega) (by omega) _ _ _ _ (by omega) (by omega) (fun r hr => by rw [zup_ne hr]; exact hfr r hr) (zBd_up hBd (by omega))) ?_
          rintro r μ' ⟨x, c', s, rfl, rfl, h1, h2, h3, h4⟩
          refine ⟨x, c', (c 139 t) :: s, rfl, rfl, ?_, h2, fun k hk => ?_, h4⟩
          · rcases h1 with ⟨h5, h6, h7⟩ | ⟨h5, h6⟩
            · refine Or.inl ⟨⟨by omega, hpk, by omega, h5⟩, by simp only [List.length_cons]; omega, fun k y hy => ?_⟩
              cases k with
              | zero =>
                cases hy
                rw [show m + ((0 : Nat) : Int) = m by omega, h3 m (by omega), zup_same]
              | succ k => rw [show m + ((k + 1 : Nat) : Int) = m + 1 + k by omega]; exact h7 k y hy
            · exact Or.inr ⟨⟨by omega, hpk, by omega, h5⟩, h6⟩
          · rw [h3 k (by omega), zup_q, if_neg (by omega)]
        · refine zr_bipush I9_62 ?_
          refine zr_iret I9_64 rfl ?_
          refine ⟨_, _, [], rfl, rfl, Or.inr ⟨⟨by omega, ?_⟩, rfl⟩, hfr, fun _ _ => rfl, hBd⟩
          unfold zPk
          omega
      · refine zl_ald0 I9_36 ?_
        refine zr_getr (j := 6) I9_37 F1_21 rfl (sT137 hS) (sR137_6 hS) ?_
        refine zl_ild5 I9_40 ?_
        refine zr_iald I9_42 (sT141 hS) (sN141 hS) (by omega) ?_
        rw [n141]
        refine zr_goto (t := 53) I9_43 rfl ?_
        refine zl_ist6 I9_53 ?_
        refine zl_ild6 I9_55 ?_
        refine zr_bipush I9_57 ?_
        refine zr_ic_ne (t := 65) I9_59 rfl (fun h59 => ?_) (fun h59 => ?_)
        · have hl9 := hlx (c 141 t) (by omega) (by omega)
          refine zl_ald0 I9_65 ?_
          refine zr_getr (j := 0) I9_66 F1_9 rfl (sT137 hS) (sR137_0 hS) ?_
          refine zl_ild3 I9_69 ?_
          refine zl_ild6 I9_70 ?_
          refine zr_iast I9_72 (sT138 hS) (sN138 hS) (by omega) ?_
          refine zl_iinc3 I9_73 (by unfold zInR; omega) ?_
          refine zl_ild5 I9_76 ?_
          refine zl_ald1 I9_78 ?_
          refine zr_getr (j := 2) I9_79 F1_90 rfl (sT10 hS) (sR10_2 hS) ?_
          refine zl_ild6 I9_82 ?_
          refine zr_iald I9_84 (sT12 hS) (sN12 hS) (by omega) ?_
          rw [show zup c1 138 m (c 141 t) 12 (c 141 t) = c 12 (c 141 t) by rw [zup_oth (by decide), e12]]
          refine zr_iadd I9_85 (by unfold zInR; omega) ?_
          refine zl_ist5 I9_86 ?_
          refine zl_ild6 I9_88 ?_
          refine zl_ist4 I9_90 ?_
          refine zr_goto (t := 8) I9_92 rfl ?_
          have hpk : zPk c t l (c 141 t) := Or.inl ⟨by omega, by omega⟩
          refine zE.mono (ih _ (by omega) (by omega) _ _ _ _ (by omega) (by omega) (fun r hr => by rw [zup_ne hr]; exact hfr r hr) (zBd_up hBd (by omega))) ?_
          rintro r μ' ⟨x, c', s, rfl, rfl, h1, h2, h3, h4⟩
          refine ⟨x, c', (c 141 t) :: s, rfl, rfl, ?_, h2, fun k hk => ?_, h4⟩
          · rcases h1 with ⟨h5, h6, h7⟩ | ⟨h5, h6⟩
            · refine Or.inl ⟨⟨by omega, hpk, by omega, h5⟩, by simp only [List.length_cons]; omega, fun k y hy => ?_⟩
              cases k with
              | zero =>
                cases hy
                rw [show m + ((0 : Nat) : Int) = m by omega, h3 m (by omega), zup_same]
              | succ k => rw [show m + ((k + 1 : Nat) : Int) = m + 1 + k by omega]; exact h7 k y hy
            · exact Or.inr ⟨⟨by omega, hpk, by omega, h5⟩, h6⟩
          · rw [h3 k (by omega), zup_q, if_neg (by omega)]
        · refine zr_bipush I9_62 ?_
          refine zr_iret I9_64 rfl ?_
          refine ⟨_, _, [], rfl, rfl, Or.inr ⟨⟨by omega, ?_⟩, rfl⟩, hfr, fun _ _ => rfl, hBd⟩
          unfold zPk
          omega
set_option maxRecDepth 10000 in
set_option maxHeartbeats 2000000 in
theorem e_X1_choose {d n sl : Nat} {S : zSh} {c : zC} (hS : zSok S) (hB : zBd c) (hpq : 0 ≤ c 10 0 ∧ c 10 0 ≤ 16) (hlx : ∀ p, 0 ≤ p → p < c 10 0 → 1 ≤ c 12 p ∧ c 12 p ≤ 240) (hL : 1 ≤ c 137 2 ∧ c 137 2 ≤ 240) (hF : 0 ≤ c 137 1 ∧ c 137 1 ≤ 10080) (hst : ∀ t, 0 ≤ t → t < c 137 2 → zSt c t) {fb : Int} : zE (d + 0) 9 0 (zent 9 [zA 137, zA 10, zI fb]) [] ((n, sl), (S, c)) (fun r μ' => ∃ (x : Int) (c' : zC) (s : List Int), r = some (zI x) ∧ μ' = ((n, sl), (S, c')) ∧ ((zChs c s 0 fb ∧ x = s.length ∧ ∀ (k : Nat) (y : Int), s[k]? = some y → c' 138 (k) = y) ∨ (zChN c s 0 fb ∧ x = -9)) ∧ (∀ r, r ≠ 138 → c' r = c r) ∧ zBd c') := by
  show zE (d + 0) 9 0 [some (zA 137), some (zA 10), some (zI fb), none, none, none, none] [] ((n, sl), (S, c)) _
  refine zr_iconst I9_0 ?_
  refine zl_ist3 I9_1 ?_
  refine zl_ild2 I9_2 ?_
  refine zl_ist4 I9_3 ?_
  refine zr_iconst I9_5 ?_
  refine zl_ist5 I9_6 ?_
  refine zE.mono (e_X1_choose_l hS hpq hlx hL hF hst 0 (by omega) 0 fb c _ (by omega) (by omega) (fun r hr => rfl) hB) ?_
  rintro r μ' ⟨x, c', s, rfl, rfl, h1, h2, h3, h4⟩
  refine ⟨x, c', s, rfl, rfl, ?_, h2, h4⟩
  rcases h1 with ⟨h5, h6, h7⟩ | h1
  · exact Or.inl ⟨h5, by omega, fun k y hy => by rw [← h7 k y hy, show (0 : Int) + k = k by omega]⟩
  · exact Or.inr h1
