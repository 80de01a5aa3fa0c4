/-! entries -/
theorem zindD {P : Int → Prop} (h : ∀ i, (∀ j, 0 ≤ j → j < i → P j) → 0 ≤ i → P i) : ∀ i, 0 ≤ i → P i := by
  have key : ∀ (k : Nat) (i : Int), i ≤ k → 0 ≤ i → P i := by
    intro k
    induction k with
    | zero => exact fun i h1 h2 => h i (fun j h3 h4 => absurd h3 (by omega)) h2
    | succ k ih => exact fun i h1 h2 => h i (fun j h3 h4 => ih j (by omega) h3) h2
  exact fun i hi => key i.toNat i (by omega) hi
abbrev zEn : Type := Int × (Int × Int)
def zRepE (c : zC) (l : List zEn) : Prop := c 131 0 = l.length ∧ ∀ (k : Nat) (x : zEn), l[k]? = some x → c 132 (k : Int) = x.1 ∧ c 133 (k : Int) = x.2.1 ∧ c 134 (k : Int) = x.2.2
def zInsL : List zEn → zEn → List zEn
  | [], x => [x]
  | y :: l, x => if x.2.1 < y.2.1 then x :: y :: l else y :: zInsL l x
theorem zInsL_at : ∀ (l : List zEn) (x : zEn) (t : Nat), t ≤ l.length → (∀ (k : Nat) (y : zEn), k < t → l[k]? = some y → y.2.1 ≤ x.2.1) → (∀ y : zEn, l[t]? = some y → x.2.1 < y.2.1) → zInsL l x = l.take t ++ x :: l.drop t
  | [], x, t, ht, _, _ => by
    have : t = 0 := by simpa using ht
    subst this
    rfl
  | y :: l, x, 0, _, _, h2 => by
    have := h2 y rfl
    show (if x.2.1 < y.2.1 then x :: y :: l else _) = _
    rw [if_pos this]
    rfl
  | y :: l, x, t + 1, ht, h1, h2 => by
    have h3 := h1 0 y (by omega) rfl
    show (if x.2.1 < y.2.1 then x :: y :: l else y :: zInsL l x) = _
    rw [if_neg (by omega), zInsL_at l x t (by simpa using ht) (fun k z hk hz => h1 (k + 1) z (by omega) (by simpa using hz)) (fun z hz => h2 z (by simpa using hz))]
    rfl
/-- entries in the order of their starts -/
def zSrt (l : List zEn) : Prop := ∀ (j k : Nat) (x y : zEn), j ≤ k → l[j]? = some x → l[k]? = some y → x.2.1 ≤ y.2.1
/-- an entry more, behind those that start no later -/
def zAdd (c c' : zC) (p s e : Int) : Prop := ∃ t : Int, 0 ≤ t ∧ t ≤ c 131 0 ∧ (∀ k, t ≤ k → k < c 131 0 → s < c 133 k) ∧ (t = 0 ∨ c 133 (t - 1) ≤ s) ∧ c' 131 0 = c 131 0 + 1 ∧ (∀ k, 0 ≤ k → k < t → c' 132 k = c 132 k ∧ c' 133 k = c 133 k ∧ c' 134 k = c 134 k) ∧ (c' 132 t = p ∧ c' 133 t = s ∧ c' 134 t = e) ∧
  (∀ k, t ≤ k → k < c 131 0 → c' 132 (k + 1) = c 132 k ∧ c' 133 (k + 1) = c 133 k ∧ c' 134 (k + 1) = c 134 k) ∧ (∀ r, (r < 131 ∨ 134 < r) → c' r = c r) ∧ zBd c'
theorem zAdd_rep {c c' : zC} {p s e : Int} {l : List zEn} (h : zAdd c c' p s e) (hl : zRepE c l) (hs : zSrt l) : zRepE c' (zInsL l (p, (s, e))) := by
  obtain ⟨t, t1, t2, t3, t4, t5, t6, t7, t8, -, -⟩ := h
  obtain ⟨l1, l2⟩ := hl
  have e1 : zInsL l (p, (s, e)) = l.take t.toNat ++ (p, (s, e)) :: l.drop t.toNat := by
    refine zInsL_at l _ _ (by omega) (fun k y hk hy => ?_) (fun y hy => ?_)
    · rcases t4 with t4 | t4
      · omega
      · have hlt : (t - 1).toNat < l.length := by omega
        obtain ⟨z, hz⟩ : ∃ z, l[(t - 1).toNat]? = some z := ⟨_, List.getElem?_eq_getElem hlt⟩
        have h1 := hs k (t - 1).toNat y z (by omega) hy hz
        have h2 := (l2 _ z hz).2.1
        rw [show (((t - 1).toNat : Nat) : Int) = t - 1 by omega] at h2
        show y.2.1 ≤ s
        omega
    · have h2 := (l2 _ y hy).2.1
      have hlt := (List.getElem?_eq_some_iff.mp hy).1
      have h3 := t3 t.toNat (by omega) (by omega)
      show s < y.2.1
      omega
  rw [e1]
  have e2 : (l.take t.toNat).length = t.toNat := by simp; omega
  refine ⟨by simp; omega, fun k x hx => ?_⟩
  rcases Nat.lt_trichotomy k t.toNat with hk | hk | hk
  · rw [List.getElem?_append_left (by omega), List.getElem?_take, if_pos hk] at hx
    have h1 := l2 k x hx
    have h2 := t6 k (by omega) (by omega)
    omega
  · rw [List.getElem?_append_right (by omega), show k - (l.take t.toNat).length = 0 by omega] at hx
    cases hx
    rw [show (k : Int) = t by omega]
    exact t7
  · rw [List.getElem?_append_right (by omega), e2, show k - t.toNat = (k - 1 - t.toNat) + 1 by omega, List.getElem?_cons_succ, List.getElem?_drop, show t.toNat + (k - 1 - t.toNat) = k - 1 by omega] at hx
    have h1 := l2 (k - 1) x hx
    have hlt := (List.getElem?_eq_some_iff.mp hx).1
    have h2 := t8 ((k - 1 : Nat) : Int) (by omega) (by omega)
    rw [show (((k - 1 : Nat) : Int) + 1) = (k : Int) by omega] at h2
    omega
theorem zIns_mem {l : List zEn} {x y : zEn} : y ∈ zInsL l x ↔ y = x ∨ y ∈ l := by
  induction l with
  | nil => simp [zInsL]
  | cons z l ih =>
    unfold zInsL
    split
    · simp
    · simp only [List.mem_cons, ih]
      constructor
      · rintro (h | h | h)
        · exact Or.inr (Or.inl h)
        · exact Or.inl h
        · exact Or.inr (Or.inr h)
      · rintro (h | h | h)
        · exact Or.inr (Or.inl h)
        · exact Or.inl h
        · exact Or.inr (Or.inr h)
theorem zIns_len {l : List zEn} {x : zEn} : (zInsL l x).length = l.length + 1 := by
  induction l with
  | nil => rfl
  | cons z l ih =>
    unfold zInsL
    split
    · rfl
    · simp [ih]
theorem zSrt_cons {x : zEn} {l : List zEn} : zSrt (x :: l) ↔ (∀ y ∈ l, x.2.1 ≤ y.2.1) ∧ zSrt l := by
  constructor
  · intro h
    refine ⟨fun y hy => ?_, fun j k a b hjk ha hb => h (j + 1) (k + 1) a b (by omega) (by simpa using ha) (by simpa using hb)⟩
    obtain ⟨i, hi⟩ := List.getElem?_of_mem hy
    exact h 0 (i + 1) x y (by omega) rfl (by simpa using hi)
  · rintro ⟨h1, h2⟩ j k a b hjk ha hb
    cases j with
    | zero =>
      cases ha
      cases k with
      | zero => cases hb; exact Int.le_refl _
      | succ k => exact h1 b (List.mem_of_getElem? (by simpa using hb))
    | succ j =>
      cases k with
      | zero => omega
      | succ k => exact h2 j k a b (by omega) (by simpa using ha) (by simpa using hb)
theorem zSrt_ins {l : List zEn} {x : zEn} (h : zSrt l) : zSrt (zInsL l x) := by
  induction l with
  | nil => exact zSrt_cons.mpr ⟨(fun y hy => by cases hy), (fun j k a b _ ha => by rw [List.getElem?_nil] at ha; cases ha)⟩
  | cons z l ih =>
    obtain ⟨h1, h2⟩ := zSrt_cons.mp h
    unfold zInsL
    split
    · rename_i hx
      exact zSrt_cons.mpr ⟨fun y hy => by
        rcases List.mem_cons.mp hy with rfl | hy
        · omega
        · have := h1 y hy
          omega, h⟩
    · exact zSrt_cons.mpr ⟨fun y hy => by
        rcases zIns_mem.mp hy with rfl | hy
        · omega
        · exact h1 y hy, ih h2⟩
set_option maxRecDepth 10000 in
set_option maxHeartbeats 2000000 in
theorem e_X6_clear {d n sl : Nat} {S : zSh} {c : zC} (hS : zSok S) (hB : zBd c) : zE (d + 0) 33 0 (zent 33 [zA 131]) [] ((n, sl), (S, c)) (fun r μ' => ∃ c', r = none ∧ μ' = ((n, sl), (S, c')) ∧ (c' 131 0 = 0 ∧ (∀ r, r ≠ 131 → c' r = c r) ∧ zBd c')) := by
  show zE (d + 0) 33 0 [some (zA 131)] [] ((n, sl), (S, c)) _
  refine zl_ald0 I33_0 ?_
  refine zr_iconst I33_1 ?_
  refine zr_puti (j := 0) I33_2 F6_27 rfl (sT131 hS) ⟨rfl, fun h => absurd h (by decide)⟩ ?_
  refine zr_vret I33_5 rfl ?_
  exact ⟨_, rfl, rfl, zup_same, fun r hr => zup_ne hr, zBd_up hB (by omega)⟩
set_option maxRecDepth 10000 in
set_option maxHeartbeats 2000000 in
theorem e_X6_add_l {d n sl : Nat} {S : zSh} {c : zC} (hS : zSok S) (he : 0 ≤ c 131 0 ∧ c 131 0 ≤ 60) {p s e : Int} (hpb : -100000 ≤ p ∧ p ≤ 100000) (hsb : -100000 ≤ s ∧ s ≤ 100000) (heb : -100000 ≤ e ∧ e ≤ 100000) : ∀ at9 : Int, 0 ≤ at9 → ∀ c1 : zC, (at9 ≤ c 131 0) → (∀ r, (r < 131 ∨ 134 < r) → c1 r = c r) → (c1 131 0 = c 131 0) → (zBd c1) → (∀ k, 0 ≤ k → k < at9 → c1 132 k = c 132 k ∧ c1 133 k = c 133 k ∧ c1 134 k = c 134 k) → (∀ k, at9 ≤ k → k < c 131 0 → s < c 133 k ∧ c1 132 (k + 1) = c 132 k ∧ c1 133 (k + 1) = c 133 k ∧ c1 134 (k + 1) = c 134 k) → zE (d + 0) 34 16 [some (zA 131), some (zI p), some (zI s), some (zI e), some (zI at9)] [] ((n, sl), (S, c1)) (fun r μ' => ∃ c', r = none ∧ μ' = ((n, sl), (S, c')) ∧ zAdd c c' p s e) := by
  refine zindD (fun at9 ih hN => ?_)
  intro c1 ht hfr hcn hBd hlo hhi
  refine zl_ild4 I34_16 ?_
  refine zr_if_le (t := 88) I34_18 rfl (fun h18 => ?_) (fun h18 => ?_)
  · refine zl_ald0 I34_88 ?_
    refine zr_getr (j := 1) I34_89 F6_11 rfl (sT131 hS) (sR131_1 hS) ?_
    refine zl_ild4 I34_92 ?_
    refine zl_ild1 I34_94 ?_
    refine zr_iast I34_95 (sT132 hS) (sN132 hS) (by omega) ?_
    refine zl_ald0 I34_96 ?_
    refine zr_getr (j := 2) I34_97 F6_15 rfl (sT131 hS) (sR131_2 hS) ?_
    refine zl_ild4 I34_100 ?_
    refine zl_ild2 I34_102 ?_
    refine zr_iast I34_103 (sT133 hS) (sN133 hS) (by omega) ?_
    refine zl_ald0 I34_104 ?_
    refine zr_getr (j := 3) I34_105 F6_18 rfl (sT131 hS) (sR131_3 hS) ?_
    refine zl_ild4 I34_108 ?_
    refine zl_ild3 I34_110 ?_
    refine zr_iast I34_111 (sT134 hS) (sN134 hS) (by omega) ?_
    refine zl_ald0 I34_112 ?_
    refine zr_dup I34_113 ?_
    refine zr_geti (j := 0) I34_114 F6_27 rfl (sT131 hS) ?_
    refine zr_iconst I34_117 ?_
    simp only [zup_oth (show (132 : Nat) ≠ 133 by decide), zup_oth (show (132 : Nat) ≠ 134 by decide), zup_oth (show (132 : Nat) ≠ 131 by decide), zup_oth (show (133 : Nat) ≠ 132 by decide), zup_oth (show (133 : Nat) ≠ 134 by decide), zup_oth (show (133 : Nat) ≠ 131 by decide), zup_oth (show (134 : Nat) ≠ 132 by decide), zup_oth (show (134 : Nat) ≠ 133 by decide), zup_oth (show (134 : Nat) ≠ 131 by decide), zup_oth (show (131 : Nat) ≠ 132 by decide), zup_oth (show (131 : Nat) ≠ 133 by decide), zup_oth (show (131 : Nat) ≠ 134 by decide), zup_q, if_true]
    refine zr_iadd I34_118 (by unfold zInR; rw [hcn]; omega) ?_
    refine zr_puti (j := 0) I34_119 F6_27 rfl (sT131 hS) ⟨rfl, fun h => absurd h (by decide)⟩ ?_
    refine zr_vret I34_122 rfl ?_
    refine ⟨_, rfl, rfl, at9, hN, ht, fun k k1 k2 => (hhi k k1 k2).1, ?_, ?_, fun k k1 k2 => ?_, ?_, fun k k1 k2 => ?_, fun r hr => ?_, ?_⟩
    · exact Or.inl (by omega)
    · simp only [zup_oth (show (132 : Nat) ≠ 133 by decide), zup_oth (show (132 : Nat) ≠ 134 by decide), zup_oth (show (132 : Nat) ≠ 131 by decide), zup_oth (show (133 : Nat) ≠ 132 by decide), zup_oth (show (133 : Nat) ≠ 134 by decide), zup_oth (show (133 : Nat) ≠ 131 by decide), zup_oth (show (134 : Nat) ≠ 132 by decide), zup_oth (show (134 : Nat) ≠ 133 by decide), zup_oth (show (134 : Nat) ≠ 131 by decide), zup_oth (show (131 : Nat) ≠ 132 by decide), zup_oth (show (131 : Nat) ≠ 133 by decide), zup_oth (show (131 : Nat) ≠ 134 by decide), zup_q, if_true]
      omega
    · have h1 := hlo k k1 k2
      simp only [zup_oth (show (132 : Nat) ≠ 133 by decide), zup_oth (show (132 : Nat) ≠ 134 by decide), zup_oth (show (132 : Nat) ≠ 131 by decide), zup_oth (show (133 : Nat) ≠ 132 by decide), zup_oth (show (133 : Nat) ≠ 134 by decide), zup_oth (show (133 : Nat) ≠ 131 by decide), zup_oth (show (134 : Nat) ≠ 132 by decide), zup_oth (show (134 : Nat) ≠ 133 by decide), zup_oth (show (134 : Nat) ≠ 131 by decide), zup_oth (show (131 : Nat) ≠ 132 by decide), zup_oth (show (131 : Nat) ≠ 133 by decide), zup_oth (show (131 : Nat) ≠ 134 by decide), zup_q, if_true]
      rw [if_neg (by omega), if_neg (by omega), if_neg (by omega)]
      exact h1
    · simp only [zup_oth (show (132 : Nat) ≠ 133 by decide), zup_oth (show (132 : Nat) ≠ 134 by decide), zup_oth (show (132 : Nat) ≠ 131 by decide), zup_oth (show (133 : Nat) ≠ 132 by decide), zup_oth (show (133 : Nat) ≠ 134 by decide), zup_oth (show (133 : Nat) ≠ 131 by decide), zup_oth (show (134 : Nat) ≠ 132 by decide), zup_oth (show (134 : Nat) ≠ 133 by decide), zup_oth (show (134 : Nat) ≠ 131 by decide), zup_oth (show (131 : Nat) ≠ 132 by decide), zup_oth (show (131 : Nat) ≠ 133 by decide), zup_oth (show (131 : Nat) ≠ 134 by decide), zup_q, if_true]
      exact ⟨trivial, trivial, trivial⟩
    · have h1 := hhi k k1 k2
      simp only [zup_oth (show (132 : Nat) ≠ 133 by decide), zup_oth (show (132 : Nat) ≠ 134 by decide), zup_oth (show (132 : Nat) ≠ 131 by decide), zup_oth (show (133 : Nat) ≠ 132 by decide), zup_oth (show (133 : Nat) ≠ 134 by decide), zup_oth (show (133 : Nat) ≠ 131 by decide), zup_oth (show (134 : Nat) ≠ 132 by decide), zup_oth (show (134 : Nat) ≠ 133 by decide), zup_oth (show (134 : Nat) ≠ 131 by decide), zup_oth (show (131 : Nat) ≠ 132 by decide), zup_oth (show (131 : Nat) ≠ 133 by decide), zup_oth (show (131 : Nat) ≠ 134 by decide), zup_q, if_true]
      rw [if_neg (by omega), if_neg (by omega), if_neg (by omega)]
      exact h1.2
    · rw [zup_ne (by omega), zup_ne (by omega), zup_ne (by omega), zup_ne (by omega)]
      exact hfr r hr
    · refine zBd_up (zBd_up (zBd_up (zBd_up hBd hpb) hsb) heb) ?_
      omega
  · refine zl_ald0 I34_21 ?_
    refine zr_getr (j := 2) I34_22 F6_15 rfl (sT131 hS) (sR131_2 hS) ?_
    refine zl_ild4 I34_25 ?_
    refine zr_iconst I34_27 ?_
    refine zr_isub I34_28 (by unfold zInR; omega) ?_
    refine zr_iald I34_29 (sT133 hS) (sN133 hS) (by omega) ?_
    refine zl_ild2 I34_30 ?_
    refine zr_ic_le (t := 88) I34_31 rfl (fun h31 => ?_) (fun h31 => ?_)
    · refine zl_ald0 I34_88 ?_
      refine zr_getr (j := 1) I34_89 F6_11 rfl (sT131 hS) (sR131_1 hS) ?_
      refine zl_ild4 I34_92 ?_
      refine zl_ild1 I34_94 ?_
      refine zr_iast I34_95 (sT132 hS) (sN132 hS) (by omega) ?_
      refine zl_ald0 I34_96 ?_
      refine zr_getr (j := 2) I34_97 F6_15 rfl (sT131 hS) (sR131_2 hS) ?_
      refine zl_ild4 I34_100 ?_
      refine zl_ild2 I34_102 ?_
      refine zr_iast I34_103 (sT133 hS) (sN133 hS) (by omega) ?_
      refine zl_ald0 I34_104 ?_
      refine zr_getr (j := 3) I34_105 F6_18 rfl (sT131 hS) (sR131_3 hS) ?_
      refine zl_ild4 I34_108 ?_
      refine zl_ild3 I34_110 ?_
      refine zr_iast I34_111 (sT134 hS) (sN134 hS) (by omega) ?_
      refine zl_ald0 I34_112 ?_
      refine zr_dup I34_113 ?_
      refine zr_geti (j := 0) I34_114 F6_27 rfl (sT131 hS) ?_
      refine zr_iconst I34_117 ?_
      simp only [zup_oth (show (132 : Nat) ≠ 133 by decide), zup_oth (show (132 : Nat) ≠ 134 by decide), zup_oth (show (132 : Nat) ≠ 131 by decide), zup_oth (show (133 : Nat) ≠ 132 by decide), zup_oth (show (133 : Nat) ≠ 134 by decide), zup_oth (show (133 : Nat) ≠ 131 by decide), zup_oth (show (134 : Nat) ≠ 132 by decide), zup_oth (show (134 : Nat) ≠ 133 by decide), zup_oth (show (134 : Nat) ≠ 131 by decide), zup_oth (show (131 : Nat) ≠ 132 by decide), zup_oth (show (131 : Nat) ≠ 133 by decide), zup_oth (show (131 : Nat) ≠ 134 by decide), zup_q, if_true]
      refine zr_iadd I34_118 (by unfold zInR; rw [hcn]; omega) ?_
      refine zr_puti (j := 0) I34_119 F6_27 rfl (sT131 hS) ⟨rfl, fun h => absurd h (by decide)⟩ ?_
      refine zr_vret I34_122 rfl ?_
      refine ⟨_, rfl, rfl, at9, hN, ht, fun k k1 k2 => (hhi k k1 k2).1, ?_, ?_, fun k k1 k2 => ?_, ?_, fun k k1 k2 => ?_, fun r hr => ?_, ?_⟩
      · refine Or.inr ?_
        have h1 := hlo (at9 - 1) (by omega) (by omega)
        omega
      · simp only [zup_oth (show (132 : Nat) ≠ 133 by decide), zup_oth (show (132 : Nat) ≠ 134 by decide), zup_oth (show (132 : Nat) ≠ 131 by decide), zup_oth (show (133 : Nat) ≠ 132 by decide), zup_oth (show (133 : Nat) ≠ 134 by decide), zup_oth (show (133 : Nat) ≠ 131 by decide), zup_oth (show (134 : Nat) ≠ 132 by decide), zup_oth (show (134 : Nat) ≠ 133 by decide), zup_oth (show (134 : Nat) ≠ 131 by decide), zup_oth (show (131 : Nat) ≠ 132 by decide), zup_oth (show (131 : Nat) ≠ 133 by decide), zup_oth (show (131 : Nat) ≠ 134 by decide), zup_q, if_true]
        omega
      · have h1 := hlo k k1 k2
        simp only [zup_oth (show (132 : Nat) ≠ 133 by decide), zup_oth (show (132 : Nat) ≠ 134 by decide), zup_oth (show (132 : Nat) ≠ 131 by decide), zup_oth (show (133 : Nat) ≠ 132 by decide), zup_oth (show (133 : Nat) ≠ 134 by decide), zup_oth (show (133 : Nat) ≠ 131 by decide), zup_oth (show (134 : Nat) ≠ 132 by decide), zup_oth (show (134 : Nat) ≠ 133 by decide), zup_oth (show (134 : Nat) ≠ 131 by decide), zup_oth (show (131 : Nat) ≠ 132 by decide), zup_oth (show (131 : Nat) ≠ 133 by decide), zup_oth (show (131 : Nat) ≠ 134 by decide), zup_q, if_true]
        rw [if_neg (by omega), if_neg (by omega), if_neg (by omega)]
        exact h1
      · simp only [zup_oth (show (132 : Nat) ≠ 133 by decide), zup_oth (show (132 : Nat) ≠ 134 by decide), zup_oth (show (132 : Nat) ≠ 131 by decide), zup_oth (show (133 : Nat) ≠ 132 by decide), zup_oth (show (133 : Nat) ≠ 134 by decide), zup_oth (show (133 : Nat) ≠ 131 by decide), zup_oth (show (134 : Nat) ≠ 132 by decide), zup_oth (show (134 : Nat) ≠ 133 by decide), zup_oth (show (134 : Nat) ≠ 131 by decide), zup_oth (show (131 : Nat) ≠ 132 by decide), zup_oth (show (131 : Nat) ≠ 133 by decide), zup_oth (show (131 : Nat) ≠ 134 by decide), zup_q, if_true]
        exact ⟨trivial, trivial, trivial⟩
      · have h1 := hhi k k1 k2
        simp only [zup_oth (show (132 : Nat) ≠ 133 by decide), zup_oth (show (132 : Nat) ≠ 134 by decide), zup_oth (show (132 : Nat) ≠ 131 by decide), zup_oth (show (133 : Nat) ≠ 132 by decide), zup_oth (show (133 : Nat) ≠ 134 by decide), zup_oth (show (133 : Nat) ≠ 131 by decide), zup_oth (show (134 : Nat) ≠ 132 by decide), zup_oth (show (134 : Nat) ≠ 133 by decide), zup_oth (show (134 : Nat) ≠ 131 by decide), zup_oth (show (131 : Nat) ≠ 132 by decide), zup_oth (show (131 : Nat) ≠ 133 by decide), zup_oth (show (131 : Nat) ≠ 134 by decide), zup_q, if_true]
        rw [if_neg (by omega), if_neg (by omega), if_neg (by omega)]
        exact h1.2
      · rw [zup_ne (by omega), zup_ne (by omega), zup_ne (by omega), zup_ne (by omega)]
        exact hfr r hr
      · refine zBd_up (zBd_up (zBd_up (zBd_up hBd hpb) hsb) heb) ?_
        omega
    · refine zl_ald0 I34_34 ?_
      refine zr_getr (j := 1) I34_35 F6_11 rfl (sT131 hS) (sR131_1 hS) ?_
      refine zl_ild4 I34_38 ?_
      refine zl_ald0 I34_40 ?_
      refine zr_getr (j := 1) I34_41 F6_11 rfl (sT131 hS) (sR131_1 hS) ?_
      refine zl_ild4 I34_44 ?_
      refine zr_iconst I34_46 ?_
      refine zr_isub I34_47 (by unfold zInR; omega) ?_
      refine zr_iald I34_48 (sT132 hS) (sN132 hS) (by omega) ?_
      refine zr_iast I34_49 (sT132 hS) (sN132 hS) (by omega) ?_
      refine zl_ald0 I34_50 ?_
      refine zr_getr (j := 2) I34_51 F6_15 rfl (sT131 hS) (sR131_2 hS) ?_
      refine zl_ild4 I34_54 ?_
      refine zl_ald0 I34_56 ?_
      refine zr_getr (j := 2) I34_57 F6_15 rfl (sT131 hS) (sR131_2 hS) ?_
      refine zl_ild4 I34_60 ?_
      refine zr_iconst I34_62 ?_
      refine zr_isub I34_63 (by unfold zInR; omega) ?_
      refine zr_iald I34_64 (sT133 hS) (sN133 hS) (by omega) ?_
      refine zr_iast I34_65 (sT133 hS) (sN133 hS) (by omega) ?_
      refine zl_ald0 I34_66 ?_
      refine zr_getr (j := 3) I34_67 F6_18 rfl (sT131 hS) (sR131_3 hS) ?_
      refine zl_ild4 I34_70 ?_
      refine zl_ald0 I34_72 ?_
      refine zr_getr (j := 3) I34_73 F6_18 rfl (sT131 hS) (sR131_3 hS) ?_
      refine zl_ild4 I34_76 ?_
      refine zr_iconst I34_78 ?_
      refine zr_isub I34_79 (by unfold zInR; omega) ?_
      refine zr_iald I34_80 (sT134 hS) (sN134 hS) (by omega) ?_
      refine zr_iast I34_81 (sT134 hS) (sN134 hS) (by omega) ?_
      refine zl_iinc4 I34_82 (by unfold zInR; omega) ?_
      refine zr_goto (t := 16) I34_85 rfl ?_
      have hl1 := hlo (at9 - 1) (by omega) (by omega)
      have g1 := hBd 132 (at9 - 1) (by decide)
      have g2 := hBd 133 (at9 - 1) (by decide)
      have g3 := hBd 134 (at9 - 1) (by decide)
      refine ih _ (by omega) (by omega) _ (by omega) (fun r hr => by rw [zup_ne (by omega), zup_ne (by omega), zup_ne (by omega)]; exact hfr r hr) ?_ (zBd_up (zBd_up (zBd_up hBd (by omega)) (by rw [zup_oth (by decide)]; omega)) (by rw [zup_oth (by decide), zup_oth (by decide)]; omega)) (fun k k1 k2 => ?_) (fun k k1 k2 => ?_)
      · simp only [zup_oth (show (132 : Nat) ≠ 133 by decide), zup_oth (show (132 : Nat) ≠ 134 by decide), zup_oth (show (132 : Nat) ≠ 131 by decide), zup_oth (show (133 : Nat) ≠ 132 by decide), zup_oth (show (133 : Nat) ≠ 134 by decide), zup_oth (show (133 : Nat) ≠ 131 by decide), zup_oth (show (134 : Nat) ≠ 132 by decide), zup_oth (show (134 : Nat) ≠ 133 by decide), zup_oth (show (134 : Nat) ≠ 131 by decide), zup_oth (show (131 : Nat) ≠ 132 by decide), zup_oth (show (131 : Nat) ≠ 133 by decide), zup_oth (show (131 : Nat) ≠ 134 by decide), zup_q, if_true]
        exact hcn
      · have h1 := hlo k k1 (by omega)
        simp only [zup_oth (show (132 : Nat) ≠ 133 by decide), zup_oth (show (132 : Nat) ≠ 134 by decide), zup_oth (show (132 : Nat) ≠ 131 by decide), zup_oth (show (133 : Nat) ≠ 132 by decide), zup_oth (show (133 : Nat) ≠ 134 by decide), zup_oth (show (133 : Nat) ≠ 131 by decide), zup_oth (show (134 : Nat) ≠ 132 by decide), zup_oth (show (134 : Nat) ≠ 133 by decide), zup_oth (show (134 : Nat) ≠ 131 by decide), zup_oth (show (131 : Nat) ≠ 132 by decide), zup_oth (show (131 : Nat) ≠ 133 by decide), zup_oth (show (131 : Nat) ≠ 134 by decide), zup_q, if_true]
        rw [if_neg (by omega), if_neg (by omega), if_neg (by omega)]
        exact h1
      · simp only [zup_oth (show (132 : Nat) ≠ 133 by decide), zup_oth (show (132 : Nat) ≠ 134 by decide), zup_oth (show (132 : Nat) ≠ 131 by decide), zup_oth (show (133 : Nat) ≠ 132 by decide), zup_oth (show (133 : Nat) ≠ 134 by decide), zup_oth (show (133 : Nat) ≠ 131 by decide), zup_oth (show (134 : Nat) ≠ 132 by decide), zup_oth (show (134 : Nat) ≠ 133 by decide), zup_oth (show (134 : Nat) ≠ 131 by decide), zup_oth (show (131 : Nat) ≠ 132 by decide), zup_oth (show (131 : Nat) ≠ 133 by decide), zup_oth (show (131 : Nat) ≠ 134 by decide), zup_q, if_true]
        by_cases e9 : k = at9 - 1
        · subst e9
          rw [if_pos (by omega), if_pos (by omega), if_pos (by omega)]
          exact ⟨by omega, by omega, by omega, by omega⟩
        · have h1 := hhi k (by omega) k2
          rw [if_neg (by omega), if_neg (by omega), if_neg (by omega)]
          exact h1
set_option maxRecDepth 10000 in
set_option maxHeartbeats 2000000 in
theorem e_X6_add {d n sl : Nat} {S : zSh} {c : zC} (hS : zSok S) (hB : zBd c) (he : 0 ≤ c 131 0 ∧ c 131 0 ≤ 60) {p s e : Int} (hpb : -100000 ≤ p ∧ p ≤ 100000) (hsb : -100000 ≤ s ∧ s ≤ 100000) (heb : -100000 ≤ e ∧ e ≤ 100000) : zE (d + 0) 34 0 (zent 34 [zA 131, zI p, zI s, zI e]) [] ((n, sl), (S, c)) (fun r μ' => ∃ c', r = none ∧ μ' = ((n, sl), (S, c')) ∧ zAdd c c' p s e) := by
  show zE (d + 0) 34 0 [some (zA 131), some (zI p), some (zI s), some (zI e), none] [] ((n, sl), (S, c)) _
  refine zl_ald0 I34_0 ?_
  refine zr_giB (j := 0) hB (by decide) I34_1 F6_27 rfl (sT131 hS) (fun b1 => ?_)
  refine zr_bipush I34_4 ?_
  refine zr_ic_lt (t := 10) I34_6 rfl (fun h6 => ?_) (fun h6 => absurd h6 (by omega))
  refine zl_ald0 I34_10 ?_
  refine zr_giB (j := 0) hB (by decide) I34_11 F6_27 rfl (sT131 hS) (fun b11 => ?_)
  refine zl_ist4 I34_14 ?_
  exact e_X6_add_l hS he hpb hsb heb (c 131 0) (by omega) c (by omega) (fun r hr => rfl) rfl hB (fun k k1 k2 => ⟨rfl, rfl, rfl⟩) (fun k k1 k2 => absurd k1 (by omega))
