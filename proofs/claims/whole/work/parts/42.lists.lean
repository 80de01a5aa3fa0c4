/-! the model's entries -/
def zInsB : List zEn → zEn → List zEn
  | [], x => [x]
  | y :: l, x => if x.2.1 ≤ y.2.1 then x :: y :: l else y :: zInsB l x
def zRepM (c : zC) (l : List zEn) : Prop := c 145 8 = l.length ∧ ∀ (k : Nat) (x : zEn), l[k]? = some x → c 148 (k : Int) = x.1 ∧ c 149 (k : Int) = x.2.1 ∧ c 150 (k : Int) = x.2.2 - x.2.1
/-- only the model's scratch rows changed -/
def zFm (c c' : zC) : Prop := (∀ r, (r < 145 ∨ 154 < r ∨ r = 146 ∨ r = 147) → c' r = c r) ∧ ∀ k, k ≠ 8 → c' 145 k = c 145 k
theorem zFm.rf {c : zC} : zFm c c := ⟨fun _ _ => rfl, fun _ _ => rfl⟩
theorem zFm.tr {a b c : zC} (h : zFm a b) (h2 : zFm b c) : zFm a c := ⟨fun r hr => (h2.1 r hr).trans (h.1 r hr), fun k hk => (h2.2 k hk).trans (h.2 k hk)⟩
theorem zFm.up {a b : zC} (h : zFm a b) {r : Nat} {k v : Int} (hr : (148 ≤ r ∧ r ≤ 154) ∨ (r = 145 ∧ k = 8)) : zFm a (zup b r k v) := by
  refine ⟨fun q hq => ?_, fun j hj => ?_⟩
  · by_cases e : q = r
    · omega
    · rw [zup_ne e]
      exact h.1 q hq
  · unfold zup
    rw [if_neg (by omega)]
    exact h.2 j hj
def zAddM (c c' : zC) (p s e : Int) : Prop := ∃ t : Int, 0 ≤ t ∧ t ≤ c 145 8 ∧ (∀ k, t ≤ k → k < c 145 8 → s ≤ c 149 k) ∧ (t = 0 ∨ c 149 (t - 1) < s) ∧ c' 145 8 = c 145 8 + 1 ∧ (∀ k, 0 ≤ k → k < t → c' 148 k = c 148 k ∧ c' 149 k = c 149 k ∧ c' 150 k = c 150 k) ∧ (c' 148 t = p ∧ c' 149 t = s ∧ c' 150 t = e) ∧
  (∀ k, t ≤ k → k < c 145 8 → c' 148 (k + 1) = c 148 k ∧ c' 149 (k + 1) = c 149 k ∧ c' 150 (k + 1) = c 150 k) ∧ zFm c c' ∧ zBd c'

theorem zInsB_at : ∀ (l : List zEn) (x : zEn) (t : Nat), t ≤ l.length → (∀ (k : Nat) (y : zEn), k < t → l[k]? = some y → y.2.1 < x.2.1) → (∀ y : zEn, l[t]? = some y → x.2.1 ≤ y.2.1) → zInsB l x = l.take t ++ x :: l.drop t
  | [], x, t, ht, _, _ => by
    have : t = 0 := by simpa using ht
    subst this
    rfl
  | y :: l, x, 0, _, _, h2 => by
    have := h2 y rfl
    show (if x.2.1 ≤ y.2.1 then x :: y :: l else _) = _
    rw [if_pos this]
    rfl
  | y :: l, x, t + 1, ht, h1, h2 => by
    have h3 := h1 0 y (by omega) rfl
    show (if x.2.1 ≤ y.2.1 then x :: y :: l else y :: zInsB l x) = _
    rw [if_neg (by omega), zInsB_at l x t (by simpa using ht) (fun k z hk hz => h1 (k + 1) z (by omega) (by simpa using hz)) (fun z hz => h2 z (by simpa using hz))]
    rfl
theorem zAddM_rep {c c' : zC} {p s e : Int} {l : List zEn} (h : zAddM c c' p s e) (hl : zRepM c l) (hs : zSrt l) : zRepM c' (zInsB l (p, (s, s + e))) := by
  obtain ⟨t, t1, t2, t3, t4, t5, t6, t7, t8, -, -⟩ := h
  obtain ⟨l1, l2⟩ := hl
  have e1 : zInsB l (p, (s, s + e)) = l.take t.toNat ++ (p, (s, s + e)) :: l.drop t.toNat := by
    refine zInsB_at l _ _ (by omega) (fun k y hk hy => ?_) (fun y hy => ?_)
    · rcases t4 with t4 | t4
      · omega
      · have hlt : (t - 1).toNat < l.length := by omega
        obtain ⟨z, hz⟩ : ∃ z, l[(t - 1).toNat]? = some z := ⟨_, List.getElem?_eq_getElem hlt⟩
        have h1 := hs k (t - 1).toNat y z (by omega) hy hz
        have h2 := (l2 _ z hz).2.1
        rw [show (((t - 1).toNat : Nat) : Int) = t - 1 by omega] at h2
        show y.2.1 < s
        omega
    · have h2 := (l2 _ y hy).2.1
      have hlt := (List.getElem?_eq_some_iff.mp hy).1
      have h3 := t3 t.toNat (by omega) (by omega)
      show s ≤ y.2.1
      omega
  rw [e1]
  have e2 : (l.take t.toNat).length = t.toNat := by simp; omega
  refine ⟨by simp; omega, fun k x hx => ?_⟩
  rcases Nat.lt_trichotomy k t.toNat with hk | hk | hk
  · rw [List.getElem?_append_left (by omega), List.getElem?_take, if_pos hk] at hx
    have h1 := l2 k x hx
    have h2 := t6 k (by omega) (by omega)
    omega
  · rw [List.getElem?_append_right (by omega), show k - (l.take t.toNat).length = 0 by omega] at hx
    cases hx
    rw [show (k : Int) = t by omega]
    exact ⟨t7.1, t7.2.1, by rw [t7.2.2]; show e = s + e - s; omega⟩
  · rw [List.getElem?_append_right (by omega), e2, show k - t.toNat = (k - 1 - t.toNat) + 1 by omega, List.getElem?_cons_succ, List.getElem?_drop, show t.toNat + (k - 1 - t.toNat) = k - 1 by omega] at hx
    have h1 := l2 (k - 1) x hx
    have hlt := (List.getElem?_eq_some_iff.mp hx).1
    have h2 := t8 ((k - 1 : Nat) : Int) (by omega) (by omega)
    rw [show (((k - 1 : Nat) : Int) + 1) = (k : Int) by omega] at h2
    omega
theorem zInB_mem {l : List zEn} {x y : zEn} : y ∈ zInsB l x ↔ y = x ∨ y ∈ l := by
  induction l with
  | nil => simp [zInsB]
  | cons z l ih =>
    unfold zInsB
    split
    · simp
    · simp only [List.mem_cons, ih]
      constructor
      · rintro (h | h | h)
        · exact Or.inr (Or.inl h)
        · exact Or.inl h
        · exact Or.inr (Or.inr h)
      · rintro (h | h | h)
        · exact Or.inr (Or.inl h)
        · exact Or.inl h
        · exact Or.inr (Or.inr h)
theorem zInB_len {l : List zEn} {x : zEn} : (zInsB l x).length = l.length + 1 := by
  induction l with
  | nil => rfl
  | cons z l ih =>
    unfold zInsB
    split
    · rfl
    · simp [ih]
theorem zSrt_inB {l : List zEn} {x : zEn} (h : zSrt l) : zSrt (zInsB l x) := by
  induction l with
  | nil => exact zSrt_cons.mpr ⟨(fun y hy => by cases hy), (fun j k a b _ ha => by rw [List.getElem?_nil] at ha; cases ha)⟩
  | cons z l ih =>
    obtain ⟨h1, h2⟩ := zSrt_cons.mp h
    unfold zInsB
    split
    · rename_i hx
      exact zSrt_cons.mpr ⟨fun y hy => by
        rcases List.mem_cons.mp hy with rfl | hy
        · omega
        · have := h1 y hy
          omega, h⟩
    · exact zSrt_cons.mpr ⟨fun y hy => by
        rcases zInB_mem.mp hy with rfl | hy
        · omega
        · exact h1 y hy, ih h2⟩
set_option maxRecDepth 10000 in
set_option maxHeartbeats 2000000 in
theorem e_X9_lists_l {d n sl : Nat} {S : zSh} {c : zC} (hS : zSok S) (he : 0 ≤ c 145 8 ∧ c 145 8 ≤ 60) {p s e : Int} (hpb : -100000 ≤ p ∧ p ≤ 100000) (hsb : -100000 ≤ s ∧ s ≤ 100000) (heb : -100000 ≤ e ∧ e ≤ 100000) : ∀ at9 : Int, 0 ≤ at9 → ∀ c1 : zC, (at9 ≤ c 145 8) → (zFm c c1) → (c1 145 8 = c 145 8) → (zBd c1) → (∀ k, 0 ≤ k → k < at9 → c1 148 k = c 148 k ∧ c1 149 k = c 149 k ∧ c1 150 k = c 150 k) → (∀ k, at9 ≤ k → k < c 145 8 → s ≤ c 149 k ∧ c1 148 (k + 1) = c 148 k ∧ c1 149 (k + 1) = c 149 k ∧ c1 150 (k + 1) = c 150 k) → zE (d + 0) 96 6 [some (zA 145), some (zI p), some (zI s), some (zI e), some (zI at9)] [] ((n, sl), (S, c1)) (fun r μ' => ∃ c', r = none ∧ μ' = ((n, sl), (S, c')) ∧ zAddM c c' p s e) := by
  refine zindD (fun at9 ih hN => ?_)
  intro c1 ht hfr hcn hBd hlo hhi
  refine zl_ild4 I96_6 ?_
  refine zr_if_le (t := 78) I96_8 rfl (fun h8 => ?_) (fun h8 => ?_)
  · refine zl_ald0 I96_78 ?_
    refine zr_getr (j := 3) I96_79 F9_16 rfl (sT145 hS) (sR145_3 hS) ?_
    refine zl_ild4 I96_82 ?_
    refine zl_ild1 I96_84 ?_
    refine zr_iast I96_85 (sT148 hS) (sN148 hS) (by omega) ?_
    refine zl_ald0 I96_86 ?_
    refine zr_getr (j := 4) I96_87 F9_19 rfl (sT145 hS) (sR145_4 hS) ?_
    refine zl_ild4 I96_90 ?_
    refine zl_ild2 I96_92 ?_
    refine zr_iast I96_93 (sT149 hS) (sN149 hS) (by omega) ?_
    refine zl_ald0 I96_94 ?_
    refine zr_getr (j := 5) I96_95 F9_22 rfl (sT145 hS) (sR145_5 hS) ?_
    refine zl_ild4 I96_98 ?_
    refine zl_ild3 I96_100 ?_
    refine zr_iast I96_101 (sT150 hS) (sN150 hS) (by omega) ?_
    refine zl_ald0 I96_102 ?_
    refine zr_dup I96_103 ?_
    refine zr_geti (j := 8) I96_104 F9_56 rfl (sT145 hS) ?_
    refine zr_iconst I96_107 ?_
    simp only [zup_oth (show (148 : Nat) ≠ 149 by decide), zup_oth (show (148 : Nat) ≠ 150 by decide), zup_oth (show (148 : Nat) ≠ 145 by decide), zup_oth (show (149 : Nat) ≠ 148 by decide), zup_oth (show (149 : Nat) ≠ 150 by decide), zup_oth (show (149 : Nat) ≠ 145 by decide), zup_oth (show (150 : Nat) ≠ 148 by decide), zup_oth (show (150 : Nat) ≠ 149 by decide), zup_oth (show (150 : Nat) ≠ 145 by decide), zup_oth (show (145 : Nat) ≠ 148 by decide), zup_oth (show (145 : Nat) ≠ 149 by decide), zup_oth (show (145 : Nat) ≠ 150 by decide), zup_q, if_true]
    refine zr_iadd I96_108 (by unfold zInR; rw [hcn]; omega) ?_
    refine zr_puti (j := 8) I96_109 F9_56 rfl (sT145 hS) ⟨rfl, fun h => absurd h (by decide)⟩ ?_
    refine zr_vret I96_112 rfl ?_
    refine ⟨_, rfl, rfl, at9, hN, ht, fun k k1 k2 => (hhi k k1 k2).1, ?_, ?_, fun k k1 k2 => ?_, ?_, fun k k1 k2 => ?_, (((hfr.up (by omega)).up (by omega)).up (by omega)).up (by omega), ?_⟩
    · exact Or.inl (by omega)
    · simp only [zup_oth (show (148 : Nat) ≠ 149 by decide), zup_oth (show (148 : Nat) ≠ 150 by decide), zup_oth (show (148 : Nat) ≠ 145 by decide), zup_oth (show (149 : Nat) ≠ 148 by decide), zup_oth (show (149 : Nat) ≠ 150 by decide), zup_oth (show (149 : Nat) ≠ 145 by decide), zup_oth (show (150 : Nat) ≠ 148 by decide), zup_oth (show (150 : Nat) ≠ 149 by decide), zup_oth (show (150 : Nat) ≠ 145 by decide), zup_oth (show (145 : Nat) ≠ 148 by decide), zup_oth (show (145 : Nat) ≠ 149 by decide), zup_oth (show (145 : Nat) ≠ 150 by decide), zup_q, if_true]
      omega
    · have h1 := hlo k k1 k2
      simp only [zup_oth (show (148 : Nat) ≠ 149 by decide), zup_oth (show (148 : Nat) ≠ 150 by decide), zup_oth (show (148 : Nat) ≠ 145 by decide), zup_oth (show (149 : Nat) ≠ 148 by decide), zup_oth (show (149 : Nat) ≠ 150 by decide), zup_oth (show (149 : Nat) ≠ 145 by decide), zup_oth (show (150 : Nat) ≠ 148 by decide), zup_oth (show (150 : Nat) ≠ 149 by decide), zup_oth (show (150 : Nat) ≠ 145 by decide), zup_oth (show (145 : Nat) ≠ 148 by decide), zup_oth (show (145 : Nat) ≠ 149 by decide), zup_oth (show (145 : Nat) ≠ 150 by decide), zup_q, if_true]
      rw [if_neg (by omega), if_neg (by omega), if_neg (by omega)]
      exact h1
    · simp only [zup_oth (show (148 : Nat) ≠ 149 by decide), zup_oth (show (148 : Nat) ≠ 150 by decide), zup_oth (show (148 : Nat) ≠ 145 by decide), zup_oth (show (149 : Nat) ≠ 148 by decide), zup_oth (show (149 : Nat) ≠ 150 by decide), zup_oth (show (149 : Nat) ≠ 145 by decide), zup_oth (show (150 : Nat) ≠ 148 by decide), zup_oth (show (150 : Nat) ≠ 149 by decide), zup_oth (show (150 : Nat) ≠ 145 by decide), zup_oth (show (145 : Nat) ≠ 148 by decide), zup_oth (show (145 : Nat) ≠ 149 by decide), zup_oth (show (145 : Nat) ≠ 150 by decide), zup_q, if_true]
      exact ⟨trivial, trivial, trivial⟩
    · have h1 := hhi k k1 k2
      simp only [zup_oth (show (148 : Nat) ≠ 149 by decide), zup_oth (show (148 : Nat) ≠ 150 by decide), zup_oth (show (148 : Nat) ≠ 145 by decide), zup_oth (show (149 : Nat) ≠ 148 by decide), zup_oth (show (149 : Nat) ≠ 150 by decide), zup_oth (show (149 : Nat) ≠ 145 by decide), zup_oth (show (150 : Nat) ≠ 148 by decide), zup_oth (show (150 : Nat) ≠ 149 by decide), zup_oth (show (150 : Nat) ≠ 145 by decide), zup_oth (show (145 : Nat) ≠ 148 by decide), zup_oth (show (145 : Nat) ≠ 149 by decide), zup_oth (show (145 : Nat) ≠ 150 by decide), zup_q, if_true]
      rw [if_neg (by omega), if_neg (by omega), if_neg (by omega)]
      exact h1.2
    · refine zBd_up (zBd_up (zBd_up (zBd_up hBd hpb) hsb) heb) ?_
      omega
  · refine zl_ald0 I96_11 ?_
    refine zr_getr (j := 4) I96_12 F9_19 rfl (sT145 hS) (sR145_4 hS) ?_
    refine zl_ild4 I96_15 ?_
    refine zr_iconst I96_17 ?_
    refine zr_isub I96_18 (by unfold zInR; omega) ?_
    refine zr_iald I96_19 (sT149 hS) (sN149 hS) (by omega) ?_
    refine zl_ild2 I96_20 ?_
    refine zr_ic_lt (t := 78) I96_21 rfl (fun h21 => ?_) (fun h21 => ?_)
    · refine zl_ald0 I96_78 ?_
      refine zr_getr (j := 3) I96_79 F9_16 rfl (sT145 hS) (sR145_3 hS) ?_
      refine zl_ild4 I96_82 ?_
      refine zl_ild1 I96_84 ?_
      refine zr_iast I96_85 (sT148 hS) (sN148 hS) (by omega) ?_
      refine zl_ald0 I96_86 ?_
      refine zr_getr (j := 4) I96_87 F9_19 rfl (sT145 hS) (sR145_4 hS) ?_
      refine zl_ild4 I96_90 ?_
      refine zl_ild2 I96_92 ?_
      refine zr_iast I96_93 (sT149 hS) (sN149 hS) (by omega) ?_
      refine zl_ald0 I96_94 ?_
      refine zr_getr (j := 5) I96_95 F9_22 rfl (sT145 hS) (sR145_5 hS) ?_
      refine zl_ild4 I96_98 ?_
      refine zl_ild3 I96_100 ?_
      refine zr_iast I96_101 (sT150 hS) (sN150 hS) (by omega) ?_
      refine zl_ald0 I96_102 ?_
      refine zr_dup I96_103 ?_
      refine zr_geti (j := 8) I96_104 F9_56 rfl (sT145 hS) ?_
      refine zr_iconst I96_107 ?_
      simp only [zup_oth (show (148 : Nat) ≠ 149 by decide), zup_oth (show (148 : Nat) ≠ 150 by decide), zup_oth (show (148 : Nat) ≠ 145 by decide), zup_oth (show (149 : Nat) ≠ 148 by decide), zup_oth (show (149 : Nat) ≠ 150 by decide), zup_oth (show (149 : Nat) ≠ 145 by decide), zup_oth (show (150 : Nat) ≠ 148 by decide), zup_oth (show (150 : Nat) ≠ 149 by decide), zup_oth (show (150 : Nat) ≠ 145 by decide), zup_oth (show (145 : Nat) ≠ 148 by decide), zup_oth (show (145 : Nat) ≠ 149 by decide), zup_oth (show (145 : Nat) ≠ 150 by decide), zup_q, if_true]
      refine zr_iadd I96_108 (by unfold zInR; rw [hcn]; omega) ?_
      refine zr_puti (j := 8) I96_109 F9_56 rfl (sT145 hS) ⟨rfl, fun h => absurd h (by decide)⟩ ?_
      refine zr_vret I96_112 rfl ?_
      refine ⟨_, rfl, rfl, at9, hN, ht, fun k k1 k2 => (hhi k k1 k2).1, ?_, ?_, fun k k1 k2 => ?_, ?_, fun k k1 k2 => ?_, (((hfr.up (by omega)).up (by omega)).up (by omega)).up (by omega), ?_⟩
      · refine Or.inr ?_
        have h1 := hlo (at9 - 1) (by omega) (by omega)
        omega
      · simp only [zup_oth (show (148 : Nat) ≠ 149 by decide), zup_oth (show (148 : Nat) ≠ 150 by decide), zup_oth (show (148 : Nat) ≠ 145 by decide), zup_oth (show (149 : Nat) ≠ 148 by decide), zup_oth (show (149 : Nat) ≠ 150 by decide), zup_oth (show (149 : Nat) ≠ 145 by decide), zup_oth (show (150 : Nat) ≠ 148 by decide), zup_oth (show (150 : Nat) ≠ 149 by decide), zup_oth (show (150 : Nat) ≠ 145 by decide), zup_oth (show (145 : Nat) ≠ 148 by decide), zup_oth (show (145 : Nat) ≠ 149 by decide), zup_oth (show (145 : Nat) ≠ 150 by decide), zup_q, if_true]
        omega
      · have h1 := hlo k k1 k2
        simp only [zup_oth (show (148 : Nat) ≠ 149 by decide), zup_oth (show (148 : Nat) ≠ 150 by decide), zup_oth (show (148 : Nat) ≠ 145 by decide), zup_oth (show (149 : Nat) ≠ 148 by decide), zup_oth (show (149 : Nat) ≠ 150 by decide), zup_oth (show (149 : Nat) ≠ 145 by decide), zup_oth (show (150 : Nat) ≠ 148 by decide), zup_oth (show (150 : Nat) ≠ 149 by decide), zup_oth (show (150 : Nat) ≠ 145 by decide), zup_oth (show (145 : Nat) ≠ 148 by decide), zup_oth (show (145 : Nat) ≠ 149 by decide), zup_oth (show (145 : Nat) ≠ 150 by decide), zup_q, if_true]
        rw [if_neg (by omega), if_neg (by omega), if_neg (by omega)]
        exact h1
      · simp only [zup_oth (show (148 : Nat) ≠ 149 by decide), zup_oth (show (148 : Nat) ≠ 150 by decide), zup_oth (show (148 : Nat) ≠ 145 by decide), zup_oth (show (149 : Nat) ≠ 148 by decide), zup_oth (show (149 : Nat) ≠ 150 by decide), zup_oth (show (149 : Nat) ≠ 145 by decide), zup_oth (show (150 : Nat) ≠ 148 by decide), zup_oth (show (150 : Nat) ≠ 149 by decide), zup_oth (show (150 : Nat) ≠ 145 by decide), zup_oth (show (145 : Nat) ≠ 148 by decide), zup_oth (show (145 : Nat) ≠ 149 by decide), zup_oth (show (145 : Nat) ≠ 150 by decide), zup_q, if_true]
        exact ⟨trivial, trivial, trivial⟩
      · have h1 := hhi k k1 k2
        simp only [zup_oth (show (148 : Nat) ≠ 149 by decide), zup_oth (show (148 : Nat) ≠ 150 by decide), zup_oth (show (148 : Nat) ≠ 145 by decide), zup_oth (show (149 : Nat) ≠ 148 by decide), zup_oth (show (149 : Nat) ≠ 150 by decide), zup_oth (show (149 : Nat) ≠ 145 by decide), zup_oth (show (150 : Nat) ≠ 148 by decide), zup_oth (show (150 : Nat) ≠ 149 by decide), zup_oth (show (150 : Nat) ≠ 145 by decide), zup_oth (show (145 : Nat) ≠ 148 by decide), zup_oth (show (145 : Nat) ≠ 149 by decide), zup_oth (show (145 : Nat) ≠ 150 by decide), zup_q, if_true]
        rw [if_neg (by omega), if_neg (by omega), if_neg (by omega)]
        exact h1.2
      · refine zBd_up (zBd_up (zBd_up (zBd_up hBd hpb) hsb) heb) ?_
        omega
    · refine zl_ald0 I96_24 ?_
      refine zr_getr (j := 3) I96_25 F9_16 rfl (sT145 hS) (sR145_3 hS) ?_
      refine zl_ild4 I96_28 ?_
      refine zl_ald0 I96_30 ?_
      refine zr_getr (j := 3) I96_31 F9_16 rfl (sT145 hS) (sR145_3 hS) ?_
      refine zl_ild4 I96_34 ?_
      refine zr_iconst I96_36 ?_
      refine zr_isub I96_37 (by unfold zInR; omega) ?_
      refine zr_iald I96_38 (sT148 hS) (sN148 hS) (by omega) ?_
      refine zr_iast I96_39 (sT148 hS) (sN148 hS) (by omega) ?_
      refine zl_ald0 I96_40 ?_
      refine zr_getr (j := 4) I96_41 F9_19 rfl (sT145 hS) (sR145_4 hS) ?_
      refine zl_ild4 I96_44 ?_
      refine zl_ald0 I96_46 ?_
      refine zr_getr (j := 4) I96_47 F9_19 rfl (sT145 hS) (sR145_4 hS) ?_
      refine zl_ild4 I96_50 ?_
      refine zr_iconst I96_52 ?_
      refine zr_isub I96_53 (by unfold zInR; omega) ?_
      refine zr_iald I96_54 (sT149 hS) (sN149 hS) (by omega) ?_
      refine zr_iast I96_55 (sT149 hS) (sN149 hS) (by omega) ?_
      refine zl_ald0 I96_56 ?_
      refine zr_getr (j := 5) I96_57 F9_22 rfl (sT145 hS) (sR145_5 hS) ?_
      refine zl_ild4 I96_60 ?_
      refine zl_ald0 I96_62 ?_
      refine zr_getr (j := 5) I96_63 F9_22 rfl (sT145 hS) (sR145_5 hS) ?_
      refine zl_ild4 I96_66 ?_
      refine zr_iconst I96_68 ?_
      refine zr_isub I96_69 (by unfold zInR; omega) ?_
      refine zr_iald I96_70 (sT150 hS) (sN150 hS) (by omega) ?_
      refine zr_iast I96_71 (sT150 hS) (sN150 hS) (by omega) ?_
      refine zl_iinc4 I96_72 (by unfold zInR; omega) ?_
      refine zr_goto (t := 6) I96_75 rfl ?_
      have hl1 := hlo (at9 - 1) (by omega) (by omega)
      have g1 := hBd 148 (at9 - 1) (by decide)
      have g2 := hBd 149 (at9 - 1) (by decide)
      have g3 := hBd 150 (at9 - 1) (by decide)
      refine ih _ (by omega) (by omega) _ (by omega) (((hfr.up (by omega)).up (by omega)).up (by omega)) ?_ (zBd_up (zBd_up (zBd_up hBd (by omega)) (by rw [zup_oth (by decide)]; omega)) (by rw [zup_oth (by decide), zup_oth (by decide)]; omega)) (fun k k1 k2 => ?_) (fun k k1 k2 => ?_)
      · simp only [zup_oth (show (148 : Nat) ≠ 149 by decide), zup_oth (show (148 : Nat) ≠ 150 by decide), zup_oth (show (148 : Nat) ≠ 145 by decide), zup_oth (show (149 : Nat) ≠ 148 by decide), zup_oth (show (149 : Nat) ≠ 150 by decide), zup_oth (show (149 : Nat) ≠ 145 by decide), zup_oth (show (150 : Nat) ≠ 148 by decide), zup_oth (show (150 : Nat) ≠ 149 by decide), zup_oth (show (150 : Nat) ≠ 145 by decide), zup_oth (show (145 : Nat) ≠ 148 by decide), zup_oth (show (145 : Nat) ≠ 149 by decide), zup_oth (show (145 : Nat) ≠ 150 by decide), zup_q, if_true]
        exact hcn
      · have h1 := hlo k k1 (by omega)
        simp only [zup_oth (show (148 : Nat) ≠ 149 by decide), zup_oth (show (148 : Nat) ≠ 150 by decide), zup_oth (show (148 : Nat) ≠ 145 by decide), zup_oth (show (149 : Nat) ≠ 148 by decide), zup_oth (show (149 : Nat) ≠ 150 by decide), zup_oth (show (149 : Nat) ≠ 145 by decide), zup_oth (show (150 : Nat) ≠ 148 by decide), zup_oth (show (150 : Nat) ≠ 149 by decide), zup_oth (show (150 : Nat) ≠ 145 by decide), zup_oth (show (145 : Nat) ≠ 148 by decide), zup_oth (show (145 : Nat) ≠ 149 by decide), zup_oth (show (145 : Nat) ≠ 150 by decide), zup_q, if_true]
        rw [if_neg (by omega), if_neg (by omega), if_neg (by omega)]
        exact h1
      · simp only [zup_oth (show (148 : Nat) ≠ 149 by decide), zup_oth (show (148 : Nat) ≠ 150 by decide), zup_oth (show (148 : Nat) ≠ 145 by decide), zup_oth (show (149 : Nat) ≠ 148 by decide), zup_oth (show (149 : Nat) ≠ 150 by decide), zup_oth (show (149 : Nat) ≠ 145 by decide), zup_oth (show (150 : Nat) ≠ 148 by decide), zup_oth (show (150 : Nat) ≠ 149 by decide), zup_oth (show (150 : Nat) ≠ 145 by decide), zup_oth (show (145 : Nat) ≠ 148 by decide), zup_oth (show (145 : Nat) ≠ 149 by decide), zup_oth (show (145 : Nat) ≠ 150 by decide), zup_q, if_true]
        by_cases e9 : k = at9 - 1
        · subst e9
          rw [if_pos (by omega), if_pos (by omega), if_pos (by omega)]
          exact ⟨by omega, by omega, by omega, by omega⟩
        · have h1 := hhi k (by omega) k2
          rw [if_neg (by omega), if_neg (by omega), if_neg (by omega)]
          exact h1
set_option maxRecDepth 10000 in
set_option maxHeartbeats 2000000 in
theorem e_X9_lists {d n sl : Nat} {S : zSh} {c : zC} (hS : zSok S) (hB : zBd c) (he : 0 ≤ c 145 8 ∧ c 145 8 ≤ 60) {p s e : Int} (hpb : -100000 ≤ p ∧ p ≤ 100000) (hsb : -100000 ≤ s ∧ s ≤ 100000) (heb : -100000 ≤ e ∧ e ≤ 100000) : zE (d + 0) 96 0 (zent 96 [zA 145, zI p, zI s, zI e]) [] ((n, sl), (S, c)) (fun r μ' => ∃ c', r = none ∧ μ' = ((n, sl), (S, c')) ∧ zAddM c c' p s e) := by
  show zE (d + 0) 96 0 [some (zA 145), some (zI p), some (zI s), some (zI e), none] [] ((n, sl), (S, c)) _
  refine zl_ald0 I96_0 ?_
  refine zr_giB (j := 8) hB (by decide) I96_1 F9_56 rfl (sT145 hS) (fun b1 => ?_)
  refine zl_ist4 I96_4 ?_
  exact e_X9_lists_l hS he hpb hsb heb (c 145 8) (by omega) c (by omega) zFm.rf rfl hB (fun k k1 k2 => ⟨rfl, rfl, rfl⟩) (fun k k1 k2 => absurd k1 (by omega))
