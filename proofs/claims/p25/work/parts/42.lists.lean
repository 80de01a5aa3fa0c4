/-! the model's entries -/
def zInsB : List zEn → zEn → List zEn
  | [], x => [x]
  | y :: l, x => if x.2.1 ≤ y.2.1 then x :: y :: l else y :: zInsB l x
def zRepM (c : zC) (l : List zEn) : Prop := c 145 8 = l.length ∧ ∀ (k : Nat) (x : zEn), l[k]? = some x → c 148 (k : Int) = x.1 ∧ c 149 (k : Int) = x.2.1 ∧ c 150 (k : Int) = x.2.2 - x.2.1
/-- only the model's scratch rows changed -/
def zFm (c c' : zC) : Prop := (∀ r, (r < 145 ∨ 154 < r ∨ r = 146 ∨ r = 147) → c' r = c r) ∧ ∀ k, k ≠ 8 → c' 145 k = c 145 k
theorem zFm.rf {c : zC} : zFm c c := ⟨fun _ _ => rfl, fun _ _ => rfl⟩
theorem zFm.tr {a b c : zC} (h : zFm a b) (h2 : zFm b c) : zFm a c := ⟨fun r hr => (h2.1 r hr).trans (h.1 r hr), fun k hk => (h2.2 k hk).trans (h.2 k hk)⟩
theorem zFm.up {a b : zC} (h : zFm a b) {r : Nat} {k v : Int} (hr : (148 ≤ r ∧ r ≤ 154) ∨ (r = 145 ∧ k = 8)) : zFm a (zup b r k v) := by
  refine ⟨fun q hq => ?_, fun j hj => ?_⟩
  · by_cases e : q = r
    · omega
    · rw [zup_ne e]
      exact h.1 q hq
  · unfold zup
    rw [if_neg (by omega)]
    exact h.2 j hj
def zAddM (c c' : zC) (p s e : Int) : Prop := ∃ t : Int, 0 ≤ t ∧ t ≤ c 145 8 ∧ (∀ k, t ≤ k → k < c 145 8 → s ≤ c 149 k) ∧ (t = 0 ∨ c 149 (t - 1) < s) ∧ c' 145 8 = c 145 8 + 1 ∧ (∀ k, 0 ≤ k → k < t → c' 148 k = c 148 k ∧ c' 149 k = c 149 k ∧ c' 150 k = c 150 k) ∧ (c' 148 t = p ∧ c' 149 t = s ∧ c' 150 t = e) ∧
  (∀ k, t ≤ k → k < c 145 8 → c' 148 (k + 1) = c 148 k ∧ c' 149 (k + 1) = c 149 k ∧ c' 150 (k + 1) = c 150 k) ∧ zFm c c' ∧ zBd c'

theorem zInsB_at : ∀ (l : List zEn) (x : zEn) (t : Nat), t ≤ l.length → (∀ (k : Nat) (y : zEn), k < t → l[k]? = some y → y.2.1 < x.2.1) → (∀ y : zEn, l[t]? = some y → x.2.1 ≤ y.2.1) → zInsB l x = l.take t ++ x :: l.drop t
  | [], x, t, ht, _, _ => by
    have : t = 0 := by simpa using ht
    subst this
    rfl
  | y :: l, x, 0, _, _, h2 => by
    have := h2 y rfl
    show (if x.2.1 ≤ y.2.1 then x :: y :: l else _) = _
    rw [if_pos this]
    rfl
  | y :: l, x, t + 1, ht, h1, h2 => by
    have h3 := h1 0 y (by omega) rfl
    show (if x.2.1 ≤ y.2.1 then x :: y :: l else y :: zInsB l x) = _
    rw [if_neg (by omega), zInsB_at l x t (by simpa using ht) (fun k z hk hz => h1 (k + 1) z (by omega) (by simpa using hz)) (fun z hz => h2 z (by simpa using hz))]
    rfl
theorem zAddM_rep {c c' : zC} {p s e : Int} {l : List zEn} (h : zAddM c c' p s e) (hl : zRepM c l) (hs : zSrt l) : zRepM c' (zInsB l (p, (s, s + e))) := by
  obtain ⟨t, t1, t2, t3, t4, t5, t6, t7, t8, -, -⟩ := h
  obtain ⟨l1, l2⟩ := hl
  have e1 : zInsB l (p, (s, s + e)) = l.take t.toNat ++ (p, (s, s + e)) :: l.drop t.toNat := by
    refine zInsB_at l _ _ (by omega) (fun k y hk hy => ?_) (fun y hy => ?_)
    · rcases t4 with t4 | t4
      · omega
      · have hlt : (t - 1).toNat < l.length := by omega
        obtain ⟨z, hz⟩ : ∃ z, l[(t - 1).toNat]? = some z := ⟨_, List.getElem?_eq_getElem hlt⟩
        have h1 := hs k (t - 1).toNat y z (by omega) hy hz
        have h2 := (l2 _ z hz).2.1
        rw [show (((t - 1).toNat : Nat) : Int) = t - 1 by omega] at h2
        show y.2.1 < s
        omega
    · have h2 := (l2 _ y hy).2.1
      have hlt := (List.getElem?_eq_some_iff.mp hy).1
      have h3 := t3 t.toNat (by omega) (by omega)
      show s ≤ y.2.1
      omega
  rw [e1]
  have e2 : (l.take t.toNat).length = t.toNat := by simp; omega
  refine ⟨by simp; omega, fun k x hx => ?_⟩
  rcases Nat.lt_trichotomy k t.toNat with hk | hk | hk
  · rw [List.getElem?_append_left (by omega), List.getElem?_take, if_pos hk] at hx
    have h1 := l2 k x hx
    have h2 := t6 k (by omega) (by omega)
    omega
  · rw [List.getElem?_append_right (by omega), show k - (l.take t.toNat).length = 0 by omega] at hx
    cases hx
    rw [show (k : Int) = t by omega]
    exact ⟨t7.1, t7.2.1, by rw [t7.2.2]; show e = s + e - s; omega⟩
  · rw [List.getElem?_append_right (by omega), e2, show k - t.toNat = (k - 1 - t.toNat) + 1 by omega, List.getElem?_cons_succ, List.getElem?_drop, show t.toNat + (k - 1 - t.toNat) = k - 1 by omega] at hx
    have h1 := l2 (k - 1) x hx
    have hlt := (List.getElem?_eq_some_iff.mp hx).1
    have h2 := t8 ((k - 1 : Nat) : Int) (by omega) (by omega)
    rw [show (((k - 1 : Nat) : Int) + 1) = (k : Int) by omega] at h2
    omega
theorem zInB_mem {l : List zEn} {x y : zEn} : y ∈ zInsB l x ↔ y = x ∨ y ∈ l := by
  induction l with
  | nil => simp [zInsB]
  | cons z l ih =>
    unfold zInsB
    split
    · simp
    · simp only [List.mem_cons, ih]
      constructor
      · rintro (h | h | h)
        · exact Or.inr (Or.inl h)
        · exact Or.inl h
        · exact Or.inr (Or.inr h)
      · rintro (h | h | h)
        · exact Or.inr (Or.inl h)
        · exact Or.inl h
        · exact Or.inr (Or.inr h)
theorem zInB_len {l : List zEn} {x : zEn} : (zInsB l x).length = l.length + 1 := by
  induction l with
  | nil => rfl
  | cons z l ih =>
    unfold zInsB
    split
    · rfl
    · simp [ih]
theorem zSrt_inB {l : List zEn} {x : zEn} (h : zSrt l) : zSrt (zInsB l x) := by
  induction l with
  | nil => exact zSrt_cons.mpr ⟨(fun y hy => by cases hy), (fun j k a b _ ha => by rw [List.getElem?_nil] at ha; cases ha)⟩
  | cons z l ih =>
    obtain ⟨h1, h2⟩ := zSrt_cons.mp h
    unfold zInsB
    split
    · rename_i hx
      exact zSrt_cons.mpr ⟨fun y hy => by
        rcases List.mem_cons.mp hy with rfl | hy
        · omega
        · have := h1 y hy
          omega, h⟩
    · exact zSrt_cons.mpr ⟨fun y hy => by
        rcases zInB_mem.mp hy with rfl | hy
        · omega
        · exact h1 y hy, ih h2⟩
