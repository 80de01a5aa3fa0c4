/-! rights: the run over entries in the order of their starts succeeds just where there is any way -/
def zCov (T : zRT) (x : zEn) (r : Int) : Prop := (0 ≤ r ∧ r < T.1) ∧ T.2.1 r = x.1 ∧ T.2.2.1 r ≤ x.2.1 ∧ x.2.2 ≤ T.2.2.2 r
theorem zBst_c (T : zRT) (left : Int → Int) (p s e : Int) : ∀ k : Nat, (zBst T left p s e k = -9 ∧ ∀ r : Int, 0 ≤ r → r < k → ¬ (T.2.1 r = p ∧ T.2.2.1 r ≤ s ∧ e ≤ T.2.2.2 r ∧ 0 < left r)) ∨ (0 ≤ zBst T left p s e k ∧ ∀ r : Int, 0 ≤ r → r < k → (T.2.1 r = p ∧ T.2.2.1 r ≤ s ∧ e ≤ T.2.2.2 r ∧ 0 < left r) → T.2.2.2 (zBst T left p s e k) ≤ T.2.2.2 r)
  | 0 => Or.inl ⟨rfl, fun r h1 h2 => absurd h1 (by omega)⟩
  | k + 1 => by
    have ih := zBst_c T left p s e k
    unfold zBst
    by_cases h : T.2.1 k = p ∧ T.2.2.1 k ≤ s ∧ e ≤ T.2.2.2 k ∧ 0 < left k ∧ (zBst T left p s e k = -9 ∨ T.2.2.2 k < T.2.2.2 (zBst T left p s e k))
    · rw [if_pos h]
      refine Or.inr ⟨by omega, fun r h1 h2 h3 => ?_⟩
      by_cases e9 : r = k
      · rw [e9]
        exact Int.le_refl _
      · rcases ih with ⟨i1, i2⟩ | ⟨i1, i2⟩
        · exact absurd h3 (i2 r h1 (by omega))
        · have := i2 r h1 (by omega) h3
          have := h.2.2.2.2
          omega
    · rw [if_neg h]
      rcases ih with ⟨i1, i2⟩ | ⟨i1, i2⟩
      · refine Or.inl ⟨i1, fun r h1 h2 h3 => ?_⟩
        by_cases e9 : r = k
        · subst e9
          exact h ⟨h3.1, h3.2.1, h3.2.2.1, h3.2.2.2, Or.inl i1⟩
        · exact i2 r h1 (by omega) h3
      · refine Or.inr ⟨i1, fun r h1 h2 h3 => ?_⟩
        by_cases e9 : r = k
        · subst e9
          refine Int.not_lt.mp (fun h9 => h ⟨h3.1, h3.2.1, h3.2.2.1, h3.2.2.2, Or.inr h9⟩)
        · exact i2 r h1 (by omega) h3
def zDe (f : Int → Int) (r : Int) : Int → Int := fun j => if j = r then f j - 1 else f j
theorem zDe_same {f : Int → Int} {r : Int} : zDe f r r = f r - 1 := if_pos rfl
theorem zDe_ne {f : Int → Int} {r j : Int} (h : j ≠ r) : zDe f r j = f j := if_neg h
theorem zDe_comm {f : Int → Int} {a b : Int} : zDe (zDe f a) b = zDe (zDe f b) a := by
  funext j
  unfold zDe
  split <;> split <;> rfl
theorem zDe_le {f : Int → Int} {r j : Int} : zDe f r j ≤ f j := by
  unfold zDe
  split <;> omega
def zFe (T : zRT) : List zEn → (Int → Int) → Prop
  | [], _ => True
  | x :: l, pl => ∃ r, zCov T x r ∧ 0 < pl r ∧ zFe T l (zDe pl r)
theorem zFe_sw {T : zRT} {x y : zEn} {l : List zEn} {pl : Int → Int} (h : zFe T (x :: y :: l) pl) : zFe T (y :: x :: l) pl := by
  obtain ⟨r1, h1, h2, r2, h3, h4, h5⟩ := h
  have h6 := zDe_le (f := pl) (r := r1) (j := r2)
  refine ⟨r2, h3, by omega, r1, h1, ?_, by rw [zDe_comm]; exact h5⟩
  by_cases e : r1 = r2
  · subst e
    exact h4
  · rw [zDe_ne e]
    exact h2
theorem zFe_perm {T : zRT} {l l' : List zEn} (h : l.Perm l') : ∀ pl, zFe T l pl → zFe T l' pl := by
  induction h with
  | nil => exact fun _ h => h
  | cons x _ ih =>
    rintro pl ⟨r, h1, h2, h3⟩
    exact ⟨r, h1, h2, ih _ h3⟩
  | swap x y l => exact fun pl h => zFe_sw h
  | trans _ _ ih1 ih2 => exact fun pl h => ih2 pl (ih1 pl h)
theorem zFe_c {T T' : zRT} (h0 : T.1 = T'.1) (hT : ∀ j : Int, 0 ≤ j → j < T.1 → T.2.1 j = T'.2.1 j ∧ T.2.2.1 j = T'.2.2.1 j ∧ T.2.2.2 j = T'.2.2.2 j) : ∀ (l : List zEn) (pl pl' : Int → Int), (∀ j : Int, 0 ≤ j → j < T.1 → pl j = pl' j) → zFe T l pl → zFe T' l pl'
  | [], _, _, _, _ => trivial
  | x :: l, pl, pl', hp, ⟨r, h1, h2, h3⟩ => by
    obtain ⟨e1, e2, e3⟩ := hT r h1.1.1 h1.1.2
    refine ⟨r, ⟨⟨h1.1.1, by have := h1.1.2; omega⟩, by rw [← e1]; exact h1.2.1, by rw [← e2]; exact h1.2.2.1, by rw [← e3]; exact h1.2.2.2⟩, by rw [← hp r h1.1.1 h1.1.2]; exact h2, zFe_c h0 hT l _ _ (fun j j1 j2 => ?_) h3⟩
    unfold zDe
    rw [hp j j1 j2]
theorem zFe_ex {T : zRT} {p s0 g o : Int} (hgo : T.2.2.2 g ≤ T.2.2.2 o) (hof : T.2.2.1 o ≤ s0) (hop : T.2.1 o = p) (hor : 0 ≤ o ∧ o < T.1) : ∀ (l : List zEn) (pl : Int → Int), (∀ y ∈ l, s0 ≤ y.2.1 ∧ y.1 = p) → 0 < pl g → 0 < pl o → zFe T l (zDe pl o) → zFe T l (zDe pl g)
  | [], _, _, _, _, _ => trivial
  | y :: l, pl, hl, hg, ho, ⟨r, h1, h2, h3⟩ => by
    obtain ⟨y1, y2⟩ := hl y List.mem_cons_self
    have hl2 : ∀ y ∈ l, s0 ≤ y.2.1 ∧ y.1 = p := fun z hz => hl z (List.mem_cons_of_mem _ hz)
    by_cases ego : g = o
    · subst ego
      exact ⟨r, h1, h2, h3⟩
    · by_cases e : r = g
      · subst e
        refine ⟨o, ⟨hor, by rw [y2]; exact hop, by omega, by have := h1.2.2.2; omega⟩, by rw [zDe_ne (fun h => ego h.symm)]; exact ho, ?_⟩
        rw [zDe_comm]
        exact h3
      · refine ⟨r, h1, ?_, ?_⟩
        · rw [zDe_ne e]
          have := zDe_le (f := pl) (r := o) (j := r)
          omega
        · rw [zDe_comm]
          rw [zDe_comm] at h3
          refine zFe_ex hgo hof hop hor l (zDe pl r) hl2 (by rw [zDe_ne (fun h => e h.symm)]; exact hg) ?_ h3
          by_cases e2 : o = r
          · subst e2
            exact h2
          · rw [zDe_ne e2]
            exact ho
theorem zOkl_cons {T : zRT} {pl : Int → Int} {x : zEn} {l : List zEn} : zOkl T pl (x :: l) ↔ zBst T pl x.1 x.2.1 x.2.2 T.1 ≠ -9 ∧ zOkl T (zStp T pl x) l := by
  constructor
  · intro h
    exact ⟨h 0 x rfl, fun k y hy => h (k + 1) y hy⟩
  · rintro ⟨h1, h2⟩ k y hy
    cases k with
    | zero =>
      injection hy with hy
      rw [← hy]
      exact h1
    | succ k => exact h2 k y hy
theorem zOkp_cons {T : zRT} {pl : Int → Int} {p : Int} {x : zEn} {l : List zEn} : zOkp T pl p (x :: l) ↔ (x.1 = p → zBst T pl x.1 x.2.1 x.2.2 T.1 ≠ -9) ∧ zOkp T (zStp T pl x) p l := by
  constructor
  · intro h
    exact ⟨fun e => h 0 x rfl e, fun k y hy e => h (k + 1) y hy e⟩
  · rintro ⟨h1, h2⟩ k y hy e
    cases k with
    | zero =>
      injection hy with hy
      rw [← hy] at e ⊢
      exact h1 e
    | succ k => exact h2 k y hy e
theorem zStp_de {T : zRT} {pl : Int → Int} {x : zEn} : zStp T pl x = zDe pl (zBst T pl x.1 x.2.1 x.2.2 T.1) := rfl
theorem zGr {T : zRT} {p : Int} : ∀ (l : List zEn) (pl : Int → Int), zSrt l → (∀ y ∈ l, y.1 = p) → (zOkl T pl l ↔ zFe T l pl)
  | [], pl, _, _ => ⟨fun _ => trivial, fun _ k x hx => by cases hx⟩
  | x :: l, pl, hs, hp => by
    obtain ⟨s1, s2⟩ := zSrt_cons.mp hs
    have hp2 : ∀ y ∈ l, y.1 = p := fun y hy => hp y (List.mem_cons_of_mem _ hy)
    have hx := hp x List.mem_cons_self
    rw [zOkl_cons, zStp_de]
    have hin := zBst_in T pl x.1 x.2.1 x.2.2 T.1
    constructor
    · rintro ⟨h1, h2⟩
      rcases hin with h9 | ⟨a1, a2, a3, a4, a5, a6⟩
      · exact absurd h9 h1
      · exact ⟨_, ⟨⟨a1, a2⟩, a3, a4, a5⟩, a6, (zGr l _ s2 hp2).mp h2⟩
    · rintro ⟨o, ⟨o1, o2, o3, o4⟩, o5, o6⟩
      rcases zBst_c T pl x.1 x.2.1 x.2.2 T.1 with ⟨h1, h2⟩ | ⟨h1, h2⟩
      · exact absurd ⟨o2, o3, o4, o5⟩ (h2 o o1.1 o1.2)
      · rcases hin with h9 | ⟨a1, a2, a3, a4, a5, a6⟩
        · omega
        · refine ⟨by omega, (zGr l _ s2 hp2).mpr ?_⟩
          exact zFe_ex (p := p) (s0 := x.2.1) (h2 o o1.1 o1.2 ⟨o2, o3, o4, o5⟩) o3 (by rw [o2]; exact hx) o1 l pl (fun y hy => ⟨s1 y hy, hp2 y hy⟩) a6 o5 o6
theorem zBst_pc {T : zRT} {pl pl' : Int → Int} {p s e : Int} (h : ∀ r : Int, 0 ≤ r → r < T.1 → T.2.1 r = p → pl r = pl' r) : ∀ k : Nat, k ≤ T.1 → zBst T pl p s e k = zBst T pl' p s e k
  | 0, _ => rfl
  | k + 1, hk => by
    unfold zBst
    rw [zBst_pc h k (by omega)]
    by_cases e9 : T.2.1 k = p
    · rw [h k (by omega) (by omega) e9]
    · rw [if_neg (fun h9 => e9 h9.1), if_neg (fun h9 => e9 h9.1)]
theorem zOkp_f {T : zRT} {p : Int} : ∀ (l : List zEn) (pl pl' : Int → Int), (∀ r : Int, 0 ≤ r → r < T.1 → T.2.1 r = p → pl r = pl' r) → (zOkp T pl p l ↔ zOkl T pl' (l.filter (fun x => decide (x.1 = p))))
  | [], _, _, _ => ⟨fun _ k x hx => (by cases hx), fun _ k x hx => (by cases hx)⟩
  | x :: l, pl, pl', h => by
    rw [zOkp_cons]
    by_cases e : x.1 = p
    · rw [List.filter_cons_of_pos (by simpa using e), zOkl_cons]
      have hb := zBst_pc (p := x.1) (s := x.2.1) (e := x.2.2) (T := T) (pl := pl) (pl' := pl') (by rw [e]; exact h) T.1 (Nat.le_refl _)
      rw [zOkp_f l (zStp T pl x) (zStp T pl' x) (fun r r1 r2 r3 => ?_), hb]
      · exact ⟨fun h9 => ⟨h9.1 e, h9.2⟩, fun h9 => ⟨fun _ => h9.1, h9.2⟩⟩
      · rw [zStp_de, zStp_de, hb]
        unfold zDe
        rw [h r r1 r2 r3]
    · rw [List.filter_cons_of_neg (by simpa using e)]
      rw [zOkp_f l (zStp T pl x) pl' (fun r r1 r2 r3 => ?_)]
      · exact ⟨fun h9 => h9.2, fun h9 => ⟨fun h8 => absurd h8 e, h9⟩⟩
      · rw [zStp_de, zDe_ne ?_]
        · exact h r r1 r2 r3
        · intro h9
          rcases zBst_in T pl x.1 x.2.1 x.2.2 T.1 with a | ⟨a1, a2, a3, _⟩
          · omega
          · rw [← h9] at a3
            exact e (a3.symm.trans r3)
theorem zInsL_pm : ∀ (l : List zEn) (x : zEn), (zInsL l x).Perm (x :: l)
  | [], x => List.Perm.refl _
  | y :: l, x => by
    unfold zInsL
    split
    · exact List.Perm.refl _
    · exact (List.Perm.cons y (zInsL_pm l x)).trans (List.Perm.swap x y l)
theorem zInsB_pm : ∀ (l : List zEn) (x : zEn), (zInsB l x).Perm (x :: l)
  | [], x => List.Perm.refl _
  | y :: l, x => by
    unfold zInsB
    split
    · exact List.Perm.refl _
    · exact (List.Perm.cons y (zInsB_pm l x)).trans (List.Perm.swap x y l)
/-- two sorted lists of a programme's entries, the same but for their order -/
theorem zOk_iff {T T' : zRT} {pl pl' : Int → Int} {p : Int} {l m : List zEn} (h0 : T.1 = T'.1) (hT : ∀ j : Int, 0 ≤ j → j < T.1 → T.2.1 j = T'.2.1 j ∧ T.2.2.1 j = T'.2.2.1 j ∧ T.2.2.2 j = T'.2.2.2 j) (hpl : ∀ j : Int, 0 ≤ j → j < T.1 → pl j = pl' j) (hl : zSrt l) (hlp : ∀ y ∈ l, y.1 = p) (hm : zSrt m) (hpm : l.Perm (m.filter (fun x => decide (x.1 = p)))) : zOkl T pl l ↔ zOkp T' pl' p m := by
  have hsf : zSrt (m.filter (fun x => decide (x.1 = p))) := by
    have key : ∀ m : List zEn, zSrt m → zSrt (m.filter (fun x => decide (x.1 = p))) := by
      intro m
      induction m with
      | nil => exact fun h => h
      | cons x m ih =>
        intro h
        obtain ⟨a1, a2⟩ := zSrt_cons.mp h
        by_cases e : x.1 = p
        · rw [List.filter_cons_of_pos (by simpa using e)]
          exact zSrt_cons.mpr ⟨fun y hy => a1 y (List.mem_filter.mp hy).1, ih a2⟩
        · rw [List.filter_cons_of_neg (by simpa using e)]
          exact ih a2
    exact key m hm
  rw [zOkp_f m pl' pl' (fun _ _ _ _ => rfl), zGr l pl hl hlp, zGr (p := p) _ pl' hsf (fun y hy => by simpa using (List.mem_filter.mp hy).2)]
  constructor
  · exact fun h => zFe_c h0 hT _ _ _ hpl (zFe_perm hpm _ h)
  · exact fun h => zFe_perm hpm.symm _ (zFe_c h0.symm (fun j j1 j2 => by obtain ⟨e1, e2, e3⟩ := hT j j1 (by omega); exact ⟨e1.symm, e2.symm, e3.symm⟩) _ _ _ (fun j j1 j2 => (hpl j j1 (by omega)).symm) h)
theorem zStp_c {T T' : zRT} (h0 : T.1 = T'.1) (hT : ∀ j : Int, 0 ≤ j → j < T.1 → T.2.1 j = T'.2.1 j ∧ T.2.2.1 j = T'.2.2.1 j ∧ T.2.2.2 j = T'.2.2.2 j) {pl pl' : Int → Int} (hpl : ∀ j : Int, 0 ≤ j → j < T.1 → pl j = pl' j) (x : zEn) : zBst T pl x.1 x.2.1 x.2.2 T.1 = zBst T' pl' x.1 x.2.1 x.2.2 T'.1 ∧ ∀ j : Int, 0 ≤ j → j < T.1 → zStp T pl x j = zStp T' pl' x j := by
  have hb : zBst T pl x.1 x.2.1 x.2.2 T.1 = zBst T' pl' x.1 x.2.1 x.2.2 T'.1 := by
    rw [← h0]
    exact zBst_congr _ (fun j j1 j2 => ⟨(hT j j1 j2).1, (hT j j1 j2).2.1, (hT j j1 j2).2.2, hpl j j1 j2⟩)
  refine ⟨hb, fun j j1 j2 => ?_⟩
  rw [zStp_de, zStp_de, hb]
  unfold zDe
  rw [hpl j j1 j2]
theorem zLfl_c {T T' : zRT} (h0 : T.1 = T'.1) (hT : ∀ j : Int, 0 ≤ j → j < T.1 → T.2.1 j = T'.2.1 j ∧ T.2.2.1 j = T'.2.2.1 j ∧ T.2.2.2 j = T'.2.2.2 j) : ∀ (l : List zEn) (pl pl' : Int → Int), (∀ j : Int, 0 ≤ j → j < T.1 → pl j = pl' j) → ∀ j : Int, 0 ≤ j → j < T.1 → zLfl T pl l j = zLfl T' pl' l j
  | [], _, _, hpl => hpl
  | x :: l, _, _, hpl => zLfl_c h0 hT l _ _ (zStp_c h0 hT hpl x).2
theorem zUsl_c {T T' : zRT} (h0 : T.1 = T'.1) (hT : ∀ j : Int, 0 ≤ j → j < T.1 → T.2.1 j = T'.2.1 j ∧ T.2.2.1 j = T'.2.2.1 j ∧ T.2.2.2 j = T'.2.2.2 j) {pl pl' : Int → Int} (hpl : ∀ j : Int, 0 ≤ j → j < T.1 → pl j = pl' j) (l : List zEn) (k : Nat) (x : zEn) : zUsl T pl l k x = zUsl T' pl' l k x :=
  (zStp_c h0 hT (zLfl_c h0 hT (l.take k) pl pl' hpl) x).1
