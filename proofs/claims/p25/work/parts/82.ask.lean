/-! the relation kept by a call; the calls that only ask -/
def zPa (c : zC) (j : Nat) : Int → Int := fun k => c 147 (480 * (j : Int) + k)
def zCore (k : Int) (c : zC) : Prop := zRep c 9 (c 146) ∧ zInv (60 * k) (c 146) ∧ ((0 ≤ c 29 0 ∧ c 29 0 ≤ 5) ∧ (0 ≤ c 29 1 ∧ c 29 1 ≤ 4) ∧ c 145 2 = c 29 0) ∧ (∀ j : Nat, (j : Int) < c 29 0 → zRep c (31 + 20 * (((c 29 1).toNat + j) % 5)) (zPa c j) ∧ zInv (60 * k) (zPa c j)) ∧ (∀ j : Nat, j < 5 → zCnW c (31 + 20 * j))
def zMid (L : Nat) (xs : Nat → Int32) (μ : zMem) : Prop := ((μ.2.1 0).1 = 30 ∧ (μ.2.1 0).2.1 = L ∧ (μ.2.1 145).1 = 10) ∧ ∀ j, μ.2.2 0 j = (xs j.toNat).toInt
def zOut (r : Nat) : Prop := r < 8 ∨ r = 143 ∨ r = 144 ∨ r = 155
theorem zCore_fr {k : Int} {c c' : zC} (hk : 0 ≤ k) (h : zCore k c) (e : ∀ r, (r < 131 ∨ r = 146 ∨ r = 147) → c' r = c r) (e2 : c' 145 2 = c 145 2) : zCore (k + 1) c' := by
  obtain ⟨R, I, ⟨h1, h2, h3⟩, h4, h5⟩ := h
  have e29 := e 29 (by omega)
  have e146 := e 146 (by omega)
  have e147 := e 147 (by omega)
  unfold zCore
  rw [e29, e146, e2]
  refine ⟨zRep_fr R (fun r r1 r2 => e r (by omega)), I.up (by omega), ⟨h1, h2, h3⟩, fun j hj => ?_, fun j hj => ?_⟩
  · obtain ⟨a, b⟩ := h4 j hj
    have ep : zPa c' j = zPa c j := by unfold zPa; rw [e147]
    rw [ep]
    exact ⟨zRep_fr a (fun r r1 r2 => e r (by omega)), b.up (by omega)⟩
  · have := h5 j hj
    unfold zCnW at this ⊢
    rw [e _ (by omega), e _ (by omega), e _ (by omega), e _ (by omega)]
    exact this
/-! sums, ranks -/
theorem zFst_u {n : Int} {st ln st' ln' : Int → Int} {a b x y : Int} (h : zFst n st ln a b x) (h' : zFst n st' ln' a b y) (e : ∀ j, 0 ≤ j → j < n → st j = st' j ∧ ln j = ln' j) : x = y := by
  unfold zFst at h h'
  rcases h with ⟨h1, h2, h3, h4, h5⟩ | ⟨h1, h2⟩
  · obtain ⟨e1, e2⟩ := e x h1 h2
    rcases h' with ⟨k1, k2, k3, k4, k5⟩ | ⟨k1, k2⟩
    · obtain ⟨e3, e4⟩ := e y k1 k2
      rcases Int.lt_trichotomy x y with h9 | h9 | h9
      · exact absurd ⟨by omega, by omega⟩ (k5 x h1 h9)
      · exact h9
      · exact absurd ⟨by omega, by omega⟩ (h5 y k1 h9)
    · exact absurd ⟨by omega, by omega⟩ (k2 x h1 h2)
  · rcases h' with ⟨k1, k2, k3, k4, k5⟩ | ⟨k1, k2⟩
    · obtain ⟨e3, e4⟩ := e y k1 k2
      exact absurd ⟨by omega, by omega⟩ (h2 y k1 k2)
    · omega
theorem zFind_u {n : Int} {f : Int → Int} {t x y : Int} (h : zFind n f t x) (h' : zFind n f t y) : x = y := by
  unfold zFind at h h'
  rcases h with ⟨h1, h2, h3, h4⟩ | ⟨h1, h2⟩
  · rcases h' with ⟨k1, k2, k3, k4⟩ | ⟨k1, k2⟩
    · rcases Int.lt_trichotomy x y with h9 | h9 | h9
      · exact absurd h3 (k4 x h1 h9)
      · exact h9
      · exact absurd k3 (h4 y k1 h9)
    · exact absurd h3 (k2 x h1 h2)
  · rcases h' with ⟨k1, k2, k3, k4⟩ | ⟨k1, k2⟩
    · exact absurd k3 (h2 y k1 k2)
    · omega
theorem zSlR_u {r : Int × (Int × Int)} {x y : Int} (h : zSlR r x) (h' : zSlR r y) : x = y := by
  unfold zSlR at h h'
  omega
theorem zNd_len : ∀ (n : Nat) (l : List Nat), l.Nodup → (∀ x ∈ l, x < n) → l.length ≤ n
  | 0, [], _, _ => Nat.le_refl _
  | 0, x :: l, _, h => absurd (h x List.mem_cons_self) (Nat.not_lt_zero x)
  | n + 1, l, hn, h => by
    have h1 := zNd_len n (l.filter (fun x => decide (x ≠ n))) (hn.filter _) (fun x hx => by
      have h2 := List.mem_filter.mp hx
      have h3 := h x h2.1
      have h4 : x ≠ n := by simpa using h2.2
      omega)
    have h2 : l.length ≤ (l.filter (fun x => decide (x ≠ n))).length + 1 := by
      clear h1 h
      induction l with
      | nil => simp
      | cons x l ih =>
        obtain ⟨q1, q2⟩ := List.nodup_cons.mp hn
        by_cases e : x = n
        · have h5 : l.filter (fun x => decide (x ≠ n)) = l := List.filter_eq_self.mpr (fun y hy => by
            have : y ≠ n := fun h9 => q1 (by rw [e, ← h9]; exact hy)
            simpa using this)
          rw [List.filter_cons_of_neg (by simp [e]), h5]
          exact Nat.le_refl _
        · rw [List.filter_cons_of_pos (by simpa using e)]
          have := ih q2
          simp only [List.length_cons]
          omega
    omega
theorem zS_lt {f g : Int → Int} : ∀ n : Nat, (∀ j : Nat, j < n → f j ≤ g j) → zS f n ≤ zS g n
  | 0, _ => Int.le_refl _
  | n + 1, h => by
    have := zS_lt n (fun j hj => h j (by omega))
    have := h n (by omega)
    show zS f n + f n ≤ zS g n + g n
    omega
theorem zS_lt2 {f g : Int → Int} {i : Nat} : ∀ n : Nat, (∀ j : Nat, j < n → f j ≤ g j) → i < n → f i < g i → zS f n < zS g n
  | 0, _, h, _ => absurd h (Nat.not_lt_zero _)
  | n + 1, h, hi, hs => by
    have h2 := h n (by omega)
    show zS f n + f n < zS g n + g n
    by_cases e : i = n
    · subst e
      have := zS_lt i (fun j hj => h j (by omega))
      omega
    · have := zS_lt2 n (fun j hj => h j (by omega)) (by omega) hs
      omega
theorem zAh_lt {f : Int → Int} {n : Int} {p q : Int} (hp : 0 ≤ p ∧ p < n) (h : f q < f p ∨ (f p = f q ∧ p < q)) : zAh f n p < zAh f n q := by
  unfold zAh zSum
  refine zS_lt2 (i := p.toNat) n.toNat (fun j hj => ?_) (by omega) ?_
  · (try dsimp only)
    by_cases h1 : f p < f j ∨ (f j = f p ∧ (j : Int) < p)
    · rw [if_pos h1, if_pos (by omega)]
      exact Int.le_refl _
    · rw [if_neg h1]
      split <;> decide
  · (try dsimp only)
    rw [show ((p.toNat : Nat) : Int) = p by omega, if_neg (by omega), if_pos h]
    decide
theorem zAh_in {f : Int → Int} {n p : Int} (hp : 0 ≤ p ∧ p < n) : 0 ≤ zAh f n p ∧ zAh f n p < n := by
  have h1 := zSum_le (f := fun q => if f p < f q ∨ (f q = f p ∧ q < p) then 1 else 0) (lo := 0) (hi := 1) n (by omega) (fun j _ _ => by (try dsimp only); split <;> omega)
  refine ⟨by unfold zAh; omega, ?_⟩
  have h2 : zS (fun q => if f p < f q ∨ (f q = f p ∧ q < p) then 1 else 0) n.toNat < zS (fun _ => 1) n.toNat := by
    refine zS_lt2 (i := p.toNat) n.toNat (fun j hj => by (try dsimp only); split <;> decide) (by omega) ?_
    (try dsimp only)
    rw [show ((p.toNat : Nat) : Int) = p by omega, if_neg (by omega)]
    decide
  have h3 : ∀ m : Nat, zS (fun _ => 1) m = m := by
    intro m
    induction m with
    | zero => rfl
    | succ m ih =>
      show zS (fun _ => 1) m + 1 = _
      rw [ih]
      omega
  rw [h3] at h2
  unfold zAh zSum
  omega
/-- every place in the order is someone's -/
theorem zAh_on {f : Int → Int} {n k : Int} (hk : 0 ≤ k ∧ k < n) : ∃ q, 0 ≤ q ∧ q < n ∧ zAh f n q = k := by
  refine Classical.byContradiction (fun hno => ?_)
  have hno2 : ∀ q, 0 ≤ q → q < n → zAh f n q ≠ k := fun q q1 q2 h => hno ⟨q, q1, q2, h⟩
  have hinj : ∀ i j : Nat, i < n.toNat → j < n.toNat → zAh f n i = zAh f n j → i = j := fun i j hi hj h => by
    refine Classical.byContradiction (fun hne => ?_)
    rcases Int.lt_trichotomy (f i) (f j) with h1 | h1 | h1
    · have := zAh_lt (f := f) (n := n) (p := j) (q := i) (by omega) (Or.inl h1)
      omega
    · rcases Nat.lt_or_gt_of_ne hne with h2 | h2
      · have := zAh_lt (f := f) (n := n) (p := i) (q := j) (by omega) (Or.inr ⟨h1, by omega⟩)
        omega
      · have := zAh_lt (f := f) (n := n) (p := j) (q := i) (by omega) (Or.inr ⟨h1.symm, by omega⟩)
        omega
    · have := zAh_lt (f := f) (n := n) (p := i) (q := j) (by omega) (Or.inl h1)
      omega
  have hnd : ((List.range n.toNat).map (fun i : Nat => (zAh f n (i : Int)).toNat)).Nodup := by
    have key : ∀ m : Nat, m ≤ n.toNat → ((List.range m).map (fun i : Nat => (zAh f n (i : Int)).toNat)).Nodup := by
      intro m
      induction m with
      | zero => intro _; simp
      | succ m ih =>
        intro hm
        rw [List.range_succ, List.map_append]
        refine List.nodup_append.mpr ⟨ih (by omega), by simp, fun a ha b hb => ?_⟩
        rw [List.mem_map] at ha
        obtain ⟨i, hi, rfl⟩ := ha
        simp only [List.map_cons, List.map_nil, List.mem_singleton] at hb
        rw [hb]
        intro h9
        have hi2 := List.mem_range.mp hi
        have a1 := zAh_in (f := f) (n := n) (p := i) (by omega)
        have a2 := zAh_in (f := f) (n := n) (p := m) (by omega)
        have := hinj i m (by omega) (by omega) (by omega)
        omega
    exact key n.toNat (Nat.le_refl _)
  have h9 := zNd_len n.toNat (k.toNat :: (List.range n.toNat).map (fun i : Nat => (zAh f n (i : Int)).toNat)) (List.nodup_cons.mpr ⟨fun h => by
    rw [List.mem_map] at h
    obtain ⟨i, hi, h8⟩ := h
    have hi2 := List.mem_range.mp hi
    have a1 := zAh_in (f := f) (n := n) (p := i) (by omega)
    exact hno2 i (by omega) (by omega) (by omega), hnd⟩) (fun x hx => by
    rcases List.mem_cons.mp hx with h | h
    · omega
    · rw [List.mem_map] at h
      obtain ⟨i, hi, h8⟩ := h
      have hi2 := List.mem_range.mp hi
      have a1 := zAh_in (f := f) (n := n) (p := i) (by omega)
      omega)
  simp only [List.length_cons, List.length_map, List.length_range] at h9
  omega
/-! all items as entries, class and model -/
theorem zInsL_end : ∀ (l : List zEn) (x : zEn), (∀ y ∈ l, y.2.1 ≤ x.2.1) → zInsL l x = l ++ [x]
  | [], _, _ => rfl
  | y :: l, x, h => by
    unfold zInsL
    have h1 := h y List.mem_cons_self
    rw [if_neg (by omega), zInsL_end l x (fun z hz => h z (List.mem_cons_of_mem _ hz))]
    rfl
theorem zGs_eq {c : zC} {B : Int} (R : zRep c 9 (c 146)) (I : zInv B (c 146)) : ∀ k : Nat, (k : Int) ≤ c 146 3 → zGs c k = zMk c (zAl (c 146) k)
  | 0, _ => rfl
  | k + 1, hk => by
    have ih := zGs_eq R I k (by omega)
    obtain ⟨b1, b2, b3, b4⟩ := (zRep_9 R).2.2.2.2 k (by omega) (by omega)
    have hi := I.2.2.2.2.2.1 k (by omega) (by omega)
    obtain ⟨p1, p2, p3, p4⟩ := (zRep_9 R).2.1 (c 25 k) (by omega) (by omega)
    have he : zMk c [zIt (c 146) k] = [(if c 11 (c 25 k) = 2 then -9 else c 25 k, (c 26 k, c 26 k + c 27 k))] := by
      unfold zMk zIt
      rw [List.map_cons, List.map_nil]
      dsimp only
      rw [p1, b1, b2, b3]
    have ha : zMk c (zAl (c 146) (k + 1)) = zMk c (zAl (c 146) k) ++ zMk c [zIt (c 146) k] := by
      rw [zAl_s]
      unfold zMk
      rw [List.map_append]
    rw [ha, he, ← ih]
    show zInsL (zGs c k) _ = _
    refine zInsL_end _ _ (fun y hy => ?_)
    rw [ih] at hy
    unfold zMk at hy
    rw [List.mem_map] at hy
    obtain ⟨z, hz, rfl⟩ := hy
    obtain ⟨i, hi2⟩ := List.getElem?_of_mem hz
    obtain ⟨i1, rfl⟩ := zAl_get hi2
    dsimp only
    unfold zIt
    dsimp only
    rw [b2]
    have h5 := I.2.2.2.2.2.2 i k (by omega) (by omega) (by omega)
    have h6 := I.2.2.2.2.2.1 i (by omega) (by omega)
    omega
theorem zUv_eq {c : zC} {B : Int} (R : zRep c 9 (c 146)) (I : zInv B (c 146)) {k : Nat} (hk : (k : Int) < c 146 3) : ∃ y, (zGs c (c 24 0).toNat)[k]? = some y ∧ zUsl (zTX c) (c 19) (zGs c (c 24 0).toNat) k y = zUvM c k := by
  obtain ⟨t1, t2, t3⟩ := zT_ag rfl R
  have a := (zRep_9 R).1
  rw [a.2.2.2, zGs_eq R I (c 146 3).toNat (by omega)]
  have hx : (zAl (c 146) (c 146 3).toNat)[k]? = some (zIt (c 146) k) := zAl_at (by omega)
  refine ⟨_, zMk_get hx, ?_⟩
  unfold zUvM
  exact zUsl_c t1 t2 t3 _ _ _
theorem zLv_eq {c : zC} {B : Int} (R : zRep c 9 (c 146)) (I : zInv B (c 146)) {r : Int} (hr : 0 ≤ r ∧ r < c 146 2) : zLvX c r = zLvM c r := by
  obtain ⟨t1, t2, t3⟩ := zT_ag rfl R
  have a := (zRep_9 R).1
  have hI := I.1
  unfold zLvX zLvM
  rw [a.2.2.2, zGs_eq R I (c 146 3).toNat (by omega)]
  exact zLfl_c t1 t2 _ _ _ t3 r hr.1 (by unfold zTX; dsimp only; omega)
theorem zUvM_c {c c1 : zC} (e : c1 146 = c 146) (k : Nat) : zUvM c1 k = zUvM c k := by
  unfold zUvM zTM zPlM zMk
  rw [e]
theorem zLvM_c {c c1 : zC} (e : c1 146 = c 146) (k : Int) : zLvM c1 k = zLvM c k := by
  unfold zLvM zTM zPlM zMk
  rw [e]
