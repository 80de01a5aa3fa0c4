/-! what holds of every week: nothing overlaps, minutes add up, silences are silent -/
theorem zMin_all {s l a b : Int} (h0 : a ≤ s) (h1 : s + l ≤ b) (hl : 0 ≤ l) : zMin s (s + l) a b = l := by
  unfold zMin
  omega
theorem zMin_0 {s e a b : Int} (h : ¬ (s < b ∧ a < e)) (hse : s ≤ e) (hab : a ≤ b) : zMin s e a b = 0 := by
  unfold zMin
  omega
theorem zMin_nn {s e a b : Int} : 0 ≤ zMin s e a b := by
  unfold zMin
  omega
theorem zMin_add {s e a m b : Int} (h1 : a ≤ m) (h2 : m ≤ b) : zMin s e a b = zMin s e a m + zMin s e m b := by
  unfold zMin
  omega
theorem zS_add {f g h : Int → Int} : ∀ n : Nat, (∀ j : Nat, j < n → f j = g j + h j) → zS f n = zS g n + zS h n
  | 0, _ => rfl
  | n + 1, e => by
    have ih := zS_add n (fun j hj => e j (by omega))
    have := e n (by omega)
    show zS f n + f n = zS g n + g n + (zS h n + h n)
    omega
theorem zS_0 {f : Int → Int} : ∀ n : Nat, (∀ j : Nat, j < n → f j = 0) → zS f n = 0
  | 0, _ => rfl
  | n + 1, e => by
    have ih := zS_0 n (fun j hj => e j (by omega))
    have := e n (by omega)
    show zS f n + f n = 0
    omega
theorem zS_ge {f : Int → Int} {i : Nat} : ∀ n : Nat, (∀ j : Nat, j < n → 0 ≤ f j) → i < n → f i ≤ zS f n
  | 0, _, h => absurd h (Nat.not_lt_zero _)
  | n + 1, e, h => by
    show f i ≤ zS f n + f n
    have h9 := e n (by omega)
    by_cases ei : i = n
    · subst ei
      have : 0 ≤ zS f i := by
        have h8 : zS (fun _ => 0) i ≤ zS f i := zS_lt i (fun j hj => e j (by omega))
        rw [zS_0 i (fun _ _ => rfl)] at h8
        exact h8
      omega
    · have := zS_ge (f := f) (i := i) n (fun j hj => e j (by omega)) (by omega)
      omega
theorem on_v {B : Int} {v : Int → Int} (I : zInv B v) {i t x : Int} (hi : 0 ≤ i ∧ i < v 3) (h1 : v (230 + 4 * i + 1) ≤ t) (h2 : t < v (230 + 4 * i + 1) + v (230 + 4 * i + 2)) (hx : zFst (v 3) (fun j => v (230 + 4 * j + 1)) (fun j => v (230 + 4 * j + 2)) t (t + 1) x) : x = i := by
  unfold zFst at hx
  rcases hx with ⟨x1, x2, x3, x4, -⟩ | ⟨x1, x2⟩
  · dsimp only at x3 x4
    rcases Int.lt_trichotomy x i with h9 | h9 | h9
    · have := I.2.2.2.2.2.2 x i x1 h9 hi.2
      omega
    · exact h9
    · have := I.2.2.2.2.2.2 i x hi.1 h9 x2
      omega
  · exact absurd ⟨by dsimp only; omega, by dsimp only; omega⟩ (x2 i hi.1 hi.2)
/-- all minutes on air in an interval -/
def qT (v : Int → Int) (a b : Int) : Int := zSum (fun j => zMin (v (230 + 4 * j + 1)) (v (230 + 4 * j + 1) + v (230 + 4 * j + 2)) a b) (v 3)
theorem qM_4 (v : Int → Int) (a b : Int) : qM v 4 a b = b - a - qT v a b := by
  unfold qM qT
  rw [if_pos rfl]
theorem four {kd f : Int → Int} : ∀ n : Nat, (∀ j : Nat, j < n → 0 ≤ kd j ∧ kd j ≤ 3) → zS (fun j => if kd j = 0 then f j else 0) n + zS (fun j => if kd j = 1 then f j else 0) n + zS (fun j => if kd j = 2 then f j else 0) n + zS (fun j => if kd j = 3 then f j else 0) n = zS f n
  | 0, _ => rfl
  | n + 1, h => by
    have ih := four (f := f) n (fun j hj => h j (by omega))
    have h9 := h n (by omega)
    show (zS _ n + (if kd n = 0 then f n else 0)) + (zS _ n + (if kd n = 1 then f n else 0)) + (zS _ n + (if kd n = 2 then f n else 0)) + (zS _ n + (if kd n = 3 then f n else 0)) = zS f n + f n
    rcases (show kd n = 0 ∨ kd n = 1 ∨ kd n = 2 ∨ kd n = 3 by omega) with e | e | e | e
    · rw [if_pos e, if_neg (by omega), if_neg (by omega), if_neg (by omega)]
      omega
    · rw [if_neg (by omega), if_pos e, if_neg (by omega), if_neg (by omega)]
      omega
    · rw [if_neg (by omega), if_neg (by omega), if_pos e, if_neg (by omega)]
      omega
    · rw [if_neg (by omega), if_neg (by omega), if_neg (by omega), if_pos e]
      omega
section RW
variable {B : Int} {v : Int → Int}
theorem qK_in (I : zInv B v) {j : Int} (hj : 0 ≤ j ∧ j < v 3) : 0 ≤ v (10 + 4 * v (230 + 4 * j + 0)) ∧ v (10 + 4 * v (230 + 4 * j + 0)) ≤ 3 := by
  have h := I.2.2.2.2.2.1 j hj.1 hj.2
  exact (I.2.1 _ h.1.1 h.1.2).1
theorem qM_sum (I : zInv B v) (a b : Int) : qM v 0 a b + qM v 1 a b + qM v 2 a b + qM v 3 a b = qT v a b := by
  have hI := I.1
  unfold qM qT zSum
  rw [if_neg (by decide), if_neg (by decide), if_neg (by decide), if_neg (by decide)]
  exact four (kd := fun j => v (10 + 4 * v (230 + 4 * j + 0))) (v 3).toNat (fun j hj => qK_in I (by omega))
theorem qT_all (I : zInv B v) : qT v 0 10080 = zSum (fun j => v (230 + 4 * j + 2)) (v 3) := by
  refine zSum_congr (fun j j1 j2 => ?_)
  have h := I.2.2.2.2.2.1 j j1 j2
  exact zMin_all (by omega) (by omega) (by omega)
theorem qT_in (I : zInv B v) {a b : Int} (hab : a ≤ b) : 0 ≤ qT v a b ∧ qT v a b ≤ b - a := by
  have hI := I.1
  have key : ∀ (k : Nat) (E : Int), (k : Int) ≤ v 3 → (∀ j : Int, 0 ≤ j → j < k → v (230 + 4 * j + 1) + v (230 + 4 * j + 2) ≤ E) → 0 ≤ zS (fun j => zMin (v (230 + 4 * j + 1)) (v (230 + 4 * j + 1) + v (230 + 4 * j + 2)) a b) k ∧ zS (fun j => zMin (v (230 + 4 * j + 1)) (v (230 + 4 * j + 1) + v (230 + 4 * j + 2)) a b) k ≤ max 0 (min E b - a) := by
    intro k
    induction k with
    | zero =>
      intro E _ _
      show (0 : Int) ≤ 0 ∧ (0 : Int) ≤ _
      omega
    | succ k ih =>
      intro E hk hE
      have h1 := ih (v (230 + 4 * (k : Int) + 1)) (by omega) (fun j j1 j2 => I.2.2.2.2.2.2 j k j1 j2 (by omega))
      have h2 := hE k (by omega) (by omega)
      have h3 := I.2.2.2.2.2.1 k (by omega) (by omega)
      show 0 ≤ zS _ k + zMin (v (230 + 4 * (k : Int) + 1)) (v (230 + 4 * (k : Int) + 1) + v (230 + 4 * (k : Int) + 2)) a b ∧ zS _ k + zMin (v (230 + 4 * (k : Int) + 1)) (v (230 + 4 * (k : Int) + 1) + v (230 + 4 * (k : Int) + 2)) a b ≤ _
      generalize zS (fun j => zMin (v (230 + 4 * j + 1)) (v (230 + 4 * j + 1) + v (230 + 4 * j + 2)) a b) k = T at h1 ⊢
      unfold zMin
      omega
  have h9 := key (v 3).toNat 10080 (by omega) (fun j j1 j2 => by have := I.2.2.2.2.2.1 j j1 (by omega); omega)
  unfold qT zSum
  omega
theorem qT_add {a m b : Int} (h1 : a ≤ m) (h2 : m ≤ b) : qT v a b = qT v a m + qT v m b := zS_add _ (fun j _ => zMin_add h1 h2)
theorem qT_0 (I : zInv B v) {a b : Int} (hab : a ≤ b) (h : ¬ zHit (v 3) (fun j => v (230 + 4 * j + 1)) (fun j => v (230 + 4 * j + 2)) a b) : qT v a b = 0 := by
  have hI := I.1
  refine zS_0 _ (fun j hj => zMin_0 (fun h9 => h ⟨j, by omega, by omega, h9.1, h9.2⟩) ?_ hab)
  have := I.2.2.2.2.2.1 j (by omega) (by omega)
  omega
theorem qT_1 (I : zInv B v) {a b : Int} (hab : a < b) (h : zHit (v 3) (fun j => v (230 + 4 * j + 1)) (fun j => v (230 + 4 * j + 2)) a b) : 1 ≤ qT v a b := by
  have hI := I.1
  obtain ⟨j, j1, j2, j3, j4⟩ := h
  dsimp only at j3 j4
  have h3 := I.2.2.2.2.2.1 j j1 j2
  have h9 := zS_ge (f := fun j => zMin (v (230 + 4 * j + 1)) (v (230 + 4 * j + 1) + v (230 + 4 * j + 2)) a b) (i := j.toNat) (v 3).toNat (fun j _ => zMin_nn) (by omega)
  (try dsimp only at h9)
  rw [show ((j.toNat : Nat) : Int) = j by omega] at h9
  have h8 : 1 ≤ zMin (v (230 + 4 * j + 1)) (v (230 + 4 * j + 1) + v (230 + 4 * j + 2)) a b := by
    unfold zMin
    omega
  exact Int.le_trans h8 h9
/-- the longest silence -/
theorem sl_ok (I : zInv B v) {a b : Int} (hab : 0 ≤ a ∧ a < b) : ∀ k : Nat, (k : Int) ≤ v 3 → ∀ r, r = zSl (v 3) (fun j => v (230 + 4 * j + 1)) (fun j => v (230 + 4 * j + 1) + v (230 + 4 * j + 2)) a b k → 0 ≤ r.1 ∧ (0 < r.1 → a ≤ r.2.1 ∧ r.2.1 + r.1 ≤ b ∧ ∀ j : Int, 0 ≤ j → j < v 3 → ¬ (v (230 + 4 * j + 1) < r.2.1 + r.1 ∧ r.2.1 < v (230 + 4 * j + 1) + v (230 + 4 * j + 2))) ∧ a ≤ r.2.2 ∧ (∀ j : Int, 0 ≤ j → j < k → v (230 + 4 * j + 1) + v (230 + 4 * j + 2) ≤ r.2.2) ∧ (r.2.2 = a ∨ ∃ j : Int, 0 ≤ j ∧ j < k ∧ r.2.2 = v (230 + 4 * j + 1) + v (230 + 4 * j + 2)) ∧ (r.1 = 0 → zS (fun j => zMin (v (230 + 4 * j + 1)) (v (230 + 4 * j + 1) + v (230 + 4 * j + 2)) a b) k = min r.2.2 b - a)
  | 0, _, r, hr => by
    rw [hr]
    show (0 : Int) ≤ 0 ∧ ((0 : Int) < 0 → _) ∧ a ≤ a ∧ _ ∧ (a = a ∨ _) ∧ ((0 : Int) = 0 → (0 : Int) = min a b - a)
    exact ⟨Int.le_refl _, fun h => absurd h (by omega), Int.le_refl _, fun j j1 j2 => absurd j2 (by omega), Or.inl rfl, fun _ => by omega⟩
  | k + 1, hk, r, hr => by
    obtain ⟨x, y, z⟩ := id (⟨_, rfl⟩ : ∃ r0, r0 = zSl (v 3) (fun j => v (230 + 4 * j + 1)) (fun j => v (230 + 4 * j + 1) + v (230 + 4 * j + 2)) a b k)
    obtain ⟨h1, h2, h3, h4, h5, h6⟩ := sl_ok I hab k (by omega) _ rfl
    have hs := zSl_s (v 3) (fun j => v (230 + 4 * j + 1)) (fun j => v (230 + 4 * j + 1) + v (230 + 4 * j + 2)) a b (i := (k : Int)) (by omega) (x := (zSl (v 3) (fun j => v (230 + 4 * j + 1)) (fun j => v (230 + 4 * j + 1) + v (230 + 4 * j + 2)) a b k).1) (y := (zSl (v 3) (fun j => v (230 + 4 * j + 1)) (fun j => v (230 + 4 * j + 1) + v (230 + 4 * j + 2)) a b k).2.1) (z := (zSl (v 3) (fun j => v (230 + 4 * j + 1)) (fun j => v (230 + 4 * j + 1) + v (230 + 4 * j + 2)) a b k).2.2) (u := min (v (230 + 4 * (k : Int) + 1)) b) rfl (by rw [if_pos (by omega)])
    rw [show ((k : Int) + 1).toNat = k + 1 by omega, if_pos (show (k : Int) < v 3 by omega)] at hs
    rw [← hr] at hs
    generalize zSl (v 3) (fun j => v (230 + 4 * j + 1)) (fun j => v (230 + 4 * j + 1) + v (230 + 4 * j + 2)) a b k = r0 at h1 h2 h3 h4 h5 h6 hs
    obtain ⟨x0, y0, z0⟩ := r0
    dsimp only at h1 h2 h3 h4 h5 h6 hs
    have hit := I.2.2.2.2.2.1 k (by omega) (by omega)
    have hz : z0 = a ∨ z0 ≤ v (230 + 4 * (k : Int) + 1) := by
      rcases h5 with h5 | ⟨j, j1, j2, j3⟩
      · exact Or.inl h5
      · exact Or.inr (by rw [j3]; exact I.2.2.2.2.2.2 j k j1 j2 (by omega))
    have hlate : ∀ j, (k : Int) ≤ j → j < v 3 → v (230 + 4 * (k : Int) + 1) ≤ v (230 + 4 * j + 1) := fun j j1 j2 => by
      by_cases ej : j = k
      · rw [ej]
        exact Int.le_refl _
      · have := I.2.2.2.2.2.2 k j (by omega) (by omega) j2
        omega
    have r1 : r.1 = if x0 < min (v (230 + 4 * (k : Int) + 1)) b - z0 then min (v (230 + 4 * (k : Int) + 1)) b - z0 else x0 := by rw [hs]
    have r2 : r.2.1 = if x0 < min (v (230 + 4 * (k : Int) + 1)) b - z0 then z0 else y0 := by rw [hs]
    have r3 : r.2.2 = max z0 (v (230 + 4 * (k : Int) + 1) + v (230 + 4 * (k : Int) + 2)) := by rw [hs]
    refine ⟨by rw [r1]; split <;> omega, fun hp => ?_, by omega, fun j j1 j2 => ?_, ?_, fun hp => ?_⟩
    · by_cases e : x0 < min (v (230 + 4 * (k : Int) + 1)) b - z0
      · rw [if_pos e] at r1 r2
        refine ⟨by omega, by omega, fun j j1 j2 h9 => ?_⟩
        by_cases jk : j < k
        · have := h4 j j1 jk
          omega
        · have := hlate j (by omega) j2
          omega
      · rw [if_neg e] at r1 r2
        rw [r1, r2]
        exact h2 (by omega)
    · rw [r3]
      by_cases ej : j = k
      · rw [ej]
        omega
      · have := h4 j j1 (by omega)
        omega
    · rw [r3]
      rcases Int.le_total z0 (v (230 + 4 * (k : Int) + 1) + v (230 + 4 * (k : Int) + 2)) with h9 | h9
      · exact Or.inr ⟨k, by omega, by omega, by omega⟩
      · rcases h5 with h5 | ⟨j, j1, j2, j3⟩
        · exact Or.inl (by omega)
        · exact Or.inr ⟨j, j1, by omega, by omega⟩
    · have e : ¬ x0 < min (v (230 + 4 * (k : Int) + 1)) b - z0 := fun e => by
        rw [if_pos e] at r1
        omega
      rw [if_neg e] at r1
      have h9 := h6 (by omega)
      show zS _ k + zMin (v (230 + 4 * (k : Int) + 1)) (v (230 + 4 * (k : Int) + 1) + v (230 + 4 * (k : Int) + 2)) a b = _
      rw [h9, r3]
      unfold zMin
      omega
theorem si_ok (I : zInv B v) {a b x : Int} (hab : 0 ≤ a ∧ a < b ∧ b ≤ 10080) (h : qSi v a b x) : (x = -9 ∧ qM v 4 a b = 0) ∨ (∃ l s, 1 ≤ l ∧ x = 10081 * l + s ∧ a ≤ s ∧ s + l ≤ b ∧ l ≤ qM v 4 a b ∧ qM v 4 s (s + l) = l ∧ ∀ j, 0 ≤ j → j < v 3 → ¬ (v (230 + 4 * j + 1) < s + 1 ∧ s < v (230 + 4 * j + 1) + v (230 + 4 * j + 2))) := by
  have hI := I.1
  obtain ⟨h1, h2, h3, h4, h5, h6⟩ := sl_ok I ⟨hab.1, hab.2.1⟩ (v 3).toNat (by omega) _ rfl
  have hs := zSl_s (v 3) (fun j => v (230 + 4 * j + 1)) (fun j => v (230 + 4 * j + 1) + v (230 + 4 * j + 2)) a b (i := v 3) hI.2.2.2.1 (x := (zSl (v 3) (fun j => v (230 + 4 * j + 1)) (fun j => v (230 + 4 * j + 1) + v (230 + 4 * j + 2)) a b (v 3).toNat).1) (y := (zSl (v 3) (fun j => v (230 + 4 * j + 1)) (fun j => v (230 + 4 * j + 1) + v (230 + 4 * j + 2)) a b (v 3).toNat).2.1) (z := (zSl (v 3) (fun j => v (230 + 4 * j + 1)) (fun j => v (230 + 4 * j + 1) + v (230 + 4 * j + 2)) a b (v 3).toNat).2.2) (u := b) rfl (by rw [if_neg (by omega)])
  rw [if_neg (show ¬ v 3 < v 3 by omega)] at hs
  unfold qSi at h
  rw [hs] at h
  have hT : qT v a b = zS (fun j => zMin (v (230 + 4 * j + 1)) (v (230 + 4 * j + 1) + v (230 + 4 * j + 2)) a b) (v 3).toNat := rfl
  rw [qM_4, hT]
  generalize zSl (v 3) (fun j => v (230 + 4 * j + 1)) (fun j => v (230 + 4 * j + 1) + v (230 + 4 * j + 2)) a b (v 3).toNat = r0 at h1 h2 h3 h4 h5 h6 h
  obtain ⟨x0, y0, z0⟩ := r0
  dsimp only at h1 h2 h3 h4 h5 h6 h
  have hgap : ∀ l s, 1 ≤ l → a ≤ s → s + l ≤ b → (∀ j, 0 ≤ j → j < v 3 → ¬ (v (230 + 4 * j + 1) < s + l ∧ s < v (230 + 4 * j + 1) + v (230 + 4 * j + 2))) → l ≤ b - a - qT v a b ∧ qM v 4 s (s + l) = l ∧ ∀ j, 0 ≤ j → j < v 3 → ¬ (v (230 + 4 * j + 1) < s + 1 ∧ s < v (230 + 4 * j + 1) + v (230 + 4 * j + 2)) := fun l s hl ha hb hf => by
    have t0 : qT v s (s + l) = 0 := qT_0 I (by omega) (fun ⟨j, j1, j2, j3, j4⟩ => hf j j1 j2 ⟨j3, j4⟩)
    have t1 := qT_add (v := v) (a := a) (m := s) (b := b) ha (by omega)
    have t2 := qT_add (v := v) (a := s) (m := s + l) (b := b) (by omega) hb
    have t3 := qT_in I (a := a) (b := s) ha
    have t4 := qT_in I (a := s + l) (b := b) hb
    refine ⟨by omega, by rw [qM_4]; omega, fun j j1 j2 h9 => hf j j1 j2 ⟨by omega, h9.2⟩⟩
  rw [← hT]
  rw [← hT] at h6
  have hcase : (0 < x0 ∨ 0 < b - z0) ∨ (x0 = 0 ∧ b ≤ z0) := by omega
  rcases hcase with hc | ⟨c1, c2⟩
  · refine Or.inr ?_
    by_cases e : x0 < b - z0
    · rw [if_pos e, if_pos e] at h
      obtain ⟨q1, q2, q3⟩ := hgap (b - z0) z0 (by omega) h3 (by omega) (fun j j1 j2 h9 => by
        have := h4 j j1 (by omega)
        omega)
      unfold zSlR at h
      dsimp only at h
      exact ⟨b - z0, z0, by omega, by omega, h3, by omega, q1, q2, q3⟩
    · rw [if_neg e, if_neg e] at h
      obtain ⟨p1, p2, p3⟩ := h2 (by omega)
      obtain ⟨q1, q2, q3⟩ := hgap x0 y0 (by omega) p1 p2 p3
      unfold zSlR at h
      dsimp only at h
      exact ⟨x0, y0, by omega, by omega, p1, p2, q1, q2, q3⟩
  · rw [if_neg (by omega), if_neg (by omega)] at h
    unfold zSlR at h
    dsimp only at h
    have := h6 c1
    exact Or.inl ⟨by omega, by omega⟩
/-- a gap that is filled -/
theorem fj_T {w : Int → Int} {a z fb l i x : Int} (F : zFj v w a z fb z x l i) (I : zInv B w) (hx : 1 ≤ x) (haz : a < z) : qM w 4 a z = 0 ∧ qM w 2 a z = z - a := by
  obtain ⟨⟨f1, f2, f3, f4, f5⟩, f6, f7, f8, f9, f10, f11, f12⟩ := F
  obtain ⟨g1, g2, g3, g4⟩ := f10.resolve_left (by omega)
  have hI := I.1
  have hcov : ∀ j, i ≤ j → j < i + x → a ≤ w (230 + 4 * j + 1) ∧ w (230 + 4 * j + 1) + w (230 + 4 * j + 2) ≤ z := fun j j1 j2 => by
    constructor
    · by_cases ej : j = i
      · rw [ej]
        omega
      · have := I.2.2.2.2.2.2 i j f4 (by omega) (by omega)
        have := I.2.2.2.2.2.1 i f4 (by omega)
        omega
    · by_cases ej : j = i + (x - 1)
      · rw [ej]
        omega
      · have := I.2.2.2.2.2.2 j (i + (x - 1)) (by omega) (by omega) (by omega)
        have := I.2.2.2.2.2.1 (i + (x - 1)) (by omega) (by omega)
        omega
  have hz0 : ∀ j, 0 ≤ j → j < w 3 → ¬ (i ≤ j ∧ j < i + x) → zMin (w (230 + 4 * j + 1)) (w (230 + 4 * j + 1) + w (230 + 4 * j + 2)) a z = 0 := fun j j1 j2 j3 => by
    have h9 := I.2.2.2.2.2.1 j j1 j2
    refine zMin_0 (fun h8 => ?_) (by omega) (by omega)
    by_cases ji : j < i
    · have := f7 j j1 ji
      omega
    · have := f8 j (by omega) j2
      omega
  have hz1 : ∀ j, i ≤ j → j < i + x → zMin (w (230 + 4 * j + 1)) (w (230 + 4 * j + 1) + w (230 + 4 * j + 2)) a z = w (230 + 4 * j + 2) := fun j j1 j2 => by
    have h9 := I.2.2.2.2.2.1 j (by omega) (by omega)
    have h8 := hcov j j1 j2
    exact zMin_all h8.1 h8.2 (by omega)
  have key : ∀ n : Nat, (n : Int) ≤ w 3 → zS (fun j => zMin (w (230 + 4 * j + 1)) (w (230 + 4 * j + 1) + w (230 + 4 * j + 2)) a z) n = if (n : Int) ≤ i then 0 else if (n : Int) ≤ i + x then w (230 + 4 * ((n : Int) - 1) + 1) + w (230 + 4 * ((n : Int) - 1) + 2) - a else z - a := by
    intro n
    induction n with
    | zero =>
      intro _
      rw [if_pos (by omega)]
      rfl
    | succ n ih =>
      intro hn
      have h1 := ih (by omega)
      show zS _ n + zMin (w (230 + 4 * (n : Int) + 1)) (w (230 + 4 * (n : Int) + 1) + w (230 + 4 * (n : Int) + 2)) a z = _
      rw [h1]
      by_cases c1 : (n : Int) < i
      · rw [hz0 n (by omega) (by omega) (by omega), if_pos (by omega), if_pos (by omega)]
        rfl
      · by_cases c2 : (n : Int) < i + x
        · rw [hz1 n (by omega) c2, if_neg (show ¬ ((n + 1 : Nat) : Int) ≤ i by omega), if_pos (show ((n + 1 : Nat) : Int) ≤ i + x by omega), show ((n + 1 : Nat) : Int) - 1 = n by omega]
          by_cases c3 : (n : Int) ≤ i
          · rw [if_pos c3, show (n : Int) = i by omega]
            omega
          · rw [if_neg c3, if_pos (by omega)]
            have h9 := (f11 ((n : Int) - 1 - i) (by omega) (by omega)).1
            rw [show i + ((n : Int) - 1 - i) = (n : Int) - 1 by omega, show i + ((n : Int) - 1 - i + 1) = (n : Int) by omega] at h9
            omega
        · rw [hz0 n (by omega) (by omega) (by omega), if_neg (by omega), if_neg (show ¬ ((n + 1 : Nat) : Int) ≤ i by omega), if_neg (show ¬ ((n + 1 : Nat) : Int) ≤ i + x by omega)]
          by_cases c3 : (n : Int) ≤ i + x
          · rw [if_pos c3, show (n : Int) - 1 = i + (x - 1) by omega]
            omega
          · rw [if_neg c3]
            omega
  have hT : qT w a z = z - a := by
    have h9 := key (w 3).toNat (by omega)
    show zS _ _ = _
    rw [h9, if_neg (by omega)]
    split
    · rw [show (((w 3).toNat : Nat) : Int) - 1 = i + (x - 1) by omega]
      omega
    · rfl
  refine ⟨by rw [qM_4, hT]; omega, ?_⟩
  rw [← hT]
  unfold qM qT
  rw [if_neg (by decide)]
  refine zSum_congr (fun j j1 j2 => ?_)
  by_cases c : i ≤ j ∧ j < i + x
  · have h9 := (f9 (j - i) (by omega) (by omega)).1
    rw [show i + (j - i) = j by omega] at h9
    have hp := I.2.2.2.2.2.1 j j1 j2
    rw [if_pos (by rw [f3 (10 + 4 * w (230 + 4 * j + 0)) (by omega) (by omega) (by omega)]; exact h9)]
  · rw [hz0 j j1 j2 c, ite_self]
end RW
/-- the rows that the law keeps of kinds and plays -/
def zKd (hi : zC) (P R : Int) (v : Int → Int) : Prop := (v 0 = P ∧ v 2 = R ∧ 0 ≤ P ∧ P ≤ 16 ∧ 0 ≤ R ∧ R ≤ 30) ∧ (∀ p, 0 ≤ p → p < P → hi 145 p = v (10 + 4 * p)) ∧ (∀ r, 0 ≤ r → r < R → hi 146 r = v (110 + 4 * r + 3))
theorem zKd_so {hi : zC} {P R : Int} {v w : Int → Int} (h : zKd hi P R v) (s : zSo v w) : zKd hi P R w := by
  obtain ⟨⟨h1, h2, h3, h4, h5, h6⟩, h7, h8⟩ := h
  refine ⟨⟨?_, ?_, h3, h4, h5, h6⟩, fun p p1 p2 => ?_, fun r r1 r2 => ?_⟩
  · rw [s 0 (by omega) (by omega) (by omega) (by omega)]
    exact h1
  · rw [s 2 (by omega) (by omega) (by omega) (by omega)]
    exact h2
  · rw [s _ (by omega) (by omega) (by omega) (by omega)]
    exact h7 p p1 p2
  · rw [s _ (by omega) (by omega) (by omega) (by omega)]
    exact h8 r r1 r2
theorem zKd_hi {hi hi' : zC} {P R : Int} {v : Int → Int} (h : zKd hi P R v) (e1 : hi' 145 = hi 145) (e2 : hi' 146 = hi 146) : zKd hi' P R v := by
  unfold zKd at h ⊢
  rw [e1, e2]
  exact h
theorem zG_put {hi c : zC} {B : Int} {v : Int → Int} {tp : Option (Int → Int)} (G : zG hi B v tp c) {q : Nat} {k x : Int} (hq : 143 ≤ q) (hx : -100000 ≤ x ∧ x ≤ 100000) : zG (zup hi q k x) B v tp (zup c q k x) := by
  obtain ⟨g1, g2, g3, g4, g5⟩ := G
  refine ⟨fun r hr => ?_, zBd_up g2 hx, zRep_fr g3 (fun r r1 r2 => zup_ne (by omega)), g4, zHx_fr g5 (fun r r1 r2 => zup_ne (by omega))⟩
  by_cases e : r = q
  · subst e
    funext j
    rw [zup_q, zup_q, g1 r hr]
  · rw [zup_ne e, zup_ne e]
    exact g1 r hr
theorem zG_new {hi c : zC} {B : Int} {v : Int → Int} {tp : Option (Int → Int)} (G : zG hi B v tp c) {q : Nat} (hq : 143 ≤ q) : zG (zfr hi q) B v tp (zfr c q) := by
  obtain ⟨g1, g2, g3, g4, g5⟩ := G
  refine ⟨fun r hr => ?_, zBd_fr g2, zRep_fr g3 (fun r r1 r2 => zfr_ne (by omega)), g4, zHx_fr g5 (fun r r1 r2 => zfr_ne (by omega))⟩
  by_cases e : r = q
  · subst e
    funext j
    rw [zfr_eq, zfr_eq]
  · rw [zfr_ne e, zfr_ne e]
    exact g1 r hr
