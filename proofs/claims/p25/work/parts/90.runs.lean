/-! runOver: one step of both -/
def zRg (v : Int → Int) (s : Nat) : Nat → List zEn
  | 0 => []
  | k + 1 => zRg v s k ++ [zIt v (s + k)]
theorem zRg_al (v : Int → Int) : ∀ k : Nat, zAl v k = zRg v 0 k
  | 0 => rfl
  | k + 1 => by
    rw [zAl_s, zRg_al v k]
    show _ = zRg v 0 k ++ [zIt v (0 + k)]
    rw [Nat.zero_add]
theorem zRg_app (v : Int → Int) (s m : Nat) : ∀ k : Nat, zRg v s (m + k) = zRg v s m ++ zRg v (s + m) k
  | 0 => by
    rw [Nat.add_zero]
    show _ = zRg v s m ++ []
    rw [List.append_nil]
  | k + 1 => by
    show zRg v s (m + k) ++ [zIt v (s + (m + k))] = zRg v s m ++ (zRg v (s + m) k ++ [zIt v (s + m + k)])
    rw [zRg_app v s m k, List.append_assoc, Nat.add_assoc]
theorem zRg_c {v v' : Int → Int} {s : Nat} : ∀ k : Nat, (∀ j, s ≤ j → j < s + k → zIt v j = zIt v' j) → zRg v s k = zRg v' s k
  | 0, _ => rfl
  | k + 1, h => by
    show zRg v s k ++ [zIt v (s + k)] = zRg v' s k ++ [zIt v' (s + k)]
    rw [zRg_c k (fun j j1 j2 => h j j1 (by omega)), h (s + k) (by omega) (by omega)]
theorem zIB_pm (v : Int → Int) (s : Nat) : ∀ (k : Nat) (l : List zEn), (zIB v s k l).Perm (l ++ zRg v s k)
  | 0, l => by
    show l.Perm (l ++ [])
    rw [List.append_nil]
  | k + 1, l => by
    show (zInsB (zIB v s k l) (zIt v (s + k))).Perm (l ++ (zRg v s k ++ [zIt v (s + k)]))
    refine (zInsB_pm _ _).trans ?_
    refine (List.Perm.cons _ (zIB_pm v s k l)).trans ?_
    rw [← List.append_assoc]
    exact List.perm_append_comm (l₁ := [zIt v (s + k)])
theorem zT_ag2 {cc : zC} {v : Int → Int} (R : zRep cc 9 v) : (zTX cc).1 = (zTM (zMm v)).1 ∧ (∀ j : Int, 0 ≤ j → j < (zTX cc).1 → (zTX cc).2.1 j = (zTM (zMm v)).2.1 j ∧ (zTX cc).2.2.1 j = (zTM (zMm v)).2.2.1 j ∧ (zTX cc).2.2.2 j = (zTM (zMm v)).2.2.2 j) ∧ ∀ j : Int, 0 ≤ j → j < (zTX cc).1 → cc 19 j = zPlM (zMm v) j := by
  have a := (zRep_9 R).1
  unfold zTX zTM zPlM
  rw [zMm_v]
  dsimp only
  refine ⟨by rw [a.2.1], fun j j1 j2 => ?_, fun j j1 j2 => ?_⟩
  · have b := (zRep_9 R).2.2.1 j j1 (by omega)
    exact ⟨b.1, b.2.1, b.2.2.1⟩
  · have b := (zRep_9 R).2.2.1 j j1 (by omega)
    exact b.2.2.2
/-- the rights with the item pushed, class and model -/
theorem zPu_iff {cc : zC} {v : Int → Int} (R : zRep cc 9 v) {i e p : Int} (hi : 0 ≤ i ∧ i < v 3) (hp : p = v (230 + 4 * i + 0)) (hp0 : 0 ≤ p) (hk : v (10 + 4 * p) ≠ 2) : zOkl (zTX cc) (cc 19) (zGt (zup cc 26 i e) p (cc 24 0).toNat) ↔ zOkp (zTM (zMm v)) (zPlM (zMm v)) p (zMk (zMm v) (zInsB (zLp v i.toNat) (p, (e, e + v (230 + 4 * i + 2))))) := by
  obtain ⟨t1, t2, t3⟩ := zT_ag2 R
  have a := (zRep_9 R).1
  refine zOk_iff t1 t2 t3 (zGt_s _ p _).1 (fun y hy => zGt_in _ y hy) (zMk_so (zSrt_inB (zIB_s i.toNat _ (zIB_s _ [] zSrt_nil).1).1)) ?_
  rw [zMk_f hp0 (by rw [zMm_v]; exact hk)]
  have e1 : ∀ j : Int, 0 ≤ j → j < ((cc 24 0).toNat : Int) → zup cc 26 i e 25 j = (fun k => if k = 230 + 4 * i + 1 then e else v k) (230 + 4 * j + 0) ∧ zup cc 26 i e 26 j = (fun k => if k = 230 + 4 * i + 1 then e else v k) (230 + 4 * j + 1) ∧ zup cc 26 i e 27 j = (fun k => if k = 230 + 4 * i + 1 then e else v k) (230 + 4 * j + 2) := fun j j1 j2 => by
    obtain ⟨b1, b2, b3, b4⟩ := (zRep_9 R).2.2.2.2 j j1 (by omega)
    dsimp only
    rw [zup_oth (show (25 : Nat) ≠ 26 by decide), zup_oth (show (27 : Nat) ≠ 26 by decide), zup_q, if_neg (show ¬ (230 + 4 * j + 0 = 230 + 4 * i + 1) by omega), if_neg (show ¬ (230 + 4 * j + 2 = 230 + 4 * i + 1) by omega)]
    refine ⟨b1, ?_, b3⟩
    by_cases ej : j = i
    · rw [if_pos ej, if_pos (by omega)]
    · rw [if_neg ej, if_neg (by omega)]
      exact b2
  refine (zGt_pm (v := fun k => if k = 230 + 4 * i + 1 then e else v k) e1 _ (Nat.le_refl _)).trans ?_
  refine List.Perm.filter _ ?_
  have hn : (cc 24 0).toNat = i.toNat + 1 + ((v 3).toNat - i.toNat - 1) := by omega
  rw [zRg_al, hn, zRg_app, zRg_app]
  have hx : zRg (fun k => if k = 230 + 4 * i + 1 then e else v k) (0 + i.toNat) 1 = [(p, (e, e + v (230 + 4 * i + 2)))] := by
    show [] ++ [zIt _ (0 + i.toNat + 0)] = _
    rw [List.nil_append, Nat.zero_add, Nat.add_zero]
    unfold zIt
    dsimp only
    rw [show ((i.toNat : Nat) : Int) = i by omega, if_neg (by omega), if_pos rfl, if_neg (by omega), hp]
  have hit : ∀ j : Nat, j ≠ i.toNat → zIt (fun k => if k = 230 + 4 * i + 1 then e else v k) j = zIt v j := fun j hj => by
    unfold zIt
    dsimp only
    rw [if_neg (by omega), if_neg (by omega), if_neg (by omega)]
  rw [hx, zRg_c (v' := v) i.toNat (fun j j1 j2 => hit j (by omega)), zRg_c (v' := v) ((v 3).toNat - i.toNat - 1) (fun j j1 j2 => hit j (by omega)), Nat.zero_add]
  refine List.Perm.trans ?_ (zInsB_pm _ _).symm
  unfold zLp
  have h1 := zIB_pm v 0 i.toNat (zIB v (i.toNat + 1) ((v 3).toNat - i.toNat - 1) [])
  have h2 := zIB_pm v (i.toNat + 1) ((v 3).toNat - i.toNat - 1) []
  rw [List.nil_append] at h2
  refine List.Perm.trans ?_ (List.Perm.cons _ (h1.trans (h2.append_right _))).symm
  refine List.Perm.trans (List.perm_append_comm) ?_
  rw [← List.append_assoc]
  exact List.perm_append_comm (l₂ := [(p, (e, e + v (230 + 4 * i + 2)))])
/-- what holds while the items that follow are treated -/
def zLoop (B : Int) (v : Int → Int) (i e : Int) : Prop := ((0 ≤ v 0 ∧ v 0 ≤ 16) ∧ (0 ≤ v 1 ∧ v 1 ≤ 10) ∧ (0 ≤ v 2 ∧ v 2 ≤ 30) ∧ (0 ≤ v 3 ∧ v 3 ≤ 60)) ∧ (∀ p, 0 ≤ p → p < v 0 → (0 ≤ v (10 + 4 * p) ∧ v (10 + 4 * p) ≤ 3) ∧ (1 ≤ v (10 + 4 * p + 1) ∧ v (10 + 4 * p + 1) ≤ 240) ∧ (0 ≤ v (10 + 4 * p + 2) ∧ v (10 + 4 * p + 2) ≤ 3)) ∧ (∀ p, 0 ≤ p → p < 16 → 0 ≤ v (10 + 4 * p + 3) ∧ v (10 + 4 * p + 3) ≤ B + 60 - v 3) ∧ (∀ r, 0 ≤ r → r < v 2 → (0 ≤ v (110 + 4 * r) ∧ v (110 + 4 * r) < v 0) ∧ (0 ≤ v (110 + 4 * r + 1) ∧ v (110 + 4 * r + 1) < v (110 + 4 * r + 2) ∧ v (110 + 4 * r + 2) ≤ 10080) ∧ (1 ≤ v (110 + 4 * r + 3) ∧ v (110 + 4 * r + 3) ≤ 50)) ∧ (∀ b, 0 ≤ b → b < v 1 → (0 ≤ v (80 + 3 * b) ∧ v (80 + 3 * b) < v (80 + 3 * b + 1) ∧ v (80 + 3 * b + 1) ≤ 1440) ∧ (0 ≤ v (80 + 3 * b + 2) ∧ v (80 + 3 * b + 2) ≤ 3)) ∧ (∀ j, 0 ≤ j → j < v 3 → (0 ≤ v (230 + 4 * j + 0) ∧ v (230 + 4 * j + 0) < v 0) ∧ 0 ≤ v (230 + 4 * j + 1) ∧ 1 ≤ v (230 + 4 * j + 2) ∧ v (230 + 4 * j + 1) + v (230 + 4 * j + 2) ≤ 10080 ∧ (v (230 + 4 * j + 3) = 0 ∨ v (230 + 4 * j + 3) = 1)) ∧ (∀ j l, 0 ≤ j → j < l → l < i → v (230 + 4 * j + 1) + v (230 + 4 * j + 2) ≤ v (230 + 4 * l + 1)) ∧ (∀ j, 0 ≤ j → j < i → v (230 + 4 * j + 1) + v (230 + 4 * j + 2) ≤ e) ∧ (∀ j l, i ≤ j → j < l → l < v 3 → v (230 + 4 * j + 1) + v (230 + 4 * j + 2) ≤ v (230 + 4 * l + 1)) ∧ (1 ≤ i ∧ i ≤ v 3) ∧ (0 ≤ e ∧ e ≤ 10080)
theorem zLoop_end {B : Int} {v : Int → Int} {i e : Int} (h : zLoop B v i e) (hs : ¬ (i < v 3 ∧ v (230 + 4 * i + 1) < e)) : zInv (B + 60) v := by
  obtain ⟨h0, h1, h2, h3, h4, h5, h6, h7, h8, h9, h10⟩ := h
  refine ⟨h0, h1, fun p p1 p2 => by have := h2 p p1 p2; omega, h3, h4, h5, fun j l j1 jl l2 => ?_⟩
  by_cases a : l < i
  · exact h6 j l j1 jl a
  · by_cases b : i ≤ j
    · exact h8 j l b jl l2
    · have q1 := h7 j j1 (by omega)
      by_cases d : l = i
      · subst d
        omega
      · have q2 := h8 i l (Int.le_refl _) (by omega) l2
        have q3 := h5 i (by omega) (by omega)
        omega
theorem zLoop_keep {B : Int} {v : Int → Int} {i e : Int} (h : zLoop B v i e) (hc : i < v 3 ∧ v (230 + 4 * i + 1) < e) (hy : zYes v i e) : zLoop B (zKeV v i e) (i + 1) (zNe v i e) := by
  obtain ⟨h0, h1, h2, h3, h4, h5, h6, h7, h8, h9, h10⟩ := h
  have hn : e < zNe v i e ∧ zNe v i e ≤ 10080 := by
    have q := h5 i (by omega) hc.1
    unfold zNe
    rcases hy.2 with ⟨a, b⟩ | ⟨a, b⟩
    · rw [if_pos a]
      omega
    · rw [if_neg a]
      have := b.1
      omega
  have ks : ∀ k, k < 230 → zKeV v i e k = v k := fun k hk => by
    unfold zKeV
    rw [if_neg (by omega), if_neg (by omega)]
  have ko : ∀ j q, 0 ≤ q → q ≤ 3 → j ≠ i → zKeV v i e (230 + 4 * j + q) = v (230 + 4 * j + q) := fun j q q1 q2 hj => by
    unfold zKeV
    rw [if_neg (by omega), if_neg (by omega)]
  have k0 : zKeV v i e (230 + 4 * i + 0) = v (230 + 4 * i + 0) := by
    unfold zKeV
    rw [if_neg (by omega), if_neg (by omega)]
  have k1 : zKeV v i e (230 + 4 * i + 1) = e := by
    unfold zKeV
    rw [if_pos rfl]
  have k2 : zKeV v i e (230 + 4 * i + 2) = zNe v i e - e := by
    unfold zKeV
    rw [if_neg (by omega), if_pos rfl]
  have k3 : zKeV v i e (230 + 4 * i + 3) = v (230 + 4 * i + 3) := by
    unfold zKeV
    rw [if_neg (by omega), if_neg (by omega)]
  have n0 := ks 0 (by omega)
  have n3 := ks 3 (by omega)
  refine ⟨by rw [ks 0 (by omega), ks 1 (by omega), ks 2 (by omega), ks 3 (by omega)]; exact h0, fun p p1 p2 => ?_, fun p p1 p2 => ?_, fun r r1 r2 => ?_, fun b b1 b2 => ?_, fun j j1 j2 => ?_, fun j l j1 jl l2 => ?_, fun j j1 j2 => ?_, fun j l j1 jl l2 => ?_, by omega, by omega⟩
  · rw [ks _ (by omega), ks _ (by omega), ks _ (by omega)]
    exact h1 p p1 (by omega)
  · rw [ks _ (by omega), n3]
    exact h2 p p1 p2
  · rw [ks 2 (by omega)] at r2
    rw [ks _ (by omega), n0, ks _ (by omega), ks _ (by omega), ks _ (by omega)]
    exact h3 r r1 r2
  · rw [ks 1 (by omega)] at b2
    rw [ks _ (by omega), ks _ (by omega), ks _ (by omega)]
    exact h4 b b1 b2
  · rw [n3] at j2
    rw [n0]
    by_cases ej : j = i
    · subst ej
      have := h5 j j1 j2
      rw [k0, k1, k2, k3]
      omega
    · rw [ko j 0 (by omega) (by omega) ej, ko j 1 (by omega) (by omega) ej, ko j 2 (by omega) (by omega) ej, ko j 3 (by omega) (by omega) ej]
      exact h5 j j1 j2
  · rw [ko j 1 (by omega) (by omega) (by omega), ko j 2 (by omega) (by omega) (by omega)]
    by_cases el : l = i
    · rw [el, k1]
      exact h7 j j1 (by omega)
    · rw [ko l 1 (by omega) (by omega) el]
      exact h6 j l j1 jl (by omega)
  · by_cases ej : j = i
    · rw [ej, k1, k2]
      omega
    · rw [ko j 1 (by omega) (by omega) ej, ko j 2 (by omega) (by omega) ej]
      have := h7 j j1 (by omega)
      omega
  · rw [n3] at l2
    rw [ko j 1 (by omega) (by omega) (by omega), ko j 2 (by omega) (by omega) (by omega), ko l 1 (by omega) (by omega) (by omega)]
    exact h8 j l (by omega) jl l2
theorem zDrO {v : Int → Int} {i p : Int} (hp : 0 ≤ p ∧ p < 16) : (∀ k, k < 230 → k ≠ 3 → zDrV (zOwV v p) i k = zOwV v p k ∨ 230 + 4 * i ≤ k) ∧ zDrV (zOwV v p) i 3 = v 3 - 1 ∧ (∀ k, 230 ≤ k → zDrV (zOwV v p) i k = if 230 + 4 * i ≤ k ∧ k < 230 + 4 * (v 3 - 1) then v (k + 4) else v k) := by
  have o3 : zOwV v p 3 = v 3 := by
    unfold zOwV
    rw [if_neg (by omega)]
  refine ⟨fun k k1 k2 => ?_, ?_, fun k k1 => ?_⟩
  · by_cases a : 230 + 4 * i ≤ k
    · exact Or.inr a
    · left
      unfold zDrV
      rw [if_neg k2, if_neg (by omega)]
  · unfold zDrV
    rw [if_pos rfl, o3]
  · unfold zDrV
    rw [if_neg (by omega), o3]
    unfold zOwV
    split
    · rw [if_neg (by omega)]
    · rw [if_neg (by omega)]
theorem zLoop_drop {B : Int} {v : Int → Int} {i e : Int} (h : zLoop B v i e) (hc : i < v 3 ∧ v (230 + 4 * i + 1) < e) : zLoop B (zDrV (zOwV v (v (230 + 4 * i + 0))) i) i e := by
  obtain ⟨h0, h1, h2, h3, h4, h5, h6, h7, h8, h9, h10⟩ := h
  have hpi := h5 i (by omega) hc.1
  obtain ⟨d1, d2, d3⟩ := zDrO (v := v) (i := i) (p := v (230 + 4 * i + 0)) (by omega)
  have ks : ∀ k, k < 230 → k ≠ 3 → (∀ p, 0 ≤ p → p < 16 → k ≠ 10 + 4 * p + 3) → zDrV (zOwV v (v (230 + 4 * i + 0))) i k = v k := fun k k1 k2 k3 => by
    rw [(d1 k k1 k2).resolve_right (by omega)]
    unfold zOwV
    rw [if_neg (k3 _ (by omega) (by omega))]
  have kl : ∀ j q, 0 ≤ q → q ≤ 3 → 0 ≤ j → j < i → zDrV (zOwV v (v (230 + 4 * i + 0))) i (230 + 4 * j + q) = v (230 + 4 * j + q) := fun j q q1 q2 j1 j2 => by rw [d3 _ (by omega), if_neg (by omega)]
  have kh : ∀ j q, 0 ≤ q → q ≤ 3 → i ≤ j → j < v 3 - 1 → zDrV (zOwV v (v (230 + 4 * i + 0))) i (230 + 4 * j + q) = v (230 + 4 * (j + 1) + q) := fun j q q1 q2 j1 j2 => by rw [d3 _ (by omega), if_pos (by omega), show 230 + 4 * j + q + 4 = 230 + 4 * (j + 1) + q by omega]
  have n0 := ks 0 (by omega) (by omega) (by omega)
  have n1 := ks 1 (by omega) (by omega) (by omega)
  have n2 := ks 2 (by omega) (by omega) (by omega)
  refine ⟨by rw [n0, n1, n2, d2]; omega, fun p p1 p2 => ?_, fun p p1 p2 => ?_, fun r r1 r2 => ?_, fun b b1 b2 => ?_, fun j j1 j2 => ?_, fun j l j1 jl l2 => ?_, fun j j1 j2 => ?_, fun j l j1 jl l2 => ?_, by rw [d2]; omega, h10⟩
  · rw [n0] at p2
    rw [ks _ (by omega) (by omega) (by omega), ks _ (by omega) (by omega) (by omega), ks _ (by omega) (by omega) (by omega)]
    exact h1 p p1 p2
  · rw [d2, (d1 _ (by omega) (by omega)).resolve_right (by omega)]
    have := h2 p p1 p2
    unfold zOwV
    split
    · split <;> omega
    · omega
  · rw [n2] at r2
    rw [ks _ (by omega) (by omega) (by omega), n0, ks _ (by omega) (by omega) (by omega), ks _ (by omega) (by omega) (by omega), ks _ (by omega) (by omega) (by omega)]
    exact h3 r r1 r2
  · rw [n1] at b2
    rw [ks _ (by omega) (by omega) (by omega), ks _ (by omega) (by omega) (by omega), ks _ (by omega) (by omega) (by omega)]
    exact h4 b b1 b2
  · rw [d2] at j2
    rw [n0]
    by_cases ej : j < i
    · rw [kl j 0 (by omega) (by omega) j1 ej, kl j 1 (by omega) (by omega) j1 ej, kl j 2 (by omega) (by omega) j1 ej, kl j 3 (by omega) (by omega) j1 ej]
      exact h5 j j1 (by omega)
    · rw [kh j 0 (by omega) (by omega) (by omega) j2, kh j 1 (by omega) (by omega) (by omega) j2, kh j 2 (by omega) (by omega) (by omega) j2, kh j 3 (by omega) (by omega) (by omega) j2]
      exact h5 (j + 1) (by omega) (by omega)
  · rw [kl j 1 (by omega) (by omega) j1 (by omega), kl j 2 (by omega) (by omega) j1 (by omega), kl l 1 (by omega) (by omega) (by omega) l2]
    exact h6 j l j1 jl l2
  · rw [kl j 1 (by omega) (by omega) j1 j2, kl j 2 (by omega) (by omega) j1 j2]
    exact h7 j j1 j2
  · rw [d2] at l2
    rw [kh j 1 (by omega) (by omega) j1 (by omega), kh j 2 (by omega) (by omega) j1 (by omega), kh l 1 (by omega) (by omega) (by omega) l2]
    exact h8 (j + 1) (l + 1) (by omega) (by omega) (by omega)
