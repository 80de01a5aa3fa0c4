/-! the class alone: its cells against a row -/
def zGh (c : zC) (v : Int → Int) : zC := fun r => if r = 146 then v else c r
theorem zGh_v {c : zC} {v : Int → Int} : zGh c v 146 = v := if_pos rfl
theorem zGh_n {c : zC} {v : Int → Int} {r : Nat} (h : r ≠ 146) : zGh c v r = c r := if_neg h
theorem zGh_R {c : zC} {v : Int → Int} (R : zRep c 9 v) : zRep (zGh c v) 9 (zGh c v 146) := by
  rw [zGh_v]
  exact zRep_fr R (fun r r1 r2 => zGh_n (by omega))
theorem zGh_I {B : Int} {c : zC} {v : Int → Int} (I : zInv B v) : zInv B (zGh c v 146) := by
  rw [zGh_v]
  exact I
theorem zGt_e {c c1 : zC} {p : Int} (h25 : c1 25 = c 25) (h26 : c1 26 = c 26) (h27 : c1 27 = c 27) : ∀ k : Nat, zGt c1 p k = zGt c p k
  | 0 => rfl
  | k + 1 => by
    unfold zGt
    rw [zGt_e h25 h26 h27 k, h25, h26, h27]
theorem zGs_e {c c1 : zC} (h11 : c1 11 = c 11) (h25 : c1 25 = c 25) (h26 : c1 26 = c 26) (h27 : c1 27 = c 27) : ∀ k : Nat, zGs c1 k = zGs c k
  | 0 => rfl
  | k + 1 => by
    unfold zGs
    rw [zGs_e h11 h25 h26 h27 k, h11, h25, h26, h27]
theorem zTX_e {c c1 : zC} (h : ∀ r, 15 ≤ r → r ≤ 18 → c1 r = c r) : zTX c1 = zTX c := by
  unfold zTX
  rw [h 15 (by decide) (by decide), h 16 (by decide) (by decide), h 17 (by decide) (by decide), h 18 (by decide) (by decide)]
theorem zObs_e {c c1 : zC} {p s x : Int} (h : ∀ r, r < 29 → c1 r = c r) : zObs c1 p s x = zObs c p s x := by
  unfold zObs
  rw [zTX_e (fun r _ r2 => h r (by omega)), zGt_e (h 25 (by decide)) (h 26 (by decide)) (h 27 (by decide)), h 24 (by decide), h 12 (by decide), h 26 (by decide), h 27 (by decide), h 11 (by decide), h 19 (by decide), h 20 (by decide), h 21 (by decide), h 22 (by decide), h 23 (by decide), h 13 (by decide)]
def qOb (v : Int → Int) (p s x : Int) : Prop := zObM (zMm v) p s x
theorem ob_v {B : Int} {c : zC} {v : Int → Int} (R : zRep c 9 v) (I : zInv B v) {p s x : Int} (hp : 0 ≤ p ∧ p < v 0) : zObs c p s x ↔ qOb v p s x := by
  have h := zOb_iff (zGh_R R) (zGh_I (c := c) I) (p := p) (s := s) (x := x) (by rw [zGh_v]; exact hp)
  rw [zObs_e (c := c) (fun r hr => zGh_n (by omega)), zObM_c (c := zMm v) (c1 := zGh c v) (by rw [zGh_v, zMm_v])] at h
  exact h
theorem qOb_u {v : Int → Int} {p s x y : Int} (h : qOb v p s x) (h' : qOb v p s y) : x = y := zObM_u h h'
theorem qOb_in {v : Int → Int} {p s x : Int} (h : qOb v p s x) : x = -3 ∨ x = -4 ∨ x = -5 ∨ x = -6 ∨ x = 0 := by
  rcases h with h | h | h | h | h
  · exact Or.inl h.2
  · exact Or.inr (Or.inl h.2.2)
  · exact Or.inr (Or.inr (Or.inl h.2.2.2))
  · exact Or.inr (Or.inr (Or.inr (Or.inl h.2.2.2.2)))
  · exact Or.inr (Or.inr (Or.inr (Or.inr h.2.2.2.2)))
/-- what may be placed is free -/
theorem qOb_0 {v : Int → Int} {p s : Int} (h : qOb v p s 0) : v 3 ≤ 59 ∧ s + v (10 + 4 * p + 1) ≤ 10080 ∧ ¬ zHit (v 3) (fun j => v (230 + 4 * j + 1)) (fun j => v (230 + 4 * j + 2)) s (s + v (10 + 4 * p + 1)) := by
  obtain ⟨q1, q2, -⟩ := zFlt_0 h
  have q1 : ¬ 60 ≤ v 3 := q1
  have q2 : ¬ (10080 < s + v (10 + 4 * p + 1) ∨ zHit (v 3) (fun j => v (230 + 4 * j + 1)) (fun j => v (230 + 4 * j + 2)) s (s + v (10 + 4 * p + 1))) := q2
  exact ⟨by omega, Int.not_lt.mp (fun h9 => q2 (Or.inl h9)), fun h9 => q2 (Or.inr h9)⟩
/-! rights in use -/
def qU (v : Int → Int) (k : Int) : Int := zUvM (zMm v) k.toNat
def qL (v : Int → Int) (r : Int) : Int := zLvM (zMm v) r
def qC (v : Int → Int) (r : Int) : Nat → Int
  | 0 => 0
  | k + 1 => qC v r k + (if qU v (k : Int) = r then 1 else 0)
theorem u_v {B : Int} {c : zC} {v : Int → Int} (R : zRep c 9 v) (I : zInv B v) {k : Int} (hk : 0 ≤ k ∧ k < v 3) : ∃ y, (zGs c (c 24 0).toNat)[k.toNat]? = some y ∧ zUsl (zTX c) (c 19) (zGs c (c 24 0).toNat) k.toNat y = qU v k := by
  obtain ⟨y, h1, h2⟩ := zUv_eq (zGh_R (c := c) R) (zGh_I I) (k := k.toNat) (by rw [zGh_v]; omega)
  have e : ∀ r, r < 29 → zGh c v r = c r := fun r hr => zGh_n (by omega)
  rw [zGs_e (e 11 (by decide)) (e 25 (by decide)) (e 26 (by decide)) (e 27 (by decide)), e 24 (by decide)] at h1
  rw [zGs_e (e 11 (by decide)) (e 25 (by decide)) (e 26 (by decide)) (e 27 (by decide)), e 24 (by decide), e 19 (by decide), zTX_e (c := c) (fun r _ r2 => e r (by omega)), zUvM_c (c := zMm v) (c1 := zGh c v) (by rw [zGh_v, zMm_v])] at h2
  exact ⟨y, h1, h2⟩
theorem l_v {B : Int} {c : zC} {v : Int → Int} (R : zRep c 9 v) (I : zInv B v) {r : Int} (hr : 0 ≤ r ∧ r < v 2) : zLvX c r = qL v r := by
  have h := zLv_eq (zGh_R (c := c) R) (zGh_I I) (r := r) (by rw [zGh_v]; exact hr)
  have e : ∀ r, r < 29 → zGh c v r = c r := fun r hr => zGh_n (by omega)
  have h2 : zLvX (zGh c v) r = zLvX c r := by
    unfold zLvX
    rw [zGs_e (e 11 (by decide)) (e 25 (by decide)) (e 26 (by decide)) (e 27 (by decide)), e 24 (by decide), e 19 (by decide), zTX_e (c := c) (fun r _ r2 => e r (by omega))]
  rw [h2, zLvM_c (c := zMm v) (c1 := zGh c v) (by rw [zGh_v, zMm_v])] at h
  exact h
theorem q_key (v : Int → Int) (n : Nat) (hn : n = (v 3).toNat) : ∀ k : Nat, k ≤ n → ∀ r, zLfl (zTM (zMm v)) (zPlM (zMm v)) ((zMk (zMm v) (zAl v n)).take k) r = v (110 + 4 * r + 3) - qC v r k ∧ (0 ≤ r → 0 ≤ v (110 + 4 * r + 3) → 0 ≤ zLfl (zTM (zMm v)) (zPlM (zMm v)) ((zMk (zMm v) (zAl v n)).take k) r)
  | 0, _, r => by
    rw [List.take_zero]
    show zPlM (zMm v) r = _ ∧ (_ → _ → 0 ≤ zPlM (zMm v) r)
    have e : zPlM (zMm v) r = v (110 + 4 * r + 3) := rfl
    have e2 : qC v r 0 = 0 := rfl
    rw [e, e2]
    exact ⟨by omega, fun _ h => h⟩
  | k + 1, hk, r => by
    have ih := q_key v n hn k (by omega)
    have hx : (zMk (zMm v) (zAl v n))[k]? = some (if v (10 + 4 * (zIt v k).1) = 2 then -9 else (zIt v k).1, (zIt v k).2) := zMk_get (zAl_at (by omega))
    have hu : qU v (k : Int) = zBst (zTM (zMm v)) (zLfl (zTM (zMm v)) (zPlM (zMm v)) ((zMk (zMm v) (zAl v n)).take k)) (if v (10 + 4 * (zIt v k).1) = 2 then -9 else (zIt v k).1) (zIt v k).2.1 (zIt v k).2.2 (zTM (zMm v)).1 := by
      rw [hn]
      rfl
    rw [List.take_succ, hx, Option.toList_some, zLfl_snoc]
    have hs : ∀ pl : Int → Int, zStp (zTM (zMm v)) pl (if v (10 + 4 * (zIt v k).1) = 2 then -9 else (zIt v k).1, (zIt v k).2) r = if r = zBst (zTM (zMm v)) pl (if v (10 + 4 * (zIt v k).1) = 2 then -9 else (zIt v k).1) (zIt v k).2.1 (zIt v k).2.2 (zTM (zMm v)).1 then pl r - 1 else pl r := fun pl => rfl
    rw [hs, ← hu]
    obtain ⟨i1, i2⟩ := ih r
    have hc : qC v r (k + 1) = qC v r k + (if qU v (k : Int) = r then 1 else 0) := rfl
    rw [hc]
    by_cases e : r = qU v (k : Int)
    · have hb := zBst_in (zTM (zMm v)) (zLfl (zTM (zMm v)) (zPlM (zMm v)) ((zMk (zMm v) (zAl v n)).take k)) (if v (10 + 4 * (zIt v k).1) = 2 then -9 else (zIt v k).1) (zIt v k).2.1 (zIt v k).2.2 (zTM (zMm v)).1
      rw [← hu, ← e] at hb
      rw [if_pos e, if_pos e.symm]
      refine ⟨by omega, fun r0 h0 => ?_⟩
      rcases hb with hb | hb
      · omega
      · have := hb.2.2.2.2.2
        omega
    · rw [if_neg e, if_neg (fun h => e h.symm)]
      exact ⟨by omega, i2⟩
theorem q_left {B : Int} {v : Int → Int} (I : zInv B v) {r : Int} (hr : 0 ≤ r ∧ r < v 2) : qL v r = v (110 + 4 * r + 3) - qC v r (v 3).toNat ∧ 0 ≤ qL v r := by
  obtain ⟨h1, h2⟩ := q_key v _ rfl (v 3).toNat (Nat.le_refl _) r
  have hl : (zMk (zMm v) (zAl v (v 3).toNat)).length = (v 3).toNat := by
    unfold zMk zAl
    simp
  rw [List.take_of_length_le (by rw [hl]; exact Nat.le_refl _)] at h1 h2
  have hp := I.2.2.2.1 r hr.1 hr.2
  exact ⟨h1, h2 hr.1 (by omega)⟩
theorem q_use {B : Int} {v : Int → Int} (I : zInv B v) (k : Int) : qU v k = -9 ∨ (0 ≤ qU v k ∧ qU v k < v 2) := by
  unfold qU zUvM zUsl
  have h := zBst_in (zTM (zMm v)) (zLfl (zTM (zMm v)) (zPlM (zMm v)) ((zMk (zMm v) (zAl (zMm v 146) (zMm v 146 3).toNat)).take k.toNat)) (if zMm v 146 (10 + 4 * (zIt (zMm v 146) k.toNat).1) = 2 then -9 else (zIt (zMm v 146) k.toNat).1) (zIt (zMm v 146) k.toNat).2.1 (zIt (zMm v 146) k.toNat).2.2 (zTM (zMm v)).1
  have hI := I.1
  rcases h with h | h
  · exact Or.inl h
  · refine Or.inr ⟨h.1, ?_⟩
    have e : (((zTM (zMm v)).1 : Nat) : Int) = v 2 := by
      show (((v 2).toNat : Nat) : Int) = v 2
      omega
    have h2 := h.2.1
    rw [e] at h2
    exact h2
/-- the fingerprint of a row -/
def qF (v : Int → Int) : Int := zPrt (v 0) (v 2) (v 1) (v 3) (fun k i => if k < 4 then v (230 + 4 * i + k) else qU v i) (fun p => v (10 + 4 * p + 3)) (qL v)
/-! the state: what is kept by calls that ask, what by acts -/
def zHx (B : Int) (tp : Option (Int → Int)) (c : zC) : Prop := (0 ≤ c 29 0 ∧ c 29 0 ≤ 5) ∧ (0 ≤ c 29 1 ∧ c 29 1 ≤ 4) ∧ (∀ j : Nat, j < 5 → zCnW c (31 + 20 * j)) ∧ (∀ u, tp = some u → 1 ≤ c 29 0 ∧ zInv B u ∧ ∀ j : Nat, j < 5 → (j : Int) = (c 29 1 + (c 29 0 - 1)) % 5 → zRep c (31 + 20 * j) u)
def zG (hi : zC) (B : Int) (v : Int → Int) (tp : Option (Int → Int)) (c : zC) : Prop := (∀ r, (r < 8 ∨ 143 ≤ r) → c r = hi r) ∧ zBd c ∧ zRep c 9 v ∧ zInv B v ∧ zHx B tp c
theorem zHx_fr {B : Int} {tp : Option (Int → Int)} {c c' : zC} (h : zHx B tp c) (f : ∀ r, 29 ≤ r → r ≤ 130 → c' r = c r) : zHx B tp c' := by
  obtain ⟨h1, h2, h3, h4⟩ := h
  unfold zHx
  rw [f 29 (by omega) (by omega)]
  refine ⟨h1, h2, fun j hj => ?_, fun u hu => ?_⟩
  · have := h3 j hj
    unfold zCnW at this ⊢
    rw [f _ (by omega) (by omega), f _ (by omega) (by omega), f _ (by omega) (by omega), f _ (by omega) (by omega)]
    exact this
  · obtain ⟨a, b, d⟩ := h4 u hu
    exact ⟨a, b, fun j hj e => zRep_fr (d j hj e) (fun r r1 r2 => f r (by omega) (by omega))⟩
theorem zG_fr {hi : zC} {B : Int} {v : Int → Int} {tp : Option (Int → Int)} {c c' : zC} (G : zG hi B v tp c) (f : ∀ r, (r < 131 ∨ 143 ≤ r) → c' r = c r) (hB : zBd c') : zG hi B v tp c' := by
  obtain ⟨g1, -, g3, g4, g5⟩ := G
  exact ⟨fun r hr => (f r (by omega)).trans (g1 r hr), hB, zRep_fr g3 (fun r r1 r2 => f r (by omega)), g4, zHx_fr g5 (fun r r1 r2 => f r (by omega))⟩
theorem zG_up {hi : zC} {B B' : Int} {v : Int → Int} {tp : Option (Int → Int)} {c : zC} (G : zG hi B v tp c) (h : B ≤ B') : zG hi B' v tp c := by
  obtain ⟨g1, g2, g3, g4, g5, g6, g7, g8⟩ := G
  exact ⟨g1, g2, g3, g4.up h, g5, g6, g7, fun u hu => ⟨(g8 u hu).1, (g8 u hu).2.1.up h, (g8 u hu).2.2⟩⟩
theorem zG_no {hi : zC} {B : Int} {v : Int → Int} {tp : Option (Int → Int)} {c : zC} (G : zG hi B v tp c) : zG hi B v none c := by
  obtain ⟨g1, g2, g3, g4, g5, g6, g7, g8⟩ := G
  exact ⟨g1, g2, g3, g4, g5, g6, g7, fun u hu => by cases hu⟩
/-- an act: the week is kept, then changed -/
theorem zHx_act {B : Int} {v : Int → Int} {tp : Option (Int → Int)} {c c1 f : zC} (H : zHx B tp c) (R : zRep c 9 v) (I : zInv B v) (hk : zKpt c c1) (f29 : f 29 = c1 29) (fr : ∀ r, 31 ≤ r → r ≤ 130 → f r = c1 r) : zHx B (some v) f := by
  obtain ⟨h1, h2, H3, -⟩ := H
  rcases hk with ⟨hm, c2, j, j1, j2, hcp, rfl⟩ | ⟨hm, c2, j, j1, j2, hcp, rfl⟩
  · have hoth := hcp.2.2.2.2.1
    have e0 : f 29 0 = c 29 0 + 1 := by rw [f29, zup_same]
    have e1 : f 29 1 = c 29 1 := by rw [f29, zup_k (by decide), hoth 29 (by omega)]
    have hnew : zRep f (31 + 20 * j) v := by
      refine zRep_fr (zCp_rep hcp R) (fun r r1 r2 => ?_)
      rw [fr r (by omega) (by omega), zup_ne (by omega)]
    have hold : ∀ i : Nat, i < 5 → i ≠ j → ∀ r, 31 + 20 * i < r → r ≤ 31 + 20 * i + 19 → f r = c r := fun i i1 i2 r r1 r2 => by
      rw [fr r (by omega) (by omega), zup_ne (by omega), hoth r (by omega)]
    unfold zHx
    rw [e0, e1]
    refine ⟨by omega, h2, fun i hi => ?_, fun u hu => ?_⟩
    · by_cases ei : i = j
      · rw [ei]
        exact zCnW_of hnew I
      · have h9 := H3 i hi
        unfold zCnW at h9 ⊢
        rw [hold i hi ei _ (by omega) (by omega), hold i hi ei _ (by omega) (by omega), hold i hi ei _ (by omega) (by omega), hold i hi ei _ (by omega) (by omega)]
        exact h9
    · cases hu
      refine ⟨by omega, I, fun i hi e => ?_⟩
      have : i = j := by omega
      rw [this]
      exact hnew
  · rw [zup_same, zup_k (by decide), zup_same] at j2
    have hoth := hcp.2.2.2.2.1
    have e0 : f 29 0 = 5 := by rw [f29, zup_same, zup_same]; rfl
    have e1 : f 29 1 = (c 29 1 + 1) % 5 := by rw [f29, zup_k (by decide), hoth 29 (by omega), zup_k (by decide), zup_same]
    have hR9 : zRep (zup (zup c 29 1 ((c 29 1 + 1) % 5)) 29 0 4) 9 v := zRep_fr R (fun r r1 r2 => by rw [zup_ne (by omega), zup_ne (by omega)])
    have hnew : zRep f (31 + 20 * j) v := by
      refine zRep_fr (zCp_rep hcp hR9) (fun r r1 r2 => ?_)
      rw [fr r (by omega) (by omega), zup_ne (by omega)]
    have hold : ∀ i : Nat, i < 5 → i ≠ j → ∀ r, 31 + 20 * i < r → r ≤ 31 + 20 * i + 19 → f r = c r := fun i i1 i2 r r1 r2 => by
      rw [fr r (by omega) (by omega), zup_ne (by omega), hoth r (by omega), zup_ne (by omega), zup_ne (by omega)]
    unfold zHx
    rw [e0, e1]
    refine ⟨by omega, by omega, fun i hi => ?_, fun u hu => ?_⟩
    · by_cases ei : i = j
      · rw [ei]
        exact zCnW_of hnew I
      · have h9 := H3 i hi
        unfold zCnW at h9 ⊢
        rw [hold i hi ei _ (by omega) (by omega), hold i hi ei _ (by omega) (by omega), hold i hi ei _ (by omega) (by omega), hold i hi ei _ (by omega) (by omega)]
        exact h9
    · cases hu
      refine ⟨by omega, I, fun i hi e => ?_⟩
      have : i = j := by omega
      rw [this]
      exact hnew
theorem zG_act {hi : zC} {B B' : Int} {v v' : Int → Int} {tp : Option (Int → Int)} {c c1 f : zC} (G : zG hi B v tp c) (hk : zKpt c c1) (f29 : f 29 = c1 29) (fr : ∀ r, (31 ≤ r ∧ r ≤ 130) ∨ r < 8 ∨ 143 ≤ r → f r = c1 r) (hB : zBd f) (R' : zRep f 9 v') (I' : zInv B' v') (hBB : B ≤ B') : zG hi B' v' (some v) f := by
  obtain ⟨g1, -, g3, g4, g5⟩ := G
  have h9 := (zKpt_fr hk g5.1).1
  obtain ⟨k1, k2, k3, k4⟩ := zHx_act g5 g3 g4 hk f29 (fun r r1 r2 => fr r (Or.inl ⟨r1, r2⟩))
  exact ⟨fun r hr => ((fr r (Or.inr hr)).trans (h9 r (by omega) (by omega))).trans (g1 r hr), hB, R', I', k1, k2, k3, fun u hu => ⟨(k4 u hu).1, (k4 u hu).2.1.up hBB, (k4 u hu).2.2⟩⟩
