/-! fill and runOver, against a row -/
theorem pk_ok {c : zC} {t l q : Int} (h : zSt c t) (hp : zPk c t l q) (hq : q ≠ -9) : (0 ≤ q ∧ q < c 10 0) ∧ zOkF c q t ∧ q ≠ l := by
  have hin := zPk_in h hp hq
  obtain ⟨N, n1, n2⟩ := h
  have hlt : N q < 241 ∧ q ≠ l := by
    unfold zPk at hp
    rcases n2 with ⟨a1, a2, a3, a4, a5⟩ | ⟨⟨a1, a2, a3, a4⟩, a5, a6, a7⟩
    · omega
    · rcases a7 with ⟨b1, b2, b3⟩ | ⟨⟨b1, b2, b3, b4, b5⟩, b6, b7⟩
      · have hq9 : q = c 139 t := by omega
        rw [hq9]
        omega
      · by_cases e : c 139 t = l
        · have hq9 : q = c 141 t := by omega
          rw [hq9]
          omega
        · have hq9 : q = c 139 t := by omega
          rw [hq9]
          omega
  refine ⟨hin, ?_, hlt.2⟩
  have h9 := n1 q hin.1 hin.2
  unfold zIw at h9
  rcases h9 with ⟨-, h8⟩ | ⟨h8, -⟩ | ⟨h8, -⟩ | ⟨h8, -⟩
  · omega
  · exact h8
  · exact h8
  · exact h8
/-- k fillers stand from a to t, from the item i on -/
def zFj (v w : Int → Int) (a z fb t k l i : Int) : Prop := (0 ≤ k ∧ w 3 = v 3 + k ∧ zSm v w ∧ 0 ≤ i ∧ i ≤ v 3) ∧ (∀ j q, 0 ≤ j → j < i → 0 ≤ q → q ≤ 3 → w (230 + 4 * j + q) = v (230 + 4 * j + q)) ∧ (∀ j, 0 ≤ j → j < i → w (230 + 4 * j + 1) + w (230 + 4 * j + 2) ≤ a) ∧ (∀ j, i + k ≤ j → j < w 3 → z ≤ w (230 + 4 * j + 1)) ∧ (∀ j, 0 ≤ j → j < k → v (10 + 4 * w (230 + 4 * (i + j) + 0)) = 2 ∧ w (230 + 4 * (i + j) + 3) = 0) ∧ ((k = 0 ∧ t = a ∧ l = fb) ∨ (1 ≤ k ∧ w (230 + 4 * i + 1) = a ∧ w (230 + 4 * (i + (k - 1)) + 1) + w (230 + 4 * (i + (k - 1)) + 2) = t ∧ w (230 + 4 * (i + (k - 1)) + 0) = l)) ∧ (∀ j, 0 ≤ j → j + 1 < k → w (230 + 4 * (i + j) + 1) + w (230 + 4 * (i + j) + 2) = w (230 + 4 * (i + (j + 1)) + 1) ∧ w (230 + 4 * (i + j) + 0) ≠ w (230 + 4 * (i + (j + 1)) + 0)) ∧ (1 ≤ k → 1 ≤ i → w (230 + 4 * (i - 1) + 1) + w (230 + 4 * (i - 1) + 2) = a → w (230 + 4 * (i - 1) + 0) ≠ w (230 + 4 * i + 0))
theorem fj_lo {B : Int} {v w : Int → Int} {a z fb t k l i : Int} (F : zFj v w a z fb t k l i) (I : zInv B w) (hat : a ≤ t) : ∀ j, 0 ≤ j → j < i + k → w (230 + 4 * j + 1) + w (230 + 4 * j + 2) ≤ t := fun j j1 j2 => by
  obtain ⟨⟨f1, f2, f3, f4, f5⟩, f6, f7, f8, f9, f10, -⟩ := F
  by_cases ji : j < i
  · have := f7 j j1 ji
    omega
  · rcases f10 with ⟨g1, -⟩ | ⟨g1, g2, g3, -⟩
    · omega
    · by_cases je : j = i + (k - 1)
      · rw [je]
        omega
      · have q1 := I.2.2.2.2.2.2 j (i + (k - 1)) j1 (by omega) (by omega)
        have q2 := I.2.2.2.2.2.1 (i + (k - 1)) (by omega) (by omega)
        omega
theorem fj_step {B : Int} {v w w' : Int → Int} {a z fb t k l i q e at9 : Int} (F : zFj v w a z fb t k l i) (I : zInv B w) (hat : a ≤ t) (he : 1 ≤ e) (hz : t + e ≤ z) (hpt : zPt w w' q t e 0 at9) (hq2 : v (10 + 4 * q) = 2) (hql : q ≠ l) (hfb : 1 ≤ i → v (230 + 4 * (i - 1) + 1) + v (230 + 4 * (i - 1) + 2) = a → q ≠ fb → v (230 + 4 * (i - 1) + 0) ≠ q) : zFj v w' a z fb (t + e) (k + 1) q i := by
  have hlo := fj_lo F I hat
  obtain ⟨⟨f1, f2, f3, f4, f5⟩, f6, f7, f8, f9, f10, f11, f12⟩ := F
  obtain ⟨A, ⟨b0, b1, b2, b3⟩, C, D⟩ := pt_f hpt
  have e9 : at9 = i + k := by
    obtain ⟨t1, t2, t3, -⟩ := hpt
    rcases Int.lt_trichotomy at9 (i + k) with h9 | h9 | h9
    · have q1 := t3 at9 (Int.le_refl _) (by omega)
      have q2 := hlo at9 t1.1 h9
      have q3 := I.2.2.2.2.2.1 at9 t1.1 (by omega)
      omega
    · exact h9
    · have q1 := t2.resolve_left (by omega)
      have q2 := f8 (at9 - 1) (by omega) (by omega)
      omega
  subst e9
  refine ⟨⟨by omega, by omega, f3.tr hpt.sm, f4, f5⟩, fun j q j1 j2 q1 q2 => ?_, fun j j1 j2 => ?_, fun j j1 j2 => ?_, fun j j1 j2 => ?_, Or.inr ⟨by omega, ?_, ?_, ?_⟩, fun j j1 j2 => ?_, fun _ hi1 hi2 => ?_⟩
  · rw [A j q (by omega) j1 q1 q2]
    exact f6 j q j1 j2 q1 q2
  · rw [A j 1 (by omega) j1 (by omega) (by omega), A j 2 (by omega) j1 (by omega) (by omega)]
    exact f7 j j1 j2
  · rw [C j 1 (by omega) (by omega) (by omega) (by omega)]
    exact f8 (j - 1) (by omega) (by omega)
  · by_cases jk : j = k
    · rw [jk, b0, b3]
      exact ⟨hq2, rfl⟩
    · rw [A (i + j) 0 (by omega) (by omega) (by omega) (by omega), A (i + j) 3 (by omega) (by omega) (by omega) (by omega)]
      exact f9 j j1 (by omega)
  · rcases f10 with ⟨g1, g2, -⟩ | ⟨g1, g2, -⟩
    · rw [g1, Int.add_zero] at b1
      rw [b1]
      exact g2
    · rw [A i 1 (by omega) f4 (by omega) (by omega)]
      exact g2
  · rw [show i + (k + 1 - 1) = i + k by omega, b1, b2]
  · rw [show i + (k + 1 - 1) = i + k by omega, b0]
  · rcases f10 with ⟨g1, g2, g3⟩ | ⟨g1, g2, g3, g4⟩
    · omega
    · by_cases jk : j + 1 = k
      · have ej : j = k - 1 := by omega
        rw [jk, b1, b0, ej, A (i + (k - 1)) 1 (by omega) (by omega) (by omega) (by omega), A (i + (k - 1)) 2 (by omega) (by omega) (by omega) (by omega), A (i + (k - 1)) 0 (by omega) (by omega) (by omega) (by omega)]
        exact ⟨g3, by rw [g4]; exact fun h => hql h.symm⟩
      · rw [A (i + j) 1 (by omega) (by omega) (by omega) (by omega), A (i + j) 2 (by omega) (by omega) (by omega) (by omega), A (i + j) 0 (by omega) (by omega) (by omega) (by omega), A (i + (j + 1)) 1 (by omega) (by omega) (by omega) (by omega), A (i + (j + 1)) 0 (by omega) (by omega) (by omega) (by omega)]
        exact f11 j j1 (by omega)
  · rw [A (i - 1) 1 (by omega) (by omega) (by omega) (by omega), A (i - 1) 2 (by omega) (by omega) (by omega) (by omega)] at hi2
    rw [A (i - 1) 0 (by omega) (by omega) (by omega) (by omega)]
    rcases f10 with ⟨g1, g2, g3⟩ | ⟨g1, g2, g3, g4⟩
    · rw [g1, show i + (0 : Int) = i by omega] at b0
      rw [b0, f6 (i - 1) 0 (by omega) (by omega) (by omega) (by omega)]
      rw [f6 (i - 1) 1 (by omega) (by omega) (by omega) (by omega), f6 (i - 1) 2 (by omega) (by omega) (by omega) (by omega)] at hi2
      exact hfb hi1 hi2 (by omega)
    · rw [A i 0 (by omega) f4 (by omega) (by omega)]
      exact f12 g1 hi1 hi2
theorem fi_go {B : Int} {c2 : zC} {v : Int → Int} {a z fb i : Int} (hst : ∀ t, 0 ≤ t → t < z - a → zSt c2 t) (hc : c2 137 1 = a ∧ c2 137 2 = z - a) (hz : 0 ≤ a ∧ z ≤ 10080) (h10 : c2 10 0 = v 0) (hpg : ∀ p, 0 ≤ p → p < v 0 → c2 11 p = v (10 + 4 * p) ∧ c2 12 p = v (10 + 4 * p + 1) ∧ 1 ≤ v (10 + 4 * p + 1)) (hv0 : 0 ≤ v 0 ∧ v 0 ≤ 16) (hfb : ∀ q, v (10 + 4 * q) = 2 → 1 ≤ i → v (230 + 4 * (i - 1) + 1) + v (230 + 4 * (i - 1) + 2) = a → q ≠ fb → v (230 + 4 * (i - 1) + 0) ≠ q) : ∀ (s : List Int) (cc cc' : zC) (w : Int → Int) (t k l : Int), zRep cc 9 w → zInv B w → zFj v w a z fb t k l i → a ≤ t → t ≤ z → zChs c2 s (t - a) l → zPs s cc t cc' → w 3 + s.length ≤ 60 → ∃ (w' : Int → Int) (l' : Int), zRep cc' 9 w' ∧ zInv B w' ∧ zFj v w' a z fb z (k + s.length) l' i
  | [], cc, cc', w, t, k, l, R, I, F, h1, h2, hs, hp, h60 => by
    have hs2 : ¬ t - a < c2 137 2 := hs
    have hp2 : cc' = cc := hp
    have ht : t = z := by omega
    subst ht
    rw [hp2]
    refine ⟨w, l, R, I, ?_⟩
    rw [List.length_nil, show k + ((0 : Nat) : Int) = k by omega]
    exact F
  | q :: r, cc, cc', w, t, k, l, R, I, F, h1, h2, ⟨s1, s2, s3, s4⟩, ⟨c1, p1, p2⟩, h60 => by
    obtain ⟨⟨o1, o2⟩, ⟨o3, o4, -⟩, o5⟩ := pk_ok (hst (t - a) (by omega) (by omega)) s2 s3
    rw [h10] at o2
    obtain ⟨g1, g2, g3⟩ := hpg q o1 o2
    rw [g1] at o3
    rw [g2] at o4 s4
    have hsm : zSm v w := F.1.2.2.1
    have w0 : w 0 = v 0 := hsm 0 (by omega) (by omega) (by omega)
    have wl : w (10 + 4 * q + 1) = v (10 + 4 * q + 1) := hsm _ (by omega) (by omega) (by omega)
    have e12 : cc 12 q = v (10 + 4 * q + 1) := (((zRep_9 R).2.1 q o1 (by omega)).2.1).trans wl
    rw [e12] at p1 p2
    rw [List.length_cons] at h60
    have hlo := fj_lo F I h1
    have hno : ¬ zHit (w 3) (fun j => w (230 + 4 * j + 1)) (fun j => w (230 + 4 * j + 2)) t (t + v (10 + 4 * q + 1)) := by
      rintro ⟨j, j1, j2, j3, j4⟩
      dsimp only at j3 j4
      by_cases ji : j < i + k
      · have := hlo j j1 ji
        omega
      · have := F.2.2.2.1 j (by omega) j2
        omega
    obtain ⟨at9, w1, hpt⟩ := pt_ex (p := q) (s := t) (e := v (10 + 4 * q + 1)) (f := 0) I
    obtain ⟨-, R1, I1⟩ := ins_rep R I (by omega) (by omega) (by omega) g3 (by omega) (Or.inl rfl) hno p1 rfl hpt
    have F1 := fj_step F I h1 g3 (by omega) hpt o3 o5 (hfb q o3)
    have w3 : w1 3 = w 3 + 1 := (pt_f hpt).2.2.2
    rw [show t - a + v (10 + 4 * q + 1) = t + v (10 + 4 * q + 1) - a by omega] at s4
    obtain ⟨w', l', R', I', F'⟩ := fi_go hst hc hz h10 hpg hv0 hfb r c1 cc' w1 (t + v (10 + 4 * q + 1)) (k + 1) q R1 I1 F1 (by omega) (by omega) s4 p2 (by omega)
    refine ⟨w', l', R', I', ?_⟩
    rw [List.length_cons, show k + ((r.length + 1 : Nat) : Int) = k + 1 + (r.length : Int) by omega]
    exact F'
section KF
variable {d n sl : Nat} {S : zSh} {hi c : zC} {B : Int} {v : Int → Int} {tp : Option (Int → Int)}
theorem a_fill (hS : zSok S) (G : zG hi B v tp c) {a z : Int} (haz : 0 ≤ a ∧ a < z ∧ z ≤ 10080 ∧ z - a ≤ 240) : zE (d + 6) 46 0 (zent 46 [zA 8, zI a, zI z]) [] ((n, sl), (S, c)) (fun r μ' => ∃ (x : Int) (c' : zC), r = some (zI x) ∧ μ' = ((n, sl), (S, c')) ∧ ((zHit (v 3) (fun j => v (230 + 4 * j + 1)) (fun j => v (230 + 4 * j + 2)) a z ∧ x = -4 ∧ zG hi B v tp c') ∨ (¬ zHit (v 3) (fun j => v (230 + 4 * j + 1)) (fun j => v (230 + 4 * j + 2)) a z ∧ (x = -9 ∨ x = -3) ∧ zG hi B v tp c') ∨ (¬ zHit (v 3) (fun j => v (230 + 4 * j + 1)) (fun j => v (230 + 4 * j + 2)) a z ∧ 1 ≤ x ∧ ∃ (v' : Int → Int) (fb l i : Int), zFj v v' a z fb z x l i ∧ zG hi B v' (some v) c'))) := by
  obtain ⟨g1, hB, R, I, H⟩ := id G
  obtain ⟨a1, a2, a3, a4⟩ := (zRep_9 R).1
  have hI := I.1
  have hHit : zHit (c 24 0) (c 26) (c 27) a z ↔ zHit (v 3) (fun j => v (230 + 4 * j + 1)) (fun j => v (230 + 4 * j + 2)) a z := by
    rw [a4]
    exact zHit_iff (fun j j1 j2 => ⟨((zRep_9 R).2.2.2.2 j j1 j2).2.1, ((zRep_9 R).2.2.2.2 j j1 j2).2.2.1⟩)
  refine zE.mono (e_X8_fill (d := d + 2) hS hB (zX_c R I) (fun i i1 i2 => by have := zX_it2 R I i i1 i2; omega) (zX_bl R I) (zX_n R I) (zX_pq R I) (zX_ln R I) H.1 H.2.1 (zX_cn R I)) ?_
  rintro r μ' ⟨x, c1, rfl, rfl, h⟩
  rw [hHit] at h
  refine ⟨x, c1, rfl, rfl, ?_⟩
  rcases h with ⟨h1, -⟩ | ⟨h1, h2, h3, h4⟩ | ⟨h1, h2, f, c3, s, hfd, h3⟩
  · exact absurd haz h1
  · rw [h4]
    exact Or.inl ⟨h2, h3, G⟩
  · refine Or.inr ?_
    obtain ⟨c2, fb, k12, -, ⟨i0, k5, k6⟩, k7, k8, k9, k10, k11⟩ := hfd
    have hfr : ∀ r, (r < 137 ∨ 142 < r) → c3 r = c r := fun r hr => (k9 r (by omega)).trans (k10 r hr)
    have G3 : zG hi B v tp c3 := zG_fr G (fun r hr => hfr r (by omega)) k11
    rcases h3 with ⟨h4, h5, h6⟩ | ⟨h4, h5, h6, h7⟩ | ⟨h4, h5, h6, c4, hkb, hps⟩
    · rw [h6]
      exact Or.inl ⟨h2, Or.inl h5, G3⟩
    · rw [h7]
      exact Or.inl ⟨h2, Or.inr h6, G3⟩
    · refine Or.inr ⟨h2, ?_⟩
      obtain ⟨q1, q2⟩ : zChs c2 s 0 fb ∧ f = s.length := by
        rcases k8 with ⟨q1, q2, -⟩ | ⟨-, q2⟩
        · exact ⟨q1, q2⟩
        · exact absurd q2 h4
      have R4 : zRep c4 9 v := zKp_r G3.2.2.2.2.1 hkb G3.2.2.1
      have fr4 := zKpt_fr hkb G3.2.2.2.2.1
      obtain ⟨pf, pB⟩ := zPs_fr s c4 a c1 hps
      obtain ⟨i, i1, i2, i3⟩ := pos_ex I a
      have hend : ∀ j, 0 ≤ j → j < i → v (230 + 4 * j + 1) + v (230 + 4 * j + 2) ≤ a := fun j j1 j2 => by
        have := i2 j j1 j2
        exact Int.not_lt.mp (fun h9 => h2 ⟨j, j1, by omega, by dsimp only; omega, by dsimp only; omega⟩)
      have hsta : ∀ j, i ≤ j → j < v 3 → z ≤ v (230 + 4 * j + 1) := fun j j1 j2 => by
        have := i3 j j1 j2
        have := I.2.2.2.2.2.1 j (by omega) j2
        exact Int.not_lt.mp (fun h9 => h2 ⟨j, by omega, j2, by dsimp only; omega, by dsimp only; omega⟩)
      have F0 : zFj v v a z fb a 0 fb i := ⟨⟨Int.le_refl _, by omega, zSm.rf, i1.1, i1.2⟩, fun _ _ _ _ _ _ => rfl, hend, fun j j1 j2 => hsta j (by omega) j2, fun j j1 j2 => absurd j2 (by omega), Or.inl ⟨rfl, rfl, rfl⟩, fun j j1 j2 => absurd j2 (by omega), fun h => absurd h (by omega)⟩
      have hfb : ∀ q, v (10 + 4 * q) = 2 → 1 ≤ i → v (230 + 4 * (i - 1) + 1) + v (230 + 4 * (i - 1) + 2) = a → q ≠ fb → v (230 + 4 * (i - 1) + 0) ≠ q := by
        intro q e2 e3 e4 e5 e6
        obtain ⟨b1, b2, b3, b4⟩ := (zRep_9 R).2.2.2.2 (i - 1) (by omega) (by omega)
        have hi1 := I.2.2.2.2.2.1 (i - 1) (by omega) (by omega)
        have hpk := ((zRep_9 R).2.1 (v (230 + 4 * (i - 1) + 0)) hi1.1.1 hi1.1.2).1
        have hi0 : i0 = i - 1 := by
          rcases k5 with ⟨m1, m2, m3, m4⟩ | ⟨m1, m2⟩
          · dsimp only at m3
            obtain ⟨u1, u2, u3, u4⟩ := (zRep_9 R).2.2.2.2 i0 m1 (by omega)
            rcases Int.lt_trichotomy i0 (i - 1) with h9 | h9 | h9
            · have := I.2.2.2.2.2.2 i0 (i - 1) m1 h9 (by omega)
              omega
            · exact h9
            · have := I.2.2.2.2.2.2 (i - 1) i0 (by omega) h9 (by omega)
              have := I.2.2.2.2.2.1 i0 m1 (by omega)
              omega
          · exact absurd (show c 26 (i - 1) + c 27 (i - 1) = a by omega) (m2 (i - 1) (by omega) (by omega))
        rw [hi0] at k6
        rcases k6 with ⟨m1, -⟩ | ⟨-, m2, -⟩ | ⟨-, m2, m3⟩
        · exact m1 (by omega)
        · rw [b1, hpk, e6] at m2
          exact m2 e2
        · rw [b1] at m3
          omega
      have e10 : c2 10 0 = v 0 := by rw [k10 10 (by decide)]; exact a1
      obtain ⟨v', l', R5, I5, F5⟩ := fi_go (B := B) k7 k12 ⟨haz.1, haz.2.2.1⟩ e10 (fun p p1 p2 => by
        have hp := (zRep_9 R).2.1 p p1 p2
        rw [k10 11 (by decide), k10 12 (by decide)]
        exact ⟨hp.1, hp.2.1, (zM_ln I p p1 p2).1⟩) hI.1 hfb s c4 c1 v a 0 fb R4 I F0 (Int.le_refl _) (by omega) (by rw [show a - a = 0 by omega]; exact q1) hps (by omega)
      have hlen : 1 ≤ (s.length : Int) := by
        cases s with
        | nil =>
          have hq : ¬ 0 < c2 137 2 := q1
          omega
        | cons y s => rw [List.length_cons]; omega
      rw [Int.zero_add] at F5
      refine ⟨by omega, v', fb, l', i, by rw [h6, q2]; exact F5, zG_act G3 hkb (pf 29 (by decide)) (fun r hr => pf r (by omega)) (pB fr4.2) R5 I5 (Int.le_refl _)⟩
end KF
/-! runOver -/
def qO (v : Int → Int) : Int := zSum (fun p => v (10 + 4 * p + 3)) (v 0)
theorem zS_one {f g : Int → Int} {p : Int} : ∀ n : Nat, (∀ j : Nat, j < n → f j ≤ g j ∧ g j ≤ f j + (if (j : Int) = p then 1 else 0)) → zS f n ≤ zS g n ∧ zS g n ≤ zS f n + (if 0 ≤ p ∧ p < n then 1 else 0)
  | 0, _ => by
    show (0 : Int) ≤ 0 ∧ (0 : Int) ≤ 0 + _
    split <;> omega
  | n + 1, h => by
    have ih := zS_one n (fun j hj => h j (by omega))
    have h9 := h n (by omega)
    show zS f n + f n ≤ zS g n + g n ∧ zS g n + g n ≤ zS f n + f n + _
    split at ih <;> split at h9 <;> split <;> omega
theorem qO_eq {v w : Int → Int} (h0 : w 0 = v 0) (h : ∀ p, 0 ≤ p → p < v 0 → w (10 + 4 * p + 3) = v (10 + 4 * p + 3)) : qO w = qO v := by
  unfold qO
  rw [h0]
  exact zSum_congr (fun p p1 p2 => h p p1 p2)
theorem ro_x : ∀ (f : Nat) (cc : zC) (v : Int → Int) (i e B : Int) (cc' : zC) (d : Int), zRep cc 9 v → zLoop B v i e → zRX f cc i e cc' d → ∃ v', zRep cc' 9 v' ∧ zInv (B + 60) v' ∧ 0 ≤ d ∧ v' 3 = v 3 - d ∧ zSo v v' ∧ i ≤ v' 3 ∧ (∀ j q, 0 ≤ j → j < i → 0 ≤ q → q ≤ 3 → v' (230 + 4 * j + q) = v (230 + 4 * j + q)) ∧ qO v ≤ qO v' ∧ qO v' ≤ qO v + d
  | 0, _, _, _, _, _, _, _, _, _, h => absurd h id
  | f + 1, cc, v, i, e, B, cc', d, R, Lp, h => by
    have a3 := (zRep_9 R).1.2.2.2
    have hi1 := Lp.2.2.2.2.2.2.2.2.2.1
    have hcond : (i < cc 24 0 ∧ cc 26 i < e) ↔ (i < v 3 ∧ v (230 + 4 * i + 1) < e) := by
      rw [a3]
      constructor
      · rintro ⟨q1, q2⟩
        exact ⟨q1, by rw [← ((zRep_9 R).2.2.2.2 i (by omega) q1).2.1]; exact q2⟩
      · rintro ⟨q1, q2⟩
        exact ⟨q1, by rw [((zRep_9 R).2.2.2.2 i (by omega) q1).2.1]; exact q2⟩
    rcases h with ⟨h1, h2, h3⟩ | ⟨h1, x, c1, hg, h2⟩
    · rw [h2]
      exact ⟨v, R, zLoop_end Lp (fun h9 => h1 (hcond.mpr h9)), by omega, by omega, zSo.rf, hi1.2, fun _ _ _ _ _ _ => rfl, Int.le_refl _, by omega⟩
    · have hc := hcond.mp h1
      have h0 := Lp.1
      rcases gw_link R Lp hc hg with ⟨g1, g2, g3, g4⟩ | ⟨g1, g2, g3, g4⟩
      · rcases h2 with ⟨q1, q2⟩ | ⟨q1, _⟩
        · rw [g4] at q2
          obtain ⟨v', w1, w2, w3, w4, w5, w6, w7, w8, w9⟩ := ro_x f c1 _ _ _ B cc' d g3 (zLoop_keep Lp hc g2) q2
          have ks : ∀ k, k < 230 → zKeV v i e k = v k := fun k hk => by
            unfold zKeV
            rw [if_neg (by omega), if_neg (by omega)]
          have hO : qO (zKeV v i e) = qO v := qO_eq (ks 0 (by omega)) (fun p p1 p2 => ks _ (by omega))
          rw [ks 3 (by omega)] at w4
          rw [hO] at w8 w9
          refine ⟨v', w1, w2, w3, w4, fun k k0 k1 k2 k3 => (w5 k k0 k1 k2 k3).trans (ks k k1), by omega, fun j q j1 j2 q1 q2 => ?_, w8, w9⟩
          rw [w7 j q j1 (by omega) q1 q2]
          unfold zKeV
          rw [if_neg (by omega), if_neg (by omega)]
        · exact absurd q1 g1
      · rcases h2 with ⟨q1, _⟩ | ⟨_, cx, cy, d1, q2, q3, q4, q5⟩
        · exact absurd g1 q1
        · have hit := Lp.2.2.2.2.2.1 i (by omega) hc.1
          have R3 := dr_rep g3 ⟨h0.1, h0.2.1, h0.2.2.1⟩ ⟨by omega, hc.1⟩ hit.1 g4 q2 q3
          obtain ⟨v', w1, w2, w3, w4, w5, w6, w7, w8, w9⟩ := ro_x f cy _ _ _ B cc' d1 R3 (zLoop_drop Lp hc) q4
          obtain ⟨d2, d3, d4⟩ := zDrO (v := v) (i := i) (p := v (230 + 4 * i + 0)) (by omega)
          rw [d3] at w4
          have hO : qO v ≤ qO (zDrV (zOwV v (v (230 + 4 * i + 0))) i) ∧ qO (zDrV (zOwV v (v (230 + 4 * i + 0))) i) ≤ qO v + 1 := by
            have hd0 : zDrV (zOwV v (v (230 + 4 * i + 0))) i 0 = v 0 := by
              rw [(d2 0 (by omega) (by omega)).resolve_right (by omega)]
              unfold zOwV
              rw [if_neg (by omega)]
            have h9 := zS_one (f := fun p => v (10 + 4 * p + 3)) (g := fun p => zDrV (zOwV v (v (230 + 4 * i + 0))) i (10 + 4 * p + 3)) (p := v (230 + 4 * i + 0)) (v 0).toNat (fun j hj => by
              (try dsimp only)
              rw [(d2 (10 + 4 * (j : Int) + 3) (by omega) (by omega)).resolve_right (by omega)]
              unfold zOwV
              by_cases ej : (j : Int) = v (230 + 4 * i + 0)
              · rw [if_pos (by omega), if_pos ej]
                split <;> omega
              · rw [if_neg (by omega), if_neg ej]
                omega)
            unfold qO zSum
            rw [hd0]
            refine ⟨h9.1, ?_⟩
            have h8 := h9.2
            split at h8 <;> omega
          refine ⟨v', w1, w2, by omega, by omega, fun k k0 k1 k2 k3 => ?_, w6, fun j q j1 j2 q1 q2 => ?_, by omega, by omega⟩
          · rw [w5 k k0 k1 k2 k3, (d2 k k1 k2).resolve_right (by omega)]
            unfold zOwV
            rw [if_neg (k3 _ (by omega) (by omega))]
          · rw [w7 j q j1 j2 q1 q2, d4 _ (by omega), if_neg (by omega)]
theorem a_run {d n sl : Nat} {S : zSh} {hi c : zC} {B : Int} {v : Int → Int} {tp : Option (Int → Int)} (hS : zSok S) (G : zG hi B v tp c) (hB6 : B ≤ 60000) {it mi : Int} (hit : 0 ≤ it ∧ it < v 3) (hmi : 1 ≤ mi ∧ mi ≤ 120) : zE (d + 6) 47 0 (zent 47 [zA 8, zI it, zI mi]) [] ((n, sl), (S, c)) (fun r μ' => ∃ (x : Int) (c' : zC), r = some (zI x) ∧ μ' = ((n, sl), (S, c')) ∧ ((v (10 + 4 * v (230 + 4 * it + 0)) ≠ 1 ∧ x = -2 ∧ zG hi B v tp c') ∨ (v (10 + 4 * v (230 + 4 * it + 0)) = 1 ∧ 10080 < v (230 + 4 * it + 1) + v (230 + 4 * it + 2) + mi ∧ x = -4 ∧ zG hi B v tp c') ∨ (v (10 + 4 * v (230 + 4 * it + 0)) = 1 ∧ 0 ≤ x ∧ ∃ v', v' 3 = v 3 - x ∧ zSo v v' ∧ it < v' 3 ∧ v' (230 + 4 * it + 1) = v (230 + 4 * it + 1) ∧ v' (230 + 4 * it + 2) = v (230 + 4 * it + 2) + mi ∧ qO v ≤ qO v' ∧ qO v' ≤ qO v + x ∧ zG hi (B + 60) v' (some v) c'))) := by
  obtain ⟨g1, hB, R, I, H⟩ := id G
  obtain ⟨a1, a2, a3, a4⟩ := (zRep_9 R).1
  obtain ⟨b1, b2, b3, b4⟩ := (zRep_9 R).2.2.2.2 it hit.1 hit.2
  have hvi := I.2.2.2.2.2.1 it hit.1 hit.2
  have hpk := ((zRep_9 R).2.1 (v (230 + 4 * it + 0)) hvi.1.1 hvi.1.2).1
  refine zE.mono (e_X8_runOver (d := d) hS hB (zX_c R I) (zX_it R I) (zX_r R I) (zX_pl R I) (zX_bl R I) (zX_n R I) (zX_pq R I) (fun p p1 p2 => by have := zX_ow R I p p1 p2; omega) H.1 H.2.1 (zX_cn R I)) ?_
  rintro r μ' ⟨x, c1, rfl, rfl, h⟩
  rw [a4, b1, hpk, b2, b3] at h
  refine ⟨x, c1, rfl, rfl, ?_⟩
  rcases h with ⟨h1, -⟩ | ⟨-, h2, h3, h4⟩ | ⟨-, h2, h3, h4, h5⟩ | ⟨-, h2, h3, ca, f, hka, hrx, hf, hBx⟩
  · exact absurd ⟨hit, hmi⟩ h1
  · rw [h4]
    exact Or.inl ⟨h2, h3, G⟩
  · rw [h5]
    exact Or.inr (Or.inl ⟨h2, h3, h4, G⟩)
  · have Ra : zRep ca 9 v := zKp_r H.1 hka R
    obtain ⟨R1, L1⟩ := lg_rep Ra I hit hmi.1 h3
    obtain ⟨v', w1, w2, w3, w4, w5, w6, w7, w8, w9⟩ := ro_x f _ _ _ _ B c1 x R1 L1 hrx
    have ks : ∀ k, k ≠ 230 + 4 * it + 2 → zLgV v it mi k = v k := fun k hk => by
      unfold zLgV
      rw [if_neg hk]
    have k2 : zLgV v it mi (230 + 4 * it + 2) = v (230 + 4 * it + 2) + mi := by
      unfold zLgV
      rw [if_pos rfl]
    have hO : qO (zLgV v it mi) = qO v := qO_eq (ks 0 (by omega)) (fun p p1 p2 => ks _ (by have := I.1; omega))
    rw [ks 3 (by omega)] at w4
    rw [hO] at w8 w9
    refine Or.inr (Or.inr ⟨h2, w3, v', w4, fun k k0 k1 k3 k4 => (w5 k k0 k1 k3 k4).trans (ks k (by omega)), by omega, ?_, ?_, w8, w9, zG_act G hka (hf 29 (by decide) (by decide) (by decide)) (fun r hr => hf r (by omega) (by omega) (by omega)) hBx w1 w2 (by omega)⟩)
    · rw [w7 it 1 hit.1 (by omega) (by omega) (by omega), ks _ (by omega)]
    · rw [w7 it 2 hit.1 (by omega) (by omega) (by omega), k2]
