/-! fill: class and model together -/
theorem pt_it {v v' : Int → Int} {p s e x at9 : Int} (h : zPt v v' p s e x at9) {i : Int} (h0 : 0 ≤ i) (h1 : i < v 3 + 1) : (v' (230 + 4 * i + 1) = s ∧ v' (230 + 4 * i + 2) = e) ∨ ∃ j, 0 ≤ j ∧ j < v 3 ∧ v' (230 + 4 * i + 1) = v (230 + 4 * j + 1) ∧ v' (230 + 4 * i + 2) = v (230 + 4 * j + 2) := by
  obtain ⟨t1, t2, t3, t4⟩ := h
  rcases Int.lt_trichotomy i at9 with h9 | h9 | h9
  · refine Or.inr ⟨i, h0, by omega, ?_, ?_⟩
    · rw [t4, if_neg (by omega), if_neg (by omega), if_neg (by omega), if_neg (by omega), if_neg (by omega), if_neg (by omega)]
    · rw [t4, if_neg (by omega), if_neg (by omega), if_neg (by omega), if_neg (by omega), if_neg (by omega), if_neg (by omega)]
  · refine Or.inl ⟨?_, ?_⟩
    · rw [t4, if_neg (by omega), if_neg (by omega), if_neg (by omega), if_pos (by omega)]
    · rw [t4, if_neg (by omega), if_neg (by omega), if_pos (by omega)]
  · refine Or.inr ⟨i - 1, by omega, by omega, ?_, ?_⟩
    · rw [t4, if_neg (by omega), if_neg (by omega), if_neg (by omega), if_neg (by omega), if_neg (by omega), if_pos (by omega), show 230 + 4 * i + 1 - 4 = 230 + 4 * (i - 1) + 1 by omega]
    · rw [t4, if_neg (by omega), if_neg (by omega), if_neg (by omega), if_neg (by omega), if_neg (by omega), if_pos (by omega), show 230 + 4 * i + 2 - 4 = 230 + 4 * (i - 1) + 2 by omega]
theorem zNx_e {c c1 : zC} (e : c1 146 = c 146) (w : Int → Int) (a z t l q : Int) : zNx c1 w a z t l q = zNx c w a z t l q := by
  unfold zNx zNxO zMf
  rw [e]
theorem zRw_e {c c1 : zC} (e : c1 146 = c 146) (w : Int → Int) (a z b t p n : Int) : zRw c1 w a z b t p n = zRw c w a z b t p n := by
  unfold zRw zMf
  rw [e]
theorem zFls_e {c c1 : zC} (e : c1 146 = c 146) (w : Int → Int) (a z : Int) : ∀ (s : List Int) (v : Int → Int) (t l : Int) (v' : Int → Int), zFls c1 w a z s v t l v' → zFls c w a z s v t l v'
  | [], _, _, _, _, h => h
  | q :: r, v, t, l, v', ⟨h1, h2, at9, v1, h3, h4⟩ => by
    rw [zNx_e e] at h2
    rw [e] at h3 h4
    exact ⟨h1, h2, at9, v1, h3, zFls_e e w a z r _ _ _ _ h4⟩
theorem fl_rep {c c2 : zC} {w : Int → Int} {a z bh B : Int} (h : zTwo c c2 w a z bh) : ∀ (s : List Int) (cc cc' : zC) (v v' : Int → Int) (t lm : Int), zRep cc 9 v → zInv B v → zSm (c 146) v → v 3 + s.length ≤ 60 → 0 ≤ t → ¬ zHit (v 3) (fun j => v (230 + 4 * j + 1)) (fun j => v (230 + 4 * j + 2)) (a + t) z → zPs s cc (a + t) cc' → zFls c w a z s v (a + t) lm v' → zRep cc' 9 v' ∧ zInv B v' ∧ (∀ r, (r < 24 ∨ 28 < r) → cc' r = cc r)
  | [], cc, cc', v, v', t, lm, R, I, hsm, h60, h0, hno, hp, hf => by
    have hp2 : cc' = cc := hp
    rw [hp2, hf.2]
    exact ⟨R, I, fun _ _ => rfl⟩
  | q :: s, cc, cc', v, v', t, lm, R, I, hsm, h60, h0, hno, ⟨c1, p1, p2⟩, ⟨f1, f2, at9, v1, f3, f4⟩ => by
    obtain ⟨a1, a2, a3, a4⟩ := zTwo_n h f2
    have hz := h.2.1
    have hq := f2.1
    have e0 : v 0 = c 146 0 := hsm 0 (by omega) (by omega) (by omega)
    have el : v (10 + 4 * q + 1) = c 146 (10 + 4 * q + 1) := hsm _ (by omega) (by omega) (by omega)
    have e12 : cc 12 q = c 146 (10 + 4 * q + 1) := (((zRep_9 R).2.1 q (by omega) (by omega)).2.1).trans el
    rw [e12] at p1 p2
    rw [List.length_cons] at h60
    have hno2 : ¬ zHit (v 3) (fun j => v (230 + 4 * j + 1)) (fun j => v (230 + 4 * j + 2)) (a + t) (a + t + c 146 (10 + 4 * q + 1)) := fun ⟨j, j1, j2, j3, j4⟩ => hno ⟨j, j1, j2, by omega, j4⟩
    obtain ⟨-, R1, I1⟩ := ins_rep R I (by omega) (by omega) (by omega) a2.1 (by omega) (Or.inl rfl) hno2 p1 rfl f3
    have h3 : v1 3 = v 3 + 1 := by rw [f3.2.2.2 3, if_pos rfl]
    have hno3 : ¬ zHit (v1 3) (fun j => v1 (230 + 4 * j + 1)) (fun j => v1 (230 + 4 * j + 2)) (a + (t + c 146 (10 + 4 * q + 1))) z := by
      rintro ⟨j, j1, j2, j3, j4⟩
      rcases pt_it f3 j1 (by omega) with ⟨b1, b2⟩ | ⟨i, i1, i2, b1, b2⟩
      · dsimp only at j3 j4
        omega
      · dsimp only at j3 j4
        exact hno ⟨i, i1, i2, by dsimp only; omega, by dsimp only; omega⟩
    rw [show a + t + c 146 (10 + 4 * q + 1) = a + (t + c 146 (10 + 4 * q + 1)) by omega] at p2 f4
    obtain ⟨R2, I2, F2⟩ := fl_rep h s c1 cc' v1 v' (t + c 146 (10 + 4 * q + 1)) q R1 I1 (hsm.tr f3.sm) (by omega) (by omega) hno3 p2 f4
    exact ⟨R2, I2, fun r hr => (F2 r hr).trans (p1.2.2.1 r hr)⟩
theorem zPs_fr : ∀ (s : List Int) (cc : zC) (t : Int) (cc' : zC), zPs s cc t cc' → (∀ r, (r < 24 ∨ 28 < r) → cc' r = cc r) ∧ (zBd cc → zBd cc')
  | [], cc, t, cc', h => by
    have h2 : cc' = cc := h
    rw [h2]
    exact ⟨fun _ _ => rfl, fun h => h⟩
  | q :: s, cc, t, cc', ⟨c1, h1, h2⟩ => by
    obtain ⟨f, b⟩ := zPs_fr s c1 _ cc' h2
    exact ⟨fun r hr => (f r hr).trans (h1.2.2.1 r hr), fun _ => b h1.2.2.2.2.2.2.2⟩
section SG
variable {c : zC} {B : Int}
theorem cmp_h (R : zRep c 9 (c 146)) (I : zInv B (c 146)) {z i A bh : Int} (h1 : zFind (c 24 0) (c 26) z i) (h2 : zFo c i A) (h3 : zBh c z (c 146 3) bh) : zCmp (c 146) A bh := by
  intro q q1 q2 q3
  have a4 := (zRep_9 R).1.2.2.2
  have hst : ∀ j, 0 ≤ j → j < c 146 3 → c 26 j = c 146 (230 + 4 * j + 1) := fun j j1 j2 => ((zRep_9 R).2.2.2.2 j j1 j2).2.1
  have hun : ∀ i j, 0 ≤ i → i < j → j < c 146 3 → ¬ (c 146 (230 + 4 * i + 1) = z ∧ c 146 (230 + 4 * j + 1) = z) := fun i j i1 i2 j2 h => by
    have := I.2.2.2.2.2.2 i j i1 i2 j2
    have := I.2.2.2.2.2.1 i i1 (by omega)
    omega
  unfold zFind at h1
  unfold zFo at h2
  unfold zBh at h3
  rcases h1 with ⟨k1, k2, k3, k4⟩ | ⟨k1, k2⟩
  · have hi := hst i k1 (by omega)
    have hpi := ((zRep_9 R).2.2.2.2 i k1 (by omega)).1
    have hvi := I.2.2.2.2.2.1 i k1 (by omega)
    have hki := ((zRep_9 R).2.1 (c 25 i) (by omega) (by omega)).1
    rcases h3 with ⟨m1, m2⟩ | ⟨j, m1, m2, m3, m4⟩
    · exact absurd (hi.symm.trans k3) (m2 i k1 (by omega))
    · have hij : i = j := by
        rcases Int.lt_trichotomy i j with h9 | h9 | h9
        · exact absurd ⟨hi.symm.trans k3, m3⟩ (hun i j k1 h9 m2)
        · exact h9
        · exact absurd ⟨m3, hi.symm.trans k3⟩ (hun j i m1 h9 (by omega))
      subst hij
      rw [hki, hpi] at h2
      rcases h2 with ⟨g1, g2⟩ | ⟨g1, g2, g3⟩ | ⟨g1, g2, g3⟩
      · omega
      · constructor
        · intro h9; omega
        · intro h9
          rw [m4] at h9
          rw [h9] at q3
          exact absurd q3 g2
      · rw [g3, m4]
  · have hA : A = -9 := by
      clear h3
      omega
    rcases h3 with ⟨m1, m2⟩ | ⟨j, m1, m2, m3, m4⟩
    · constructor <;> intro h9 <;> omega
    · exact absurd ((hst j m1 m2).trans m3) (k2 j m1 (by omega))
theorem cmp_f (R : zRep c 9 (c 146)) (I : zInv B (c 146)) {z i A bh : Int} (h1 : zFind (c 24 0) (fun j => c 26 j + c 27 j) z i) (h2 : zFo c i A) (h3 : zBf c z (c 146 3) bh) : zCmp (c 146) A bh ∧ 0 ≤ bh ∧ bh < 17 := by
  have hI := I.1
  have hb : 0 ≤ bh ∧ bh < 17 := by
    unfold zBf at h3
    rcases h3 with ⟨m1, m2⟩ | ⟨j, m1, m2, m3, m4⟩
    · omega
    · have := I.2.2.2.2.2.1 j m1 m2
      omega
  refine ⟨?_, hb⟩
  intro q q1 q2 q3
  have a4 := (zRep_9 R).1.2.2.2
  have hst : ∀ j, 0 ≤ j → j < c 146 3 → c 26 j + c 27 j = c 146 (230 + 4 * j + 1) + c 146 (230 + 4 * j + 2) := fun j j1 j2 => by
    obtain ⟨b1, b2, b3, b4⟩ := (zRep_9 R).2.2.2.2 j j1 j2
    rw [b2, b3]
  have hun : ∀ i j, 0 ≤ i → i < j → j < c 146 3 → ¬ (c 146 (230 + 4 * i + 1) + c 146 (230 + 4 * i + 2) = z ∧ c 146 (230 + 4 * j + 1) + c 146 (230 + 4 * j + 2) = z) := fun i j i1 i2 j2 h => by
    have := I.2.2.2.2.2.2 i j i1 i2 j2
    have := I.2.2.2.2.2.1 j (by omega) (by omega)
    omega
  unfold zFind at h1
  unfold zFo at h2
  unfold zBf at h3
  rcases h1 with ⟨k1, k2, k3, k4⟩ | ⟨k1, k2⟩
  · have hi := hst i k1 (by omega)
    dsimp only at k3
    have hpi := ((zRep_9 R).2.2.2.2 i k1 (by omega)).1
    have hvi := I.2.2.2.2.2.1 i k1 (by omega)
    have hki := ((zRep_9 R).2.1 (c 25 i) (by omega) (by omega)).1
    rcases h3 with ⟨m1, m2⟩ | ⟨j, m1, m2, m3, m4⟩
    · exact absurd (hi.symm.trans k3) (m2 i k1 (by omega))
    · have hij : i = j := by
        rcases Int.lt_trichotomy i j with h9 | h9 | h9
        · exact absurd ⟨hi.symm.trans k3, m3⟩ (hun i j k1 h9 m2)
        · exact h9
        · exact absurd ⟨m3, hi.symm.trans k3⟩ (hun j i m1 h9 (by omega))
      subst hij
      rw [hki, hpi] at h2
      rcases h2 with ⟨g1, g2⟩ | ⟨g1, g2, g3⟩ | ⟨g1, g2, g3⟩
      · omega
      · constructor
        · intro h9; omega
        · intro h9
          rw [m4] at h9
          rw [h9] at q3
          exact absurd q3 g2
      · rw [g3, m4]
  · have hA : A = -9 := by
      clear h3
      omega
    rcases h3 with ⟨m1, m2⟩ | ⟨j, m1, m2, m3, m4⟩
    · constructor <;> intro h9 <;> omega
    · exact absurd ((hst j m1 m2).trans m3) (k2 j m1 (by omega))
end SG
/-- what both find -/
theorem fd_both {c c3 c1 cm : zC} {B a z f be bh : Int} {s : List Int} (R : zRep c 9 (c 146)) (I : zInv B (c 146)) (hz : 0 ≤ a ∧ a < z ∧ z ≤ 10080 ∧ z - a ≤ 240) (hfd : zFnd c c3 a z f s) (e1 : c1 146 = c 146) (g1 : zBf c1 a (c1 146 3) be) (g2 : zBh c1 z (c1 146 3) bh) (g3 : zMs c1 cm a z bh) : ∃ (c2 : zC) (fb : Int), zTwo c c2 (cm 153) a z bh ∧ (0 ≤ be ∧ be < 17) ∧ zCmp (c 146) fb be ∧ ((zChs c2 s 0 fb ∧ f = s.length ∧ cm 153 be = s.length ∧ (s.length : Int) ≤ 240) ∨ (zChN c2 s 0 fb ∧ f = -9 ∧ cm 153 be = 999)) := by
  obtain ⟨c2, fb, ⟨k1, k2⟩, ⟨i, k3, k4⟩, ⟨j, k5, k6⟩, k7, k8, k9, k10, k11⟩ := hfd
  have g1' : zBf c a (c 146 3) be := by unfold zBf at g1 ⊢; rw [e1] at g1; exact g1
  have g2' : zBh c z (c 146 3) bh := by unfold zBh at g2 ⊢; rw [e1] at g2; exact g2
  have hT : zTwo c c2 (cm 153) a z bh := ⟨⟨R, B, I⟩, hz, k10, ⟨k1, k2⟩, cmp_h R I k3 k4 g2', k7, fun t p t1 t2 p1 p2 => by
    have := g3.1 t p t1 t2 p1 p2
    rw [zRw_e e1, e1] at this
    exact this⟩
  obtain ⟨h1, h2⟩ := cmp_f R I k5 k6 g1'
  refine ⟨c2, fb, hT, h2, h1, ?_⟩
  rcases k8 with ⟨q1, q2, q3⟩ | ⟨q1, q2⟩
  · have h9 := zTwo_some hT s 0 fb be (by omega) (by omega) h2.1 h2.2 h1 q1 (fun h => by omega)
    rw [show 17 * (a + 0 - a) + be = be by omega] at h9
    have h8 := zChs_len (c := c2) (fun t t1 t2 => k7 t t1 (by omega)) (by rw [k10 10 (by decide), k10 12 (by decide)]; exact fun p p1 p2 => (zX_ln R I p p1 p2).1) s 0 fb (by omega) q1
    exact Or.inl ⟨q1, q2, h9, by omega⟩
  · have h9 := zTwo_none hT s 0 fb be (by omega) h2.1 h2.2 h1 q1
    rw [show 17 * (a + 0 - a) + be = be by omega] at h9
    exact Or.inr ⟨q1, q2, h9⟩
theorem st_fill {L : Nat} {xs : Nat → Int32} {k : Int} (hk : 0 ≤ k) {a z : Int} : zStep L xs k 46 112 [zI a, zI z] [zI a, zI z] := zStep_mk (fun n sl S c hS hB hC => by
  obtain ⟨R, I, hH⟩ := id hC
  obtain ⟨a1, a2, a3, a4⟩ := (zRep_9 R).1
  have hHit : zHit (c 24 0) (c 26) (c 27) a z ↔ zHit (c 146 3) (fun j => c 146 (230 + 4 * j + 1)) (fun j => c 146 (230 + 4 * j + 2)) a z := by
    rw [a4]
    exact zHit_iff (fun j j1 j2 => ⟨((zRep_9 R).2.2.2.2 j j1 j2).2.1, ((zRep_9 R).2.2.2.2 j j1 j2).2.2.1⟩)
  have hM := fun (c1 : zC) (hB1 : zBd c1) (e146 : c1 146 = c 146) (e145 : c1 145 2 = c 145 2) => by
    have I1 : zInv (60 * k) (c1 146) := by rw [e146]; exact I
    have h9 := e_X9_fill (d := 9) (n := n) (sl := sl) (a := a) (z := z) hS hB1 I1.1.2.2.2 (zM_ip I1) (zM_bl I1) I1.1.2.1 (zM_ln I1) I1.1.1 (by rw [e145, hH.1.2.2]; exact hH.1.1)
    rw [e146] at h9
    exact h9
  refine zE.mono (e_X8_fill (d := 9) hS hB (zX_c R I) (fun i i1 i2 => by have := zX_it2 R I i i1 i2; omega) (zX_bl R I) (zX_n R I) (zX_pq R I) (zX_ln R I) hH.1.1 hH.1.2.1 (zX_cn R I)) ?_
  rintro r μ' ⟨x, c1, rfl, rfl, h⟩
  rcases h with ⟨h1, h2, h3⟩ | ⟨h1, h2, h3, h4⟩ | ⟨h1, h2, f, c3, s, hfd, h3⟩
  · rw [h3]
    refine ⟨_, c, rfl, rfl, fun _ _ => rfl, zE.mono (hM c hB rfl rfl) ?_⟩
    rintro r μ' ⟨y, c2, rfl, rfl, g⟩
    rcases g with ⟨g1, g2, g3⟩ | ⟨g1, _⟩ | ⟨g1, _⟩
    · rw [g3]
      exact ⟨c, by rw [h2, g2], rfl, fun _ _ => rfl, hB, zCore_fr hk hC (fun _ _ => rfl) rfl⟩
    · exact absurd g1 h1
    · exact absurd g1 h1
  · rw [h4]
    refine ⟨_, c, rfl, rfl, fun _ _ => rfl, zE.mono (hM c hB rfl rfl) ?_⟩
    rintro r μ' ⟨y, c2, rfl, rfl, g⟩
    rcases g with ⟨g1, _⟩ | ⟨g1, g2, g3, g4⟩ | ⟨g1, g2, _⟩
    · exact absurd h1 g1
    · rw [g4]
      exact ⟨c, by rw [h3, g3], rfl, fun _ _ => rfl, hB, zCore_fr hk hC (fun _ _ => rfl) rfl⟩
    · exact absurd (hHit.mp h2) g2
  · have hfr : ∀ r, (r < 137 ∨ 142 < r) → c3 r = c r := by
      obtain ⟨c2, fb, -, -, -, -, -, k9, k10, -⟩ := hfd
      exact fun r hr => (k9 r (by omega)).trans (k10 r hr)
    have hB3 : zBd c3 := by
      obtain ⟨c2, fb, -, -, -, -, -, -, -, k11⟩ := hfd
      exact k11
    have hO3 : ∀ r, zOut r → c3 r = c r := fun r hr => hfr r (by unfold zOut at hr; omega)
    have hnh : ¬ zHit (c 146 3) (fun j => c 146 (230 + 4 * j + 1)) (fun j => c 146 (230 + 4 * j + 2)) a z := fun h9 => h2 (hHit.mpr h9)
    -- the model where it finds nothing, or no room
    have hbad : ∀ (x : Int), ((f = -9 ∧ x = -9) ∨ (f ≠ -9 ∧ 60 < c 24 0 + f ∧ x = -3)) → ∃ (x9 : zV) (c19 : zC), some (zI x) = some x9 ∧ ((n, sl), (S, c3)) = ((n, sl), (S, c19)) ∧ (∀ r, zOut r → c19 r = c r) ∧ zE 13 112 0 (zent 112 (zA 145 :: [zI a, zI z])) [] ((n, sl), (S, c19)) (fun r2 μ2 => ∃ c2, r2 = some x9 ∧ μ2 = ((n, sl), (S, c2)) ∧ (∀ r, zOut r → c2 r = c19 r) ∧ zBd c2 ∧ zCore (k + 1) c2) := fun x hx => by
      refine ⟨_, c3, rfl, rfl, hO3, zE.mono (hM c3 hB3 (hfr 146 (by decide)) (by rw [hfr 145 (by decide)])) ?_⟩
      rintro r μ' ⟨y, c2, rfl, rfl, g⟩
      rcases g with ⟨g1, _⟩ | ⟨_, g2, _⟩ | ⟨_, _, be, bh, cm, g3, g4, g5, g6⟩
      · exact absurd h1 g1
      · exact absurd g2 hnh
      · obtain ⟨cc2, fb, hT, hbe, hcmp, hres⟩ := fd_both R I h1 hfd (hfr 146 (by decide)) g3 g4 g5
        have hfin : y = x ∧ c2 = cm := by
          rw [show c3 146 3 = c 146 3 by rw [hfr 146 (by decide)]] at g6
          rcases hres with ⟨-, q2, q3, q4⟩ | ⟨-, q2, q3⟩
          · rcases hx with ⟨x1, x2⟩ | ⟨x1, x2, x3⟩
            · omega
            · rcases g6 with ⟨m1, m2, m3⟩ | ⟨m1, m2, m3, m4⟩ | ⟨m1, m2, -⟩
              · omega
              · exact ⟨by omega, m4⟩
              · omega
          · rcases hx with ⟨x1, x2⟩ | ⟨x1, x2, x3⟩
            · rcases g6 with ⟨m1, m2, m3⟩ | ⟨m1, -⟩ | ⟨m1, -⟩
              · exact ⟨by omega, m3⟩
              · omega
              · omega
            · omega
        obtain ⟨q1, q2⟩ := hfin
        rw [q2]
        refine ⟨cm, by rw [q1], rfl, fun r hr => g5.2.1 r (by unfold zOut at hr; omega), g5.2.2, zCore_fr hk hC (fun r hr => (g5.2.1 r (by omega)).trans (hfr r (by omega))) ?_⟩
        rw [g5.2.1 145 (by decide), hfr 145 (by decide)]
    rcases h3 with ⟨h4, h5, h6⟩ | ⟨h4, h5, h6, h7⟩ | ⟨h4, h5, h6, c4, hkb, hps⟩
    · rw [h6]
      exact hbad x (Or.inl ⟨h4, h5⟩)
    · rw [h7]
      exact hbad x (Or.inr ⟨h4, h5, h6⟩)
    · have H3 : zHis (60 * k) c3 := zHis_fr hH (hfr 29 (by decide)) (hfr 147 (by decide)) (by rw [hfr 145 (by decide)]) (fun r r1 r2 => hfr r (by omega))
      have R3 : zRep c3 9 (c3 146) := by rw [hfr 146 (by decide)]; exact zRep_fr R (fun r r1 r2 => hfr r (by omega))
      have I3 : zInv (60 * k) (c3 146) := by rw [hfr 146 (by decide)]; exact I
      have fr4 := zKpt_fr hkb H3.1.1
      obtain ⟨pf, pB⟩ := zPs_fr s c4 a c1 hps
      have hB1 := pB fr4.2
      have e31 : ∀ r, r ≠ 29 → (r < 24 ∨ 131 ≤ r) → c1 r = c3 r := fun r r1 r2 => (pf r (by omega)).trans (fr4.1 r r1 (by omega))
      have e146 : c1 146 = c 146 := (e31 146 (by decide) (by decide)).trans (hfr 146 (by decide))
      have e145 : c1 145 = c 145 := (e31 145 (by decide) (by decide)).trans (hfr 145 (by decide))
      refine ⟨_, c1, rfl, rfl, fun r hr => (e31 r (by unfold zOut at hr; omega) (by unfold zOut at hr; omega)).trans (hO3 r hr), zE.mono (hM c1 hB1 e146 (by rw [e145])) ?_⟩
      rintro r μ' ⟨y, c2, rfl, rfl, g⟩
      rcases g with ⟨g1, _⟩ | ⟨_, g2, _⟩ | ⟨_, _, be, bh, cm, g3, g4, g5, g6⟩
      · exact absurd h1 g1
      · exact absurd g2 hnh
      · obtain ⟨cc2, fb, hT, hbe, hcmp, hres⟩ := fd_both R I h1 hfd e146 g3 g4 g5
        rw [e146] at g6
        rcases hres with ⟨q1, q2, q3, q4⟩ | ⟨-, q2, -⟩
        · rcases g6 with ⟨m1, -⟩ | ⟨m1, m2, -⟩ | ⟨m1, m2, m3, ce, l, hd, m4, m5, m6⟩
          · omega
          · omega
          · have m4' := zFls_e e146 _ a z l _ _ _ _ m4
            have hsl : s = l := zTwo_seq hT s l 0 fb be (c 146) (c2 146) (by omega) hbe.1 hbe.2 hcmp q1 (by rw [Int.add_zero]; exact m4')
            subst hsl
            have R4 : zRep c4 9 (c 146) := by
              have := zKp_r H3.1.1 hkb R3
              rw [hfr 146 (by decide)] at this
              exact this
            obtain ⟨R5, I5, F5⟩ := fl_rep hT s c4 c1 (c 146) (c2 146) 0 be R4 I zSm.rf (by omega) (by omega) (by rw [Int.add_zero]; exact hnh) (by rw [Int.add_zero]; exact hps) (by rw [Int.add_zero]; exact m4')
            have hdf := zDid_fr hd
            have hc2 : ∀ r, (r < 145 ∨ 154 < r) → c2 r = c1 r := fun r hr => by
              rw [m5 r (by omega), hdf.1 r (by omega) (by omega)]
              exact g5.2.1 r (by omega)
            refine ⟨c2, by rw [h6, m3, q2, q3], rfl, fun r hr => hc2 r (by unfold zOut at hr; omega), m6, zRep_fr R5 (fun r r1 r2 => hc2 r (by omega)), I5.up (by omega), ?_⟩
            exact zHis_up (zHis_act H3 R3 I3 hkb hd ((g5.2.1 146 (by decide)).trans (e31 146 (by decide) (by decide))) ((g5.2.1 147 (by decide)).trans (e31 147 (by decide) (by decide))) (by rw [g5.2.1 145 (by decide), e31 145 (by decide) (by decide)]) (by rw [hc2 29 (by decide)]; exact pf 29 (by decide)) (m5 147 (by decide)) (by rw [m5 145 (by decide)]) (fun r r1 r2 => (hc2 r (by omega)).trans (pf r (by omega)))) (by omega)
        · omega)
