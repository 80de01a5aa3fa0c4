/-! the calls that ask, and those that are refused, against a row -/
theorem zFst_cg {n : Int} {st ln st' ln' : Int → Int} {a b x : Int} (h : zFst n st ln a b x) (e : ∀ j, 0 ≤ j → j < n → st j = st' j ∧ ln j = ln' j) : zFst n st' ln' a b x := by
  unfold zFst at h ⊢
  rcases h with ⟨h1, h2, h3, h4, h5⟩ | ⟨h1, h2⟩
  · obtain ⟨e1, e2⟩ := e x h1 h2
    refine Or.inl ⟨h1, h2, by omega, by omega, fun j j1 j2 h9 => h5 j j1 j2 ?_⟩
    obtain ⟨e3, e4⟩ := e j j1 (by omega)
    omega
  · refine Or.inr ⟨h1, fun j j1 j2 h9 => h2 j j1 j2 ?_⟩
    obtain ⟨e3, e4⟩ := e j j1 j2
    omega
theorem zCnt8_in {c : zC} : ∀ (k : Nat) (x : Int), zCnt8 c k x → 0 ≤ x ∧ x ≤ k
  | 0, x, h => by
    have h2 : x = 0 := h
    omega
  | k + 1, x, h => by
    rcases h with ⟨h1, h2⟩ | ⟨h1, h2⟩
    · have := zCnt8_in k _ h2
      omega
    · have := zCnt8_in k _ h2
      omega
def qM (v : Int → Int) (g a b : Int) : Int := if g = 4 then b - a - zSum (fun j => zMin (v (230 + 4 * j + 1)) (v (230 + 4 * j + 1) + v (230 + 4 * j + 2)) a b) (v 3) else zSum (fun j => if v (10 + 4 * v (230 + 4 * j + 0)) = g then zMin (v (230 + 4 * j + 1)) (v (230 + 4 * j + 1) + v (230 + 4 * j + 2)) a b else 0) (v 3)
def qSi (v : Int → Int) (a b x : Int) : Prop := zSlR (zSl (v 3) (fun j => v (230 + 4 * j + 1)) (fun j => v (230 + 4 * j + 1) + v (230 + 4 * j + 2)) a b (v 3 + 1).toNat) x
def qEr (v : Int → Int) (p a x : Int) : Prop := (x = -9 ∧ ∀ j, a ≤ j → j ≤ a + 1439 → j < 10080 → ¬ qOb v p j 0) ∨ (a ≤ x ∧ x ≤ a + 1439 ∧ x < 10080 ∧ qOb v p x 0 ∧ ∀ j, a ≤ j → j < x → ¬ qOb v p j 0)
theorem er_v {B : Int} {c : zC} {v : Int → Int} (R : zRep c 9 v) (I : zInv B v) {p a x : Int} (hp : 0 ≤ p ∧ p < v 0) (h : zErlX c p a x) : qEr v p a x := by
  have e : ∀ j, zObs c p j 0 ↔ qOb v p j 0 := fun j => ob_v R I hp
  unfold zErlX at h
  unfold qEr
  rcases h with ⟨h1, h2⟩ | ⟨h1, h2, h3, h4, h5⟩
  · exact Or.inl ⟨h1, fun j j1 j2 j3 h9 => h2 j j1 j2 j3 ((e j).mpr h9)⟩
  · exact Or.inr ⟨h1, h2, h3, (e x).mp h4, fun j j1 j2 h9 => h5 j j1 j2 ((e j).mpr h9)⟩
def kP (n sl : Nat) (S : zSh) (hi : zC) (B : Int) (v : Int → Int) (tp : Option (Int → Int)) (P : Int → Prop) : Option zV → zMem → Prop := fun r μ' => ∃ (x : Int) (c' : zC), r = some (zI x) ∧ μ' = ((n, sl), (S, c')) ∧ P x ∧ zG hi B v tp c'
section KQ
variable {d n sl : Nat} {S : zSh} {hi c : zC} {B : Int} {v : Int → Int} {tp : Option (Int → Int)}
theorem k_items (hS : zSok S) (G : zG hi B v tp c) : zE (d + 6) 49 0 (zent 49 [zA 8]) [] ((n, sl), (S, c)) (kP n sl S hi B v tp (fun x => x = v 3)) := by
  refine zE.mono (e_X8_items (d := d + 6) hS G.2.1) ?_
  rintro r μ' ⟨rfl, rfl⟩
  exact ⟨_, c, rfl, rfl, (zRep_9 G.2.2.1).1.2.2.2, G⟩
theorem k_item (hS : zSok S) (G : zG hi B v tp c) {a w : Int} (ha : 0 ≤ a ∧ a < v 3) (hw : 0 ≤ w ∧ w ≤ 3) : zE (d + 6) 50 0 (zent 50 [zA 8, zI a, zI w]) [] ((n, sl), (S, c)) (kP n sl S hi B v tp (fun x => x = v (230 + 4 * a + w))) := by
  obtain ⟨g1, hB, R, I, H⟩ := id G
  have a4 := (zRep_9 R).1.2.2.2
  refine zE.mono (e_X8_item (d := d + 2) hS hB (zX_c R I) (zX_it2 R I) (zX_r R I) (zX_pl R I)) ?_
  rintro r μ' ⟨x, c1, rfl, rfl, h⟩
  rcases h with ⟨h1, -, -⟩ | ⟨h1, h2, hf, hB1⟩
  · exact absurd ⟨by omega, by omega⟩ h1
  · refine ⟨_, c1, rfl, rfl, ?_, zG_fr G (fun r hr => hf r (by omega)) hB1⟩
    obtain ⟨b1, b2, b3, b4⟩ := (zRep_9 R).2.2.2.2 a (by omega) (by omega)
    rcases h2 with ⟨q1, q2⟩ | ⟨q1, q2⟩ | ⟨q1, q2⟩ | ⟨q1, q2⟩ | ⟨q1, q2, q3⟩
    · rw [q2, q1, b1]
    · rw [q2, q1, b2]
    · rw [q2, q1, b3]
    · rw [q2, q1, b4]
    · omega
theorem k_use (hS : zSok S) (G : zG hi B v tp c) {a : Int} (ha : 0 ≤ a ∧ a < v 3) : zE (d + 6) 50 0 (zent 50 [zA 8, zI a, zI 4]) [] ((n, sl), (S, c)) (kP n sl S hi B v tp (fun x => x = qU v a)) := by
  obtain ⟨g1, hB, R, I, H⟩ := id G
  have a4 := (zRep_9 R).1.2.2.2
  refine zE.mono (e_X8_item (d := d + 2) hS hB (zX_c R I) (zX_it2 R I) (zX_r R I) (zX_pl R I)) ?_
  rintro r μ' ⟨x, c1, rfl, rfl, h⟩
  rcases h with ⟨h1, -, -⟩ | ⟨h1, h2, hf, hB1⟩
  · exact absurd ⟨by omega, by omega⟩ h1
  · refine ⟨_, c1, rfl, rfl, ?_, zG_fr G (fun r hr => hf r (by omega)) hB1⟩
    rcases h2 with ⟨q1, q2⟩ | ⟨q1, q2⟩ | ⟨q1, q2⟩ | ⟨q1, q2⟩ | ⟨q1, q2, q3⟩
    · omega
    · omega
    · omega
    · omega
    · obtain ⟨y, y1, y2⟩ := u_v R I (k := a) (by omega)
      rw [q3 y y1, y2]
theorem k_itemB (hS : zSok S) (G : zG hi B v tp c) {a w : Int} (ha : ¬ (0 ≤ a ∧ a < v 3)) : zE (d + 6) 50 0 (zent 50 [zA 8, zI a, zI w]) [] ((n, sl), (S, c)) (kP n sl S hi B v tp (fun x => x = -1)) := by
  obtain ⟨g1, hB, R, I, H⟩ := id G
  have a4 := (zRep_9 R).1.2.2.2
  refine zE.mono (e_X8_item (d := d + 2) hS hB (zX_c R I) (zX_it2 R I) (zX_r R I) (zX_pl R I)) ?_
  rintro r μ' ⟨x, c1, rfl, rfl, h⟩
  rcases h with ⟨-, h2, rfl⟩ | ⟨h1, -⟩
  · exact ⟨_, _, rfl, rfl, h2, G⟩
  · exact absurd h1.1 (by rw [a4]; exact ha)
theorem k_onAir (hS : zSok S) (G : zG hi B v tp c) {t : Int} (ht : 0 ≤ t ∧ t ≤ 10079) : zE (d + 6) 51 0 (zent 51 [zA 8, zI t]) [] ((n, sl), (S, c)) (kP n sl S hi B v tp (zFst (v 3) (fun j => v (230 + 4 * j + 1)) (fun j => v (230 + 4 * j + 2)) t (t + 1))) := by
  obtain ⟨g1, hB, R, I, H⟩ := id G
  have a4 := (zRep_9 R).1.2.2.2
  refine zE.mono (e_X8_onAir (d := d + 4) hS hB (zX_c R I)) ?_
  rintro r μ' ⟨x, rfl, hx, rfl⟩
  refine ⟨_, c, rfl, rfl, ?_, G⟩
  rcases hx with hx | hx
  · exact absurd ht hx.1
  · rw [a4] at hx
    exact zFst_cg hx.2 (fun j j1 j2 => ⟨((zRep_9 R).2.2.2.2 j j1 j2).2.1, ((zRep_9 R).2.2.2.2 j j1 j2).2.2.1⟩)
theorem k_onAirB (hS : zSok S) (G : zG hi B v tp c) {t : Int} (ht : ¬ (0 ≤ t ∧ t ≤ 10079)) : zE (d + 6) 51 0 (zent 51 [zA 8, zI t]) [] ((n, sl), (S, c)) (kP n sl S hi B v tp (fun x => x = -1)) := by
  obtain ⟨g1, hB, R, I, H⟩ := id G
  refine zE.mono (e_X8_onAir (d := d + 4) hS hB (zX_c R I)) ?_
  rintro r μ' ⟨x, rfl, hx, rfl⟩
  refine ⟨_, c, rfl, rfl, ?_, G⟩
  rcases hx with hx | hx
  · exact hx.2
  · exact absurd hx.1 ht
theorem k_left (hS : zSok S) (G : zG hi B v tp c) {r : Int} (hr : 0 ≤ r ∧ r < v 2) : zE (d + 6) 52 0 (zent 52 [zA 8, zI r]) [] ((n, sl), (S, c)) (kP n sl S hi B v tp (fun x => x = qL v r)) := by
  obtain ⟨g1, hB, R, I, H⟩ := id G
  have a2 := (zRep_9 R).1.2.1
  refine zE.mono (e_X8_left (d := d + 2) hS hB (zX_c R I) (zX_it2 R I) (zX_r R I) (zX_pl R I)) ?_
  rintro r μ' ⟨x, c1, rfl, rfl, h⟩
  rcases h with ⟨h1, -, -⟩ | ⟨h1, h2, hf, hB1⟩
  · exact absurd ⟨by omega, by omega⟩ h1
  · exact ⟨_, c1, rfl, rfl, by rw [h2, l_v R I (by omega)], zG_fr G (fun r hr => hf r (by omega)) hB1⟩
theorem k_leftB (hS : zSok S) (G : zG hi B v tp c) {r : Int} (hr : ¬ (0 ≤ r ∧ r < v 2)) : zE (d + 6) 52 0 (zent 52 [zA 8, zI r]) [] ((n, sl), (S, c)) (kP n sl S hi B v tp (fun x => x = -1)) := by
  obtain ⟨g1, hB, R, I, H⟩ := id G
  have a2 := (zRep_9 R).1.2.1
  refine zE.mono (e_X8_left (d := d + 2) hS hB (zX_c R I) (zX_it2 R I) (zX_r R I) (zX_pl R I)) ?_
  rintro r μ' ⟨x, c1, rfl, rfl, h⟩
  rcases h with ⟨-, h2, rfl⟩ | ⟨h1, -⟩
  · exact ⟨_, _, rfl, rfl, h2, G⟩
  · exact absurd ⟨h1.1, by omega⟩ hr
theorem k_may (hS : zSok S) (G : zG hi B v tp c) {p s : Int} (hp : 0 ≤ p ∧ p < v 0) (hs : 0 ≤ s ∧ s ≤ 10079) : zE (d + 6) 53 0 (zent 53 [zA 8, zI p, zI s]) [] ((n, sl), (S, c)) (kP n sl S hi B v tp (qOb v p s)) := by
  obtain ⟨g1, hB, R, I, H⟩ := id G
  have a1 := (zRep_9 R).1.1
  refine zE.mono (e_X8_mayPlace (d := d + 1) hS hB (zX_c R I) (zX_it2 R I) (zX_r R I) (zX_pl R I) (zX_bl R I) (zX_n R I) (zX_pq R I) (zX_ln R I)) ?_
  rintro r μ' ⟨x, c1, rfl, rfl, h, hf, hB1⟩
  refine ⟨_, c1, rfl, rfl, ?_, zG_fr G (fun r hr => hf r (by omega)) hB1⟩
  rcases h with ⟨h1, h2⟩ | ⟨h1, h2⟩
  · exact absurd ⟨hp.1, by omega, hs.1, hs.2⟩ h1
  · exact (ob_v R I hp).mp h2
theorem k_mayB (hS : zSok S) (G : zG hi B v tp c) {p s : Int} (hp : ¬ (0 ≤ p ∧ p < v 0 ∧ 0 ≤ s ∧ s ≤ 10079)) : zE (d + 6) 53 0 (zent 53 [zA 8, zI p, zI s]) [] ((n, sl), (S, c)) (kP n sl S hi B v tp (fun x => x = -1)) := by
  obtain ⟨g1, hB, R, I, H⟩ := id G
  have a1 := (zRep_9 R).1.1
  refine zE.mono (e_X8_mayPlace (d := d + 1) hS hB (zX_c R I) (zX_it2 R I) (zX_r R I) (zX_pl R I) (zX_bl R I) (zX_n R I) (zX_pq R I) (zX_ln R I)) ?_
  rintro r μ' ⟨x, c1, rfl, rfl, h, hf, hB1⟩
  refine ⟨_, c1, rfl, rfl, ?_, zG_fr G (fun r hr => hf r (by omega)) hB1⟩
  rcases h with ⟨h1, h2⟩ | ⟨h1, h2⟩
  · exact h2
  · exact absurd ⟨h1.1, by omega, h1.2.2.1, h1.2.2.2⟩ hp
theorem k_owed (hS : zSok S) (G : zG hi B v tp c) {p : Int} (hp : 0 ≤ p ∧ p < v 0) : zE (d + 6) 54 0 (zent 54 [zA 8, zI p]) [] ((n, sl), (S, c)) (kP n sl S hi B v tp (fun x => x = v (10 + 4 * p + 3))) := by
  obtain ⟨g1, hB, R, I, H⟩ := id G
  have a1 := (zRep_9 R).1.1
  refine zE.mono (e_X8_owed (d := d + 4) hS hB (zX_pq R I)) ?_
  rintro r μ' ⟨x, rfl, hx, rfl⟩
  refine ⟨_, c, rfl, rfl, ?_, G⟩
  rcases hx with hx | hx
  · exact absurd ⟨hp.1, by omega⟩ hx.1
  · rw [hx.2, ((zRep_9 R).2.1 p hp.1 hp.2).2.2.2]
theorem k_owedB (hS : zSok S) (G : zG hi B v tp c) {p : Int} (hp : ¬ (0 ≤ p ∧ p < v 0)) : zE (d + 6) 54 0 (zent 54 [zA 8, zI p]) [] ((n, sl), (S, c)) (kP n sl S hi B v tp (fun x => x = -1)) := by
  obtain ⟨g1, hB, R, I, H⟩ := id G
  have a1 := (zRep_9 R).1.1
  refine zE.mono (e_X8_owed (d := d + 4) hS hB (zX_pq R I)) ?_
  rintro r μ' ⟨x, rfl, hx, rfl⟩
  refine ⟨_, c, rfl, rfl, ?_, G⟩
  rcases hx with hx | hx
  · exact hx.2
  · exact absurd ⟨hx.1.1, by omega⟩ hp
theorem k_minutes (hS : zSok S) (G : zG hi B v tp c) {g a b : Int} (hg : 0 ≤ g ∧ g ≤ 4) (hab : 0 ≤ a ∧ a < b ∧ b ≤ 10080) : zE (d + 6) 55 0 (zent 55 [zA 8, zI g, zI a, zI b]) [] ((n, sl), (S, c)) (kP n sl S hi B v tp (fun x => x = qM v g a b)) := by
  obtain ⟨g1, hB, R, I, H⟩ := id G
  have a4 := (zRep_9 R).1.2.2.2
  have hz : ∀ j, 0 ≤ j → j < v 3 → zMin (c 26 j) (c 26 j + c 27 j) a b = zMin (v (230 + 4 * j + 1)) (v (230 + 4 * j + 1) + v (230 + 4 * j + 2)) a b ∧ c 11 (c 25 j) = v (10 + 4 * v (230 + 4 * j + 0)) := fun j j1 j2 => by
    obtain ⟨b1, b2, b3, b4⟩ := (zRep_9 R).2.2.2.2 j j1 j2
    have hi := I.2.2.2.2.2.1 j j1 j2
    rw [b2, b3, b1, ((zRep_9 R).2.1 _ (by omega) (by omega)).1]
    exact ⟨rfl, rfl⟩
  refine zE.mono (e_X8_minutes (d := d + 4) hS hB (zX_c R I) (fun i i1 i2 => by have := zX_it2 R I i i1 i2; omega)) ?_
  rintro r μ' h
  have hv : (if g = 4 then b - a - zSum (fun j => zMin (c 26 j) (c 26 j + c 27 j) a b) (c 24 0) else zSum (fun j => if c 11 (c 25 j) = g then zMin (c 26 j) (c 26 j + c 27 j) a b else 0) (c 24 0)) = qM v g a b := by
    unfold qM
    rw [a4]
    split
    · rw [zSum_congr (fun j j1 j2 => (hz j j1 j2).1)]
    · refine zSum_congr (fun j j1 j2 => ?_)
      rw [(hz j j1 j2).1, (hz j j1 j2).2]
  rw [hv] at h
  rcases h with ⟨h1, -⟩ | ⟨-, rfl, rfl⟩
  · exact absurd ⟨hg.1, hg.2, hab.1, hab.2.1, hab.2.2⟩ h1
  · exact ⟨_, c, rfl, rfl, rfl, G⟩
theorem k_minutesB (hS : zSok S) (G : zG hi B v tp c) {g a b : Int} (hg : ¬ (0 ≤ g ∧ g ≤ 4 ∧ 0 ≤ a ∧ a < b ∧ b ≤ 10080)) : zE (d + 6) 55 0 (zent 55 [zA 8, zI g, zI a, zI b]) [] ((n, sl), (S, c)) (kP n sl S hi B v tp (fun x => x = -1)) := by
  obtain ⟨g1, hB, R, I, H⟩ := id G
  refine zE.mono (e_X8_minutes (d := d + 4) hS hB (zX_c R I) (fun i i1 i2 => by have := zX_it2 R I i i1 i2; omega)) ?_
  rintro r μ' h
  rcases h with ⟨-, rfl, rfl⟩ | ⟨h1, -⟩
  · exact ⟨_, c, rfl, rfl, rfl, G⟩
  · exact absurd h1 hg
theorem k_silence (hS : zSok S) (G : zG hi B v tp c) {a b : Int} (hab : 0 ≤ a ∧ a < b ∧ b ≤ 10080) : zE (d + 6) 56 0 (zent 56 [zA 8, zI a, zI b]) [] ((n, sl), (S, c)) (kP n sl S hi B v tp (qSi v a b)) := by
  obtain ⟨g1, hB, R, I, H⟩ := id G
  have a4 := (zRep_9 R).1.2.2.2
  refine zE.mono (e_X8_silence (d := d + 4) hS hB (zX_c R I)) ?_
  rintro r μ' h
  rcases h with ⟨h1, -⟩ | ⟨-, x, rfl, h3, rfl⟩
  · exact absurd hab h1
  · refine ⟨x, c, rfl, rfl, ?_, G⟩
    rw [a4, zSl_congr (fun j j1 j2 => ⟨((zRep_9 R).2.2.2.2 j j1 j2).2.1, by rw [((zRep_9 R).2.2.2.2 j j1 j2).2.1, ((zRep_9 R).2.2.2.2 j j1 j2).2.2.1]⟩)] at h3
    exact h3
theorem k_silenceB (hS : zSok S) (G : zG hi B v tp c) {a b : Int} (hab : ¬ (0 ≤ a ∧ a < b ∧ b ≤ 10080)) : zE (d + 6) 56 0 (zent 56 [zA 8, zI a, zI b]) [] ((n, sl), (S, c)) (kP n sl S hi B v tp (fun x => x = -1)) := by
  obtain ⟨g1, hB, R, I, H⟩ := id G
  refine zE.mono (e_X8_silence (d := d + 4) hS hB (zX_c R I)) ?_
  rintro r μ' h
  rcases h with ⟨-, rfl, rfl⟩ | ⟨h1, -⟩
  · exact ⟨_, c, rfl, rfl, rfl, G⟩
  · exact absurd h1 hab
theorem k_rankedB (hS : zSok S) (G : zG hi B v tp c) {a : Int} (ha : ¬ (0 ≤ a ∧ a < v 0)) : zE (d + 6) 57 0 (zent 57 [zA 8, zI a]) [] ((n, sl), (S, c)) (kP n sl S hi B v tp (fun x => x = -1)) := by
  obtain ⟨g1, hB, R, I, H⟩ := id G
  have a1 := (zRep_9 R).1.1
  refine zE.mono (e_X8_ranked (d := d + 3) hS hB (zX_c R I) (zX_pq R I) (fun h1 h2 => absurd ⟨h1, by omega⟩ ha)) ?_
  rintro r μ' h
  rcases h with ⟨-, rfl, rfl⟩ | ⟨h1, -⟩
  · exact ⟨_, c, rfl, rfl, rfl, G⟩
  · exact absurd ⟨h1.1, by omega⟩ ha
theorem k_broken (hS : zSok S) (G : zG hi B v tp c) : zE (d + 6) 58 0 (zent 58 [zA 8]) [] ((n, sl), (S, c)) (kP n sl S hi B v tp (fun x => 0 ≤ x ∧ x ≤ v 3)) := by
  obtain ⟨g1, hB, R, I, H⟩ := id G
  have a4 := (zRep_9 R).1.2.2.2
  refine zE.mono (e_X8_broken (d := d + 5) hS hB (zX_c R I) (zX_bl R I) (zX_n R I) (fun i i1 i2 => by have := zX_it R I i i1 i2; have := zX_pq R I; omega)) ?_
  rintro r μ' ⟨x, rfl, hx, rfl⟩
  have := zCnt8_in _ _ hx
  have := zX_c R I
  exact ⟨_, c, rfl, rfl, by omega, G⟩
theorem k_earl (hS : zSok S) (G : zG hi B v tp c) {p a : Int} (hp : 0 ≤ p ∧ p < v 0) (ha : 0 ≤ a ∧ a ≤ 10079) : zE (d + 6) 45 0 (zent 45 [zA 8, zI p, zI a]) [] ((n, sl), (S, c)) (kP n sl S hi B v tp (qEr v p a)) := by
  obtain ⟨g1, hB, R, I, H⟩ := id G
  have a1 := (zRep_9 R).1.1
  refine zE.mono (e_X8_earliest (d := d) hS hB (zX_c R I) (zX_it2 R I) (zX_r R I) (zX_pl R I) (zX_bl R I) (zX_n R I) (zX_pq R I) (zX_ln R I) (fun p _ _ => zRt_of)) ?_
  rintro r μ' ⟨x, c1, rfl, rfl, h⟩
  rcases h with ⟨h1, -, -⟩ | ⟨h1, h2, hf, hB1⟩
  · exact absurd ⟨⟨hp.1, by omega⟩, ha⟩ h1
  · exact ⟨_, c1, rfl, rfl, er_v R I hp h2, zG_fr G (fun r hr => hf r (by omega)) hB1⟩
theorem k_earlB (hS : zSok S) (G : zG hi B v tp c) {p a : Int} (hp : ¬ ((0 ≤ p ∧ p < v 0) ∧ (0 ≤ a ∧ a ≤ 10079))) : zE (d + 6) 45 0 (zent 45 [zA 8, zI p, zI a]) [] ((n, sl), (S, c)) (kP n sl S hi B v tp (fun x => x = -1)) := by
  obtain ⟨g1, hB, R, I, H⟩ := id G
  have a1 := (zRep_9 R).1.1
  refine zE.mono (e_X8_earliest (d := d) hS hB (zX_c R I) (zX_it2 R I) (zX_r R I) (zX_pl R I) (zX_bl R I) (zX_n R I) (zX_pq R I) (zX_ln R I) (fun p _ _ => zRt_of)) ?_
  rintro r μ' ⟨x, c1, rfl, rfl, h⟩
  rcases h with ⟨-, h2, rfl⟩ | ⟨h1, -⟩
  · exact ⟨_, _, rfl, rfl, h2, G⟩
  · exact absurd ⟨⟨h1.1.1, by omega⟩, h1.2⟩ hp
theorem k_fp (hS : zSok S) (G : zG hi B v tp c) : zE (d + 6) 61 0 (zent 61 [zA 8]) [] ((n, sl), (S, c)) (fun r μ' => ∃ c' : zC, r = some (zJ (qF v)) ∧ μ' = ((n, sl), (S, c')) ∧ zG hi B v tp c') := by
  obtain ⟨g1, hB, R, I, H⟩ := id G
  obtain ⟨a1, a2, a3, a4⟩ := (zRep_9 R).1
  refine zE.mono (e_X8_fingerprint (d := d + 2) hS hB (zX_c R I) (zX_it2 R I) (zX_r R I) (zX_pl R I) (zX_pq R I)) ?_
  rintro r μ' ⟨c1, rfl, rfl, hu, hl, hf, hB1⟩
  refine ⟨c1, ?_, rfl, zG_fr G (fun r hr => hf r (by omega)) hB1⟩
  rw [a1, a2, a3, a4]
  have hI := I.1
  refine congrArg (fun z => some (zJ z)) ?_
  unfold qF zPrt
  rw [zHi_congr (g := zGX c1) (g' := fun k i => if k < 4 then v (230 + 4 * i + k) else qU v i) (v 3).toNat (fun q i q1 q2 i1 i2 => ?_), zHs_congr (f := c 14) (f' := fun p => v (10 + 4 * p + 3)) (v 0).toNat (fun p p1 p2 => ((zRep_9 R).2.1 p p1 (by omega)).2.2.2), zHs_congr (f := c1 136) (f' := qL v) (v 2).toNat (fun r r1 r2 => by rw [hl r r1 (by omega), l_v R I (by omega)])]
  obtain ⟨b1, b2, b3, b4⟩ := (zRep_9 R).2.2.2.2 i i1 (by omega)
  unfold zGX
  rw [hf 25 (by decide), hf 26 (by decide), hf 27 (by decide), hf 28 (by decide)]
  (try dsimp only)
  by_cases h0 : q = 0
  · rw [if_pos h0, if_pos (by omega), h0, b1]
  · rw [if_neg h0]
    by_cases h1 : q = 1
    · rw [if_pos h1, if_pos (by omega), h1, b2]
    · rw [if_neg h1]
      by_cases h2 : q = 2
      · rw [if_pos h2, if_pos (by omega), h2, b3]
      · rw [if_neg h2]
        by_cases h3 : q = 3
        · rw [if_pos h3, if_pos (by omega), h3, b4]
        · rw [if_neg h3, if_neg (by omega)]
          obtain ⟨y, y1, y2⟩ := u_v R I (k := i) (by omega)
          have h9 := hu i.toNat y y1
          rw [show ((i.toNat : Nat) : Int) = i by omega] at h9
          rw [h9, y2]
/-! refused -/
theorem k_addPB (hS : zSok S) (G : zG hi B v tp c) {a l e : Int} (h : ¬ ((0 ≤ a ∧ a ≤ 3) ∧ (1 ≤ l ∧ l ≤ 240) ∧ (0 ≤ e ∧ e ≤ 3))) : zE (d + 6) 40 0 (zent 40 [zA 8, zI a, zI l, zI e]) [] ((n, sl), (S, c)) (kP n sl S hi B v tp (fun x => x = -1)) := by
  obtain ⟨g1, hB, R, I, H⟩ := id G
  refine zE.mono (e_X8_addProgramme (d := d + 2) hS hB H.1 H.2.1 (zX_cn R I) (zX_pq R I) (zX_pq R I)) ?_
  rintro r μ' ⟨x, c1, rfl, rfl, h9⟩
  rcases h9 with ⟨-, h2, rfl⟩ | ⟨h1, -⟩ | ⟨h1, -⟩
  · exact ⟨_, _, rfl, rfl, h2, G⟩
  · exact absurd h1 h
  · exact absurd h1 h
theorem k_addRB (hS : zSok S) (G : zG hi B v tp c) {p a b l : Int} (h : ¬ ((0 ≤ p ∧ p < v 0) ∧ (0 ≤ a ∧ a < b ∧ b ≤ 10080) ∧ (1 ≤ l ∧ l ≤ 50))) : zE (d + 6) 41 0 (zent 41 [zA 8, zI p, zI a, zI b, zI l]) [] ((n, sl), (S, c)) (kP n sl S hi B v tp (fun x => x = -1)) := by
  obtain ⟨g1, hB, R, I, H⟩ := id G
  have a1 := (zRep_9 R).1.1
  refine zE.mono (e_X8_addRight (d := d + 2) hS hB H.1 H.2.1 (zX_cn R I) (zX_r R I) (zX_pq R I)) ?_
  rintro r μ' ⟨x, c1, rfl, rfl, h9⟩
  rw [a1] at h9
  rcases h9 with ⟨-, h2, rfl⟩ | ⟨h1, -⟩ | ⟨h1, -⟩
  · exact ⟨_, _, rfl, rfl, h2, G⟩
  · exact absurd h1 h
  · exact absurd h1 h
theorem k_addBB (hS : zSok S) (G : zG hi B v tp c) {a b l : Int} (h : ¬ ((0 ≤ a ∧ a < b ∧ b ≤ 1440) ∧ (0 ≤ l ∧ l ≤ 3))) : zE (d + 6) 42 0 (zent 42 [zA 8, zI a, zI b, zI l]) [] ((n, sl), (S, c)) (kP n sl S hi B v tp (fun x => x = -1)) := by
  obtain ⟨g1, hB, R, I, H⟩ := id G
  refine zE.mono (e_X8_addBlackout (d := d + 2) hS hB H.1 H.2.1 (zX_cn R I) (zX_n R I) (zX_pq R I)) ?_
  rintro r μ' ⟨x, c1, rfl, rfl, h9⟩
  rcases h9 with ⟨-, h2, rfl⟩ | ⟨h1, -⟩ | ⟨h1, -⟩
  · exact ⟨_, _, rfl, rfl, h2, G⟩
  · exact absurd h1 h
  · exact absurd h1 h
theorem k_placeB (hS : zSok S) (G : zG hi B v tp c) {p s f : Int} (h : ¬ (0 ≤ p ∧ p < v 0 ∧ 0 ≤ s ∧ s ≤ 10079)) : zE (d + 6) 43 0 (zent 43 [zA 8, zI p, zI s, zI f]) [] ((n, sl), (S, c)) (kP n sl S hi B v tp (fun x => x = -1)) := by
  obtain ⟨g1, hB, R, I, H⟩ := id G
  have a1 := (zRep_9 R).1.1
  refine zE.mono (e_X8_place (d := d) hS hB (zX_c R I) (zX_it2 R I) (zX_r R I) (zX_pl R I) (zX_bl R I) (zX_n R I) (zX_pq R I) (zX_ln R I) H.1 H.2.1 (zX_cn R I)) ?_
  rintro r μ' ⟨x, c1, rfl, rfl, y, ca, hy, hf, hBa, h9⟩
  rw [a1] at hy
  rcases hy with ⟨y1, y2⟩ | ⟨y1, -⟩
  · rcases h9 with ⟨h1, h2, h3⟩ | ⟨h1, -⟩
    · rw [h3]
      exact ⟨_, _, rfl, rfl, h2.trans y2, zG_fr G (fun r hr => hf r (by omega)) hBa⟩
    · omega
  · exact absurd y1 h
theorem k_removeB (hS : zSok S) (G : zG hi B v tp c) {a : Int} (h : ¬ (0 ≤ a ∧ a < v 3)) : zE (d + 6) 44 0 (zent 44 [zA 8, zI a]) [] ((n, sl), (S, c)) (kP n sl S hi B v tp (fun x => x = -1)) := by
  obtain ⟨g1, hB, R, I, H⟩ := id G
  have a4 := (zRep_9 R).1.2.2.2
  refine zE.mono (e_X8_remove (d := d + 2) hS hB (zX_c R I) H.1 H.2.1 (zX_cn R I)) ?_
  rintro r μ' ⟨x, c1, rfl, rfl, h9⟩
  rw [a4] at h9
  rcases h9 with ⟨-, h2, rfl⟩ | ⟨h1, -⟩
  · exact ⟨_, _, rfl, rfl, h2, G⟩
  · exact absurd h1 h
theorem k_fillB (hS : zSok S) (G : zG hi B v tp c) {a z : Int} (h : ¬ (0 ≤ a ∧ a < z ∧ z ≤ 10080 ∧ z - a ≤ 240)) : zE (d + 6) 46 0 (zent 46 [zA 8, zI a, zI z]) [] ((n, sl), (S, c)) (kP n sl S hi B v tp (fun x => x = -1)) := by
  obtain ⟨g1, hB, R, I, H⟩ := id G
  refine zE.mono (e_X8_fill (d := d + 2) hS hB (zX_c R I) (fun i i1 i2 => by have := zX_it2 R I i i1 i2; omega) (zX_bl R I) (zX_n R I) (zX_pq R I) (zX_ln R I) H.1 H.2.1 (zX_cn R I)) ?_
  rintro r μ' ⟨x, c1, rfl, rfl, h9⟩
  rcases h9 with ⟨-, h2, rfl⟩ | ⟨h1, -⟩ | ⟨h1, -⟩
  · exact ⟨_, _, rfl, rfl, h2, G⟩
  · exact absurd h1 h
  · exact absurd h1 h
theorem k_runB (hS : zSok S) (G : zG hi B v tp c) (hB6 : B ≤ 60000) {it mi : Int} (h : ¬ ((0 ≤ it ∧ it < v 3) ∧ (1 ≤ mi ∧ mi ≤ 120))) : zE (d + 6) 47 0 (zent 47 [zA 8, zI it, zI mi]) [] ((n, sl), (S, c)) (kP n sl S hi B v tp (fun x => x = -1)) := by
  obtain ⟨g1, hB, R, I, H⟩ := id G
  have a4 := (zRep_9 R).1.2.2.2
  refine zE.mono (e_X8_runOver (d := d) hS hB (zX_c R I) (zX_it R I) (zX_r R I) (zX_pl R I) (zX_bl R I) (zX_n R I) (zX_pq R I) (fun p p1 p2 => by have := zX_ow R I p p1 p2; omega) H.1 H.2.1 (zX_cn R I)) ?_
  rintro r μ' ⟨x, c1, rfl, rfl, h9⟩
  rw [a4] at h9
  rcases h9 with ⟨-, h2, rfl⟩ | ⟨h1, -⟩ | ⟨h1, -⟩ | ⟨h1, -⟩
  · exact ⟨_, _, rfl, rfl, h2, G⟩
  · exact absurd h1 h
  · exact absurd h1 h
  · exact absurd h1 h
theorem k_goodB (hS : zSok S) (G : zG hi B v tp c) {p a : Int} (h : ¬ ((0 ≤ p ∧ p < v 0) ∧ (0 ≤ a ∧ a ≤ 10079))) : zE (d + 6) 48 0 (zent 48 [zA 8, zI p, zI a]) [] ((n, sl), (S, c)) (kP n sl S hi B v tp (fun x => x = -1)) := by
  obtain ⟨g1, hB, R, I, H⟩ := id G
  have a1 := (zRep_9 R).1.1
  refine zE.mono (e_X8_makeGood (d := d) hS hB (zX_c R I) (zX_it2 R I) (zX_r R I) (zX_pl R I) (zX_bl R I) (zX_n R I) (zX_pq R I) (zX_ln R I) (fun p _ _ => zRt_of) H.1 H.2.1 (zX_cn R I)) ?_
  rintro r μ' ⟨x, c1, rfl, rfl, h9⟩
  rw [a1] at h9
  rcases h9 with ⟨-, h2, rfl⟩ | ⟨h1, -⟩ | ⟨h1, -⟩
  · exact ⟨_, _, rfl, rfl, h2, G⟩
  · exact absurd h1 h
  · exact absurd h1 h
end KQ
