/-! the acts, against a row -/
def zSo (v v' : Int → Int) : Prop := ∀ k, 0 ≤ k → k < 230 → k ≠ 3 → (∀ p, 0 ≤ p → p < 16 → k ≠ 10 + 4 * p + 3) → v' k = v k
theorem zSo.rf {v : Int → Int} : zSo v v := fun _ _ _ _ _ => rfl
theorem zSo.tr {v v1 v2 : Int → Int} (h : zSo v v1) (h2 : zSo v1 v2) : zSo v v2 := fun k a b d e => (h2 k a b d e).trans (h k a b d e)
theorem zSo_sm {v v1 : Int → Int} (h : zSm v v1) : zSo v v1 := fun k a b d _ => h k a b d
/-- where an item goes -/
theorem pos_ex {B : Int} {v : Int → Int} (I : zInv B v) (s : Int) : ∃ at9 : Int, (0 ≤ at9 ∧ at9 ≤ v 3) ∧ (∀ j, 0 ≤ j → j < at9 → v (230 + 4 * j + 1) ≤ s) ∧ (∀ j, at9 ≤ j → j < v 3 → s < v (230 + 4 * j + 1)) := by
  have key : ∀ n : Nat, (n : Int) ≤ v 3 → ∃ at9 : Int, (0 ≤ at9 ∧ at9 ≤ n) ∧ (∀ j, 0 ≤ j → j < at9 → v (230 + 4 * j + 1) ≤ s) ∧ (∀ j, at9 ≤ j → j < n → s < v (230 + 4 * j + 1)) := by
    intro n
    induction n with
    | zero => exact fun _ => ⟨0, by omega, fun j j1 j2 => absurd j2 (by omega), fun j j1 j2 => absurd j2 (by omega)⟩
    | succ n ih =>
      intro hn
      obtain ⟨at9, h1, h2, h3⟩ := ih (by omega)
      by_cases h : v (230 + 4 * (n : Int) + 1) ≤ s
      · refine ⟨(n : Int) + 1, by omega, fun j j1 j2 => ?_, fun j j1 j2 => absurd j2 (by omega)⟩
        by_cases ej : j = n
        · rw [ej]
          exact h
        · have a := I.2.2.2.2.2.2 j n j1 (by omega) (by omega)
          have b := I.2.2.2.2.2.1 j j1 (by omega)
          omega
      · refine ⟨at9, by omega, h2, fun j j1 j2 => ?_⟩
        by_cases ej : j = n
        · rw [ej]
          omega
        · exact h3 j j1 (by omega)
  have h0 := I.1
  obtain ⟨at9, h1, h2, h3⟩ := key (v 3).toNat (by omega)
  exact ⟨at9, by omega, h2, fun j j1 j2 => h3 j j1 (by omega)⟩
theorem pt_ex {B : Int} {v : Int → Int} (I : zInv B v) {p s e f : Int} : ∃ (at9 : Int) (v' : Int → Int), zPt v v' p s e f at9 := by
  obtain ⟨at9, h1, h2, h3⟩ := pos_ex I s
  refine ⟨at9, fun k => if k = 3 then v 3 + 1 else if k = 230 + 4 * at9 + 3 then f else if k = 230 + 4 * at9 + 2 then e else if k = 230 + 4 * at9 + 1 then s else if k = 230 + 4 * at9 then p else if 230 + 4 * (at9 + 1) ≤ k ∧ k < 230 + 4 * (v 3 + 1) then v (k - 4) else v k, h1, ?_, h3, fun k => rfl⟩
  by_cases e0 : at9 = 0
  · exact Or.inl e0
  · exact Or.inr (h2 (at9 - 1) (by omega) (by omega))
theorem pt_f {v v' : Int → Int} {p s e f at9 : Int} (h : zPt v v' p s e f at9) : (∀ j q, j < at9 → 0 ≤ j → 0 ≤ q → q ≤ 3 → v' (230 + 4 * j + q) = v (230 + 4 * j + q)) ∧ (v' (230 + 4 * at9 + 0) = p ∧ v' (230 + 4 * at9 + 1) = s ∧ v' (230 + 4 * at9 + 2) = e ∧ v' (230 + 4 * at9 + 3) = f) ∧ (∀ j q, at9 < j → j ≤ v 3 → 0 ≤ q → q ≤ 3 → v' (230 + 4 * j + q) = v (230 + 4 * (j - 1) + q)) ∧ v' 3 = v 3 + 1 := by
  obtain ⟨t1, t2, t3, t4⟩ := h
  refine ⟨fun j q j1 j2 q1 q2 => ?_, ⟨?_, ?_, ?_, ?_⟩, fun j q j1 j2 q1 q2 => ?_, ?_⟩
  · rw [t4, if_neg (by omega), if_neg (by omega), if_neg (by omega), if_neg (by omega), if_neg (by omega), if_neg (by omega)]
  · rw [t4, if_neg (by omega), if_neg (by omega), if_neg (by omega), if_neg (by omega), if_pos (by omega)]
  · rw [t4, if_neg (by omega), if_neg (by omega), if_neg (by omega), if_pos (by omega)]
  · rw [t4, if_neg (by omega), if_neg (by omega), if_pos (by omega)]
  · rw [t4, if_neg (by omega), if_pos (by omega)]
  · rw [t4, if_neg (by omega), if_neg (by omega), if_neg (by omega), if_neg (by omega), if_neg (by omega), if_pos (by omega), show 230 + 4 * j + q - 4 = 230 + 4 * (j - 1) + q by omega]
  · rw [t4, if_pos rfl]
section KA
variable {d n sl : Nat} {S : zSh} {hi c : zC} {B : Int} {v : Int → Int} {tp : Option (Int → Int)}
theorem a_place (hS : zSok S) (G : zG hi B v tp c) {p s f : Int} (hp : 0 ≤ p ∧ p < v 0) (hs : 0 ≤ s ∧ s ≤ 10079) : zE (d + 6) 43 0 (zent 43 [zA 8, zI p, zI s, zI f]) [] ((n, sl), (S, c)) (fun r μ' => ∃ (x y : Int) (c' : zC), r = some (zI x) ∧ μ' = ((n, sl), (S, c')) ∧ qOb v p s y ∧ ((y ≠ 0 ∧ x = y ∧ zG hi B v tp c') ∨ (y = 0 ∧ ∃ v', zPt v v' p s (v (10 + 4 * p + 1)) (if f = 0 then 0 else 1) x ∧ zG hi B v' (some v) c'))) := by
  obtain ⟨g1, hB, R, I, H⟩ := id G
  obtain ⟨a1, a2, a3, a4⟩ := (zRep_9 R).1
  refine zE.mono (e_X8_place (d := d) hS hB (zX_c R I) (zX_it2 R I) (zX_r R I) (zX_pl R I) (zX_bl R I) (zX_n R I) (zX_pq R I) (zX_ln R I) H.1 H.2.1 (zX_cn R I)) ?_
  rintro r μ' ⟨x, c1, rfl, rfl, y, ca, hy, hf, hBa, h⟩
  have hy2 : qOb v p s y := by
    rcases hy with ⟨y1, -⟩ | ⟨-, y2⟩
    · exact absurd ⟨hp.1, by omega, hs.1, hs.2⟩ y1
    · exact (ob_v R I hp).mp y2
  have Ga : zG hi B v tp ca := zG_fr G (fun r hr => hf r (by omega)) hBa
  refine ⟨x, y, c1, rfl, rfl, hy2, ?_⟩
  rcases h with ⟨h1, h2, h3⟩ | ⟨h1, h2, cb, hkb, hins⟩
  · rw [h3]
    exact Or.inl ⟨h1, h2, Ga⟩
  · rw [h1] at hy2
    obtain ⟨o1, o2, o3⟩ := qOb_0 hy2
    have hlen := zM_ln I p hp.1 hp.2
    have hp12 := ((zRep_9 R).2.1 p hp.1 hp.2).2.1
    have hfr := zKpt_fr hkb Ga.2.2.2.2.1
    have Rb : zRep cb 9 v := zKp_r Ga.2.2.2.2.1 hkb Ga.2.2.1
    have f1 := hins.2.2.1
    have hB1 := hins.2.2.2.2.2.2.2
    have hix : zSum (fun j => if c 26 j < s then 1 else 0) (c 24 0) = zSum (fun j => if cb 26 j < s then 1 else 0) (cb 24 0) := by
      rw [hfr.1 26 (by decide) (by decide), hfr.1 24 (by decide) (by decide), hf 26 (by decide), hf 24 (by decide)]
    obtain ⟨at9, v', hpt⟩ := pt_ex (p := p) (s := s) (e := v (10 + 4 * p + 1)) (f := if f = 0 then 0 else 1) I
    obtain ⟨ix, R2, I2⟩ := ins_rep Rb I o1 hp hs.1 hlen.1 o2 (by split <;> omega) o3 (by rw [← hp12]; exact hins) hix hpt
    exact Or.inr ⟨h1, v', by rw [h2, ix]; exact hpt, zG_act Ga hkb (f1 29 (by decide)) (fun r hr => f1 r (by omega)) hB1 R2 I2 (Int.le_refl _)⟩
theorem a_remove (hS : zSok S) (G : zG hi B v tp c) {a : Int} (ha : 0 ≤ a ∧ a < v 3) : zE (d + 6) 44 0 (zent 44 [zA 8, zI a]) [] ((n, sl), (S, c)) (fun r μ' => ∃ (v' : Int → Int) (c' : zC), r = some (zI (v 3 - 1)) ∧ μ' = ((n, sl), (S, c')) ∧ v' 3 = v 3 - 1 ∧ zSo v v' ∧ zG hi B v' (some v) c') := by
  obtain ⟨g1, hB, R, I, H⟩ := id G
  have a4 := (zRep_9 R).1.2.2.2
  refine zE.mono (e_X8_remove (d := d + 2) hS hB (zX_c R I) H.1 H.2.1 (zX_cn R I)) ?_
  rintro r μ' ⟨x, c1, rfl, rfl, h⟩
  rw [a4] at h
  rcases h with ⟨h1, -⟩ | ⟨h1, h2, ca, hka, hdel⟩
  · exact absurd ha h1
  · obtain ⟨R2, I2⟩ := del_rep (v' := fun k => if k = 3 then v 3 - 1 else if 230 + 4 * a ≤ k ∧ k < 230 + 4 * (v 3 - 1) then v (k + 4) else v k) (zKp_r H.1 hka R) I ha hdel (if_pos rfl) (fun k hk => if_neg hk)
    refine ⟨fun k => if k = 3 then v 3 - 1 else if 230 + 4 * a ≤ k ∧ k < 230 + 4 * (v 3 - 1) then v (k + 4) else v k, c1, by rw [h2], rfl, if_pos rfl, fun k k0 k1 k2 k3 => ?_, zG_act G hka (hdel.2.2.1 29 (by decide)) (fun r hr => hdel.2.2.1 r (by omega)) hdel.2.2.2.2 R2 I2 (Int.le_refl _)⟩
    show (if k = 3 then _ else if _ then _ else _) = _
    rw [if_neg k2, if_neg (by omega)]
theorem a_good (hS : zSok S) (G : zG hi B v tp c) {p a : Int} (hp : 0 ≤ p ∧ p < v 0) (ha : 0 ≤ a ∧ a ≤ 10079) : zE (d + 6) 48 0 (zent 48 [zA 8, zI p, zI a]) [] ((n, sl), (S, c)) (fun r μ' => ∃ (x : Int) (c' : zC), r = some (zI x) ∧ μ' = ((n, sl), (S, c')) ∧ ((v (10 + 4 * p + 3) = 0 ∧ x = -2 ∧ zG hi B v tp c') ∨ (0 < v (10 + 4 * p + 3) ∧ qEr v p a x ∧ ((x = -9 ∧ zG hi B v tp c') ∨ (0 ≤ x ∧ x ≤ 10079 ∧ ∃ v' i, v' (10 + 4 * p + 3) = v (10 + 4 * p + 3) - 1 ∧ v' 0 = v 0 ∧ (0 ≤ i ∧ i < v' 3 ∧ v' (230 + 4 * i + 1) = x) ∧ zG hi B v' (some v) c'))))) := by
  obtain ⟨g1, hB, R, I, H⟩ := id G
  obtain ⟨a1, a2, a3, a4⟩ := (zRep_9 R).1
  have hI := I.1
  have h14 := ((zRep_9 R).2.1 p hp.1 hp.2).2.2.2
  have hb14 := I.2.2.1 p hp.1 (by omega)
  refine zE.mono (e_X8_makeGood (d := d) hS hB (zX_c R I) (zX_it2 R I) (zX_r R I) (zX_pl R I) (zX_bl R I) (zX_n R I) (zX_pq R I) (zX_ln R I) (fun p _ _ => zRt_of) H.1 H.2.1 (zX_cn R I)) ?_
  rintro r μ' ⟨x, c1, rfl, rfl, h⟩
  rw [a1, h14] at h
  refine ⟨x, c1, rfl, rfl, ?_⟩
  rcases h with ⟨h1, -⟩ | ⟨h1, h2, h3, h4⟩ | ⟨h1, h2, y, ca, hy, hf, hBa, h⟩
  · exact absurd ⟨hp, ha⟩ h1
  · rw [h4]
    exact Or.inl ⟨by omega, h3, G⟩
  · have hy2 := er_v R I hp hy
    have Ga : zG hi B v tp ca := zG_fr G (fun r hr => hf r (by omega)) hBa
    refine Or.inr ⟨h2, ?_⟩
    rcases h with ⟨h5, h6, h7⟩ | ⟨h5, h6, cb, cc, hkb, hins, h7⟩
    · rw [h7, h6]
      rw [h5] at hy2
      exact ⟨hy2, Or.inl ⟨rfl, Ga⟩⟩
    · rw [h6]
      refine ⟨hy2, Or.inr ?_⟩
      have hy9 : a ≤ y ∧ y ≤ 10079 ∧ qOb v p y 0 := by
        rcases hy2 with ⟨p1, p2⟩ | ⟨p1, p2, p3, p4, p5⟩
        · exact absurd p1 h5
        · exact ⟨p1, by omega, p4⟩
      obtain ⟨o1, o2, o3⟩ := qOb_0 hy9.2.2
      have hlen := zM_ln I p hp.1 hp.2
      have hp12 := ((zRep_9 R).2.1 p hp.1 hp.2).2.1
      have hfr := zKpt_fr hkb Ga.2.2.2.2.1
      have Rb : zRep cb 9 v := zKp_r Ga.2.2.2.2.1 hkb Ga.2.2.1
      have f1 := hins.2.2.1
      have hBc := hins.2.2.2.2.2.2.2
      have hix : zSum (fun j => if c 26 j < y then 1 else 0) (c 24 0) = zSum (fun j => if cb 26 j < y then 1 else 0) (cb 24 0) := by
        rw [hfr.1 26 (by decide) (by decide), hfr.1 24 (by decide) (by decide), hf 26 (by decide), hf 24 (by decide)]
      obtain ⟨at9, v1, hpt⟩ := pt_ex (p := p) (s := y) (e := v (10 + 4 * p + 1)) (f := 0) I
      obtain ⟨ix, R2, I2⟩ := ins_rep Rb I o1 hp (by omega) hlen.1 o2 (Or.inl rfl) o3 (by rw [← hp12]; exact hins) hix hpt
      have hsm := hpt.sm
      have p0 : v1 0 = v 0 := hsm 0 (by omega) (by omega) (by omega)
      have ow : v1 (10 + 4 * p + 3) = v (10 + 4 * p + 3) := hsm _ (by omega) (by omega) (by omega)
      obtain ⟨R3, I3⟩ := ow_rep (p := p) (B' := B) (w := v (10 + 4 * p + 3) - 1) (v' := fun k => if k = 10 + 4 * p + 3 then v k - 1 else v1 k) R2 I2 (by omega) (by omega) (Int.le_refl _) (if_pos rfl) (fun k hk => if_neg hk)
      rw [← h7] at R3
      have hBc1 : zBd c1 := by
        rw [h7]
        have h9 := zX_ow R I p hp.1 (by omega)
        refine zBd_up hBc ?_
        have hb := hB 14 p (by decide)
        rw [h14] at hb
        omega
      obtain ⟨q1, q2, q3, q4⟩ := pt_f hpt
      refine ⟨by omega, hy9.2.1, fun k => if k = 10 + 4 * p + 3 then v k - 1 else v1 k, at9, if_pos rfl, ?_, ⟨hpt.1.1, ?_, ?_⟩, zG_act Ga hkb ?_ (fun r hr => ?_) hBc1 R3 I3 (Int.le_refl _)⟩
      · show (if (0 : Int) = 10 + 4 * p + 3 then _ else v1 0) = v 0
        rw [if_neg (by omega)]
        exact p0
      · show at9 < (if (3 : Int) = 10 + 4 * p + 3 then _ else v1 3)
        rw [if_neg (by omega), q4]
        have := hpt.1.2
        omega
      · show (if 230 + 4 * at9 + 1 = 10 + 4 * p + 3 then _ else v1 (230 + 4 * at9 + 1)) = y
        rw [if_neg (by have := hpt.1.1; omega)]
        exact q2.2.1
      · rw [h7, zup_ne (by decide)]
        exact f1 29 (by decide)
      · rw [h7, zup_ne (by omega)]
        exact f1 r (by omega)
theorem a_addP (hS : zSok S) (G : zG hi B v tp c) {a l e : Int} (ha : 0 ≤ a ∧ a ≤ 3) (hl : 1 ≤ l ∧ l ≤ 240) (he : 0 ≤ e ∧ e ≤ 3) (h16 : v 0 < 16) : zE (d + 6) 40 0 (zent 40 [zA 8, zI a, zI l, zI e]) [] ((n, sl), (S, c)) (fun r μ' => ∃ (v' : Int → Int) (c' : zC), r = some (zI (v 0)) ∧ μ' = ((n, sl), (S, c')) ∧ v' 0 = v 0 + 1 ∧ v' (10 + 4 * v 0) = a ∧ (∀ k, k ≠ 0 → (k < 10 + 4 * v 0 ∨ 10 + 4 * v 0 + 3 < k) → v' k = v k) ∧ zG hi B v' (some v) c') := by
  obtain ⟨g1, hB, R, I, H⟩ := id G
  have a1 := (zRep_9 R).1.1
  refine zE.mono (e_X8_addProgramme (d := d + 2) hS hB H.1 H.2.1 (zX_cn R I) (zX_pq R I) (zX_pq R I)) ?_
  rintro r μ' ⟨x, c1, rfl, rfl, h9⟩
  rw [a1] at h9
  rcases h9 with ⟨h1, -⟩ | ⟨-, h1, -⟩ | ⟨-, -, h2, ca, hka, hap⟩
  · exact absurd ⟨ha, hl, he⟩ h1
  · exact absurd h16 h1
  · have hf := hap.2.2.2.1
    obtain ⟨R2, I2⟩ := ad_prog (ce := zMm v) (cf := zMm (fun k => if k = 0 then v 0 + 1 else zW4 v (10 + 4 * v 0) a l e 0 k)) (zKp_r H.1 hka R) I rfl h16 ha hl he hap ⟨fun k => rfl, trivial⟩
    have hI := I.1
    refine ⟨fun k => if k = 0 then v 0 + 1 else zW4 v (10 + 4 * v 0) a l e 0 k, c1, by rw [h2], rfl, if_pos rfl, ?_, fun k k0 k1 => ?_, zG_act G hka (hf 29 (by decide)) (fun r hr => hf r (by omega)) hap.2.2.2.2 R2 I2 (Int.le_refl _)⟩
    · show (if 10 + 4 * v 0 = 0 then _ else zW4 v (10 + 4 * v 0) a l e 0 (10 + 4 * v 0)) = a
      rw [if_neg (by omega)]
      unfold zW4
      rw [if_neg (by omega), if_neg (by omega), if_neg (by omega), if_pos rfl]
    · show (if k = 0 then _ else zW4 v (10 + 4 * v 0) a l e 0 k) = v k
      rw [if_neg k0]
      unfold zW4
      rw [if_neg (by omega), if_neg (by omega), if_neg (by omega), if_neg (by omega)]
theorem a_addR (hS : zSok S) (G : zG hi B v tp c) {p a b l : Int} (hp : 0 ≤ p ∧ p < v 0) (ha : 0 ≤ a ∧ a < b ∧ b ≤ 10080) (hl : 1 ≤ l ∧ l ≤ 50) (h30 : v 2 < 30) : zE (d + 6) 41 0 (zent 41 [zA 8, zI p, zI a, zI b, zI l]) [] ((n, sl), (S, c)) (fun r μ' => ∃ (v' : Int → Int) (c' : zC), r = some (zI (v 2)) ∧ μ' = ((n, sl), (S, c')) ∧ v' 2 = v 2 + 1 ∧ v' (110 + 4 * v 2 + 3) = l ∧ (∀ k, k ≠ 2 → (k < 110 + 4 * v 2 ∨ 110 + 4 * v 2 + 3 < k) → v' k = v k) ∧ zG hi B v' (some v) c') := by
  obtain ⟨g1, hB, R, I, H⟩ := id G
  obtain ⟨a1, a2, a3, a4⟩ := (zRep_9 R).1
  refine zE.mono (e_X8_addRight (d := d + 2) hS hB H.1 H.2.1 (zX_cn R I) (zX_r R I) (zX_pq R I)) ?_
  rintro r μ' ⟨x, c1, rfl, rfl, h9⟩
  rw [a1, a2] at h9
  rcases h9 with ⟨h1, -⟩ | ⟨-, h1, -⟩ | ⟨-, -, h2, ca, hka, hap⟩
  · exact absurd ⟨hp, ha, hl⟩ h1
  · exact absurd h30 h1
  · have hf := hap.2.2.2.1
    obtain ⟨R2, I2⟩ := ad_right (ce := zMm v) (cf := zMm (fun k => if k = 2 then v 2 + 1 else zW4 v (110 + 4 * v 2) p a b l k)) (zKp_r H.1 hka R) I rfl h30 hp ha hl hap ⟨fun k => rfl, trivial⟩
    have hI := I.1
    refine ⟨fun k => if k = 2 then v 2 + 1 else zW4 v (110 + 4 * v 2) p a b l k, c1, by rw [h2], rfl, if_pos rfl, ?_, fun k k0 k1 => ?_, zG_act G hka (hf 29 (by decide)) (fun r hr => hf r (by omega)) hap.2.2.2.2 R2 I2 (Int.le_refl _)⟩
    · show (if 110 + 4 * v 2 + 3 = 2 then _ else zW4 v (110 + 4 * v 2) p a b l (110 + 4 * v 2 + 3)) = l
      rw [if_neg (by omega)]
      unfold zW4
      rw [if_pos rfl]
    · show (if k = 2 then _ else zW4 v (110 + 4 * v 2) p a b l k) = v k
      rw [if_neg k0]
      unfold zW4
      rw [if_neg (by omega), if_neg (by omega), if_neg (by omega), if_neg (by omega)]
theorem a_addB (hS : zSok S) (G : zG hi B v tp c) {a b l : Int} (ha : 0 ≤ a ∧ a < b ∧ b ≤ 1440) (hl : 0 ≤ l ∧ l ≤ 3) (h10 : v 1 < 10) : zE (d + 6) 42 0 (zent 42 [zA 8, zI a, zI b, zI l]) [] ((n, sl), (S, c)) (fun r μ' => ∃ (v' : Int → Int) (c' : zC), r = some (zI (v 1)) ∧ μ' = ((n, sl), (S, c')) ∧ (∀ k, k ≠ 1 → (k < 80 + 3 * v 1 ∨ 80 + 3 * v 1 + 2 < k) → v' k = v k) ∧ zG hi B v' (some v) c') := by
  obtain ⟨g1, hB, R, I, H⟩ := id G
  obtain ⟨a1, a2, a3, a4⟩ := (zRep_9 R).1
  refine zE.mono (e_X8_addBlackout (d := d + 2) hS hB H.1 H.2.1 (zX_cn R I) (zX_n R I) (zX_pq R I)) ?_
  rintro r μ' ⟨x, c1, rfl, rfl, h9⟩
  rw [a3] at h9
  rcases h9 with ⟨h1, -⟩ | ⟨-, h1, -⟩ | ⟨-, -, h2, ca, hka, hap⟩
  · exact absurd ⟨ha, hl⟩ h1
  · exact absurd h10 h1
  · have hf := hap.2.2.2.1
    obtain ⟨R2, I2⟩ := ad_black (ce := zMm v) (cf := zMm (fun k => if k = 1 then v 1 + 1 else zW3 v (80 + 3 * v 1) a b l k)) (zKp_r H.1 hka R) I rfl h10 ha hl hap ⟨fun k => rfl, trivial⟩
    refine ⟨fun k => if k = 1 then v 1 + 1 else zW3 v (80 + 3 * v 1) a b l k, c1, by rw [h2], rfl, fun k k0 k1 => ?_, zG_act G hka (hf 29 (by decide)) (fun r hr => hf r (by omega)) hap.2.2.2.2 R2 I2 (Int.le_refl _)⟩
    show (if k = 1 then _ else zW3 v (80 + 3 * v 1) a b l k) = v k
    rw [if_neg k0]
    unfold zW3
    rw [if_neg (by omega), if_neg (by omega), if_neg (by omega)]
theorem a_undo (hS : zSok S) {u : Int → Int} (G : zG hi B v (some u) c) : zE (d + 6) 60 0 (zent 60 [zA 8]) [] ((n, sl), (S, c)) (kP n sl S hi B u none (fun x => 0 ≤ x)) := by
  obtain ⟨g1, hB, R, I, H1, H2, H3, H4⟩ := id G
  obtain ⟨u1, u2, u3⟩ := H4 u rfl
  refine zE.mono (e_X8_undo (d := d + 2) hS hB H1 H2 H3) ?_
  rintro r μ' ⟨x, c1, rfl, rfl, h⟩
  rcases h with ⟨h1, -⟩ | ⟨h1, h2, j, j1, j2, hcp⟩
  · omega
  · have hf := hcp.2.2.2.2.1
    refine ⟨x, c1, rfl, rfl, by omega, fun r hr => ?_, hcp.2.2.2.2.2, zCp_rep hcp (zRep_fr (u3 j j1 j2) (fun r r1 r2 => zup_ne (by omega))), u2, ?_⟩
    · rw [hf r (by omega), zup_ne (by omega)]
      exact g1 r hr
    · have e0 : c1 29 0 = c 29 0 - 1 := by rw [hf 29 (by omega), zup_same]
      have e1 : c1 29 1 = c 29 1 := by rw [hf 29 (by omega), zup_k (by decide)]
      unfold zHx
      rw [e0, e1]
      refine ⟨by omega, H2, fun i hi => ?_, fun w hw => by cases hw⟩
      have h9 := H3 i hi
      unfold zCnW at h9 ⊢
      rw [hf _ (by omega), hf _ (by omega), hf _ (by omega), hf _ (by omega), zup_ne (by omega), zup_ne (by omega), zup_ne (by omega), zup_ne (by omega)]
      exact h9
end KA
