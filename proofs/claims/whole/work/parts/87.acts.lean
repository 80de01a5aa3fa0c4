/-! place, remove, makeGood: class and model together -/
section SP
variable {L : Nat} {xs : Nat → Int32} {k : Int}
theorem zHis_x {B : Int} {c ca : zC} (H : zHis B c) (hf : ∀ r, (r < 131 ∨ 136 < r) → ca r = c r) : zHis B ca := zHis_fr H (hf 29 (by decide)) (hf 147 (by decide)) (by rw [hf 145 (by decide)]) (fun r r1 r2 => hf r (by omega))
theorem zOb_0 {c : zC} {B : Int} (R : zRep c 9 (c 146)) (I : zInv B (c 146)) {p s : Int} (hp : 0 ≤ p ∧ p < c 146 0) (h : zObs c p s 0) : c 146 3 ≤ 59 ∧ s + c 146 (10 + 4 * p + 1) ≤ 10080 ∧ ¬ zHit (c 146 3) (fun j => c 146 (230 + 4 * j + 1)) (fun j => c 146 (230 + 4 * j + 2)) s (s + c 146 (10 + 4 * p + 1)) := by
  have h2 := (zOb_iff R I hp).mp h
  obtain ⟨q1, q2, -⟩ := zFlt_0 h2
  exact ⟨by omega, by refine Int.not_lt.mp (fun h9 => q2 (Or.inl h9)), fun h9 => q2 (Or.inr h9)⟩
theorem st_remove (hk : 0 ≤ k) {a : Int} : zStep L xs k 44 107 [zI a] [zI a] := zStep_mk (fun n sl S c hS hB hC => by
  obtain ⟨R, I, hH⟩ := id hC
  obtain ⟨a1, a2, a3, a4⟩ := (zRep_9 R).1
  refine zE.mono (e_X8_remove (d := 9) hS hB (zX_c R I) hH.1.1 hH.1.2.1 (zX_cn R I)) ?_
  rintro r μ' ⟨x, c1, rfl, rfl, h⟩
  rcases h with ⟨h1, h2, h3⟩ | ⟨h1, h2, ca, hka, hdel⟩
  · rw [h3]
    refine ⟨_, c, rfl, rfl, fun _ _ => rfl, zE.mono (e_X9_remove (d := 11) hS hB I.1.2.2.2 (by rw [hH.1.2.2]; exact hH.1.1)) ?_⟩
    rintro r μ' ⟨y, c2, rfl, rfl, g⟩
    rcases g with ⟨g1, g2, g3⟩ | ⟨g1, _⟩
    · rw [g3]
      exact ⟨c, by rw [h2, g2], rfl, fun _ _ => rfl, hB, zCore_fr hk hC (fun _ _ => rfl) rfl⟩
    · omega
  · have fr := zKpt_fr hka hH.1.1
    have f1 := hdel.2.2.1
    have hB1 := hdel.2.2.2.2
    have e146 : c1 146 = c 146 := (f1 146 (by decide)).trans (fr.1 146 (by decide) (by decide))
    have e145 : c1 145 = c 145 := (f1 145 (by decide)).trans (fr.1 145 (by decide) (by decide))
    have e147 : c1 147 = c 147 := (f1 147 (by decide)).trans (fr.1 147 (by decide) (by decide))
    have I1 : zInv (60 * k) (c1 146) := by rw [e146]; exact I
    refine ⟨_, c1, rfl, rfl, fun r hr => (f1 r (by unfold zOut at hr; omega)).trans (zKp_o hH.1.1 hka r hr), zE.mono (e_X9_remove (d := 11) hS hB1 I1.1.2.2.2 (by rw [e145, hH.1.2.2]; exact hH.1.1)) ?_⟩
    rintro r μ' ⟨y, c2, rfl, rfl, g⟩
    rw [e146] at g
    rcases g with ⟨g1, _⟩ | ⟨g1, g2, ce, hd, hdr⟩
    · omega
    · have hdf := zDid_fr hd
      have ev : ce 146 = c 146 := (hdf.1 146 (by decide) (by decide)).trans e146
      obtain ⟨d1, d2, d3, d4⟩ := hdr
      rw [ev] at d1 d2
      obtain ⟨R2, I2⟩ := del_rep (zKp_r hH.1.1 hka R) I g1 hdel d1 d2
      have hc2 : ∀ r, r ≠ 146 → r ≠ 147 → r ≠ 145 → c2 r = c1 r := fun r r1 r2 r3 => (d3 r r1).trans (hdf.1 r r2 r3)
      refine ⟨c2, by rw [h2, g2, a4], rfl, fun r hr => hc2 r (by unfold zOut at hr; omega) (by unfold zOut at hr; omega) (by unfold zOut at hr; omega), d4, zRep_fr R2 (fun r r1 r2 => hc2 r (by omega) (by omega) (by omega)), I2.up (by omega), ?_⟩
      exact zHis_up (zHis_act hH R I hka hd e146 e147 (by rw [e145]) (by rw [hc2 29 (by decide) (by decide) (by decide)]; exact f1 29 (by decide)) (d3 147 (by decide)) (by rw [d3 145 (by decide)]) (fun r r1 r2 => (hc2 r (by omega) (by omega) (by omega)).trans (f1 r (by omega)))) (by omega))
theorem st_place (hk : 0 ≤ k) {p s f : Int} : zStep L xs k 43 106 [zI p, zI s, zI f] [zI p, zI s, zI f] := zStep_mk (fun n sl S c hS hB hC => by
  obtain ⟨R, I, hH⟩ := id hC
  obtain ⟨a1, a2, a3, a4⟩ := (zRep_9 R).1
  refine zE.mono (e_X8_place (d := 7) hS hB (zX_c R I) (zX_it2 R I) (zX_r R I) (zX_pl R I) (zX_bl R I) (zX_n R I) (zX_pq R I) (zX_ln R I) hH.1.1 hH.1.2.1 (zX_cn R I)) ?_
  rintro r μ' ⟨x, c1, rfl, rfl, y, ca, hy, hf, hBa, h⟩
  have ha146 := hf 146 (by decide)
  have Ra : zRep ca 9 (ca 146) := by rw [ha146]; exact zRep_fr R (fun r r1 r2 => hf r (by omega))
  have Ia : zInv (60 * k) (ca 146) := by rw [ha146]; exact I
  have Ha := zHis_x hH hf
  rcases h with ⟨h1, h2, h3⟩ | ⟨h1, h2, cb, hkb, hins⟩
  · rw [h3]
    refine ⟨_, ca, rfl, rfl, zO_x hf, zE.mono (e_X9_place (d := 9) hS hBa Ia.1.2.2.2 (zM_it Ia) (zM_so Ia) Ia.1.2.2.1 (zM_pl Ia) (zM_bl Ia) Ia.1.2.1 (zM_ln Ia) Ia.1.1 (by rw [Ha.1.2.2]; exact Ha.1.1)) ?_⟩
    rintro r μ' ⟨z, c2, rfl, rfl, g⟩
    rw [ha146] at g
    rcases hy with ⟨y1, y2⟩ | ⟨y1, y2⟩
    · rcases g with ⟨g1, g2, g3⟩ | ⟨g1, _⟩
      · rw [g3]
        exact ⟨ca, by rw [h2, g2, y2], rfl, fun _ _ => rfl, hBa, zCore_xm hk hC hf zFm.rf⟩
      · omega
    · rcases g with ⟨g1, _⟩ | ⟨g1, w, cm, g2, g3, g4, g5⟩
      · omega
      · rw [zObM_c ha146] at g2
        have hwy : w = y := zObM_u g2 ((zOb_iff R I (by omega)).mp y2)
        rcases g5 with ⟨q1, q2, q3⟩ | ⟨q1, _⟩
        · rw [q3]
          exact ⟨cm, by rw [h2, q2, hwy], rfl, zO_m g3, g4, zCore_xm hk hC hf g3⟩
        · omega
  · have hfr := zKpt_fr hkb Ha.1.1
    have f1 := hins.2.2.1
    have hB1 := hins.2.2.2.2.2.2.2
    have y2 : (0 ≤ p ∧ p < c 10 0 ∧ 0 ≤ s ∧ s ≤ 10079) ∧ zObs c p s 0 := by
      rcases hy with ⟨y1, y2⟩ | ⟨y1, y2⟩
      · omega
      · rw [h1] at y2
        exact ⟨y1, y2⟩
    obtain ⟨y1, y2⟩ := y2
    obtain ⟨o1, o2, o3⟩ := zOb_0 R I (p := p) (s := s) (by omega) y2
    have hp12 := ((zRep_9 R).2.1 p (by omega) (by omega)).2.1
    have hlen := zM_ln I p (by omega) (by omega)
    have e146 : c1 146 = ca 146 := (f1 146 (by decide)).trans (hfr.1 146 (by decide) (by decide))
    have e145 : c1 145 = ca 145 := (f1 145 (by decide)).trans (hfr.1 145 (by decide) (by decide))
    have e147 : c1 147 = ca 147 := (f1 147 (by decide)).trans (hfr.1 147 (by decide) (by decide))
    have I1 : zInv (60 * k) (c1 146) := by rw [e146]; exact Ia
    refine ⟨_, c1, rfl, rfl, fun r hr => ((f1 r (by unfold zOut at hr; omega)).trans (zKp_o Ha.1.1 hkb r hr)).trans (zO_x hf r hr), zE.mono (e_X9_place (d := 9) hS hB1 I1.1.2.2.2 (zM_it I1) (zM_so I1) I1.1.2.2.1 (zM_pl I1) (zM_bl I1) I1.1.2.1 (zM_ln I1) I1.1.1 (by rw [e145, Ha.1.2.2]; exact Ha.1.1)) ?_⟩
    rintro r μ' ⟨z, c2, rfl, rfl, g⟩
    rw [e146, ha146] at g
    rcases g with ⟨g1, _⟩ | ⟨g1, w, cm, g2, g3, g4, g5⟩
    · omega
    · have e6 : c1 146 = c 146 := e146.trans ha146
      rw [zObM_c e6] at g2
      have hw0 : w = 0 := zObM_u g2 ((zOb_iff R I (by omega)).mp y2)
      rcases g5 with ⟨q1, _⟩ | ⟨q1, ce, hd, hput⟩
      · exact absurd hw0 q1
      · rw [e6] at hput
        have hdf := zDid_fr hd
        have m146 : cm 146 = c 146 := (g3.1 146 (by omega)).trans e6
        have ev : ce 146 = c 146 := (hdf.1 146 (by decide) (by decide)).trans m146
        have hpt := hput.pt
        rw [ev] at hpt
        have Rb : zRep cb 9 (c 146) := by
          have := zKp_r Ha.1.1 hkb Ra
          rw [ha146] at this
          exact this
        have hix : zSum (fun j => if c 26 j < s then 1 else 0) (c 24 0) = zSum (fun j => if cb 26 j < s then 1 else 0) (cb 24 0) := by
          rw [hfr.1 26 (by decide) (by decide), hfr.1 24 (by decide) (by decide), hf 26 (by decide), hf 24 (by decide)]
        obtain ⟨ix, R2, I2⟩ := ins_rep Rb I o1 (by omega) (by omega) hlen.1 o2 (by split <;> omega) o3 (by rw [← hp12]; exact hins) hix hpt
        have hc2 : ∀ r, r < 145 ∨ 154 < r → c2 r = c1 r := fun r hr => by
          rw [hput.2.2.2.2.1 r (by omega), hdf.1 r (by omega) (by omega)]
          exact g3.1 r (by omega)
        refine ⟨c2, by rw [h2, ix], rfl, fun r hr => hc2 r (by unfold zOut at hr; omega), hput.2.2.2.2.2, zRep_fr R2 (fun r r1 r2 => hc2 r (by omega)), I2.up (by omega), ?_⟩
        refine zHis_up (zHis_act Ha Ra Ia hkb hd (m146.trans ha146.symm) ((g3.1 147 (by omega)).trans e147) ((g3.2 2 (by decide)).trans (by rw [e145])) (by rw [hc2 29 (by decide)]; exact f1 29 (by decide)) (hput.2.2.2.2.1 147 (by decide)) (by rw [hput.2.2.2.2.1 145 (by decide)]) (fun r r1 r2 => (hc2 r (by omega)).trans (f1 r (by omega)))) (by omega))
theorem st_makeGood (hk : 0 ≤ k) (hk2 : k ≤ 512) {p a : Int} : zStep L xs k 48 116 [zI p, zI a] [zI p, zI a] := zStep_mk (fun n sl S c hS hB hC => by
  obtain ⟨R, I, hH⟩ := id hC
  obtain ⟨a1, a2, a3, a4⟩ := (zRep_9 R).1
  refine zE.mono (e_X8_makeGood (d := 7) hS hB (zX_c R I) (zX_it2 R I) (zX_r R I) (zX_pl R I) (zX_bl R I) (zX_n R I) (zX_pq R I) (zX_ln R I) (fun p _ _ => zRt_of) hH.1.1 hH.1.2.1 (zX_cn R I)) ?_
  rintro r μ' ⟨x, c1, rfl, rfl, h⟩
  rcases h with ⟨h1, h2, h3⟩ | ⟨h1, h2, h3, h4⟩ | ⟨h1, h2, y, ca, hy, hf, hBa, h⟩
  · rw [h3]
    refine ⟨_, c, rfl, rfl, fun _ _ => rfl, zE.mono (e_X9_makeGood (d := 8) hS hB I.1.2.2.2 (zM_it I) (zM_so I) I.1.2.2.1 (zM_pl I) (zM_bl I) I.1.2.1 (zM_ln I) I.1.1 (by rw [hH.1.2.2]; exact hH.1.1)) ?_⟩
    rintro r μ' ⟨z, c2, rfl, rfl, g⟩
    rcases g with ⟨g1, g2, g3⟩ | ⟨g1, _⟩ | ⟨g1, _⟩
    · rw [g3]
      exact ⟨c, by rw [h2, g2], rfl, fun _ _ => rfl, hB, zCore_fr hk hC (fun _ _ => rfl) rfl⟩
    · omega
    · omega
  · rw [h4]
    refine ⟨_, c, rfl, rfl, fun _ _ => rfl, zE.mono (e_X9_makeGood (d := 8) hS hB I.1.2.2.2 (zM_it I) (zM_so I) I.1.2.2.1 (zM_pl I) (zM_bl I) I.1.2.1 (zM_ln I) I.1.1 (by rw [hH.1.2.2]; exact hH.1.1)) ?_⟩
    rintro r μ' ⟨z, c2, rfl, rfl, g⟩
    have h14 := ((zRep_9 R).2.1 p (by omega) (by omega)).2.2.2
    have hb14 := I.2.2.1 p (by omega) (by have := I.1; omega)
    rcases g with ⟨g1, _⟩ | ⟨g1, g2, g3, g4⟩ | ⟨g1, g2, _⟩
    · omega
    · rw [g4]
      exact ⟨c, by rw [h3, g3], rfl, fun _ _ => rfl, hB, zCore_fr hk hC (fun _ _ => rfl) rfl⟩
    · omega
  · have h14 := ((zRep_9 R).2.1 p (by omega) (by omega)).2.2.2
    have hb14 := I.2.2.1 p (by omega) (by have := I.1; omega)
    have ha146 := hf 146 (by decide)
    have Ra : zRep ca 9 (ca 146) := by rw [ha146]; exact zRep_fr R (fun r r1 r2 => hf r (by omega))
    have Ia : zInv (60 * k) (ca 146) := by rw [ha146]; exact I
    have Ha := zHis_x hH hf
    have hiff : ∀ j, zObM c p j 0 ↔ zObs c p j 0 := fun j => (zOb_iff R I (by omega)).symm
    have hyz : ∀ z, zErl c p a z → z = y := fun z hz => by
      rcases hy with ⟨p1, p2⟩ | ⟨p1, p2, p3, p4, p5⟩
      · rcases hz with ⟨q1, q2⟩ | ⟨q1, q2, q3, q4, q5⟩
        · omega
        · exact absurd ((hiff z).mp q4) (p2 z q1 q2 q3)
      · rcases hz with ⟨q1, q2⟩ | ⟨q1, q2, q3, q4, q5⟩
        · exact absurd ((hiff y).mpr p4) (q2 y p1 p2 p3)
        · rcases Int.lt_trichotomy y z with h9 | h9 | h9
          · exact absurd ((hiff y).mpr p4) (q5 y p1 h9)
          · exact h9.symm
          · exact absurd ((hiff z).mp q4) (p5 z q1 h9)
    have hErl : ∀ c1 z, c1 146 = c 146 → zErl c1 p a z → z = y := fun c1 z e hz => hyz z (by
      unfold zErl at hz ⊢
      simp only [zObM_c e] at hz
      exact hz)
    rcases h with ⟨h5, h6, h7⟩ | ⟨h5, h6, cb, cc, hkb, hins, h7⟩
    · rw [h7]
      refine ⟨_, ca, rfl, rfl, zO_x hf, zE.mono (e_X9_makeGood (d := 8) hS hBa Ia.1.2.2.2 (zM_it Ia) (zM_so Ia) Ia.1.2.2.1 (zM_pl Ia) (zM_bl Ia) Ia.1.2.1 (zM_ln Ia) Ia.1.1 (by rw [Ha.1.2.2]; exact Ha.1.1)) ?_⟩
      rintro r μ' ⟨z, c2, rfl, rfl, g⟩
      rw [ha146] at g
      rcases g with ⟨g1, _⟩ | ⟨g1, g2, _⟩ | ⟨g1, g2, w, cm, g3, g4, g5, g6⟩
      · omega
      · omega
      · have hw := hErl ca w ha146 g3
        rcases g6 with ⟨q1, q2, q3⟩ | ⟨q1, _⟩
        · rw [q3]
          exact ⟨cm, by rw [h6, q2], rfl, zO_m g4, g5, zCore_xm hk hC hf g4⟩
        · omega
    · have hfr := zKpt_fr hkb Ha.1.1
      have f1 := hins.2.2.1
      have hBc := hins.2.2.2.2.2.2.2
      have hy9 : a ≤ y ∧ y ≤ 10079 ∧ zObs c p y 0 := by
        rcases hy with ⟨p1, p2⟩ | ⟨p1, p2, p3, p4, p5⟩
        · exact absurd p1 h5
        · exact ⟨p1, by omega, p4⟩
      obtain ⟨o1, o2, o3⟩ := zOb_0 R I (p := p) (s := y) (by omega) hy9.2.2
      have hp12 := ((zRep_9 R).2.1 p (by omega) (by omega)).2.1
      have hlen := zM_ln I p (by omega) (by omega)
      have hc1 : ∀ r, r ≠ 14 → c1 r = cc r := fun r hr => by rw [h7, zup_ne hr]
      have hB1 : zBd c1 := by rw [h7]; exact zBd_up hBc (by omega)
      have e146 : c1 146 = ca 146 := ((hc1 146 (by decide)).trans (f1 146 (by decide))).trans (hfr.1 146 (by decide) (by decide))
      have e145 : c1 145 = ca 145 := ((hc1 145 (by decide)).trans (f1 145 (by decide))).trans (hfr.1 145 (by decide) (by decide))
      have e147 : c1 147 = ca 147 := ((hc1 147 (by decide)).trans (f1 147 (by decide))).trans (hfr.1 147 (by decide) (by decide))
      have I1 : zInv (60 * k) (c1 146) := by rw [e146]; exact Ia
      have e6 : c1 146 = c 146 := e146.trans ha146
      refine ⟨_, c1, rfl, rfl, fun r hr => ((hc1 r (by unfold zOut at hr; omega)).trans ((f1 r (by unfold zOut at hr; omega)).trans (zKp_o Ha.1.1 hkb r hr))).trans (zO_x hf r hr), zE.mono (e_X9_makeGood (d := 8) hS hB1 I1.1.2.2.2 (zM_it I1) (zM_so I1) I1.1.2.2.1 (zM_pl I1) (zM_bl I1) I1.1.2.1 (zM_ln I1) I1.1.1 (by rw [e145, Ha.1.2.2]; exact Ha.1.1)) ?_⟩
      rintro r μ' ⟨z, c2, rfl, rfl, g⟩
      rw [e6] at g
      rcases g with ⟨g1, _⟩ | ⟨g1, g2, _⟩ | ⟨g1, g2, w, cm, g3, g4, g5, g6⟩
      · omega
      · omega
      · have hw := hErl c1 w e6 g3
        rcases g6 with ⟨q1, _⟩ | ⟨q1, q2, ce, cp, at8, hd, hput, q3⟩
        · omega
        · rw [hw] at hput
          have hdf := zDid_fr hd
          have m146 : cm 146 = c 146 := (g4.1 146 (by omega)).trans e6
          have ev : ce 146 = c 146 := (hdf.1 146 (by decide) (by decide)).trans m146
          have hpt := hput.pt
          rw [ev] at hpt
          have Rb : zRep cb 9 (c 146) := by
            have := zKp_r Ha.1.1 hkb Ra
            rw [ha146] at this
            exact this
          have hix : zSum (fun j => if c 26 j < y then 1 else 0) (c 24 0) = zSum (fun j => if cb 26 j < y then 1 else 0) (cb 24 0) := by
            rw [hfr.1 26 (by decide) (by decide), hfr.1 24 (by decide) (by decide), hf 26 (by decide), hf 24 (by decide)]
          obtain ⟨ix, R2, I2⟩ := ins_rep Rb I o1 (by omega) (by omega) hlen.1 o2 (Or.inl rfl) o3 (by rw [← hp12]; exact hins) hix hpt
          have ow : cp 146 (10 + 4 * p + 3) = c 146 (10 + 4 * p + 3) := hpt.sm _ (by omega) (by have := I.1; omega) (by omega)
          have p0 : cp 146 0 = c 146 0 := hpt.sm 0 (by omega) (by omega) (by omega)
          obtain ⟨R3, I3⟩ := ow_rep (p := p) (B' := 60 * k) (w := c 14 p - 1) (v' := c2 146) R2 I2 (by omega) (by omega) (Int.le_refl _) (by rw [q3, zup_same]; omega) (fun k hk => by rw [q3, zup_k hk])
          rw [← h7] at R3
          have hc2 : ∀ r, r < 145 ∨ 154 < r → c2 r = c1 r := fun r hr => by
            rw [q3, zup_ne (by omega), hput.2.2.2.2.1 r (by omega), hdf.1 r (by omega) (by omega)]
            exact g4.1 r (by omega)
          refine ⟨c2, by rw [h6, q2, hw], rfl, fun r hr => hc2 r (by unfold zOut at hr; omega), by rw [q3]; exact zBd_up hput.2.2.2.2.2 (by omega), zRep_fr R3 (fun r r1 r2 => hc2 r (by omega)), I3.up (by omega), ?_⟩
          refine zHis_up (zHis_act Ha Ra Ia hkb hd (m146.trans ha146.symm) ((g4.1 147 (by omega)).trans e147) ((g4.2 2 (by decide)).trans (by rw [e145])) (by rw [hc2 29 (by decide), hc1 29 (by decide)]; exact f1 29 (by decide)) (by rw [q3, zup_ne (by decide)]; exact hput.2.2.2.2.1 147 (by decide)) (by rw [q3, zup_oth (by decide), hput.2.2.2.2.1 145 (by decide)]) (fun r r1 r2 => by rw [hc2 r (by omega), hc1 r (by omega)]; exact f1 r (by omega))) (by omega))
end SP
