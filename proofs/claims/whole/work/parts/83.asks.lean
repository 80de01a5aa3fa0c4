/-! the calls that only ask, class and model together -/
section ST
variable {L : Nat} {xs : Nat → Int32} {k : Int}
theorem zO_x {c c1 : zC} (h : ∀ r, (r < 131 ∨ 136 < r) → c1 r = c r) : ∀ r, zOut r → c1 r = c r := fun r hr => h r (by unfold zOut at hr; omega)
theorem zO_m {c c1 : zC} (h : zFm c c1) : ∀ r, zOut r → c1 r = c r := fun r hr => h.1 r (by unfold zOut at hr; omega)
theorem zCore_xm {c c1 c2 : zC} (hk : 0 ≤ k) (h : zCore k c) (f : ∀ r, (r < 131 ∨ 136 < r) → c1 r = c r) (g : zFm c1 c2) : zCore (k + 1) c2 :=
  zCore_fr hk h (fun r hr => (g.1 r (by omega)).trans (f r (by omega))) ((g.2 2 (by decide)).trans (by rw [f 145 (by decide)]))
theorem st_items (hk : 0 ≤ k) : zStep L xs k 49 117 [] [] := zStep_mk (fun n sl S c hS hB hC => by
  obtain ⟨R, I, hH, hP, hN⟩ := id hC
  have a := (zRep_9 R).1
  refine zE.mono (e_X8_items (d := 13) hS hB) ?_
  rintro r μ' ⟨rfl, rfl⟩
  refine ⟨_, c, rfl, rfl, fun _ _ => rfl, zE.mono (e_X9_items (d := 13) hS hB) ?_⟩
  rintro r μ' ⟨rfl, rfl⟩
  exact ⟨c, by rw [a.2.2.2], rfl, fun _ _ => rfl, hB, zCore_fr hk hC (fun _ _ => rfl) rfl⟩)
theorem st_item (hk : 0 ≤ k) {a w : Int} : zStep L xs k 50 119 [zI a, zI w] [zI a, zI w] := zStep_mk (fun n sl S c hS hB hC => by
  obtain ⟨R, I, hH, hP, hN⟩ := id hC
  have a4 := (zRep_9 R).1.2.2.2
  refine zE.mono (e_X8_item (d := 9) hS hB (zX_c R I) (zX_it2 R I) (zX_r R I) (zX_pl R I)) ?_
  rintro r μ' ⟨x, c1, rfl, rfl, h⟩
  have hf : ∀ r, (r < 131 ∨ 136 < r) → c1 r = c r := by
    rcases h with h | h
    · rw [h.2.2]; exact fun _ _ => rfl
    · exact h.2.2.1
  have hB1 : zBd c1 := by
    rcases h with h | h
    · rw [h.2.2]; exact hB
    · exact h.2.2.2
  have e146 := hf 146 (by decide)
  have I1 : zInv (60 * k) (c1 146) := by rw [e146]; exact I
  refine ⟨_, c1, rfl, rfl, zO_x hf, zE.mono (e_X9_item (d := 10) hS hB1 I1.1.2.2.2 (zM_it I1) I1.1.2.2.1 (zM_pl I1)) ?_⟩
  rintro r μ' ⟨y, c2, rfl, rfl, g⟩
  rw [e146] at g
  rcases h with ⟨h1, h2, h3⟩ | ⟨h1, h2, h3⟩
  · rcases g with ⟨g1, g2, g3⟩ | ⟨g1, g2, g3⟩
    · exact ⟨c2, by rw [h2, g2], rfl, fun r _ => by rw [g3], by rw [g3]; exact hB1, by rw [g3]; exact zCore_xm hk hC hf zFm.rf⟩
    · omega
  · rcases g with ⟨g1, g2, g3⟩ | ⟨g1, g2, g3, g4⟩
    · omega
    · refine ⟨c2, ?_, rfl, zO_m g3, g4, zCore_xm hk hC hf g3⟩
      obtain ⟨b1, b2, b3, b4⟩ := (zRep_9 R).2.2.2.2 a (by omega) (by omega)
      rw [g2]
      rcases h2 with ⟨q1, q2⟩ | ⟨q1, q2⟩ | ⟨q1, q2⟩ | ⟨q1, q2⟩ | ⟨q1, q2, q3⟩
      · rw [if_pos (by omega), q2, q1, b1]
      · rw [if_pos (by omega), q2, q1, b2]
      · rw [if_pos (by omega), q2, q1, b3]
      · rw [if_pos (by omega), q2, q1, b4]
      · rw [if_neg (by omega)]
        obtain ⟨y, y1, y2⟩ := zUv_eq R I (k := a.toNat) (by omega)
        rw [q3 y y1, y2, zUvM_c e146])
theorem st_onAir (hk : 0 ≤ k) {t : Int} : zStep L xs k 51 121 [zI t] [zI t] := zStep_mk (fun n sl S c hS hB hC => by
  obtain ⟨R, I, hH, hP, hN⟩ := id hC
  have a4 := (zRep_9 R).1.2.2.2
  refine zE.mono (e_X8_onAir (d := 11) hS hB (zX_c R I)) ?_
  rintro r μ' ⟨x, rfl, hx, rfl⟩
  refine ⟨_, c, rfl, rfl, fun _ _ => rfl, zE.mono (e_X9_onAir (d := 10) hS hB I.1.2.2.2) ?_⟩
  rintro r μ' ⟨y, rfl, hy, rfl⟩
  refine ⟨c, ?_, rfl, fun _ _ => rfl, hB, zCore_fr hk hC (fun _ _ => rfl) rfl⟩
  rcases hx with hx | hx
  · rcases hy with hy | hy
    · rw [hx.2, hy.2]
    · omega
  · rcases hy with hy | hy
    · omega
    · rw [a4] at hx
      rw [zFst_u hx.2 hy.2 (fun j j1 j2 => ⟨((zRep_9 R).2.2.2.2 j j1 j2).2.1, ((zRep_9 R).2.2.2.2 j j1 j2).2.2.1⟩)])
theorem st_left (hk : 0 ≤ k) {a : Int} : zStep L xs k 52 123 [zI a] [zI a] := zStep_mk (fun n sl S c hS hB hC => by
  obtain ⟨R, I, hH, hP, hN⟩ := id hC
  have a2 := (zRep_9 R).1.2.1
  refine zE.mono (e_X8_left (d := 9) hS hB (zX_c R I) (zX_it2 R I) (zX_r R I) (zX_pl R I)) ?_
  rintro r μ' ⟨x, c1, rfl, rfl, h⟩
  have hf : ∀ r, (r < 131 ∨ 136 < r) → c1 r = c r := by
    rcases h with h | h
    · rw [h.2.2]; exact fun _ _ => rfl
    · exact h.2.2.1
  have hB1 : zBd c1 := by
    rcases h with h | h
    · rw [h.2.2]; exact hB
    · exact h.2.2.2
  have e146 := hf 146 (by decide)
  have I1 : zInv (60 * k) (c1 146) := by rw [e146]; exact I
  refine ⟨_, c1, rfl, rfl, zO_x hf, zE.mono (e_X9_left (d := 10) hS hB1 I1.1.2.2.2 (zM_it I1) I1.1.2.2.1 (zM_pl I1)) ?_⟩
  rintro r μ' ⟨y, c2, rfl, rfl, g⟩
  rw [e146] at g
  rcases h with ⟨h1, h2, h3⟩ | ⟨h1, h2, h3⟩
  · rcases g with ⟨g1, g2, g3⟩ | ⟨g1, g2, g3⟩
    · exact ⟨c2, by rw [h2, g2], rfl, fun r _ => by rw [g3], by rw [g3]; exact hB1, by rw [g3]; exact zCore_xm hk hC hf zFm.rf⟩
    · omega
  · rcases g with ⟨g1, g2, g3⟩ | ⟨g1, g2, g3, g4⟩
    · omega
    · refine ⟨c2, ?_, rfl, zO_m g3, g4, zCore_xm hk hC hf g3⟩
      rw [h2, g2, zLv_eq R I (by omega), zLvM_c e146])
theorem st_mayPlace (hk : 0 ≤ k) {p s : Int} : zStep L xs k 53 124 [zI p, zI s] [zI p, zI s] := zStep_mk (fun n sl S c hS hB hC => by
  obtain ⟨R, I, hH, hP, hN⟩ := id hC
  have a1 := (zRep_9 R).1.1
  refine zE.mono (e_X8_mayPlace (d := 8) hS hB (zX_c R I) (zX_it2 R I) (zX_r R I) (zX_pl R I) (zX_bl R I) (zX_n R I) (zX_pq R I) (zX_ln R I)) ?_
  rintro r μ' ⟨x, c1, rfl, rfl, h, hf, hB1⟩
  have e146 := hf 146 (by decide)
  have I1 : zInv (60 * k) (c1 146) := by rw [e146]; exact I
  refine ⟨_, c1, rfl, rfl, zO_x hf, zE.mono (e_X9_mayPlace (d := 9) hS hB1 I1.1.2.2.2 (zM_it I1) (zM_so I1) I1.1.2.2.1 (zM_pl I1) (zM_bl I1) I1.1.2.1 (zM_ln I1) I1.1.1) ?_⟩
  rintro r μ' ⟨y, c2, rfl, rfl, g⟩
  rw [e146] at g
  rcases h with ⟨h1, h2⟩ | ⟨h1, h2⟩
  · rcases g with ⟨g1, g2, g3⟩ | ⟨g1, g2, g3⟩
    · exact ⟨c2, by rw [h2, g2], rfl, fun r _ => by rw [g3], by rw [g3]; exact hB1, by rw [g3]; exact zCore_xm hk hC hf zFm.rf⟩
    · omega
  · rcases g with ⟨g1, g2, g3⟩ | ⟨g1, g2, g3, g4⟩
    · omega
    · refine ⟨c2, ?_, rfl, zO_m g3, g4, zCore_xm hk hC hf g3⟩
      rw [zObM_c e146] at g2
      rw [zObM_u ((zOb_iff R I (by omega)).mp h2) g2])
theorem st_owed (hk : 0 ≤ k) {p : Int} : zStep L xs k 54 125 [zI p] [zI p] := zStep_mk (fun n sl S c hS hB hC => by
  obtain ⟨R, I, hH, hP, hN⟩ := id hC
  have a1 := (zRep_9 R).1.1
  refine zE.mono (e_X8_owed (d := 11) hS hB (zX_pq R I)) ?_
  rintro r μ' ⟨x, rfl, hx, rfl⟩
  refine ⟨_, c, rfl, rfl, fun _ _ => rfl, zE.mono (e_X9_owed (d := 11) hS hB I.1.1) ?_⟩
  rintro r μ' ⟨y, rfl, hy, rfl⟩
  refine ⟨c, ?_, rfl, fun _ _ => rfl, hB, zCore_fr hk hC (fun _ _ => rfl) rfl⟩
  rcases hx with hx | hx
  · rcases hy with hy | hy
    · rw [hx.2, hy.2]
    · omega
  · rcases hy with hy | hy
    · omega
    · rw [hx.2, hy.2, ((zRep_9 R).2.1 p (by omega) (by omega)).2.2.2])
theorem st_minutes (hk : 0 ≤ k) {g a b : Int} : zStep L xs k 55 127 [zI g, zI a, zI b] [zI g, zI a, zI b] := zStep_mk (fun n sl S c hS hB hC => by
  obtain ⟨R, I, hH, hP, hN⟩ := id hC
  have a4 := (zRep_9 R).1.2.2.2
  have hz : ∀ j, 0 ≤ j → j < c 146 3 → zMin (c 26 j) (c 26 j + c 27 j) a b = zMin (c 146 (230 + 4 * j + 1)) (c 146 (230 + 4 * j + 1) + c 146 (230 + 4 * j + 2)) a b ∧ c 11 (c 25 j) = c 146 (10 + 4 * c 146 (230 + 4 * j + 0)) := fun j j1 j2 => by
    obtain ⟨b1, b2, b3, b4⟩ := (zRep_9 R).2.2.2.2 j j1 j2
    have hi := I.2.2.2.2.2.1 j j1 j2
    rw [b2, b3, b1, ((zRep_9 R).2.1 _ (by omega) (by omega)).1]
    exact ⟨rfl, rfl⟩
  refine zE.mono (e_X8_minutes (d := 11) hS hB (zX_c R I) (fun i i1 i2 => by have := zX_it2 R I i i1 i2; omega)) ?_
  rintro r μ' h
  have hv : (if g = 4 then b - a - zSum (fun j => zMin (c 26 j) (c 26 j + c 27 j) a b) (c 24 0) else zSum (fun j => if c 11 (c 25 j) = g then zMin (c 26 j) (c 26 j + c 27 j) a b else 0) (c 24 0)) = (if g = 4 then b - a - zSum (fun j => zMin (c 146 (230 + 4 * j + 1)) (c 146 (230 + 4 * j + 1) + c 146 (230 + 4 * j + 2)) a b) (c 146 3) else zSum (fun j => if c 146 (10 + 4 * c 146 (230 + 4 * j + 0)) = g then zMin (c 146 (230 + 4 * j + 1)) (c 146 (230 + 4 * j + 1) + c 146 (230 + 4 * j + 2)) a b else 0) (c 146 3)) := by
    rw [a4]
    split
    · rw [zSum_congr (fun j j1 j2 => (hz j j1 j2).1)]
    · refine zSum_congr (fun j j1 j2 => ?_)
      rw [(hz j j1 j2).1, (hz j j1 j2).2]
  rw [hv] at h
  have hm : ∃ x : Int, r = some (zI x) ∧ μ' = ((n, sl), (S, c)) := h.elim (fun h => ⟨_, h.2.1, h.2.2⟩) (fun h => ⟨_, h.2.1, h.2.2⟩)
  obtain ⟨x, rfl, rfl⟩ := hm
  refine ⟨_, c, rfl, rfl, fun _ _ => rfl, zE.mono (e_X9_minutes (d := 11) hS hB I.1.2.2.2 (zM_ip I)) ?_⟩
  rintro r2 μ2 h2
  have hm2 : μ2 = ((n, sl), (S, c)) := h2.elim (fun h => h.2.2) (fun h => h.2.2)
  refine ⟨c, ?_, hm2, fun _ _ => rfl, hB, zCore_fr hk hC (fun _ _ => rfl) rfl⟩
  rcases h with ⟨p1, p2, -⟩ | ⟨p1, p2, -⟩
  · rcases h2 with ⟨q1, q2, -⟩ | ⟨q1, q2, -⟩
    · exact q2.trans p2.symm
    · exact absurd q1 p1
  · rcases h2 with ⟨q1, q2, -⟩ | ⟨q1, q2, -⟩
    · exact absurd p1 q1
    · exact q2.trans p2.symm)
theorem st_silence (hk : 0 ≤ k) {a b : Int} : zStep L xs k 56 128 [zI a, zI b] [zI a, zI b] := zStep_mk (fun n sl S c hS hB hC => by
  obtain ⟨R, I, hH, hP, hN⟩ := id hC
  have a4 := (zRep_9 R).1.2.2.2
  refine zE.mono (e_X8_silence (d := 11) hS hB (zX_c R I)) ?_
  rintro r μ' h
  have hm : ∃ x : Int, r = some (zI x) ∧ μ' = ((n, sl), (S, c)) := h.elim (fun h => ⟨_, h.2.1, h.2.2⟩) (fun ⟨_, x, q1, _, q3⟩ => ⟨x, q1, q3⟩)
  obtain ⟨x, rfl, rfl⟩ := hm
  refine ⟨_, c, rfl, rfl, fun _ _ => rfl, zE.mono (e_X9_silence (d := 11) hS hB I.1.2.2.2) ?_⟩
  rintro r2 μ2 h2
  have hm2 : μ2 = ((n, sl), (S, c)) := h2.elim (fun h => h.2.2) (fun ⟨_, x, _, _, q3⟩ => q3)
  refine ⟨c, ?_, hm2, fun _ _ => rfl, hB, zCore_fr hk hC (fun _ _ => rfl) rfl⟩
  rcases h with ⟨p1, p2, -⟩ | ⟨p1, y, p2, p3, -⟩
  · rcases h2 with ⟨q1, q2, -⟩ | ⟨q1, _⟩
    · exact q2.trans p2.symm
    · exact absurd q1 p1
  · rcases h2 with ⟨q1, q2, -⟩ | ⟨q1, z, q2, q3, -⟩
    · exact absurd p1 q1
    · rw [a4, zSl_congr (fun j j1 j2 => ⟨((zRep_9 R).2.2.2.2 j j1 j2).2.1, by rw [((zRep_9 R).2.2.2.2 j j1 j2).2.1, ((zRep_9 R).2.2.2.2 j j1 j2).2.2.1]⟩)] at p3
      rw [q2, p2, zSlR_u p3 q3])
theorem st_ranked (hk : 0 ≤ k) {a : Int} : zStep L xs k 57 130 [zI a] [zI a] := zStep_mk (fun n sl S c hS hB hC => by
  obtain ⟨R, I, hH, hP, hN⟩ := id hC
  have a4 := (zRep_9 R).1.2.2.2
  have a1 := (zRep_9 R).1.1
  have hfe : (fun p => zSum (fun j => if c 25 j = p then c 27 j else 0) (c 24 0)) = (fun p => zSum (fun j => if c 146 (230 + 4 * j + 0) = p then c 146 (230 + 4 * j + 2) else 0) (c 146 3)) := by
    funext p
    rw [a4]
    refine zSum_congr (fun j j1 j2 => ?_)
    rw [((zRep_9 R).2.2.2.2 j j1 j2).1, ((zRep_9 R).2.2.2.2 j j1 j2).2.2.1]
  refine zE.mono (e_X8_ranked (d := 10) hS hB (zX_c R I) (zX_pq R I) (fun h1 h2 => zAh_on ⟨h1, h2⟩)) ?_
  rintro r μ' h
  rw [hfe, a1] at h
  have hm : ∃ x : Int, r = some (zI x) ∧ μ' = ((n, sl), (S, c)) := h.elim (fun h => ⟨_, h.2.1, h.2.2⟩) (fun ⟨_, x, q1, _, q3⟩ => ⟨x, q1, q3⟩)
  obtain ⟨x, rfl, rfl⟩ := hm
  refine ⟨_, c, rfl, rfl, fun _ _ => rfl, zE.mono (e_X9_ranked (d := 11) hS hB I.1.2.2.2 I.1.1 (fun h1 h2 => zAh_on ⟨h1, h2⟩)) ?_⟩
  rintro r2 μ2 h2
  have hm2 : μ2 = ((n, sl), (S, c)) := h2.elim (fun h => h.2.2) (fun ⟨_, x, _, _, q3⟩ => q3)
  refine ⟨c, ?_, hm2, fun _ _ => rfl, hB, zCore_fr hk hC (fun _ _ => rfl) rfl⟩
  rcases h with ⟨p1, p2, -⟩ | ⟨p1, y, p2, p3, -⟩
  · rcases h2 with ⟨q1, q2, -⟩ | ⟨q1, _⟩
    · exact q2.trans p2.symm
    · exact absurd q1 p1
  · rcases h2 with ⟨q1, q2, -⟩ | ⟨q1, z, q2, q3, -⟩
    · exact absurd p1 q1
    · rw [q2, p2, zFind_u p3 q3])
theorem zCnt_u {c : zC} {B : Int} (R : zRep c 9 (c 146)) (I : zInv B (c 146)) : ∀ (j : Nat) (x y : Int), (j : Int) ≤ c 146 3 → zCnt8 c j x → zCnt145 c j y → x = y
  | 0, x, y, _, h, h' => h.trans h'.symm
  | j + 1, x, y, hj, h, h' => by
    obtain ⟨b1, b2, b3, b4⟩ := (zRep_9 R).2.2.2.2 j (by omega) (by omega)
    have hi := I.2.2.2.2.2.1 j (by omega) (by omega)
    have hd : zDk (c 20 0) (c 21) (c 22) (c 23) (c 13 (c 25 (j : Int))) (c 26 (j : Int)) (c 26 (j : Int) + c 27 (j : Int)) ↔ zDk (c 146 1) (fun j => c 146 (80 + 3 * j)) (fun j => c 146 (80 + 3 * j + 1)) (fun j => c 146 (80 + 3 * j + 2)) (c 146 (10 + 4 * c 146 (230 + 4 * (j : Int) + 0) + 2)) (c 146 (230 + 4 * (j : Int) + 1)) (c 146 (230 + 4 * (j : Int) + 1) + c 146 (230 + 4 * (j : Int) + 2)) := by
      rw [b2, b3, b1, ((zRep_9 R).2.1 _ hi.1.1 hi.1.2).2.2.1, (zRep_9 R).1.2.2.1]
      exact zDk_congr (fun j j1 j2 => (zRep_9 R).2.2.2.1 j j1 j2)
    rcases h with ⟨h1, h2⟩ | ⟨h1, h2⟩
    · rcases h' with ⟨k1, k2⟩ | ⟨k1, k2⟩
      · have := zCnt_u R I j _ _ (by omega) h2 k2
        omega
      · exact absurd (hd.mp h1) k1
    · rcases h' with ⟨k1, k2⟩ | ⟨k1, k2⟩
      · exact absurd (hd.mpr k1) h1
      · exact zCnt_u R I j _ _ (by omega) h2 k2
theorem st_broken (hk : 0 ≤ k) : zStep L xs k 58 131 [] [] := zStep_mk (fun n sl S c hS hB hC => by
  obtain ⟨R, I, hH, hP, hN⟩ := id hC
  have a4 := (zRep_9 R).1.2.2.2
  refine zE.mono (e_X8_broken (d := 12) hS hB (zX_c R I) (zX_bl R I) (zX_n R I) (fun i i1 i2 => by have := zX_it R I i i1 i2; have := zX_pq R I; omega)) ?_
  rintro r μ' ⟨x, rfl, hx, rfl⟩
  refine ⟨_, c, rfl, rfl, fun _ _ => rfl, zE.mono (e_X9_broken (d := 11) hS hB I.1.2.2.2 (zM_bl I) I.1.2.1 (fun i i1 i2 => by have := I.2.2.2.2.2.1 i i1 i2; have := I.1; omega)) ?_⟩
  rintro r μ' ⟨y, rfl, hy, rfl⟩
  refine ⟨c, ?_, rfl, fun _ _ => rfl, hB, zCore_fr hk hC (fun _ _ => rfl) rfl⟩
  rw [a4] at hx
  have hI := I.1
  rw [zCnt_u R I _ _ _ (by omega) hx hy])
theorem st_earliest (hk : 0 ≤ k) {p s : Int} : zStep L xs k 45 109 [zI p, zI s] [zI p, zI s] := zStep_mk (fun n sl S c hS hB hC => by
  obtain ⟨R, I, hH, hP, hN⟩ := id hC
  have a1 := (zRep_9 R).1.1
  refine zE.mono (e_X8_earliest (d := 7) hS hB (zX_c R I) (zX_it2 R I) (zX_r R I) (zX_pl R I) (zX_bl R I) (zX_n R I) (zX_pq R I) (zX_ln R I) (fun p _ _ => zRt_of)) ?_
  rintro r μ' ⟨x, c1, rfl, rfl, h⟩
  have hf : ∀ r, (r < 131 ∨ 136 < r) → c1 r = c r := by
    rcases h with h | h
    · rw [h.2.2]; exact fun _ _ => rfl
    · exact h.2.2.1
  have hB1 : zBd c1 := by
    rcases h with h | h
    · rw [h.2.2]; exact hB
    · exact h.2.2.2
  have e146 := hf 146 (by decide)
  have I1 : zInv (60 * k) (c1 146) := by rw [e146]; exact I
  refine ⟨_, c1, rfl, rfl, zO_x hf, zE.mono (e_X9_earliest (d := 8) hS hB1 I1.1.2.2.2 (zM_it I1) (zM_so I1) I1.1.2.2.1 (zM_pl I1) (zM_bl I1) I1.1.2.1 (zM_ln I1) I1.1.1) ?_⟩
  rintro r μ' ⟨y, c2, rfl, rfl, g⟩
  rw [e146] at g
  rcases h with ⟨h1, h2, h3⟩ | ⟨h1, h2, -⟩
  · rcases g with ⟨g1, g2, g3⟩ | ⟨g1, g2, g3⟩
    · exact ⟨c2, by rw [h2, g2], rfl, fun r _ => by rw [g3], by rw [g3]; exact hB1, by rw [g3]; exact zCore_xm hk hC hf zFm.rf⟩
    · omega
  · rcases g with ⟨g1, g2, g3⟩ | ⟨g1, g2, g3, g4⟩
    · omega
    · refine ⟨c2, ?_, rfl, zO_m g3, g4, zCore_xm hk hC hf g3⟩
      have hiff : ∀ j, zObM c1 p j 0 ↔ zObs c p j 0 := fun j => by
        rw [zObM_c e146]
        exact (zOb_iff R I (by omega)).symm
      have hxy : y = x := by
        rcases h2 with ⟨p1, p2⟩ | ⟨p1, p2, p3, p4, p5⟩
        · rcases g2 with ⟨q1, q2⟩ | ⟨q1, q2, q3, q4, q5⟩
          · omega
          · exact absurd ((hiff y).mp q4) (p2 y q1 q2 q3)
        · rcases g2 with ⟨q1, q2⟩ | ⟨q1, q2, q3, q4, q5⟩
          · exact absurd ((hiff x).mpr p4) (q2 x p1 p2 p3)
          · rcases Int.lt_trichotomy x y with h9 | h9 | h9
            · exact absurd ((hiff x).mpr p4) (q5 x p1 h9)
            · exact h9.symm
            · exact absurd ((hiff y).mp q4) (p5 y q1 h9)
      rw [hxy])
theorem st_fingerprint (hk : 0 ≤ k) : zStep L xs k 61 137 [] [] := zStep_mk (fun n sl S c hS hB hC => by
  obtain ⟨R, I, hH, hP, hN⟩ := id hC
  obtain ⟨a1, a2, a3, a4⟩ := (zRep_9 R).1
  refine zE.mono (e_X8_fingerprint (d := 9) hS hB (zX_c R I) (zX_it2 R I) (zX_r R I) (zX_pl R I) (zX_pq R I)) ?_
  rintro r μ' ⟨c1, rfl, rfl, hu, hl, hf, hB1⟩
  have e146 := hf 146 (by decide)
  have I1 : zInv (60 * k) (c1 146) := by rw [e146]; exact I
  refine ⟨_, c1, rfl, rfl, zO_x hf, zE.mono (e_X9_fingerprint (d := 10) hS hB1 I1.1.2.2.2 (zM_it I1) I1.1.2.2.1 (zM_pl I1) I1.1.1) ?_⟩
  rintro r μ' ⟨c2, rfl, rfl, gu, gl, g3, g4⟩
  refine ⟨c2, ?_, rfl, zO_m g3, g4, zCore_xm hk hC hf g3⟩
  have e2 : c2 146 = c 146 := (g3.1 146 (by omega)).trans e146
  rw [e146] at gu gl ⊢
  rw [a1, a2, a3, a4]
  have hI := I.1
  refine congrArg (fun z => some (zJ z)) ?_
  unfold zPrt
  rw [zHi_congr (g := zGM c2) (g' := zGX c1) (c 146 3).toNat (fun q i q1 q2 i1 i2 => ?_), zHs_congr (f := fun p => c 146 (10 + 4 * p + 3)) (f' := c 14) (c 146 0).toNat (fun p p1 p2 => ((zRep_9 R).2.1 p p1 (by omega)).2.2.2.symm), zHs_congr (f := c2 152) (f' := c1 136) (c 146 2).toNat (fun r r1 r2 => ?_)]
  · rw [gl r r1 (by omega), hl r r1 (by omega), zLvM_c e146, zLv_eq R I (by omega)]
  · obtain ⟨b1, b2, b3, b4⟩ := (zRep_9 R).2.2.2.2 i i1 (by omega)
    unfold zGM zGX
    rw [e2, hf 25 (by decide), hf 26 (by decide), hf 27 (by decide), hf 28 (by decide)]
    by_cases h0 : q = 0
    · rw [if_pos (by omega), if_pos h0, h0, b1]
    · rw [if_neg h0]
      by_cases h1 : q = 1
      · rw [if_pos (by omega), if_pos h1, h1, b2]
      · rw [if_neg h1]
        by_cases h2 : q = 2
        · rw [if_pos (by omega), if_pos h2, h2, b3]
        · rw [if_neg h2]
          by_cases h3 : q = 3
          · rw [if_pos (by omega), if_pos h3, h3, b4]
          · rw [if_neg h3, if_neg (by omega), gu i i1 (by omega), zUvM_c e146]
            obtain ⟨y, y1, y2⟩ := zUv_eq R I (k := i.toNat) (by omega)
            have h9 := hu i.toNat y y1
            rw [show ((i.toNat : Nat) : Int) = i by omega] at h9
            rw [h9, y2])
end ST
