/-! the model: what runs over, an item treated -/
def zMm (v : Int → Int) : zC := fun r => if r = 146 then v else fun _ => 0
theorem zMm_v (v : Int → Int) : zMm v 146 = v := rfl
def zIB (v : Int → Int) (s : Nat) : Nat → List zEn → List zEn
  | 0, l => l
  | k + 1, l => zInsB (zIB v s k l) (zIt v (s + k))
theorem zIB_mem {v : Int → Int} {s : Nat} {y : zEn} : ∀ (k : Nat) (l : List zEn), y ∈ zIB v s k l → y ∈ l ∨ ∃ j, s ≤ j ∧ j < s + k ∧ y = zIt v j
  | 0, l, h => Or.inl h
  | k + 1, l, h => by
    rcases zInB_mem.mp h with h | h
    · exact Or.inr ⟨s + k, by omega, by omega, h⟩
    · rcases zIB_mem k l h with h | ⟨j, h1, h2, h3⟩
      · exact Or.inl h
      · exact Or.inr ⟨j, h1, by omega, h3⟩
theorem zIB_s {v : Int → Int} {s : Nat} : ∀ (k : Nat) (l : List zEn), zSrt l → zSrt (zIB v s k l) ∧ (zIB v s k l).length = l.length + k
  | 0, l, h => ⟨h, rfl⟩
  | k + 1, l, h => by
    have ih := zIB_s (v := v) (s := s) k l h
    unfold zIB
    exact ⟨zSrt_inB ih.1, by rw [zInB_len]; omega⟩
def zLp (v : Int → Int) (i : Nat) : List zEn := zIB v 0 i (zIB v (i + 1) ((v 3).toNat - i - 1) [])
def zMp (v : Int → Int) (i e : Int) : Prop := e + v (230 + 4 * i + 2) ≤ 10080 ∧ ¬ zDk (v 1) (fun j => v (80 + 3 * j)) (fun j => v (80 + 3 * j + 1)) (fun j => v (80 + 3 * j + 2)) (v (10 + 4 * v (230 + 4 * i + 0) + 2)) e (e + v (230 + 4 * i + 2)) ∧ (v (10 + 4 * v (230 + 4 * i + 0)) = 2 ∨ zOkp (zTM (zMm v)) (zPlM (zMm v)) (v (230 + 4 * i + 0)) (zMk (zMm v) (zInsB (zLp v i.toNat) (v (230 + 4 * i + 0), (e, e + v (230 + 4 * i + 2))))))
def zYes (v : Int → Int) (i e : Int) : Prop := v (10 + 4 * v (230 + 4 * i + 0)) ≠ 2 ∧ ((v (230 + 4 * i + 3) = 1 ∧ e < v (230 + 4 * i + 1) + v (230 + 4 * i + 2)) ∨ (v (230 + 4 * i + 3) ≠ 1 ∧ zMp v i e))
def zNe (v : Int → Int) (i e : Int) : Int := if v (230 + 4 * i + 3) = 1 then v (230 + 4 * i + 1) + v (230 + 4 * i + 2) else e + v (230 + 4 * i + 2)
def zKeV (v : Int → Int) (i e : Int) : Int → Int := fun k => if k = 230 + 4 * i + 1 then e else if k = 230 + 4 * i + 2 then zNe v i e - e else v k
def zOwV (v : Int → Int) (p : Int) : Int → Int := fun k => if k = 10 + 4 * p + 3 then v k + (if v (10 + 4 * p) = 3 then 1 else 0) else v k
def zDrV (v : Int → Int) (i : Int) : Int → Int := fun k => if k = 3 then v 3 - 1 else if 230 + 4 * i ≤ k ∧ k < 230 + 4 * (v 3 - 1) then v (k + 4) else v k
theorem zRepM_in {c c1 : zC} {l : List zEn} (h : zRepM c1 l) (hm : ∀ y ∈ l, 0 ≤ y.1 ∧ y.1 < 16) : ∀ k, 0 ≤ k → k < c1 145 8 → 0 ≤ c1 148 k ∧ c1 148 k < 16 := fun k k1 k2 => by
  have hlt : k.toNat < l.length := by rw [h.1] at k2; omega
  have hx : l[k.toNat]? = some l[k.toNat] := List.getElem?_eq_getElem hlt
  have e1 := (h.2 _ _ hx).1
  rw [show ((k.toNat : Nat) : Int) = k by omega] at e1
  rw [e1]
  exact hm _ (List.mem_of_getElem? hx)
set_option maxRecDepth 10000 in
set_option maxHeartbeats 2000000 in
theorem e_X9_mayPush_2 {d n sl : Nat} {S : zSh} {c : zC} (hS : zSok S) (hc : 0 ≤ c 146 3 ∧ c 146 3 ≤ 60) (hit : ∀ i, 0 ≤ i → i < c 146 3 → 0 ≤ c 146 (230 + 4 * i + 0) ∧ c 146 (230 + 4 * i + 0) < 16 ∧ 0 ≤ c 146 (230 + 4 * i + 1) ∧ 0 ≤ c 146 (230 + 4 * i + 2) ∧ c 146 (230 + 4 * i + 1) + c 146 (230 + 4 * i + 2) ≤ 10080) (hr : 0 ≤ c 146 2 ∧ c 146 2 ≤ 30) (hpl : ∀ r, 0 ≤ r → r < c 146 2 → 0 ≤ c 146 (110 + 4 * r + 3) ∧ c 146 (110 + 4 * r + 3) ≤ 50 ∧ 0 ≤ c 146 (110 + 4 * r)) (hbl : ∀ j, 0 ≤ j → j < c 146 1 → 0 ≤ c 146 (80 + 3 * j) ∧ c 146 (80 + 3 * j) < c 146 (80 + 3 * j + 1) ∧ c 146 (80 + 3 * j + 1) ≤ 1440) (hn : 0 ≤ c 146 1 ∧ c 146 1 ≤ 10) {it e : Int} (hi : 0 ≤ it ∧ it < c 146 3) (he : 0 ≤ e ∧ e ≤ 10080) (h10 : e + c 146 (230 + 4 * it + 2) ≤ 10080) (hdk : ¬ zDk (c 146 1) (fun j => c 146 (80 + 3 * j)) (fun j => c 146 (80 + 3 * j + 1)) (fun j => c 146 (80 + 3 * j + 2)) (c 146 (10 + 4 * c 146 (230 + 4 * it + 0) + 2)) e (e + c 146 (230 + 4 * it + 2))) : ∀ i : Int, i ≤ it → ∀ c1 : zC, (0 ≤ i) → (zRepM c1 (zIB (c 146) 0 i.toNat (zIB (c 146) (it.toNat + 1) ((c 146 3).toNat - it.toNat - 1) []))) → (zFm c c1) → (zBd c1) → zE (d + 3) 113 95 [some (zA 145), some (zI it), some (zI e), some (zI (c 146 (230 + 4 * it + 0))), some (zI (c 146 (230 + 4 * it + 2))), some (zI i)] [] ((n, sl), (S, c1)) (fun r μ' => ∃ (x : Int) (c' : zC), r = some (zI x) ∧ μ' = ((n, sl), (S, c')) ∧ zTf (zMp (c 146) it e) x ∧ zFm c c' ∧ zBd c') := by
  refine zind _ (fun i ih hN => ?_)
  intro c1 h0 hre hfm hBd
  have e146 := hfm.1 146 (by omega)
  have n3 : c1 146 3 = c 146 3 := by rw [e146]
  have hre1 := hre.1
  have hit0 := hit it hi.1 hi.2
  have hlen9 : (zIB (c 146) 0 i.toNat (zIB (c 146) (it.toNat + 1) ((c 146 3).toNat - it.toNat - 1) [])).length = 0 + ((c 146 3).toNat - it.toNat - 1) + i.toNat := by
    rw [(zIB_s i.toNat _ (zIB_s _ [] zSrt_nil).1).2, (zIB_s _ [] zSrt_nil).2]
    rfl
  refine zl_ild5 I113_95 ?_
  refine zl_ild1 I113_97 ?_
  refine zr_ic_ge (t := 132) I113_98 rfl (fun h98 => ?_) (fun h98 => ?_)
  · refine zl_ald0 I113_132 ?_
    refine zl_ild3 I113_133 ?_
    refine zl_ild2 I113_134 ?_
    refine zl_ild4 I113_135 ?_
    refine zr_callV I113_137 C9_83 ⟨rfl, rfl⟩ ⟨rfl, Nat.le_of_ble_eq_true rfl⟩ (Or.inl ⟨rfl, sT145 hS⟩) (e_X9_lists hS hBd (by omega) (by omega) (by omega) (by omega)) (fun v137 μ137 hv137 => ?_)
    obtain ⟨c137, rfl, rfl, hc137⟩ := hv137
    dsimp only [Option.toList, List.cons_append, List.nil_append]
    obtain ⟨t9, q1, q2, q3, q4, q5, q6, q7, q8, hfm9, hBd2⟩ := id hc137
    have hiN : i = it := by omega
    have hre9 : zRepM c1 (zLp (c 146) it.toNat) := by
      have := hre
      rw [hiN] at this
      exact this
    have hso9 : zSrt (zLp (c 146) it.toNat) := (zIB_s it.toNat _ (zIB_s _ [] zSrt_nil).1).1
    have hrep2 := zAddM_rep hc137 hre9 hso9
    have hfm2 := hfm.tr hfm9
    have e146b := hfm2.1 146 (by omega)
    have hep := zRepM_in (c := c) hrep2 (fun y hy => by
      rcases zInB_mem.mp hy with h | h
      · rw [h]
        exact ⟨hit0.1, hit0.2.1⟩
      · rcases zIB_mem _ _ h with h | ⟨j, j1, j2, j3⟩
        · rcases zIB_mem _ _ h with h | ⟨j, j1, j2, j3⟩
          · cases h
          · rw [j3]
            have := hit j (by omega) (by omega)
            exact ⟨this.1, this.2.1⟩
        · rw [j3]
          have := hit j (by omega) (by omega)
          exact ⟨this.1, this.2.1⟩)
    have k8 : c137 145 8 = (zInsB (zLp (c 146) it.toNat) (c 146 (230 + 4 * it + 0), (e, e + c 146 (230 + 4 * it + 2)))).length := hrep2.1
    have k9 : (zLp (c 146) it.toNat).length = 0 + ((c 146 3).toNat - it.toNat - 1) + it.toNat := by
      unfold zLp
      rw [(zIB_s it.toNat _ (zIB_s _ [] zSrt_nil).1).2, (zIB_s _ [] zSrt_nil).2]
      rfl
    rw [zInB_len, k9] at k8
    refine zl_ald0 I113_140 ?_
    refine zl_ild3 I113_141 ?_
    refine zr_callV I113_142 C9_87 ⟨rfl, rfl⟩ ⟨rfl, Nat.le_of_ble_eq_true rfl⟩ (Or.inl ⟨rfl, sT145 hS⟩) (e_X9_isBroken hS hBd2 (by rw [e146b]; exact hr) (by omega) hep (by rw [e146b]; exact hpl) ⟨hit0.1, hit0.2.1⟩) (fun v142 μ142 hv142 => ?_)
    obtain ⟨x142, c142, rfl, rfl, hbr, hgv⟩ := hv142
    have hbk := zBrk_l (p := c 146 (230 + 4 * it + 0)) hrep2 hit0.1
    have eT : zTM c137 = zTM (zMm (c 146)) := by unfold zTM; rw [e146b]; rfl
    have eP : zPlM c137 = zPlM (zMm (c 146)) := by unfold zPlM; rw [e146b]; rfl
    have eM : ∀ l, zMk c137 l = zMk (zMm (c 146)) l := fun l => by unfold zMk; rw [e146b]; rfl
    rw [eT, eP, eM, e146b] at hbk
    rw [e146b] at hbr
    have hfm3 : zFm c c142 := ⟨fun r hr => by rw [hgv.1 r (by omega) (by omega)]; exact hfm2.1 r hr, fun k hk => by rw [hgv.1 145 (by decide) (by decide)]; exact hfm2.2 k hk⟩
    unfold zTf at hbr
    dsimp only [Option.toList, List.cons_append, List.nil_append]
    refine zr_if_ne (t := 152) I113_145 rfl (fun h145 => ?_) (fun h145 => ?_)
    · refine zr_iconst I113_152 ?_
      refine zr_zret I113_153 rfl (by decide) ?_
      have hb1 := hbr.elim (fun h => hbk.mp h.2) (fun h => absurd h.1 h145)
      exact ⟨_, _, rfl, rfl, Or.inr ⟨rfl, fun h => hb1 h.2.2⟩, hfm3, hgv.2.1⟩
    · refine zr_iconst I113_148 ?_
      refine zr_goto (t := 153) I113_149 rfl ?_
      refine zr_zret I113_153 rfl (by decide) ?_
      have hb1 := hbr.elim (fun h => absurd (h.1.symm.trans h145) (by decide)) (fun h => Classical.byContradiction (fun h9 => h.2 (hbk.mpr h9)))
      exact ⟨_, _, rfl, rfl, Or.inl ⟨rfl, h10, hdk, hb1⟩, hfm3, hgv.2.1⟩
  · have hit1 := hit i h0 (by omega)
    refine zl_ald0 I113_101 ?_
    refine zl_ald0 I113_102 ?_
    refine zl_ild5 I113_103 ?_
    refine zr_iconst I113_105 ?_
    refine zr_callV I113_106 C9_45 ⟨rfl, rfl⟩ ⟨rfl, Nat.le_of_ble_eq_true rfl⟩ (Or.inl ⟨rfl, sT145 hS⟩) (e_X9_of hS hBd (i := i) (k := 0) (by omega) (by omega)) (fun v106 μ106 hv106 => ?_)
    obtain ⟨rfl, rfl⟩ := hv106
    dsimp only [Option.toList, List.cons_append, List.nil_append]
    refine zl_ald0 I113_109 ?_
    refine zl_ild5 I113_110 ?_
    refine zr_iconst I113_112 ?_
    refine zr_callV I113_113 C9_45 ⟨rfl, rfl⟩ ⟨rfl, Nat.le_of_ble_eq_true rfl⟩ (Or.inl ⟨rfl, sT145 hS⟩) (e_X9_of hS hBd (i := i) (k := 1) (by omega) (by omega)) (fun v113 μ113 hv113 => ?_)
    obtain ⟨rfl, rfl⟩ := hv113
    dsimp only [Option.toList, List.cons_append, List.nil_append]
    refine zl_ald0 I113_116 ?_
    refine zl_ild5 I113_117 ?_
    refine zr_iconst I113_119 ?_
    refine zr_callV I113_120 C9_45 ⟨rfl, rfl⟩ ⟨rfl, Nat.le_of_ble_eq_true rfl⟩ (Or.inl ⟨rfl, sT145 hS⟩) (e_X9_of hS hBd (i := i) (k := 2) (by omega) (by omega)) (fun v120 μ120 hv120 => ?_)
    obtain ⟨rfl, rfl⟩ := hv120
    dsimp only [Option.toList, List.cons_append, List.nil_append]
    rw [e146]
    refine zr_callV I113_123 C9_83 ⟨rfl, rfl⟩ ⟨rfl, Nat.le_of_ble_eq_true rfl⟩ (Or.inl ⟨rfl, sT145 hS⟩) (e_X9_lists hS hBd (by omega) (by omega) (by omega) (by omega)) (fun v123 μ123 hv123 => ?_)
    obtain ⟨c123, rfl, rfl, hc123⟩ := hv123
    dsimp only [Option.toList, List.cons_append, List.nil_append]
    refine zl_iinc5 I113_126 (by unfold zInR; omega) ?_
    refine zr_goto (t := 95) I113_129 rfl ?_
    have hadd := hc123
    obtain ⟨t9, q1, q2, q3, q4, q5, q6, q7, q8, hfm9, hBd2⟩ := id hadd
    refine ih _ (by omega) (by omega) _ (by omega) ?_ (hfm.tr hfm9) hBd2
    have hrep2 := zAddM_rep hadd hre (zIB_s _ _ (zIB_s _ [] zSrt_nil).1).1
    rw [show (i + 1).toNat = i.toNat + 1 by omega]
    unfold zIB
    have hi9 : zIt (c 146) (0 + i.toNat) = (c 146 (230 + 4 * i + 0), (c 146 (230 + 4 * i + 1), c 146 (230 + 4 * i + 1) + c 146 (230 + 4 * i + 2))) := by
      unfold zIt
      rw [show ((0 + i.toNat : Nat) : Int) = i by omega]
    rw [hi9]
    exact hrep2
set_option maxRecDepth 10000 in
set_option maxHeartbeats 2000000 in
theorem e_X9_mayPush_1 {d n sl : Nat} {S : zSh} {c : zC} (hS : zSok S) (hc : 0 ≤ c 146 3 ∧ c 146 3 ≤ 60) (hit : ∀ i, 0 ≤ i → i < c 146 3 → 0 ≤ c 146 (230 + 4 * i + 0) ∧ c 146 (230 + 4 * i + 0) < 16 ∧ 0 ≤ c 146 (230 + 4 * i + 1) ∧ 0 ≤ c 146 (230 + 4 * i + 2) ∧ c 146 (230 + 4 * i + 1) + c 146 (230 + 4 * i + 2) ≤ 10080) (hr : 0 ≤ c 146 2 ∧ c 146 2 ≤ 30) (hpl : ∀ r, 0 ≤ r → r < c 146 2 → 0 ≤ c 146 (110 + 4 * r + 3) ∧ c 146 (110 + 4 * r + 3) ≤ 50 ∧ 0 ≤ c 146 (110 + 4 * r)) (hbl : ∀ j, 0 ≤ j → j < c 146 1 → 0 ≤ c 146 (80 + 3 * j) ∧ c 146 (80 + 3 * j) < c 146 (80 + 3 * j + 1) ∧ c 146 (80 + 3 * j + 1) ≤ 1440) (hn : 0 ≤ c 146 1 ∧ c 146 1 ≤ 10) {it e : Int} (hi : 0 ≤ it ∧ it < c 146 3) (he : 0 ≤ e ∧ e ≤ 10080) (h10 : e + c 146 (230 + 4 * it + 2) ≤ 10080) (hdk : ¬ zDk (c 146 1) (fun j => c 146 (80 + 3 * j)) (fun j => c 146 (80 + 3 * j + 1)) (fun j => c 146 (80 + 3 * j + 2)) (c 146 (10 + 4 * c 146 (230 + 4 * it + 0) + 2)) e (e + c 146 (230 + 4 * it + 2))) : ∀ i : Int, i ≤ c 146 3 → ∀ c1 : zC, (it + 1 ≤ i) → (zRepM c1 (zIB (c 146) (it.toNat + 1) (i.toNat - it.toNat - 1) [])) → (zFm c c1) → (zBd c1) → zE (d + 3) 113 50 [some (zA 145), some (zI it), some (zI e), some (zI (c 146 (230 + 4 * it + 0))), some (zI (c 146 (230 + 4 * it + 2))), some (zI i)] [] ((n, sl), (S, c1)) (fun r μ' => ∃ (x : Int) (c' : zC), r = some (zI x) ∧ μ' = ((n, sl), (S, c')) ∧ zTf (zMp (c 146) it e) x ∧ zFm c c' ∧ zBd c') := by
  refine zind _ (fun i ih hN => ?_)
  intro c1 h0 hre hfm hBd
  have e146 := hfm.1 146 (by omega)
  have n3 : c1 146 3 = c 146 3 := by rw [e146]
  have hre1 := hre.1
  have hlen9 : (zIB (c 146) (it.toNat + 1) (i.toNat - it.toNat - 1) []).length = 0 + (i.toNat - it.toNat - 1) := (zIB_s _ [] zSrt_nil).2
  refine zl_ild5 I113_50 ?_
  refine zl_ald0 I113_52 ?_
  refine zr_getr (j := 0) I113_53 F9_7 rfl (sT145 hS) (sR145_0 hS) ?_
  refine zr_iconst I113_56 ?_
  refine zr_iaB hBd (by decide) I113_57 (sT146 hS) (sN146 hS) (by omega) (fun b57 => ?_)
  refine zr_ic_ge (t := 92) I113_58 rfl (fun h58 => ?_) (fun h58 => ?_)
  · refine zr_iconst I113_92 ?_
    refine zl_ist5 I113_93 ?_
    refine e_X9_mayPush_2 hS hc hit hr hpl hbl hn hi he h10 hdk 0 (by omega) c1 (by omega) ?_ hfm hBd
    have := hre
    rw [show i.toNat = (c 146 3).toNat by omega] at this
    exact this
  · have hit1 := hit i (by omega) (by omega)
    refine zl_ald0 I113_61 ?_
    refine zl_ald0 I113_62 ?_
    refine zl_ild5 I113_63 ?_
    refine zr_iconst I113_65 ?_
    refine zr_callV I113_66 C9_45 ⟨rfl, rfl⟩ ⟨rfl, Nat.le_of_ble_eq_true rfl⟩ (Or.inl ⟨rfl, sT145 hS⟩) (e_X9_of hS hBd (i := i) (k := 0) (by omega) (by omega)) (fun v66 μ66 hv66 => ?_)
    obtain ⟨rfl, rfl⟩ := hv66
    dsimp only [Option.toList, List.cons_append, List.nil_append]
    refine zl_ald0 I113_69 ?_
    refine zl_ild5 I113_70 ?_
    refine zr_iconst I113_72 ?_
    refine zr_callV I113_73 C9_45 ⟨rfl, rfl⟩ ⟨rfl, Nat.le_of_ble_eq_true rfl⟩ (Or.inl ⟨rfl, sT145 hS⟩) (e_X9_of hS hBd (i := i) (k := 1) (by omega) (by omega)) (fun v73 μ73 hv73 => ?_)
    obtain ⟨rfl, rfl⟩ := hv73
    dsimp only [Option.toList, List.cons_append, List.nil_append]
    refine zl_ald0 I113_76 ?_
    refine zl_ild5 I113_77 ?_
    refine zr_iconst I113_79 ?_
    refine zr_callV I113_80 C9_45 ⟨rfl, rfl⟩ ⟨rfl, Nat.le_of_ble_eq_true rfl⟩ (Or.inl ⟨rfl, sT145 hS⟩) (e_X9_of hS hBd (i := i) (k := 2) (by omega) (by omega)) (fun v80 μ80 hv80 => ?_)
    obtain ⟨rfl, rfl⟩ := hv80
    dsimp only [Option.toList, List.cons_append, List.nil_append]
    rw [e146]
    refine zr_callV I113_83 C9_83 ⟨rfl, rfl⟩ ⟨rfl, Nat.le_of_ble_eq_true rfl⟩ (Or.inl ⟨rfl, sT145 hS⟩) (e_X9_lists hS hBd (by omega) (by omega) (by omega) (by omega)) (fun v83 μ83 hv83 => ?_)
    obtain ⟨c83, rfl, rfl, hc83⟩ := hv83
    dsimp only [Option.toList, List.cons_append, List.nil_append]
    refine zl_iinc5 I113_86 (by unfold zInR; omega) ?_
    refine zr_goto (t := 50) I113_89 rfl ?_
    have hadd := hc83
    obtain ⟨t9, q1, q2, q3, q4, q5, q6, q7, q8, hfm9, hBd2⟩ := id hadd
    refine ih _ (by omega) (by omega) _ (by omega) ?_ (hfm.tr hfm9) hBd2
    have hrep2 := zAddM_rep hadd hre (zIB_s _ [] zSrt_nil).1
    rw [show (i + 1).toNat - it.toNat - 1 = (i.toNat - it.toNat - 1) + 1 by omega]
    unfold zIB
    have hi9 : zIt (c 146) (it.toNat + 1 + (i.toNat - it.toNat - 1)) = (c 146 (230 + 4 * i + 0), (c 146 (230 + 4 * i + 1), c 146 (230 + 4 * i + 1) + c 146 (230 + 4 * i + 2))) := by
      unfold zIt
      rw [show ((it.toNat + 1 + (i.toNat - it.toNat - 1) : Nat) : Int) = i by omega]
    rw [hi9]
    exact hrep2
set_option maxRecDepth 10000 in
set_option maxHeartbeats 2000000 in
theorem e_X9_mayPush {d n sl : Nat} {S : zSh} {c : zC} (hS : zSok S) (hB : zBd c) (hc : 0 ≤ c 146 3 ∧ c 146 3 ≤ 60) (hit : ∀ i, 0 ≤ i → i < c 146 3 → 0 ≤ c 146 (230 + 4 * i + 0) ∧ c 146 (230 + 4 * i + 0) < 16 ∧ 0 ≤ c 146 (230 + 4 * i + 1) ∧ 0 ≤ c 146 (230 + 4 * i + 2) ∧ c 146 (230 + 4 * i + 1) + c 146 (230 + 4 * i + 2) ≤ 10080) (hr : 0 ≤ c 146 2 ∧ c 146 2 ≤ 30) (hpl : ∀ r, 0 ≤ r → r < c 146 2 → 0 ≤ c 146 (110 + 4 * r + 3) ∧ c 146 (110 + 4 * r + 3) ≤ 50 ∧ 0 ≤ c 146 (110 + 4 * r)) (hbl : ∀ j, 0 ≤ j → j < c 146 1 → 0 ≤ c 146 (80 + 3 * j) ∧ c 146 (80 + 3 * j) < c 146 (80 + 3 * j + 1) ∧ c 146 (80 + 3 * j + 1) ≤ 1440) (hn : 0 ≤ c 146 1 ∧ c 146 1 ≤ 10) {it e : Int} (hi : 0 ≤ it ∧ it < c 146 3) (he : 0 ≤ e ∧ e ≤ 10080) : zE (d + 3) 113 0 (zent 113 [zA 145, zI it, zI e]) [] ((n, sl), (S, c)) (fun r μ' => ∃ (x : Int) (c' : zC), r = some (zI x) ∧ μ' = ((n, sl), (S, c')) ∧ zTf (zMp (c 146) it e) x ∧ zFm c c' ∧ zBd c') := by
  show zE (d + 3) 113 0 [some (zA 145), some (zI it), some (zI e), none, none, none] [] ((n, sl), (S, c)) _
  have hit0 := hit it hi.1 hi.2
  refine zl_ald0 I113_0 ?_
  refine zl_ild1 I113_1 ?_
  refine zr_iconst I113_2 ?_
  refine zr_callV I113_3 C9_45 ⟨rfl, rfl⟩ ⟨rfl, Nat.le_of_ble_eq_true rfl⟩ (Or.inl ⟨rfl, sT145 hS⟩) (e_X9_of hS hB (i := it) (k := 0) (by omega) (by omega)) (fun v3 μ3 hv3 => ?_)
  obtain ⟨rfl, rfl⟩ := hv3
  dsimp only [Option.toList, List.cons_append, List.nil_append]
  refine zl_ist3 I113_6 ?_
  refine zl_ald0 I113_7 ?_
  refine zl_ild1 I113_8 ?_
  refine zr_iconst I113_9 ?_
  refine zr_callV I113_10 C9_45 ⟨rfl, rfl⟩ ⟨rfl, Nat.le_of_ble_eq_true rfl⟩ (Or.inl ⟨rfl, sT145 hS⟩) (e_X9_of hS hB (i := it) (k := 2) (by omega) (by omega)) (fun v10 μ10 hv10 => ?_)
  obtain ⟨rfl, rfl⟩ := hv10
  dsimp only [Option.toList, List.cons_append, List.nil_append]
  refine zl_ist4 I113_13 ?_
  refine zl_ild2 I113_15 ?_
  refine zl_ild4 I113_16 ?_
  refine zr_iadd I113_18 (by unfold zInR; omega) ?_
  refine zr_sipush I113_19 ?_
  refine zr_ic_gt (t := 38) I113_22 rfl (fun h22 => ?_) (fun h22 => ?_)
  · refine zr_iconst I113_38 ?_
    refine zr_zret I113_39 rfl (by decide) ?_
    exact ⟨_, _, rfl, rfl, Or.inr ⟨rfl, fun h => by have := h.1; omega⟩, zFm.rf, hB⟩
  · refine zl_ald0 I113_25 ?_
    refine zl_ild3 I113_26 ?_
    refine zl_ild2 I113_27 ?_
    refine zl_ild2 I113_28 ?_
    refine zl_ild4 I113_29 ?_
    refine zr_iadd I113_31 (by unfold zInR; omega) ?_
    refine zr_callV I113_32 C9_90 ⟨rfl, rfl⟩ ⟨rfl, Nat.le_of_ble_eq_true rfl⟩ (Or.inl ⟨rfl, sT145 hS⟩) (e_X9_isDark hS hB hbl hn (by omega) (by omega) (by omega)) (fun v32 μ32 hv32 => ?_)
    obtain ⟨x32, rfl, hx32, rfl⟩ := hv32
    unfold zTf at hx32
    dsimp only [Option.toList, List.cons_append, List.nil_append]
    refine zr_if_eq (t := 40) I113_35 rfl (fun h35 => ?_) (fun h35 => ?_)
    · refine zl_ald0 I113_40 ?_
      refine zr_iconst I113_41 ?_
      refine zr_puti (j := 8) I113_42 F9_56 rfl (sT145 hS) ⟨rfl, fun h => absurd h (by decide)⟩ ?_
      refine zl_ild1 I113_45 ?_
      refine zr_iconst I113_46 ?_
      refine zr_iadd I113_47 (by unfold zInR; omega) ?_
      refine zl_ist5 I113_48 ?_
      have hd9 := hx32.elim (fun h => absurd (h.1.symm.trans h35) (by decide)) (fun h => h.2)
      refine e_X9_mayPush_1 hS hc hit hr hpl hbl hn hi he (by omega) hd9 (it + 1) (by omega) _ (by omega) ⟨?_, ?_⟩ (zFm.rf.up (Or.inr ⟨rfl, rfl⟩)) (zBd_up hB (by decide))
      · rw [show (it + 1).toNat - it.toNat - 1 = 0 by omega, zup_same]
        rfl
      · intro k x hx
        rw [show (it + 1).toNat - it.toNat - 1 = 0 by omega] at hx
        cases hx
    · refine zr_iconst I113_38 ?_
      refine zr_zret I113_39 rfl (by decide) ?_
      have hd9 := hx32.elim (fun h => h.2) (fun h => absurd h.1 h35)
      exact ⟨_, _, rfl, rfl, Or.inr ⟨rfl, fun h => h.2.1 hd9⟩, zFm.rf, hB⟩
set_option maxRecDepth 10000 in
set_option maxHeartbeats 2000000 in
theorem e_X9_treats {d n sl : Nat} {S : zSh} {c : zC} (hS : zSok S) (hB : zBd c) (hc : 0 ≤ c 146 3 ∧ c 146 3 ≤ 60) (hit : ∀ i, 0 ≤ i → i < c 146 3 → 0 ≤ c 146 (230 + 4 * i + 0) ∧ c 146 (230 + 4 * i + 0) < 16 ∧ 0 ≤ c 146 (230 + 4 * i + 1) ∧ 0 ≤ c 146 (230 + 4 * i + 2) ∧ c 146 (230 + 4 * i + 1) + c 146 (230 + 4 * i + 2) ≤ 10080) (hr : 0 ≤ c 146 2 ∧ c 146 2 ≤ 30) (hpl : ∀ r, 0 ≤ r → r < c 146 2 → 0 ≤ c 146 (110 + 4 * r + 3) ∧ c 146 (110 + 4 * r + 3) ≤ 50 ∧ 0 ≤ c 146 (110 + 4 * r)) (hbl : ∀ j, 0 ≤ j → j < c 146 1 → 0 ≤ c 146 (80 + 3 * j) ∧ c 146 (80 + 3 * j) < c 146 (80 + 3 * j + 1) ∧ c 146 (80 + 3 * j + 1) ≤ 1440) (hn : 0 ≤ c 146 1 ∧ c 146 1 ≤ 10) {it e : Int} (hi : 0 ≤ it ∧ it < c 146 3) (he : 0 ≤ e ∧ e ≤ 10080) : zE (d + 4) 114 0 (zent 114 [zA 145, zI it, zI e]) [] ((n, sl), (S, c)) (fun r μ' => ∃ (x : Int) (c' : zC), r = some (zI x) ∧ μ' = ((n, sl), (S, c')) ∧ zBd c' ∧ ((¬ zYes (c 146) it e ∧ x = -1 ∧ zFm c c') ∨ (zYes (c 146) it e ∧ x = zNe (c 146) it e ∧ (∀ r, (r < 145 ∨ 154 < r ∨ r = 147) → c' r = c r) ∧ (∀ k, k ≠ 8 → c' 145 k = c 145 k) ∧ ∀ k, c' 146 k = zKeV (c 146) it e k))) := by
  show zE (d + 4) 114 0 [some (zA 145), some (zI it), some (zI e), none, none] [] ((n, sl), (S, c)) _
  have hit0 := hit it hi.1 hi.2
  refine zl_ald0 I114_0 ?_
  refine zl_ild1 I114_1 ?_
  refine zr_iconst I114_2 ?_
  refine zr_callV I114_3 C9_45 ⟨rfl, rfl⟩ ⟨rfl, Nat.le_of_ble_eq_true rfl⟩ (Or.inl ⟨rfl, sT145 hS⟩) (e_X9_of hS hB (i := it) (k := 0) (by omega) (by omega)) (fun v3 μ3 hv3 => ?_)
  obtain ⟨rfl, rfl⟩ := hv3
  dsimp only [Option.toList, List.cons_append, List.nil_append]
  refine zl_ist3 I114_6 ?_
  refine zl_ald0 I114_7 ?_
  refine zl_ild1 I114_8 ?_
  refine zr_iconst I114_9 ?_
  refine zr_callV I114_10 C9_45 ⟨rfl, rfl⟩ ⟨rfl, Nat.le_of_ble_eq_true rfl⟩ (Or.inl ⟨rfl, sT145 hS⟩) (e_X9_of hS hB (i := it) (k := 3) (by omega) (by omega)) (fun v10 μ10 hv10 => ?_)
  obtain ⟨rfl, rfl⟩ := hv10
  dsimp only [Option.toList, List.cons_append, List.nil_append]
  refine zr_iconst I114_13 ?_
  refine zr_ic_ne (t := 21) I114_14 rfl (fun h14 => ?_) (fun h14 => ?_)
  · refine zr_iconst I114_21 ?_
    refine zl_ist4 I114_22 ?_
    refine zl_ald0 I114_24 ?_
    refine zl_ild3 I114_25 ?_
    refine zr_callV I114_26 C9_59 ⟨rfl, rfl⟩ ⟨rfl, Nat.le_of_ble_eq_true rfl⟩ (Or.inl ⟨rfl, sT145 hS⟩) (e_X9_kind hS hB (by omega)) (fun v26 μ26 hv26 => ?_)
    obtain ⟨rfl, rfl⟩ := hv26
    dsimp only [Option.toList, List.cons_append, List.nil_append]
    refine zr_iconst I114_29 ?_
    refine zr_ic_eq (t := 59) I114_30 rfl (fun h30 => ?_) (fun h30 => ?_)
    · refine zr_iconst I114_59 ?_
      refine zr_iret I114_60 rfl ?_
      exact ⟨_, _, rfl, rfl, hB, Or.inl ⟨fun h => h.1 h30, rfl, zFm.rf⟩⟩
    · refine zl_ild4 I114_33 ?_
      refine zr_if_eq (t := 50) I114_35 rfl (fun h35 => ?_) (fun h35 => absurd h35 (by omega))
      refine zl_ald0 I114_50 ?_
      refine zl_ild1 I114_51 ?_
      refine zl_ild2 I114_52 ?_
      refine zr_callV I114_53 C9_117 ⟨rfl, rfl⟩ ⟨rfl, Nat.le_of_ble_eq_true rfl⟩ (Or.inl ⟨rfl, sT145 hS⟩) (e_X9_mayPush hS hB hc hit hr hpl hbl hn hi he) (fun v53 μ53 hv53 => ?_)
      obtain ⟨x53, c53, rfl, rfl, hpx, hfp, hBp⟩ := hv53
      have e146 := hfp.1 146 (by omega)
      unfold zTf at hpx
      dsimp only [Option.toList, List.cons_append, List.nil_append]
      refine zr_if_ne (t := 61) I114_56 rfl (fun h56 => ?_) (fun h56 => ?_)
      · refine zl_ild4 I114_61 ?_
        refine zr_if_eq (t := 87) I114_63 rfl (fun h63 => ?_) (fun h63 => absurd h63 (by omega))
        refine zl_ald0 I114_87 ?_
        refine zr_getr (j := 0) I114_88 F9_7 rfl (sT145 hS) (sR145_0 hS) ?_
        refine zr_sipush I114_91 ?_
        refine zr_iconst I114_94 ?_
        refine zl_ild1 I114_95 ?_
        refine zr_imul I114_96 (by unfold zInR; omega) ?_
        refine zr_iadd I114_97 (by unfold zInR; omega) ?_
        refine zr_iconst I114_98 ?_
        refine zr_iadd I114_99 (by unfold zInR; omega) ?_
        refine zl_ild2 I114_100 ?_
        refine zr_iast I114_101 (sT146 hS) (sN146 hS) (by omega) ?_
        have hB9 : zBd (zup c53 146 (230 + 4 * it + 1) e) := zBd_up hBp (by omega)
        refine zl_ald0 I114_102 ?_
        refine zl_ild1 I114_103 ?_
        refine zr_callV I114_104 C9_70 ⟨rfl, rfl⟩ ⟨rfl, Nat.le_of_ble_eq_true rfl⟩ (Or.inl ⟨rfl, sT145 hS⟩) (e_X9_end hS hB9 (by omega)) (fun v104 μ104 hv104 => ?_)
        obtain ⟨rfl, rfl⟩ := hv104
        dsimp only [Option.toList, List.cons_append, List.nil_append]
        refine zr_iret I114_107 rfl ?_
        have hy9 := hpx.elim (fun h => h.2) (fun h => absurd h.1 h56)
        have ne9 : zNe (c 146) it e = e + c 146 (230 + 4 * it + 2) := by unfold zNe; rw [if_neg h14]
        refine ⟨_, _, rfl, rfl, zBd_up hBp (by omega), Or.inr ⟨⟨h30, Or.inr ⟨h14, hy9⟩⟩, ?_, fun r hr => by rw [zup_ne (by omega)]; exact hfp.1 r (by omega), fun k hk => by rw [zup_oth (by decide)]; exact hfp.2 k hk, fun k => ?_⟩⟩
        · rw [ne9, zup_q, if_pos rfl, zup_q, if_neg (by omega), e146]
        · rw [zup_q, e146]
          unfold zKeV
          rw [ne9]
          by_cases e1 : k = 230 + 4 * it + 1
          · rw [if_pos e1, if_pos e1]
          · rw [if_neg e1, if_neg e1]
            by_cases e2 : k = 230 + 4 * it + 2
            · rw [if_pos e2, e2]
              omega
            · rw [if_neg e2]
      · refine zr_iconst I114_59 ?_
        refine zr_iret I114_60 rfl ?_
        have hn9 := hpx.elim (fun h => absurd (h.1.symm.trans h56) (by decide)) (fun h => h.2)
        exact ⟨_, _, rfl, rfl, hBp, Or.inl ⟨fun h => h.2.elim (fun h => h14 h.1) (fun h => hn9 h.2), rfl, hfp⟩⟩
  · refine zr_iconst I114_17 ?_
    refine zr_goto (t := 22) I114_18 rfl ?_
    refine zl_ist4 I114_22 ?_
    refine zl_ald0 I114_24 ?_
    refine zl_ild3 I114_25 ?_
    refine zr_callV I114_26 C9_59 ⟨rfl, rfl⟩ ⟨rfl, Nat.le_of_ble_eq_true rfl⟩ (Or.inl ⟨rfl, sT145 hS⟩) (e_X9_kind hS hB (by omega)) (fun v26 μ26 hv26 => ?_)
    obtain ⟨rfl, rfl⟩ := hv26
    dsimp only [Option.toList, List.cons_append, List.nil_append]
    refine zr_iconst I114_29 ?_
    refine zr_ic_eq (t := 59) I114_30 rfl (fun h30 => ?_) (fun h30 => ?_)
    · refine zr_iconst I114_59 ?_
      refine zr_iret I114_60 rfl ?_
      exact ⟨_, _, rfl, rfl, hB, Or.inl ⟨fun h => h.1 h30, rfl, zFm.rf⟩⟩
    · refine zl_ild4 I114_33 ?_
      refine zr_if_eq (t := 50) I114_35 rfl (fun h35 => absurd h35 (by omega)) (fun h35 => ?_)
      refine zl_ald0 I114_38 ?_
      refine zl_ild1 I114_39 ?_
      refine zr_callV I114_40 C9_70 ⟨rfl, rfl⟩ ⟨rfl, Nat.le_of_ble_eq_true rfl⟩ (Or.inl ⟨rfl, sT145 hS⟩) (e_X9_end hS hB (by omega)) (fun v40 μ40 hv40 => ?_)
      obtain ⟨rfl, rfl⟩ := hv40
      dsimp only [Option.toList, List.cons_append, List.nil_append]
      refine zl_ild2 I114_43 ?_
      refine zr_ic_gt (t := 61) I114_44 rfl (fun h44 => ?_) (fun h44 => ?_)
      · refine zl_ild4 I114_61 ?_
        refine zr_if_eq (t := 87) I114_63 rfl (fun h63 => absurd h63 (by omega)) (fun h63 => ?_)
        refine zl_ald0 I114_66 ?_
        refine zr_getr (j := 0) I114_67 F9_7 rfl (sT145 hS) (sR145_0 hS) ?_
        refine zr_sipush I114_70 ?_
        refine zr_iconst I114_73 ?_
        refine zl_ild1 I114_74 ?_
        refine zr_imul I114_75 (by unfold zInR; omega) ?_
        refine zr_iadd I114_76 (by unfold zInR; omega) ?_
        refine zr_iconst I114_77 ?_
        refine zr_iadd I114_78 (by unfold zInR; omega) ?_
        refine zl_ald0 I114_79 ?_
        refine zl_ild1 I114_80 ?_
        refine zr_callV I114_81 C9_70 ⟨rfl, rfl⟩ ⟨rfl, Nat.le_of_ble_eq_true rfl⟩ (Or.inl ⟨rfl, sT145 hS⟩) (e_X9_end hS hB (by omega)) (fun v81 μ81 hv81 => ?_)
        obtain ⟨rfl, rfl⟩ := hv81
        dsimp only [Option.toList, List.cons_append, List.nil_append]
        refine zl_ild2 I114_84 ?_
        refine zr_isub I114_85 (by unfold zInR; omega) ?_
        refine zr_iast I114_86 (sT146 hS) (sN146 hS) (by omega) ?_
        refine zl_ald0 I114_87 ?_
        refine zr_getr (j := 0) I114_88 F9_7 rfl (sT145 hS) (sR145_0 hS) ?_
        refine zr_sipush I114_91 ?_
        refine zr_iconst I114_94 ?_
        refine zl_ild1 I114_95 ?_
        refine zr_imul I114_96 (by unfold zInR; omega) ?_
        refine zr_iadd I114_97 (by unfold zInR; omega) ?_
        refine zr_iconst I114_98 ?_
        refine zr_iadd I114_99 (by unfold zInR; omega) ?_
        refine zl_ild2 I114_100 ?_
        refine zr_iast I114_101 (sT146 hS) (sN146 hS) (by omega) ?_
        have hB9 : zBd (zup (zup c 146 (230 + 4 * it + 2) (c 146 (230 + 4 * it + 1) + c 146 (230 + 4 * it + 2) - e)) 146 (230 + 4 * it + 1) e) := zBd_up (zBd_up hB (by omega)) (by omega)
        refine zl_ald0 I114_102 ?_
        refine zl_ild1 I114_103 ?_
        refine zr_callV I114_104 C9_70 ⟨rfl, rfl⟩ ⟨rfl, Nat.le_of_ble_eq_true rfl⟩ (Or.inl ⟨rfl, sT145 hS⟩) (e_X9_end hS hB9 (by omega)) (fun v104 μ104 hv104 => ?_)
        obtain ⟨rfl, rfl⟩ := hv104
        dsimp only [Option.toList, List.cons_append, List.nil_append]
        refine zr_iret I114_107 rfl ?_
        have ne9 : zNe (c 146) it e = c 146 (230 + 4 * it + 1) + c 146 (230 + 4 * it + 2) := by unfold zNe; rw [if_pos h14]
        refine ⟨_, _, rfl, rfl, hB9, Or.inr ⟨⟨h30, Or.inl ⟨h14, by omega⟩⟩, ?_, fun r hr => by rw [zup_ne (by omega), zup_ne (by omega)], fun k hk => by rw [zup_oth (by decide), zup_oth (by decide)], fun k => ?_⟩⟩
        · rw [ne9, zup_q, if_pos rfl, zup_q, if_neg (by omega), zup_q, if_pos rfl]
          omega
        · rw [zup_q, zup_q]
          unfold zKeV
          rw [ne9]
      · refine zr_goto (t := 59) I114_47 rfl ?_
        refine zr_iconst I114_59 ?_
        refine zr_iret I114_60 rfl ?_
        exact ⟨_, _, rfl, rfl, hB, Or.inl ⟨fun h => h.2.elim (fun h => by have := h.2; omega) (fun h => h.1 (by omega)), rfl, zFm.rf⟩⟩
