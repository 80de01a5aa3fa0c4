/-! the model: whether a programme may start -/
def zMk (c : zC) (l : List zEn) : List zEn := l.map (fun x => (if c 146 (10 + 4 * x.1) = 2 then -9 else x.1, x.2))
theorem zMk_get {c : zC} {l : List zEn} {k : Nat} {x : zEn} (h : l[k]? = some x) : (zMk c l)[k]? = some (if c 146 (10 + 4 * x.1) = 2 then -9 else x.1, x.2) := by
  unfold zMk
  rw [List.getElem?_map, h]
  rfl
theorem zLM_l {c : zC} {l : List zEn} (h : zRepM c l) : ∀ k : Nat, k ≤ l.length → zLM c k = zLfl (zTM c) (zPlM c) ((zMk c l).take k)
  | 0, _ => by simp [zLM, zLf, zLfl]
  | k + 1, hk => by
    have ih := zLM_l h k (by omega)
    have hlt : k < l.length := by omega
    have hx : l[k]? = some l[k] := List.getElem?_eq_getElem hlt
    obtain ⟨e1, e2, e3⟩ := h.2 k _ hx
    rw [List.take_succ, zMk_get hx, Option.toList_some, zLfl_snoc, ← ih]
    unfold zStp
    dsimp only
    rw [← e1, ← e2, show l[k].2.2 = zEeM c k by unfold zEeM; omega]
    rfl
theorem zUM_l {c : zC} {l : List zEn} (h : zRepM c l) {k : Nat} {x : zEn} (hx : l[k]? = some x) : zUM c k = zUsl (zTM c) (zPlM c) (zMk c l) k (if c 146 (10 + 4 * x.1) = 2 then -9 else x.1, x.2) := by
  obtain ⟨e1, e2, e3⟩ := h.2 k x hx
  have e4 := zLM_l h k (Nat.le_of_lt (List.getElem?_eq_some_iff.mp hx).1)
  unfold zUsl
  rw [← e4]
  dsimp only
  rw [← e1, ← e2, show x.2.2 = zEeM c k by unfold zEeM; omega]
  rfl
/-- every entry of a programme finds a right -/
def zOkp (T : zRT) (pl : Int → Int) (p : Int) (l : List zEn) : Prop := ∀ (k : Nat) (x : zEn), l[k]? = some x → x.1 = p → zUsl T pl l k x ≠ -9
theorem zBrk_l {c : zC} {l : List zEn} (h : zRepM c l) {p : Int} (hp : 0 ≤ p) : (∃ j, 0 ≤ j ∧ j < c 145 8 ∧ c 148 j = p ∧ zUM c j.toNat < 0 ∧ c 146 (10 + 4 * p) ≠ 2) ↔ ¬ (c 146 (10 + 4 * p) = 2 ∨ zOkp (zTM c) (zPlM c) p (zMk c l)) := by
  constructor
  · rintro ⟨j, j1, j2, j3, j4, j5⟩ h1
    have hlt : j.toNat < l.length := by rw [h.1] at j2; omega
    have hx : l[j.toNat]? = some l[j.toNat] := List.getElem?_eq_getElem hlt
    have e1 := (h.2 _ _ hx).1
    rw [show ((j.toNat : Nat) : Int) = j by omega] at e1
    have e2 := zUM_l h hx
    rcases h1 with h1 | h1
    · exact j5 h1
    · have h2 := h1 j.toNat _ (zMk_get hx) (by rw [← e1, j3]; dsimp only; rw [if_neg j5])
      rw [← e2] at h2
      have h3 := zBst_in (zTM c) (zLf (zTM c) (zPlM c) (zEpM c) (c 149) (zEeM c) j.toNat) (zEpM c j.toNat) (c 149 j.toNat) (zEeM c j.toNat) (zTM c).1
      have h4 : zUM c j.toNat = zBst (zTM c) (zLf (zTM c) (zPlM c) (zEpM c) (c 149) (zEeM c) j.toNat) (zEpM c j.toNat) (c 149 j.toNat) (zEeM c j.toNat) (zTM c).1 := rfl
      rw [← h4] at h3
      omega
  · intro h1
    refine Classical.byContradiction (fun h2 => h1 (Or.inr (fun k x hx hxp => ?_)))
    intro h3
    unfold zMk at hx
    rw [List.getElem?_map, Option.map_eq_some_iff] at hx
    obtain ⟨y, hy, rfl⟩ := hx
    have hk2 : c 146 (10 + 4 * p) ≠ 2 := fun h => h1 (Or.inl h)
    have e1 := (h.2 _ _ hy).1
    have hlt := (List.getElem?_eq_some_iff.mp hy).1
    dsimp only at hxp
    by_cases e9 : c 146 (10 + 4 * y.1) = 2
    · rw [if_pos e9] at hxp
      omega
    · rw [if_neg e9] at hxp
      have e2 := zUM_l h hy
      exact h2 ⟨k, by omega, by rw [h.1]; omega, by omega, by
        rw [show ((k : Int)).toNat = k by omega, e2, h3]
        decide, hk2⟩
theorem zRepM_len {c : zC} {l : List zEn} (h : zRepM c l) : c 145 8 = l.length := h.1
/-- all items of the model's row -/
def zIt (v : Int → Int) (k : Nat) : zEn := (v (230 + 4 * (k : Int) + 0), (v (230 + 4 * (k : Int) + 1), v (230 + 4 * (k : Int) + 1) + v (230 + 4 * (k : Int) + 2)))
def zAl (v : Int → Int) (n : Nat) : List zEn := (List.range n).map (zIt v)
theorem zAl_get {v : Int → Int} {n k : Nat} {x : zEn} (h : (zAl v n)[k]? = some x) : k < n ∧ x = zIt v k := by
  unfold zAl at h
  rw [List.getElem?_map, Option.map_eq_some_iff] at h
  obtain ⟨j, h1, h2⟩ := h
  have h3 := List.getElem?_eq_some_iff.mp h1
  obtain ⟨h4, h5⟩ := h3
  simp at h4 h5
  subst h5
  exact ⟨h4, h2.symm⟩
def zObM (c : zC) (p s x : Int) : Prop := zFlt (60 ≤ c 146 3) (10080 < s + c 146 (10 + 4 * p + 1) ∨ zHit (c 146 3) (fun j => c 146 (230 + 4 * j + 1)) (fun j => c 146 (230 + 4 * j + 2)) s (s + c 146 (10 + 4 * p + 1))) (c 146 (10 + 4 * p) = 2 ∨ zOkp (zTM c) (zPlM c) p (zMk c (zInsB (zAl (c 146) (c 146 3).toNat) (p, (s, s + c 146 (10 + 4 * p + 1)))))) (zDk (c 146 1) (fun j => c 146 (80 + 3 * j)) (fun j => c 146 (80 + 3 * j + 1)) (fun j => c 146 (80 + 3 * j + 2)) (c 146 (10 + 4 * p + 2)) s (s + c 146 (10 + 4 * p + 1))) x
set_option maxRecDepth 10000 in
set_option maxHeartbeats 2000000 in
theorem e_X9_fault {d n sl : Nat} {S : zSh} {c : zC} (hS : zSok S) (hB : zBd c) (hc : 0 ≤ c 146 3 ∧ c 146 3 ≤ 60) (hit : ∀ i, 0 ≤ i → i < c 146 3 → 0 ≤ c 146 (230 + 4 * i + 0) ∧ c 146 (230 + 4 * i + 0) < 16 ∧ 0 ≤ c 146 (230 + 4 * i + 1) ∧ c 146 (230 + 4 * i + 1) ≤ 20000 ∧ 0 ≤ c 146 (230 + 4 * i + 2) ∧ c 146 (230 + 4 * i + 2) ≤ 20000) (hso : zSrt (zAl (c 146) (c 146 3).toNat)) (hr : 0 ≤ c 146 2 ∧ c 146 2 ≤ 30) (hpl : ∀ r, 0 ≤ r → r < c 146 2 → 0 ≤ c 146 (110 + 4 * r + 3) ∧ c 146 (110 + 4 * r + 3) ≤ 50 ∧ 0 ≤ c 146 (110 + 4 * r)) (hbl : ∀ j, 0 ≤ j → j < c 146 1 → 0 ≤ c 146 (80 + 3 * j) ∧ c 146 (80 + 3 * j) < c 146 (80 + 3 * j + 1) ∧ c 146 (80 + 3 * j + 1) ≤ 1440) (hn : 0 ≤ c 146 1 ∧ c 146 1 ≤ 10) {p s : Int} (hpp : 0 ≤ p ∧ p < 16) (hln : 1 ≤ c 146 (10 + 4 * p + 1) ∧ c 146 (10 + 4 * p + 1) ≤ 240) (hs : 0 ≤ s ∧ s ≤ 10079) : zE (d + 3) 103 0 (zent 103 [zA 145, zI p, zI s]) [] ((n, sl), (S, c)) (fun r μ' => ∃ (x : Int) (c' : zC), r = some (zI x) ∧ μ' = ((n, sl), (S, c')) ∧ (zObM c p s x ∧ zFm c c' ∧ zBd c')) := by
  show zE (d + 3) 103 0 [some (zA 145), some (zI p), some (zI s), none] [] ((n, sl), (S, c)) _
  refine zl_ild2 I103_0 ?_
  refine zl_ald0 I103_1 ?_
  refine zl_ild1 I103_2 ?_
  refine zr_callV I103_3 C9_73 ⟨rfl, rfl⟩ ⟨rfl, Nat.le_of_ble_eq_true rfl⟩ (Or.inl ⟨rfl, sT145 hS⟩) (e_X9_length hS hB (by omega)) (fun v3 μ3 hv3 => ?_)
  obtain ⟨rfl, rfl⟩ := hv3
  dsimp only [Option.toList, List.cons_append, List.nil_append]
  refine zr_iadd I103_6 (by unfold zInR; omega) ?_
  have hl0 := hB 146 (10 + 4 * p + 1) (by decide)
  refine zl_ist3 I103_7 ?_
  refine zl_ald0 I103_8 ?_
  refine zr_getr (j := 0) I103_9 F9_7 rfl (sT145 hS) (sR145_0 hS) ?_
  refine zr_iconst I103_12 ?_
  refine zr_iaB hB (by decide) I103_13 (sT146 hS) (sN146 hS) (by omega) (fun b13 => ?_)
  refine zr_bipush I103_14 ?_
  refine zr_ic_ne (t := 22) I103_16 rfl (fun h16 => ?_) (fun h16 => ?_)
  · have hnf : ¬ 60 ≤ c 146 3 := by omega
    refine zl_ild3 I103_22 ?_
    refine zr_sipush I103_23 ?_
    refine zr_ic_gt (t := 38) I103_26 rfl (fun h26 => ?_) (fun h26 => ?_)
    · refine zr_bipush I103_38 ?_
      refine zr_iret I103_40 rfl ?_
      exact ⟨_, _, rfl, rfl, Or.inr (Or.inl ⟨hnf, Or.inl (by omega), rfl⟩), zFm.rf, hB⟩
    · refine zl_ald0 I103_29 ?_
      refine zl_ild2 I103_30 ?_
      refine zl_ild3 I103_31 ?_
      refine zr_callV I103_32 C9_76 ⟨rfl, rfl⟩ ⟨rfl, Nat.le_of_ble_eq_true rfl⟩ (Or.inl ⟨rfl, sT145 hS⟩) (e_X9_isTaken hS hB hc) (fun v32 μ32 hv32 => ?_)
      obtain ⟨x32, rfl, hx32, rfl⟩ := hv32
      unfold zTf at hx32
      dsimp only [Option.toList, List.cons_append, List.nil_append]
      refine zr_if_eq (t := 41) I103_35 rfl (fun h35 => ?_) (fun h35 => ?_)
      · refine zl_ald0 I103_41 ?_
        refine zr_callV I103_42 C9_80 ⟨rfl, rfl⟩ ⟨rfl, Nat.le_of_ble_eq_true rfl⟩ (Or.inl ⟨rfl, sT145 hS⟩) (e_X9_listsAll hS hB hc) (fun v42 μ42 hv42 => ?_)
        obtain ⟨c42, rfl, rfl, hc42⟩ := hv42
        dsimp only [Option.toList, List.cons_append, List.nil_append]
        obtain ⟨la1, la2, la3, la4⟩ := hc42
        have hrep : zRepM c42 (zAl (c 146) (c 146 3).toNat) := by
          refine ⟨by rw [la1]; unfold zAl; simp; omega, fun k x hx => ?_⟩
          obtain ⟨k1, rfl⟩ := zAl_get hx
          obtain ⟨l1, l2, l3⟩ := la2 k (by omega) (by omega)
          unfold zIt
          exact ⟨l1, l2, by rw [l3]; dsimp only; omega⟩
        have k0 := hrep.1
        refine zl_ald0 I103_45 ?_
        refine zl_ild1 I103_46 ?_
        refine zl_ild2 I103_47 ?_
        refine zl_ild3 I103_48 ?_
        refine zl_ild2 I103_49 ?_
        refine zr_isub I103_50 (by unfold zInR; omega) ?_
        refine zr_callV I103_51 C9_83 ⟨rfl, rfl⟩ ⟨rfl, Nat.le_of_ble_eq_true rfl⟩ (Or.inl ⟨rfl, sT145 hS⟩) (e_X9_lists hS la4 (by omega) (by omega) (by omega) (by omega)) (fun v51 μ51 hv51 => ?_)
        obtain ⟨c51, rfl, rfl, hc51⟩ := hv51
        dsimp only [Option.toList, List.cons_append, List.nil_append]
        obtain ⟨t9, q1, q2, q3, q4, q5, q6, q7, q8, hfm2, hBd2⟩ := id hc51
        have hrep2 := zAddM_rep hc51 hrep hso
        rw [show s + (s + c 146 (10 + 4 * p + 1) - s) = s + c 146 (10 + 4 * p + 1) by omega] at hrep2
        have hfm := la3.tr hfm2
        have e146 := hfm.1 146 (by omega)
        have hep : ∀ k, 0 ≤ k → k < c51 145 8 → 0 ≤ c51 148 k ∧ c51 148 k < 16 := fun k k1 k2 => by
          rcases Int.lt_trichotomy k t9 with hk | hk | hk
          · have := la2 k k1 (by omega)
            have := hit k k1 (by omega)
            have := q6 k k1 hk
            omega
          · subst hk
            omega
          · have := q8 (k - 1) (by omega) (by omega)
            rw [show k - 1 + 1 = k by omega] at this
            have := la2 (k - 1) (by omega) (by omega)
            have := hit (k - 1) (by omega) (by omega)
            omega
        refine zl_ald0 I103_54 ?_
        refine zl_ild1 I103_55 ?_
        refine zr_callV I103_56 C9_87 ⟨rfl, rfl⟩ ⟨rfl, Nat.le_of_ble_eq_true rfl⟩ (Or.inl ⟨rfl, sT145 hS⟩) (e_X9_isBroken hS hBd2 (by rw [e146]; exact hr) (by omega) hep (by rw [e146]; exact hpl) hpp) (fun v56 μ56 hv56 => ?_)
        obtain ⟨x56, c56, rfl, rfl, hbr, hgv⟩ := hv56
        have hbk := zBrk_l (p := p) hrep2 hpp.1
        have eT : zTM c51 = zTM c := by unfold zTM; rw [e146]
        have eP : zPlM c51 = zPlM c := by unfold zPlM; rw [e146]
        have eM : ∀ l, zMk c51 l = zMk c l := fun l => by unfold zMk; rw [e146]
        rw [eT, eP, eM, e146] at hbk
        rw [e146] at hbr
        have hfm3 : zFm c c56 := ⟨fun r hr => by rw [hgv.1 r (by omega) (by omega)]; exact hfm.1 r hr, fun k hk => by rw [hgv.1 145 (by decide) (by decide)]; exact hfm.2 k hk⟩
        have e146b := hfm3.1 146 (by omega)
        dsimp only [Option.toList, List.cons_append, List.nil_append]
        unfold zTf at hbr
        refine zr_if_eq (t := 67) I103_59 rfl (fun h59 => ?_) (fun h59 => ?_)
        · refine zl_ald0 I103_67 ?_
          refine zl_ild1 I103_68 ?_
          refine zl_ild2 I103_69 ?_
          refine zl_ild3 I103_70 ?_
          refine zr_callV I103_71 C9_90 ⟨rfl, rfl⟩ ⟨rfl, Nat.le_of_ble_eq_true rfl⟩ (Or.inl ⟨rfl, sT145 hS⟩) (e_X9_isDark hS hgv.2.1 (by rw [e146b]; exact hbl) (by rw [e146b]; exact hn) hpp (by omega) (by omega)) (fun v71 μ71 hv71 => ?_)
          obtain ⟨x71, rfl, hx71, rfl⟩ := hv71
          rw [e146b] at hx71
          unfold zTf at hx71
          dsimp only [Option.toList, List.cons_append, List.nil_append]
          refine zr_if_eq (t := 82) I103_74 rfl (fun h74 => ?_) (fun h74 => ?_)
          · refine zr_iconst I103_82 ?_
            refine zr_iret I103_83 rfl ?_
            have hz := hx32.elim (fun h => absurd (h.1.symm.trans h35) (by decide)) (fun h => h.2)
            have hcl : ¬ (10080 < s + c 146 (10 + 4 * p + 1) ∨ zHit (c 146 3) (fun j => c 146 (230 + 4 * j + 1)) (fun j => c 146 (230 + 4 * j + 2)) s (s + c 146 (10 + 4 * p + 1))) := fun h => h.elim (fun h => by omega) hz
            have hb1 := hbr.elim (fun h => absurd (h.1.symm.trans h59) (by decide)) (fun h => Classical.byContradiction (fun h9 => h.2 (hbk.mpr h9)))
            have hd1 := hx71.elim (fun h => absurd (h.1.symm.trans h74) (by decide)) (fun h => h.2)
            exact ⟨_, _, rfl, rfl, Or.inr (Or.inr (Or.inr (Or.inr ⟨hnf, hcl, hb1, hd1, rfl⟩))), hfm3, hgv.2.1⟩
          · refine zr_bipush I103_77 ?_
            refine zr_goto (t := 83) I103_79 rfl ?_
            refine zr_iret I103_83 rfl ?_
            have hz := hx32.elim (fun h => absurd (h.1.symm.trans h35) (by decide)) (fun h => h.2)
            have hcl : ¬ (10080 < s + c 146 (10 + 4 * p + 1) ∨ zHit (c 146 3) (fun j => c 146 (230 + 4 * j + 1)) (fun j => c 146 (230 + 4 * j + 2)) s (s + c 146 (10 + 4 * p + 1))) := fun h => h.elim (fun h => by omega) hz
            have hb1 := hbr.elim (fun h => absurd (h.1.symm.trans h59) (by decide)) (fun h => Classical.byContradiction (fun h9 => h.2 (hbk.mpr h9)))
            have hd1 := hx71.elim (fun h => h.2) (fun h => absurd h.1 h74)
            exact ⟨_, _, rfl, rfl, Or.inr (Or.inr (Or.inr (Or.inl ⟨hnf, hcl, hb1, hd1, rfl⟩))), hfm3, hgv.2.1⟩
        · refine zr_bipush I103_62 ?_
          refine zr_goto (t := 83) I103_64 rfl ?_
          refine zr_iret I103_83 rfl ?_
          have hz := hx32.elim (fun h => absurd (h.1.symm.trans h35) (by decide)) (fun h => h.2)
          have hcl : ¬ (10080 < s + c 146 (10 + 4 * p + 1) ∨ zHit (c 146 3) (fun j => c 146 (230 + 4 * j + 1)) (fun j => c 146 (230 + 4 * j + 2)) s (s + c 146 (10 + 4 * p + 1))) := fun h => h.elim (fun h => by omega) hz
          have hb1 := hbr.elim (fun h => hbk.mp h.2) (fun h => absurd h.1 h59)
          exact ⟨_, _, rfl, rfl, Or.inr (Or.inr (Or.inl ⟨hnf, hcl, hb1, rfl⟩)), hfm3, hgv.2.1⟩
      · refine zr_bipush I103_38 ?_
        refine zr_iret I103_40 rfl ?_
        have hz := hx32.elim (fun h => h.2) (fun h => absurd h.1 h35)
        exact ⟨_, _, rfl, rfl, Or.inr (Or.inl ⟨hnf, Or.inr hz, rfl⟩), zFm.rf, hB⟩
  · refine zr_bipush I103_19 ?_
    refine zr_iret I103_21 rfl ?_
    exact ⟨_, _, rfl, rfl, Or.inl ⟨by omega, rfl⟩, zFm.rf, hB⟩
