/-! the law: places, finds, fills, runs -/
/-- what a step of the law leaves: the state as it was, or an act done -/
def kW (n sl : Nat) (S : zSh) (hi : zC) (B : Int) (v : Int → Int) (tp : Option (Int → Int)) : Option zV → zMem → Prop := fun r μ' => ∃ c' : zC, r = some (zI 1) ∧ μ' = ((n, sl), (S, c')) ∧ (zG hi B v tp c' ∨ ∃ v', zSo v v' ∧ zG hi (B + 60) v' (some v) c')
set_option maxRecDepth 10000 in
set_option maxHeartbeats 4000000 in
theorem l_places {d n sl : Nat} {S : zSh} {hi c : zC} {B : Int} {v : Int → Int} {tp : Option (Int → Int)} (hS : zSok S) (G : zG hi B v tp c) {p s f : Int} (hp : 0 ≤ p ∧ p < v 0) (hs : 0 ≤ s ∧ s ≤ 10079) : zE (d + 7) 88 0 (zent 88 [zA 8, zI p, zI s, zI f]) [] ((n, sl), (S, c)) (kW n sl S hi B v tp) := by
  have I := G.2.2.2.1
  have hI := I.1
  show zE (d + 7) 88 0 [some (zA 8), some (zI p), some (zI s), some (zI f), none, none, none, none, none] [] ((n, sl), (S, c)) _
  refine zl_ald0 I88_0 ?_
  refine zl_ild1 I88_1 ?_
  refine zl_ild2 I88_2 ?_
  refine zr_callV I88_3 C10_60 ⟨rfl, rfl⟩ ⟨rfl, Nat.le_of_ble_eq_true rfl⟩ (Or.inl ⟨rfl, sT8 hS⟩) (k_may hS G hp (by omega)) (fun v3 μ3 hv3 => ?_)
  obtain ⟨x3, c3, rfl, rfl, hx3, G⟩ := hv3
  dsimp only [Option.toList, List.cons_append, List.nil_append]
  refine zl_ist4 I88_6 ?_
  refine zl_ald0 I88_8 ?_
  refine zr_callV I88_9 C10_15 ⟨rfl, rfl⟩ ⟨rfl, Nat.le_of_ble_eq_true rfl⟩ (Or.inl ⟨rfl, sT8 hS⟩) (k_items hS G ) (fun v9 μ9 hv9 => ?_)
  obtain ⟨x9, c9, rfl, rfl, rfl, G⟩ := hv9
  dsimp only [Option.toList, List.cons_append, List.nil_append]
  refine zl_ist5 I88_12 ?_
  refine zl_ald0 I88_14 ?_
  refine zr_callV I88_15 C10_9 ⟨rfl, rfl⟩ ⟨rfl, Nat.le_of_ble_eq_true rfl⟩ (Or.inl ⟨rfl, sT8 hS⟩) (k_fp hS G) (fun v15 μ15 hv15 => ?_)
  obtain ⟨c15, rfl, rfl, G⟩ := hv15
  dsimp only [Option.toList, List.cons_append, List.nil_append]
  refine zl_lst6 I88_18 ?_
  refine zl_ald0 I88_20 ?_
  refine zl_ild1 I88_21 ?_
  refine zl_ild2 I88_22 ?_
  refine zl_ild3 I88_23 ?_
  refine zr_callV I88_24 C10_30 ⟨rfl, rfl⟩ ⟨rfl, Nat.le_of_ble_eq_true rfl⟩ (Or.inl ⟨rfl, sT8 hS⟩) (a_place hS G hp (by omega)) (fun v24 μ24 hv24 => ?_)
  obtain ⟨x24, y24, c24, rfl, rfl, hy24, h24⟩ := hv24
  have e24 := qOb_u hx3 hy24
  dsimp only [Option.toList, List.cons_append, List.nil_append]
  refine zl_ist8 I88_27 ?_
  refine zl_ild4 I88_29 ?_
  refine zr_if_eq (t := 71) I88_31 rfl (fun h31 => ?_) (fun h31 => ?_)
  · obtain ⟨q1, v2, hpt, G⟩ := h24.resolve_left (fun h9 => absurd h9.1 (by omega))
    obtain ⟨pA, ⟨b0, b1, b2, b3⟩, pC, pD⟩ := pt_f hpt
    have p1 := hpt.1
    have I2 := G.2.2.2.1
    have hln := zM_ln I p hp.1 hp.2
    refine zl_ild8 I88_71 ?_
    refine zr_if_lt (t := 149) I88_73 rfl (fun h73 => absurd h73 (by omega)) (fun h73 => ?_)
    refine zl_ild8 I88_76 ?_
    refine zl_ild5 I88_78 ?_
    refine zr_ic_gt (t := 149) I88_80 rfl (fun h80 => absurd h80 (by omega)) (fun h80 => ?_)
    refine zl_ald0 I88_83 ?_
    refine zr_callV I88_84 C10_15 ⟨rfl, rfl⟩ ⟨rfl, Nat.le_of_ble_eq_true rfl⟩ (Or.inl ⟨rfl, sT8 hS⟩) (k_items hS G ) (fun v84 μ84 hv84 => ?_)
    obtain ⟨x84, c84, rfl, rfl, rfl, G⟩ := hv84
    dsimp only [Option.toList, List.cons_append, List.nil_append]
    refine zl_ild5 I88_87 ?_
    refine zr_iconst I88_89 ?_
    refine zr_iadd I88_90 (by unfold zInR; omega) ?_
    refine zr_ic_ne (t := 149) I88_91 rfl (fun h91 => absurd h91 (by omega)) (fun h91 => ?_)
    refine zl_ald0 I88_94 ?_
    refine zl_ild8 I88_95 ?_
    refine zr_iconst I88_97 ?_
    refine zr_callV I88_98 C10_51 ⟨rfl, rfl⟩ ⟨rfl, Nat.le_of_ble_eq_true rfl⟩ (Or.inl ⟨rfl, sT8 hS⟩) (k_item hS G (a := x24) (w := 0) (by omega) (by omega)) (fun v98 μ98 hv98 => ?_)
    obtain ⟨x98, c98, rfl, rfl, rfl, G⟩ := hv98
    dsimp only [Option.toList, List.cons_append, List.nil_append]
    refine zl_ild1 I88_101 ?_
    refine zr_ic_ne (t := 149) I88_102 rfl (fun h102 => absurd h102 (by omega)) (fun h102 => ?_)
    refine zl_ald0 I88_105 ?_
    refine zl_ild8 I88_106 ?_
    refine zr_iconst I88_108 ?_
    refine zr_callV I88_109 C10_51 ⟨rfl, rfl⟩ ⟨rfl, Nat.le_of_ble_eq_true rfl⟩ (Or.inl ⟨rfl, sT8 hS⟩) (k_item hS G (a := x24) (w := 1) (by omega) (by omega)) (fun v109 μ109 hv109 => ?_)
    obtain ⟨x109, c109, rfl, rfl, rfl, G⟩ := hv109
    dsimp only [Option.toList, List.cons_append, List.nil_append]
    refine zl_ild2 I88_112 ?_
    refine zr_ic_ne (t := 149) I88_113 rfl (fun h113 => absurd h113 (by omega)) (fun h113 => ?_)
    refine zl_ald0 I88_116 ?_
    refine zl_ild8 I88_117 ?_
    refine zr_iconst I88_119 ?_
    refine zr_callV I88_120 C10_51 ⟨rfl, rfl⟩ ⟨rfl, Nat.le_of_ble_eq_true rfl⟩ (Or.inl ⟨rfl, sT8 hS⟩) (k_item hS G (a := x24) (w := 3) (by omega) (by omega)) (fun v120 μ120 hv120 => ?_)
    obtain ⟨x120, c120, rfl, rfl, rfl, G⟩ := hv120
    dsimp only [Option.toList, List.cons_append, List.nil_append]
    refine zl_ild3 I88_123 ?_
    refine zr_if_eq (t := 131) I88_124 rfl (fun h124 => ?_) (fun h124 => ?_)
    · rw [if_pos h124] at b3
      refine zr_iconst I88_131 ?_
      refine zr_ic_ne (t := 149) I88_132 rfl (fun h132 => absurd h132 (by omega)) (fun h132 => ?_)
      refine zl_ald0 I88_135 ?_
      refine zl_ild2 I88_136 ?_
      refine zr_callV I88_137 C10_54 ⟨rfl, rfl⟩ ⟨rfl, Nat.le_of_ble_eq_true rfl⟩ (Or.inl ⟨rfl, sT8 hS⟩) (k_onAir hS G (by omega)) (fun v137 μ137 hv137 => ?_)
      obtain ⟨x137, c137, rfl, rfl, hx137, G⟩ := hv137
      have e137 := on_v I2 (i := x24) (by omega) (by omega) (by omega) hx137
      dsimp only [Option.toList, List.cons_append, List.nil_append]
      refine zl_ild8 I88_140 ?_
      refine zr_ic_ne (t := 149) I88_142 rfl (fun h142 => absurd h142 (by omega)) (fun h142 => ?_)
      refine zr_iconst I88_145 ?_
      refine zr_goto (t := 150) I88_146 rfl ?_
      refine zr_zret I88_150 rfl (Or.inr rfl) ?_
      exact ⟨_, rfl, rfl, Or.inr ⟨v2, zSo_sm hpt.sm, zG_up G (by omega)⟩⟩
    · rw [if_neg h124] at b3
      refine zr_iconst I88_127 ?_
      refine zr_goto (t := 132) I88_128 rfl ?_
      refine zr_ic_ne (t := 149) I88_132 rfl (fun h132 => absurd h132 (by omega)) (fun h132 => ?_)
      refine zl_ald0 I88_135 ?_
      refine zl_ild2 I88_136 ?_
      refine zr_callV I88_137 C10_54 ⟨rfl, rfl⟩ ⟨rfl, Nat.le_of_ble_eq_true rfl⟩ (Or.inl ⟨rfl, sT8 hS⟩) (k_onAir hS G (by omega)) (fun v137 μ137 hv137 => ?_)
      obtain ⟨x137, c137, rfl, rfl, hx137, G⟩ := hv137
      have e137 := on_v I2 (i := x24) (by omega) (by omega) (by omega) hx137
      dsimp only [Option.toList, List.cons_append, List.nil_append]
      refine zl_ild8 I88_140 ?_
      refine zr_ic_ne (t := 149) I88_142 rfl (fun h142 => absurd h142 (by omega)) (fun h142 => ?_)
      refine zr_iconst I88_145 ?_
      refine zr_goto (t := 150) I88_146 rfl ?_
      refine zr_zret I88_150 rfl (Or.inr rfl) ?_
      exact ⟨_, rfl, rfl, Or.inr ⟨v2, zSo_sm hpt.sm, zG_up G (by omega)⟩⟩
  · obtain ⟨q1, q2, G⟩ := h24.resolve_right (fun h9 => absurd h9.1 (by omega))
    have hin := qOb_in hx3
    refine zl_ild8 I88_34 ?_
    refine zl_ild4 I88_36 ?_
    refine zr_ic_ne (t := 69) I88_38 rfl (fun h38 => absurd h38 (by omega)) (fun h38 => ?_)
    refine zl_ild8 I88_41 ?_
    refine zr_bipush I88_43 ?_
    refine zr_ic_gt (t := 69) I88_45 rfl (fun h45 => absurd h45 (by omega)) (fun h45 => ?_)
    refine zl_ild8 I88_48 ?_
    refine zr_bipush I88_50 ?_
    refine zr_ic_lt (t := 69) I88_52 rfl (fun h52 => absurd h52 (by omega)) (fun h52 => ?_)
    refine zl_ald0 I88_55 ?_
    refine zr_callV I88_56 C10_9 ⟨rfl, rfl⟩ ⟨rfl, Nat.le_of_ble_eq_true rfl⟩ (Or.inl ⟨rfl, sT8 hS⟩) (k_fp hS G) (fun v56 μ56 hv56 => ?_)
    obtain ⟨c56, rfl, rfl, G⟩ := hv56
    dsimp only [Option.toList, List.cons_append, List.nil_append]
    refine zl_lld6 I88_59 ?_
    refine zr_lcmpG I88_61 (fun y61 hy61 => ?_)
    have hz := hy61.mpr rfl
    refine zr_if_ne (t := 69) I88_62 rfl (fun h62 => absurd h62 (by omega)) (fun h62 => ?_)
    refine zr_iconst I88_65 ?_
    refine zr_goto (t := 70) I88_66 rfl ?_
    refine zr_zret I88_70 rfl (Or.inr rfl) ?_
    exact ⟨_, rfl, rfl, Or.inl G⟩
set_option maxRecDepth 10000 in
set_option maxHeartbeats 4000000 in
theorem l_finds {d n sl : Nat} {S : zSh} {hi c : zC} {B : Int} {v : Int → Int} {tp : Option (Int → Int)} (hS : zSok S) (G : zG hi B v tp c) {p a : Int} (hp : 0 ≤ p ∧ p < v 0) (ha : 0 ≤ a ∧ a ≤ 10079) : zE (d + 7) 89 0 (zent 89 [zA 8, zI p, zI a]) [] ((n, sl), (S, c)) (kP n sl S hi B v tp (fun x => x = 1)) := by
  have I := G.2.2.2.1
  have hI := I.1
  show zE (d + 7) 89 0 [some (zA 8), some (zI p), some (zI a), none] [] ((n, sl), (S, c)) _
  refine zl_ald0 I89_0 ?_
  refine zl_ild1 I89_1 ?_
  refine zl_ild2 I89_2 ?_
  refine zr_callV I89_3 C10_38 ⟨rfl, rfl⟩ ⟨rfl, Nat.le_of_ble_eq_true rfl⟩ (Or.inl ⟨rfl, sT8 hS⟩) (k_earl hS G hp (by omega)) (fun v3 μ3 hv3 => ?_)
  obtain ⟨x3, c3, rfl, rfl, hx3, G⟩ := hv3
  dsimp only [Option.toList, List.cons_append, List.nil_append]
  refine zl_ist3 I89_6 ?_
  refine zl_ild3 I89_7 ?_
  refine zr_if_ge (t := 32) I89_8 rfl (fun h8 => ?_) (fun h8 => ?_)
  · obtain ⟨q1, q2, q3, q4, q5⟩ := hx3.resolve_left (fun h9 => absurd h9.1 (by omega))
    refine zl_ild3 I89_32 ?_
    refine zl_ild2 I89_33 ?_
    refine zr_ic_lt (t := 84) I89_34 rfl (fun h34 => absurd h34 (by omega)) (fun h34 => ?_)
    refine zl_ild3 I89_37 ?_
    refine zl_ild2 I89_38 ?_
    refine zr_sipush I89_39 ?_
    refine zr_iadd I89_42 (by unfold zInR; omega) ?_
    refine zr_ic_ge (t := 84) I89_43 rfl (fun h43 => absurd h43 (by omega)) (fun h43 => ?_)
    refine zl_ald0 I89_46 ?_
    refine zl_ild1 I89_47 ?_
    refine zl_ild3 I89_48 ?_
    refine zr_callV I89_49 C10_60 ⟨rfl, rfl⟩ ⟨rfl, Nat.le_of_ble_eq_true rfl⟩ (Or.inl ⟨rfl, sT8 hS⟩) (k_may hS G hp (by omega)) (fun v49 μ49 hv49 => ?_)
    obtain ⟨x49, c49, rfl, rfl, hx49, G⟩ := hv49
    have e49 : x49 = 0 := qOb_u hx49 q4
    dsimp only [Option.toList, List.cons_append, List.nil_append]
    refine zr_if_ne (t := 84) I89_52 rfl (fun h52 => absurd h52 (by omega)) (fun h52 => ?_)
    refine zl_ild3 I89_55 ?_
    refine zl_ild2 I89_56 ?_
    refine zr_ic_eq (t := 80) I89_57 rfl (fun h57 => ?_) (fun h57 => ?_)
    · refine zr_iconst I89_80 ?_
      refine zr_goto (t := 85) I89_81 rfl ?_
      refine zr_zret I89_85 rfl (Or.inr rfl) ?_
      exact ⟨_, _, rfl, rfl, rfl, G⟩
    · refine zl_ald0 I89_60 ?_
      refine zl_ild1 I89_61 ?_
      refine zl_ild2 I89_62 ?_
      refine zr_callV I89_63 C10_60 ⟨rfl, rfl⟩ ⟨rfl, Nat.le_of_ble_eq_true rfl⟩ (Or.inl ⟨rfl, sT8 hS⟩) (k_may hS G hp (by omega)) (fun v63 μ63 hv63 => ?_)
      obtain ⟨x63, c63, rfl, rfl, hx63, G⟩ := hv63
      have e63 : x63 ≠ 0 := fun h9 => q5 a (Int.le_refl _) (by omega) (by rw [← h9]; exact hx63)
      dsimp only [Option.toList, List.cons_append, List.nil_append]
      refine zr_if_eq (t := 84) I89_66 rfl (fun h66 => absurd h66 (by omega)) (fun h66 => ?_)
      refine zl_ald0 I89_69 ?_
      refine zl_ild1 I89_70 ?_
      refine zl_ild3 I89_71 ?_
      refine zr_iconst I89_72 ?_
      refine zr_isub I89_73 (by unfold zInR; omega) ?_
      refine zr_callV I89_74 C10_60 ⟨rfl, rfl⟩ ⟨rfl, Nat.le_of_ble_eq_true rfl⟩ (Or.inl ⟨rfl, sT8 hS⟩) (k_may hS G hp (by omega)) (fun v74 μ74 hv74 => ?_)
      obtain ⟨x74, c74, rfl, rfl, hx74, G⟩ := hv74
      have e74 : x74 ≠ 0 := fun h9 => q5 (x3 - 1) (by omega) (by omega) (by rw [← h9]; exact hx74)
      dsimp only [Option.toList, List.cons_append, List.nil_append]
      refine zr_if_eq (t := 84) I89_77 rfl (fun h77 => absurd h77 (by omega)) (fun h77 => ?_)
      refine zr_iconst I89_80 ?_
      refine zr_goto (t := 85) I89_81 rfl ?_
      refine zr_zret I89_85 rfl (Or.inr rfl) ?_
      exact ⟨_, _, rfl, rfl, rfl, G⟩
  · obtain ⟨q1, q2⟩ := hx3.resolve_right (fun h9 => absurd h9.1 (by omega))
    refine zl_ild3 I89_11 ?_
    refine zr_bipush I89_12 ?_
    refine zr_ic_ne (t := 30) I89_14 rfl (fun h14 => absurd h14 (by omega)) (fun h14 => ?_)
    refine zl_ald0 I89_17 ?_
    refine zl_ild1 I89_18 ?_
    refine zl_ild2 I89_19 ?_
    refine zr_callV I89_20 C10_60 ⟨rfl, rfl⟩ ⟨rfl, Nat.le_of_ble_eq_true rfl⟩ (Or.inl ⟨rfl, sT8 hS⟩) (k_may hS G hp (by omega)) (fun v20 μ20 hv20 => ?_)
    obtain ⟨x20, c20, rfl, rfl, hx20, G⟩ := hv20
    have e20 : x20 ≠ 0 := fun h9 => q2 a (Int.le_refl _) (by omega) (by omega) (by rw [← h9]; exact hx20)
    dsimp only [Option.toList, List.cons_append, List.nil_append]
    refine zr_if_eq (t := 30) I89_23 rfl (fun h23 => absurd h23 (by omega)) (fun h23 => ?_)
    refine zr_iconst I89_26 ?_
    refine zr_goto (t := 31) I89_27 rfl ?_
    refine zr_zret I89_31 rfl (Or.inr rfl) ?_
    exact ⟨_, _, rfl, rfl, rfl, G⟩
theorem fl_neg {B : Int} {v : Int → Int} (I : zInv B v) {hi c' : zC} {tp : Option (Int → Int)} {a z x : Int} (haz : 0 ≤ a ∧ a < z ∧ z ≤ 10080 ∧ z - a ≤ 240) (hx : x < 0) (h : (zHit (v 3) (fun j => v (230 + 4 * j + 1)) (fun j => v (230 + 4 * j + 2)) a z ∧ x = -4 ∧ zG hi B v tp c') ∨ (¬ zHit (v 3) (fun j => v (230 + 4 * j + 1)) (fun j => v (230 + 4 * j + 2)) a z ∧ (x = -9 ∨ x = -3) ∧ zG hi B v tp c') ∨ (¬ zHit (v 3) (fun j => v (230 + 4 * j + 1)) (fun j => v (230 + 4 * j + 2)) a z ∧ 1 ≤ x ∧ ∃ (v' : Int → Int) (fb l i : Int), zFj v v' a z fb z x l i ∧ zG hi B v' (some v) c')) : ((qM v 4 a z < z - a ∧ x = -4) ∨ (qM v 4 a z = z - a ∧ (x = -9 ∨ x = -3))) ∧ zG hi B v tp c' := by
  rw [qM_4]
  rcases h with ⟨h1, h2, h3⟩ | ⟨h1, h2, h3⟩ | ⟨h1, h2, -⟩
  · have := qT_1 I haz.2.1 h1
    exact ⟨Or.inl ⟨by omega, h2⟩, h3⟩
  · have := qT_0 I (by omega) h1
    exact ⟨Or.inr ⟨by omega, h2⟩, h3⟩
  · omega
theorem fl_pos {B : Int} {v : Int → Int} (I : zInv B v) {hi c' : zC} {tp : Option (Int → Int)} {a z x : Int} (haz : 0 ≤ a ∧ a < z ∧ z ≤ 10080 ∧ z - a ≤ 240) (hx : 0 ≤ x) (h : (zHit (v 3) (fun j => v (230 + 4 * j + 1)) (fun j => v (230 + 4 * j + 2)) a z ∧ x = -4 ∧ zG hi B v tp c') ∨ (¬ zHit (v 3) (fun j => v (230 + 4 * j + 1)) (fun j => v (230 + 4 * j + 2)) a z ∧ (x = -9 ∨ x = -3) ∧ zG hi B v tp c') ∨ (¬ zHit (v 3) (fun j => v (230 + 4 * j + 1)) (fun j => v (230 + 4 * j + 2)) a z ∧ 1 ≤ x ∧ ∃ (v' : Int → Int) (fb l i : Int), zFj v v' a z fb z x l i ∧ zG hi B v' (some v) c')) : qM v 4 a z = z - a ∧ 1 ≤ x ∧ ∃ (v' : Int → Int) (fb l i : Int), zFj v v' a z fb z x l i ∧ zG hi B v' (some v) c' := by
  rcases h with ⟨h1, h2, h3⟩ | ⟨h1, h2, h3⟩ | ⟨h1, h2, h3⟩
  · omega
  · omega
  · have := qT_0 I (by omega) h1
    rw [qM_4]
    exact ⟨by omega, h2, h3⟩
theorem fj_adj {B : Int} {v w : Int → Int} {a z fb l i x k : Int} (F : zFj v w a z fb z x l i) (I : zInv B w) (hk : 0 ≤ k ∧ k < x) (h1 : 1 ≤ i + k) (h2 : w (230 + 4 * (i + k) + 1) ≤ w (230 + 4 * (i + k - 1) + 1) + w (230 + 4 * (i + k - 1) + 2)) : w (230 + 4 * (i + k - 1) + 0) ≠ w (230 + 4 * (i + k) + 0) := by
  obtain ⟨⟨f1, f2, f3, f4, f5⟩, f6, f7, f8, f9, f10, f11, f12⟩ := F
  obtain ⟨g1, g2, g3, g4⟩ := f10.resolve_left (by omega)
  by_cases k0 : k = 0
  · rw [k0, show i + (0 : Int) = i by omega] at h2 ⊢
    have h9 := f7 (i - 1) (by omega) (by omega)
    exact f12 g1 (by omega) (by omega)
  · have h9 := (f11 (k - 1) (by omega) (by omega)).2
    rw [show i + (k - 1) = i + k - 1 by omega, show i + (k - 1 + 1) = i + k by omega] at h9
    exact h9
set_option maxRecDepth 10000 in
set_option maxHeartbeats 4000000 in
theorem l_fills_l {d n sl : Nat} {S : zSh} {hi : zC} {B : Int} {v v2 : Int → Int} {P R a z fb l x i n4 e5 j6 : Int} (hS : zSok S) (I2 : zInv B v2) (F : zFj v v2 a z fb z x l i) (hkd : zKd hi P R v) (hv0 : 0 ≤ v 0 ∧ v 0 ≤ 16) : ∀ k : Int, k ≤ x → ∀ c : zC, zG hi B v2 (some v) c → 0 ≤ k → zE (d + 7) 90 179 [some (zA 8), some (zA 145), some (zI a), some (zI z), some (zI n4), some (zI e5), some (zJ j6), none, some (zI x), some (zI 1), some (zI i), some (zI k)] [] ((n, sl), (S, c)) (fun r μ' => ∃ c' : zC, r = some (zI 1) ∧ μ' = ((n, sl), (S, c')) ∧ ∃ v', zSo v v' ∧ zG hi (B + 60) v' (some v) c') := by
  obtain ⟨⟨f1, f2, f3, f4, f5⟩, f6, f7, f8, f9, f10, f11, f12⟩ := id F
  have hsm := f3
  have e0 : v2 0 = v 0 := hsm 0 (by omega) (by omega) (by omega)
  have hP := hkd.1
  have hI2 := I2.1
  refine zind _ (fun k ih hN => ?_)
  intro c G h0
  refine zl_ild11 I90_179 ?_
  refine zl_ild8 I90_181 ?_
  refine zr_ic_ge (t := 304) I90_183 rfl (fun h183 => ?_) (fun h183 => ?_)
  · refine zl_ild9 I90_304 ?_
    refine zr_zret I90_306 rfl (Or.inr rfl) ?_
    exact ⟨_, rfl, rfl, ⟨v2, zSo_sm hsm, zG_up G (by omega)⟩⟩
  · refine zl_ild9 I90_186 ?_
    refine zr_if_eq (t := 304) I90_188 rfl (fun h188 => absurd h188 (by omega)) (fun h188 => ?_)
    have hv := I2.2.2.2.2.2.1 (i + k) (by omega) (by omega)
    have h9 := f9 k (by omega) (by omega)
    refine zl_ald1 I90_191 ?_
    refine zl_ald0 I90_192 ?_
    refine zl_ild10 I90_193 ?_
    refine zl_ild11 I90_195 ?_
    refine zr_iadd I90_197 (by unfold zInR; omega) ?_
    refine zr_iconst I90_198 ?_
    refine zr_callV I90_199 C10_51 ⟨rfl, rfl⟩ ⟨rfl, Nat.le_of_ble_eq_true rfl⟩ (Or.inl ⟨rfl, sT8 hS⟩) (k_item hS G (a := i + k) (w := 0) (by omega) (by omega)) (fun v199 μ199 hv199 => ?_)
    obtain ⟨x199, c199, rfl, rfl, rfl, G⟩ := hv199
    dsimp only [Option.toList, List.cons_append, List.nil_append]
    refine zr_iald I90_202 (sT145 hS) (sN145 hS) (by omega) ?_
    rw [show c199 145 (v2 (230 + 4 * (i + k) + 0)) = 2 from (congrFun (G.1 145 (by decide)) _).trans ((hkd.2.1 _ hv.1.1 (by omega)).trans h9.1)]
    refine zr_iconst I90_203 ?_
    refine zr_ic_ne (t := 295) I90_204 rfl (fun h204 => absurd h204 (by omega)) (fun h204 => ?_)
    refine zl_ild10 I90_207 ?_
    refine zl_ild11 I90_209 ?_
    refine zr_iadd I90_211 (by unfold zInR; omega) ?_
    refine zr_if_eq (t := 278) I90_212 rfl (fun h212 => ?_) (fun h212 => ?_)
    · refine zl_ald0 I90_278 ?_
      refine zl_ild10 I90_279 ?_
      refine zl_ild11 I90_281 ?_
      refine zr_iadd I90_283 (by unfold zInR; omega) ?_
      refine zr_iconst I90_284 ?_
      refine zr_callV I90_285 C10_51 ⟨rfl, rfl⟩ ⟨rfl, Nat.le_of_ble_eq_true rfl⟩ (Or.inl ⟨rfl, sT8 hS⟩) (k_item hS G (a := i + k) (w := 3) (by omega) (by omega)) (fun v285 μ285 hv285 => ?_)
      obtain ⟨x285, c285, rfl, rfl, rfl, G⟩ := hv285
      dsimp only [Option.toList, List.cons_append, List.nil_append]
      refine zr_if_ne (t := 295) I90_288 rfl (fun h288 => absurd h288 (by omega)) (fun h288 => ?_)
      refine zr_iconst I90_291 ?_
      refine zr_goto (t := 296) I90_292 rfl ?_
      refine zl_ist9 I90_296 ?_
      refine zl_iinc11 I90_298 (by unfold zInR; omega) ?_
      refine zr_goto (t := 179) I90_301 rfl ?_
      exact ih (k + 1) (by omega) (by omega) _ G (by omega)
    · have hu := I2.2.2.2.2.2.1 (i + k - 1) (by omega) (by omega)
      refine zl_ald0 I90_215 ?_
      refine zl_ild10 I90_216 ?_
      refine zl_ild11 I90_218 ?_
      refine zr_iadd I90_220 (by unfold zInR; omega) ?_
      refine zr_iconst I90_221 ?_
      refine zr_isub I90_222 (by unfold zInR; omega) ?_
      refine zr_iconst I90_223 ?_
      refine zr_callV I90_224 C10_51 ⟨rfl, rfl⟩ ⟨rfl, Nat.le_of_ble_eq_true rfl⟩ (Or.inl ⟨rfl, sT8 hS⟩) (k_item hS G (a := i + k - 1) (w := 1) (by omega) (by omega)) (fun v224 μ224 hv224 => ?_)
      obtain ⟨x224, c224, rfl, rfl, rfl, G⟩ := hv224
      dsimp only [Option.toList, List.cons_append, List.nil_append]
      refine zl_ald0 I90_227 ?_
      refine zl_ild10 I90_228 ?_
      refine zl_ild11 I90_230 ?_
      refine zr_iadd I90_232 (by unfold zInR; omega) ?_
      refine zr_iconst I90_233 ?_
      refine zr_isub I90_234 (by unfold zInR; omega) ?_
      refine zr_iconst I90_235 ?_
      refine zr_callV I90_236 C10_51 ⟨rfl, rfl⟩ ⟨rfl, Nat.le_of_ble_eq_true rfl⟩ (Or.inl ⟨rfl, sT8 hS⟩) (k_item hS G (a := i + k - 1) (w := 2) (by omega) (by omega)) (fun v236 μ236 hv236 => ?_)
      obtain ⟨x236, c236, rfl, rfl, rfl, G⟩ := hv236
      dsimp only [Option.toList, List.cons_append, List.nil_append]
      refine zr_iadd I90_239 (by unfold zInR; omega) ?_
      refine zl_ald0 I90_240 ?_
      refine zl_ild10 I90_241 ?_
      refine zl_ild11 I90_243 ?_
      refine zr_iadd I90_245 (by unfold zInR; omega) ?_
      refine zr_iconst I90_246 ?_
      refine zr_callV I90_247 C10_51 ⟨rfl, rfl⟩ ⟨rfl, Nat.le_of_ble_eq_true rfl⟩ (Or.inl ⟨rfl, sT8 hS⟩) (k_item hS G (a := i + k) (w := 1) (by omega) (by omega)) (fun v247 μ247 hv247 => ?_)
      obtain ⟨x247, c247, rfl, rfl, rfl, G⟩ := hv247
      dsimp only [Option.toList, List.cons_append, List.nil_append]
      refine zr_ic_lt (t := 278) I90_250 rfl (fun h250 => ?_) (fun h250 => ?_)
      · refine zl_ald0 I90_278 ?_
        refine zl_ild10 I90_279 ?_
        refine zl_ild11 I90_281 ?_
        refine zr_iadd I90_283 (by unfold zInR; omega) ?_
        refine zr_iconst I90_284 ?_
        refine zr_callV I90_285 C10_51 ⟨rfl, rfl⟩ ⟨rfl, Nat.le_of_ble_eq_true rfl⟩ (Or.inl ⟨rfl, sT8 hS⟩) (k_item hS G (a := i + k) (w := 3) (by omega) (by omega)) (fun v285 μ285 hv285 => ?_)
        obtain ⟨x285, c285, rfl, rfl, rfl, G⟩ := hv285
        dsimp only [Option.toList, List.cons_append, List.nil_append]
        refine zr_if_ne (t := 295) I90_288 rfl (fun h288 => absurd h288 (by omega)) (fun h288 => ?_)
        refine zr_iconst I90_291 ?_
        refine zr_goto (t := 296) I90_292 rfl ?_
        refine zl_ist9 I90_296 ?_
        refine zl_iinc11 I90_298 (by unfold zInR; omega) ?_
        refine zr_goto (t := 179) I90_301 rfl ?_
        exact ih (k + 1) (by omega) (by omega) _ G (by omega)
      · have hadj := fj_adj F I2 (k := k) (by omega) (by omega) (by omega)
        refine zl_ald0 I90_253 ?_
        refine zl_ild10 I90_254 ?_
        refine zl_ild11 I90_256 ?_
        refine zr_iadd I90_258 (by unfold zInR; omega) ?_
        refine zr_iconst I90_259 ?_
        refine zr_isub I90_260 (by unfold zInR; omega) ?_
        refine zr_iconst I90_261 ?_
        refine zr_callV I90_262 C10_51 ⟨rfl, rfl⟩ ⟨rfl, Nat.le_of_ble_eq_true rfl⟩ (Or.inl ⟨rfl, sT8 hS⟩) (k_item hS G (a := i + k - 1) (w := 0) (by omega) (by omega)) (fun v262 μ262 hv262 => ?_)
        obtain ⟨x262, c262, rfl, rfl, rfl, G⟩ := hv262
        dsimp only [Option.toList, List.cons_append, List.nil_append]
        refine zl_ald0 I90_265 ?_
        refine zl_ild10 I90_266 ?_
        refine zl_ild11 I90_268 ?_
        refine zr_iadd I90_270 (by unfold zInR; omega) ?_
        refine zr_iconst I90_271 ?_
        refine zr_callV I90_272 C10_51 ⟨rfl, rfl⟩ ⟨rfl, Nat.le_of_ble_eq_true rfl⟩ (Or.inl ⟨rfl, sT8 hS⟩) (k_item hS G (a := i + k) (w := 0) (by omega) (by omega)) (fun v272 μ272 hv272 => ?_)
        obtain ⟨x272, c272, rfl, rfl, rfl, G⟩ := hv272
        dsimp only [Option.toList, List.cons_append, List.nil_append]
        refine zr_ic_eq (t := 295) I90_275 rfl (fun h275 => absurd h275 (by omega)) (fun h275 => ?_)
        refine zl_ald0 I90_278 ?_
        refine zl_ild10 I90_279 ?_
        refine zl_ild11 I90_281 ?_
        refine zr_iadd I90_283 (by unfold zInR; omega) ?_
        refine zr_iconst I90_284 ?_
        refine zr_callV I90_285 C10_51 ⟨rfl, rfl⟩ ⟨rfl, Nat.le_of_ble_eq_true rfl⟩ (Or.inl ⟨rfl, sT8 hS⟩) (k_item hS G (a := i + k) (w := 3) (by omega) (by omega)) (fun v285 μ285 hv285 => ?_)
        obtain ⟨x285, c285, rfl, rfl, rfl, G⟩ := hv285
        dsimp only [Option.toList, List.cons_append, List.nil_append]
        refine zr_if_ne (t := 295) I90_288 rfl (fun h288 => absurd h288 (by omega)) (fun h288 => ?_)
        refine zr_iconst I90_291 ?_
        refine zr_goto (t := 296) I90_292 rfl ?_
        refine zl_ist9 I90_296 ?_
        refine zl_iinc11 I90_298 (by unfold zInR; omega) ?_
        refine zr_goto (t := 179) I90_301 rfl ?_
        exact ih (k + 1) (by omega) (by omega) _ G (by omega)
set_option maxRecDepth 10000 in
set_option maxHeartbeats 4000000 in
theorem l_fills {d n sl : Nat} {S : zSh} {hi c : zC} {B : Int} {v : Int → Int} {tp : Option (Int → Int)} (hS : zSok S) (G : zG hi B v tp c) {P R a z : Int} (hkd : zKd hi P R v) (haz : 0 ≤ a ∧ a < z ∧ z ≤ 10080 ∧ z - a ≤ 240) : zE (d + 7) 90 0 (zent 90 [zA 8, zA 145, zI a, zI z]) [] ((n, sl), (S, c)) (kW n sl S hi B v tp) := by
  have I := G.2.2.2.1
  have hI := I.1
  show zE (d + 7) 90 0 [some (zA 8), some (zA 145), some (zI a), some (zI z), none, none, none, none, none, none, none, none] [] ((n, sl), (S, c)) _
  refine zl_ald0 I90_0 ?_
  refine zr_callV I90_1 C10_15 ⟨rfl, rfl⟩ ⟨rfl, Nat.le_of_ble_eq_true rfl⟩ (Or.inl ⟨rfl, sT8 hS⟩) (k_items hS G ) (fun v1 μ1 hv1 => ?_)
  obtain ⟨x1, c1, rfl, rfl, rfl, G⟩ := hv1
  dsimp only [Option.toList, List.cons_append, List.nil_append]
  refine zl_ist4 I90_4 ?_
  refine zl_ald0 I90_6 ?_
  refine zr_iconst I90_7 ?_
  refine zl_ild2 I90_8 ?_
  refine zl_ild3 I90_9 ?_
  refine zr_callV I90_10 C10_66 ⟨rfl, rfl⟩ ⟨rfl, Nat.le_of_ble_eq_true rfl⟩ (Or.inl ⟨rfl, sT8 hS⟩) (k_minutes hS G (by omega) (by omega)) (fun v10 μ10 hv10 => ?_)
  obtain ⟨x10, c10, rfl, rfl, rfl, G⟩ := hv10
  dsimp only [Option.toList, List.cons_append, List.nil_append]
  refine zl_ist5 I90_13 ?_
  refine zl_ald0 I90_15 ?_
  refine zr_callV I90_16 C10_9 ⟨rfl, rfl⟩ ⟨rfl, Nat.le_of_ble_eq_true rfl⟩ (Or.inl ⟨rfl, sT8 hS⟩) (k_fp hS G) (fun v16 μ16 hv16 => ?_)
  obtain ⟨c16, rfl, rfl, G⟩ := hv16
  dsimp only [Option.toList, List.cons_append, List.nil_append]
  refine zl_lst6 I90_19 ?_
  refine zl_ald0 I90_21 ?_
  refine zl_ild2 I90_22 ?_
  refine zl_ild3 I90_23 ?_
  refine zr_callV I90_24 C10_42 ⟨rfl, rfl⟩ ⟨rfl, Nat.le_of_ble_eq_true rfl⟩ (Or.inl ⟨rfl, sT8 hS⟩) (a_fill hS G haz) (fun v24 μ24 hv24 => ?_)
  obtain ⟨x24, c24, rfl, rfl, h24⟩ := hv24
  dsimp only [Option.toList, List.cons_append, List.nil_append]
  refine zl_ist8 I90_27 ?_
  refine zl_ild8 I90_29 ?_
  refine zr_if_ge (t := 82) I90_31 rfl (fun h31 => ?_) (fun h31 => ?_)
  · obtain ⟨hE, hx1, v2, fb, l, i, F, G⟩ := fl_pos I haz h31 h24
    have I2 := G.2.2.2.1
    have hI2 := I2.1
    obtain ⟨T1, T2⟩ := fj_T F I2 hx1 haz.2.1
    obtain ⟨⟨f1, f2, f3, f4, f5⟩, -, -, -, -, f10, -⟩ := id F
    obtain ⟨g1, g2, -⟩ := f10.resolve_left (by omega)
    have hit := I2.2.2.2.2.2.1 i (by omega) (by omega)
    refine zl_ild5 I90_82 ?_
    refine zl_ild3 I90_84 ?_
    refine zl_ild2 I90_85 ?_
    refine zr_isub I90_86 (by unfold zInR; omega) ?_
    refine zr_ic_ne (t := 157) I90_87 rfl (fun h87 => absurd h87 (by omega)) (fun h87 => ?_)
    refine zl_ild8 I90_90 ?_
    refine zr_iconst I90_92 ?_
    refine zr_ic_lt (t := 157) I90_93 rfl (fun h93 => absurd h93 (by omega)) (fun h93 => ?_)
    refine zl_ald0 I90_96 ?_
    refine zr_callV I90_97 C10_15 ⟨rfl, rfl⟩ ⟨rfl, Nat.le_of_ble_eq_true rfl⟩ (Or.inl ⟨rfl, sT8 hS⟩) (k_items hS G ) (fun v97 μ97 hv97 => ?_)
    obtain ⟨x97, c97, rfl, rfl, rfl, G⟩ := hv97
    dsimp only [Option.toList, List.cons_append, List.nil_append]
    refine zl_ild4 I90_100 ?_
    refine zl_ild8 I90_102 ?_
    refine zr_iadd I90_104 (by unfold zInR; omega) ?_
    refine zr_ic_ne (t := 157) I90_105 rfl (fun h105 => absurd h105 (by omega)) (fun h105 => ?_)
    refine zl_ald0 I90_108 ?_
    refine zr_iconst I90_109 ?_
    refine zl_ild2 I90_110 ?_
    refine zl_ild3 I90_111 ?_
    refine zr_callV I90_112 C10_66 ⟨rfl, rfl⟩ ⟨rfl, Nat.le_of_ble_eq_true rfl⟩ (Or.inl ⟨rfl, sT8 hS⟩) (k_minutes hS G (by omega) (by omega)) (fun v112 μ112 hv112 => ?_)
    obtain ⟨x112, c112, rfl, rfl, rfl, G⟩ := hv112
    dsimp only [Option.toList, List.cons_append, List.nil_append]
    refine zr_if_ne (t := 157) I90_115 rfl (fun h115 => absurd h115 (by omega)) (fun h115 => ?_)
    refine zl_ald0 I90_118 ?_
    refine zl_ild2 I90_119 ?_
    refine zr_callV I90_120 C10_54 ⟨rfl, rfl⟩ ⟨rfl, Nat.le_of_ble_eq_true rfl⟩ (Or.inl ⟨rfl, sT8 hS⟩) (k_onAir hS G (by omega)) (fun v120 μ120 hv120 => ?_)
    obtain ⟨x120, c120, rfl, rfl, hx120, G⟩ := hv120
    have e120 := on_v I2 (i := i) (by omega) (by omega) (by omega) hx120
    dsimp only [Option.toList, List.cons_append, List.nil_append]
    refine zr_if_lt (t := 157) I90_123 rfl (fun h123 => absurd h123 (by omega)) (fun h123 => ?_)
    refine zl_ald0 I90_126 ?_
    refine zl_ald0 I90_127 ?_
    refine zl_ild2 I90_128 ?_
    refine zr_callV I90_129 C10_54 ⟨rfl, rfl⟩ ⟨rfl, Nat.le_of_ble_eq_true rfl⟩ (Or.inl ⟨rfl, sT8 hS⟩) (k_onAir hS G (by omega)) (fun v129 μ129 hv129 => ?_)
    obtain ⟨x129, c129, rfl, rfl, hx129, G⟩ := hv129
    have e129 := on_v I2 (i := i) (by omega) (by omega) (by omega) hx129
    dsimp only [Option.toList, List.cons_append, List.nil_append]
    rw [e129]
    refine zr_iconst I90_132 ?_
    refine zr_callV I90_133 C10_51 ⟨rfl, rfl⟩ ⟨rfl, Nat.le_of_ble_eq_true rfl⟩ (Or.inl ⟨rfl, sT8 hS⟩) (k_item hS G (a := i) (w := 1) (by omega) (by omega)) (fun v133 μ133 hv133 => ?_)
    obtain ⟨x133, c133, rfl, rfl, rfl, G⟩ := hv133
    dsimp only [Option.toList, List.cons_append, List.nil_append]
    refine zl_ild2 I90_136 ?_
    refine zr_ic_ne (t := 157) I90_137 rfl (fun h137 => absurd h137 (by omega)) (fun h137 => ?_)
    refine zl_ald0 I90_140 ?_
    refine zr_iconst I90_141 ?_
    refine zl_ild2 I90_142 ?_
    refine zl_ild3 I90_143 ?_
    refine zr_callV I90_144 C10_66 ⟨rfl, rfl⟩ ⟨rfl, Nat.le_of_ble_eq_true rfl⟩ (Or.inl ⟨rfl, sT8 hS⟩) (k_minutes hS G (by omega) (by omega)) (fun v144 μ144 hv144 => ?_)
    obtain ⟨x144, c144, rfl, rfl, rfl, G⟩ := hv144
    dsimp only [Option.toList, List.cons_append, List.nil_append]
    refine zl_ild3 I90_147 ?_
    refine zl_ild2 I90_148 ?_
    refine zr_isub I90_149 (by unfold zInR; omega) ?_
    refine zr_ic_ne (t := 157) I90_150 rfl (fun h150 => absurd h150 (by omega)) (fun h150 => ?_)
    refine zr_iconst I90_153 ?_
    refine zr_goto (t := 158) I90_154 rfl ?_
    refine zl_ist9 I90_158 ?_
    refine zl_ild9 I90_160 ?_
    refine zr_if_eq (t := 173) I90_162 rfl (fun h162 => absurd h162 (by omega)) (fun h162 => ?_)
    refine zl_ald0 I90_165 ?_
    refine zl_ild2 I90_166 ?_
    refine zr_callV I90_167 C10_54 ⟨rfl, rfl⟩ ⟨rfl, Nat.le_of_ble_eq_true rfl⟩ (Or.inl ⟨rfl, sT8 hS⟩) (k_onAir hS G (by omega)) (fun v167 μ167 hv167 => ?_)
    obtain ⟨x167, c167, rfl, rfl, hx167, G⟩ := hv167
    have e167 := on_v I2 (i := i) (by omega) (by omega) (by omega) hx167
    dsimp only [Option.toList, List.cons_append, List.nil_append]
    rw [e167]
    refine zr_goto (t := 174) I90_170 rfl ?_
    refine zl_ist10 I90_174 ?_
    refine zr_iconst I90_176 ?_
    refine zl_ist11 I90_177 ?_
    refine zE.mono (l_fills_l hS I2 F hkd hI.1 0 (by omega) _ G (by omega)) ?_
    rintro r μ9 ⟨c9, q1, q2, q3⟩
    exact ⟨c9, q1, q2, Or.inr q3⟩
  · obtain ⟨hE, G⟩ := fl_neg I haz h31 h24
    refine zl_ald0 I90_34 ?_
    refine zr_callV I90_35 C10_9 ⟨rfl, rfl⟩ ⟨rfl, Nat.le_of_ble_eq_true rfl⟩ (Or.inl ⟨rfl, sT8 hS⟩) (k_fp hS G) (fun v35 μ35 hv35 => ?_)
    obtain ⟨c35, rfl, rfl, G⟩ := hv35
    dsimp only [Option.toList, List.cons_append, List.nil_append]
    refine zl_lld6 I90_38 ?_
    refine zr_lcmpG I90_40 (fun y40 hy40 => ?_)
    have hz := hy40.mpr rfl
    refine zr_if_ne (t := 80) I90_41 rfl (fun h41 => absurd h41 (by omega)) (fun h41 => ?_)
    refine zl_ild5 I90_44 ?_
    refine zl_ild3 I90_46 ?_
    refine zl_ild2 I90_47 ?_
    refine zr_isub I90_48 (by unfold zInR; omega) ?_
    refine zr_ic_ge (t := 62) I90_49 rfl (fun h49 => ?_) (fun h49 => ?_)
    · refine zl_ild8 I90_62 ?_
      refine zr_bipush I90_64 ?_
      refine zr_ic_eq (t := 76) I90_66 rfl (fun h66 => ?_) (fun h66 => ?_)
      · refine zr_iconst I90_76 ?_
        refine zr_goto (t := 81) I90_77 rfl ?_
        refine zr_zret I90_81 rfl (Or.inr rfl) ?_
        exact ⟨_, rfl, rfl, Or.inl G⟩
      · refine zl_ild8 I90_69 ?_
        refine zr_bipush I90_71 ?_
        refine zr_ic_ne (t := 80) I90_73 rfl (fun h73 => absurd h73 (by omega)) (fun h73 => ?_)
        refine zr_iconst I90_76 ?_
        refine zr_goto (t := 81) I90_77 rfl ?_
        refine zr_zret I90_81 rfl (Or.inr rfl) ?_
        exact ⟨_, rfl, rfl, Or.inl G⟩
    · refine zl_ild8 I90_52 ?_
      refine zr_bipush I90_54 ?_
      refine zr_ic_ne (t := 80) I90_56 rfl (fun h56 => absurd h56 (by omega)) (fun h56 => ?_)
      refine zr_goto (t := 76) I90_59 rfl ?_
      refine zr_iconst I90_76 ?_
      refine zr_goto (t := 81) I90_77 rfl ?_
      refine zr_zret I90_81 rfl (Or.inr rfl) ?_
      exact ⟨_, rfl, rfl, Or.inl G⟩
theorem ow_in {B : Int} {v : Int → Int} (I : zInv B v) (hB : B ≤ 60000) {k : Int} (hk : 0 ≤ k ∧ k ≤ v 0) : 0 ≤ zSum (fun p => v (10 + 4 * p + 3)) k ∧ zSum (fun p => v (10 + 4 * p + 3)) k ≤ 960000 := by
  have hI := I.1
  have h9 := zSum_le (f := fun p => v (10 + 4 * p + 3)) (lo := 0) (hi := 60000) k hk.1 (fun j j1 j2 => by have := I.2.2.1 j j1 (by omega); (try dsimp only); omega)
  omega
set_option maxRecDepth 10000 in
set_option maxHeartbeats 4000000 in
theorem l_ow1 {d n sl : Nat} {S : zSh} {hi : zC} {B : Int} {v : Int → Int} {tp : Option (Int → Int)} {P it mi : Int} {p5 e6 n7 : Int} {Q : Option zV → zMem → Prop} (hS : zSok S) (I : zInv B v) (hP : v 0 = P) (hB6 : B ≤ 60000) (K : ∀ c : zC, zG hi B v tp c → zE (d + 7) 91 58 [some (zA 8), some (zA 145), some (zI P), some (zI it), some (zI mi), some (zI p5), some (zI e6), some (zI n7), some (zI (zSum (fun p => v (10 + 4 * p + 3)) P)), some (zI P), none, none, none, none] [] ((n, sl), (S, c)) Q) : ∀ k : Int, k ≤ P → ∀ c : zC, zG hi B v tp c → 0 ≤ k → zE (d + 7) 91 35 [some (zA 8), some (zA 145), some (zI P), some (zI it), some (zI mi), some (zI p5), some (zI e6), some (zI n7), some (zI (zSum (fun p => v (10 + 4 * p + 3)) k)), some (zI k), none, none, none, none] [] ((n, sl), (S, c)) Q := by
  have hI := I.1
  refine zind _ (fun k ih hN => ?_)
  intro c G h0
  refine zl_ild9 I91_35 ?_
  refine zl_ild2 I91_37 ?_
  refine zr_ic_ge (t := 58) I91_38 rfl (fun h38 => ?_) (fun h38 => ?_)
  · have ek : k = P := by omega
    rw [ek]
    exact K _ G
  · refine zl_ild8 I91_41 ?_
    refine zl_ald0 I91_43 ?_
    refine zl_ild9 I91_44 ?_
    refine zr_callV I91_46 C10_63 ⟨rfl, rfl⟩ ⟨rfl, Nat.le_of_ble_eq_true rfl⟩ (Or.inl ⟨rfl, sT8 hS⟩) (k_owed hS G (by omega)) (fun v46 μ46 hv46 => ?_)
    obtain ⟨x46, c46, rfl, rfl, rfl, G⟩ := hv46
    dsimp only [Option.toList, List.cons_append, List.nil_append]
    have hz := zSum_s (fun p => v (10 + 4 * p + 3)) (i := k) h0
    (try dsimp only at hz)
    have hb := ow_in I hB6 (k := k) (by omega)
    have hb2 := ow_in I hB6 (k := k + 1) (by omega)
    refine zr_iadd I91_49 (by unfold zInR; omega) ?_
    refine zl_ist8 I91_50 ?_
    refine zl_iinc9 I91_52 (by unfold zInR; omega) ?_
    refine zr_goto (t := 35) I91_55 rfl ?_
    rw [← hz]
    exact ih (k + 1) (by omega) (by omega) _ G (by omega)
set_option maxRecDepth 10000 in
set_option maxHeartbeats 4000000 in
theorem l_ow2 {d n sl : Nat} {S : zSh} {hi : zC} {B : Int} {v : Int → Int} {tp : Option (Int → Int)} {P it mi : Int} {p5 e6 n7 o8 j9 x11 : Int} {Q : Option zV → zMem → Prop} (hS : zSok S) (I : zInv B v) (hP : v 0 = P) (hB6 : B ≤ 60000) (K : ∀ c : zC, zG hi B v tp c → zE (d + 7) 91 159 [some (zA 8), some (zA 145), some (zI P), some (zI it), some (zI mi), some (zI p5), some (zI e6), some (zI n7), some (zI o8), some (zJ j9), none, some (zI x11), some (zI (zSum (fun p => v (10 + 4 * p + 3)) P)), some (zI P)] [] ((n, sl), (S, c)) Q) : ∀ k : Int, k ≤ P → ∀ c : zC, zG hi B v tp c → 0 ≤ k → zE (d + 7) 91 136 [some (zA 8), some (zA 145), some (zI P), some (zI it), some (zI mi), some (zI p5), some (zI e6), some (zI n7), some (zI o8), some (zJ j9), none, some (zI x11), some (zI (zSum (fun p => v (10 + 4 * p + 3)) k)), some (zI k)] [] ((n, sl), (S, c)) Q := by
  have hI := I.1
  refine zind _ (fun k ih hN => ?_)
  intro c G h0
  refine zl_ild13 I91_136 ?_
  refine zl_ild2 I91_138 ?_
  refine zr_ic_ge (t := 159) I91_139 rfl (fun h139 => ?_) (fun h139 => ?_)
  · have ek : k = P := by omega
    rw [ek]
    exact K _ G
  · refine zl_ild12 I91_142 ?_
    refine zl_ald0 I91_144 ?_
    refine zl_ild13 I91_145 ?_
    refine zr_callV I91_147 C10_63 ⟨rfl, rfl⟩ ⟨rfl, Nat.le_of_ble_eq_true rfl⟩ (Or.inl ⟨rfl, sT8 hS⟩) (k_owed hS G (by omega)) (fun v147 μ147 hv147 => ?_)
    obtain ⟨x147, c147, rfl, rfl, rfl, G⟩ := hv147
    dsimp only [Option.toList, List.cons_append, List.nil_append]
    have hz := zSum_s (fun p => v (10 + 4 * p + 3)) (i := k) h0
    (try dsimp only at hz)
    have hb := ow_in I hB6 (k := k) (by omega)
    have hb2 := ow_in I hB6 (k := k + 1) (by omega)
    refine zr_iadd I91_150 (by unfold zInR; omega) ?_
    refine zl_ist12 I91_151 ?_
    refine zl_iinc13 I91_153 (by unfold zInR; omega) ?_
    refine zr_goto (t := 136) I91_156 rfl ?_
    rw [← hz]
    exact ih (k + 1) (by omega) (by omega) _ G (by omega)
set_option maxRecDepth 10000 in
set_option maxHeartbeats 4000000 in
theorem l_runs {d n sl : Nat} {S : zSh} {hi c : zC} {B : Int} {v : Int → Int} {tp : Option (Int → Int)} (hS : zSok S) (G : zG hi B v tp c) {P R it mi : Int} (hkd : zKd hi P R v) (hB6 : B + 60 ≤ 60000) (hit : 0 ≤ it ∧ it < v 3) (hmi : 1 ≤ mi ∧ mi ≤ 120) : zE (d + 7) 91 0 (zent 91 [zA 8, zA 145, zI P, zI it, zI mi]) [] ((n, sl), (S, c)) (kW n sl S hi B v tp) := by
  have I := G.2.2.2.1
  have hI := I.1
  have hP := hkd.1.1
  have hP2 := hkd.1
  have hB60 : B ≤ 60000 := by omega
  have hB61 : B + 60 ≤ 60000 := hB6
  have hvi := I.2.2.2.2.2.1 it hit.1 hit.2
  replace hB6 := hB60
  show zE (d + 7) 91 0 [some (zA 8), some (zA 145), some (zI P), some (zI it), some (zI mi), none, none, none, none, none, none, none, none, none] [] ((n, sl), (S, c)) _
  refine zl_ald0 I91_0 ?_
  refine zl_ild3 I91_1 ?_
  refine zr_iconst I91_2 ?_
  refine zr_callV I91_3 C10_51 ⟨rfl, rfl⟩ ⟨rfl, Nat.le_of_ble_eq_true rfl⟩ (Or.inl ⟨rfl, sT8 hS⟩) (k_item hS G (a := it) (w := 0) (by omega) (by omega)) (fun v3 μ3 hv3 => ?_)
  obtain ⟨x3, c3, rfl, rfl, rfl, G⟩ := hv3
  dsimp only [Option.toList, List.cons_append, List.nil_append]
  refine zl_ist5 I91_6 ?_
  refine zl_ald0 I91_8 ?_
  refine zl_ild3 I91_9 ?_
  refine zr_iconst I91_10 ?_
  refine zr_callV I91_11 C10_51 ⟨rfl, rfl⟩ ⟨rfl, Nat.le_of_ble_eq_true rfl⟩ (Or.inl ⟨rfl, sT8 hS⟩) (k_item hS G (a := it) (w := 1) (by omega) (by omega)) (fun v11 μ11 hv11 => ?_)
  obtain ⟨x11, c11, rfl, rfl, rfl, G⟩ := hv11
  dsimp only [Option.toList, List.cons_append, List.nil_append]
  refine zl_ald0 I91_14 ?_
  refine zl_ild3 I91_15 ?_
  refine zr_iconst I91_16 ?_
  refine zr_callV I91_17 C10_51 ⟨rfl, rfl⟩ ⟨rfl, Nat.le_of_ble_eq_true rfl⟩ (Or.inl ⟨rfl, sT8 hS⟩) (k_item hS G (a := it) (w := 2) (by omega) (by omega)) (fun v17 μ17 hv17 => ?_)
  obtain ⟨x17, c17, rfl, rfl, rfl, G⟩ := hv17
  dsimp only [Option.toList, List.cons_append, List.nil_append]
  refine zr_iadd I91_20 (by unfold zInR; omega) ?_
  refine zl_ist6 I91_21 ?_
  refine zl_ald0 I91_23 ?_
  refine zr_callV I91_24 C10_15 ⟨rfl, rfl⟩ ⟨rfl, Nat.le_of_ble_eq_true rfl⟩ (Or.inl ⟨rfl, sT8 hS⟩) (k_items hS G ) (fun v24 μ24 hv24 => ?_)
  obtain ⟨x24, c24, rfl, rfl, rfl, G⟩ := hv24
  dsimp only [Option.toList, List.cons_append, List.nil_append]
  refine zl_ist7 I91_27 ?_
  refine zr_iconst I91_29 ?_
  refine zl_ist8 I91_30 ?_
  refine zr_iconst I91_32 ?_
  refine zl_ist9 I91_33 ?_
  refine l_ow1 hS I hP hB60 (fun c35 G => ?_) 0 (by omega) _ G (by omega)
  refine zl_ald0 I91_58 ?_
  refine zr_callV I91_59 C10_9 ⟨rfl, rfl⟩ ⟨rfl, Nat.le_of_ble_eq_true rfl⟩ (Or.inl ⟨rfl, sT8 hS⟩) (k_fp hS G) (fun v59 μ59 hv59 => ?_)
  obtain ⟨c59, rfl, rfl, G⟩ := hv59
  dsimp only [Option.toList, List.cons_append, List.nil_append]
  refine zl_lst9 I91_62 ?_
  refine zl_ald0 I91_64 ?_
  refine zl_ild3 I91_65 ?_
  refine zl_ild4 I91_66 ?_
  refine zr_callV I91_68 C10_45 ⟨rfl, rfl⟩ ⟨rfl, Nat.le_of_ble_eq_true rfl⟩ (Or.inl ⟨rfl, sT8 hS⟩) (a_run hS G hB6 hit (by omega)) (fun v68 μ68 hv68 => ?_)
  obtain ⟨x68, c68, rfl, rfl, h68⟩ := hv68
  dsimp only [Option.toList, List.cons_append, List.nil_append]
  refine zl_ist11 I91_71 ?_
  refine zl_ild11 I91_73 ?_
  refine zr_if_ge (t := 130) I91_75 rfl (fun h75 => ?_) (fun h75 => ?_)
  · obtain ⟨hk1, hx0, v2, w3, hso, w4, w5, w6, w7, w8, G⟩ : v (10 + 4 * v (230 + 4 * it + 0)) = 1 ∧ 0 ≤ x68 ∧ ∃ v', v' 3 = v 3 - x68 ∧ zSo v v' ∧ it < v' 3 ∧ v' (230 + 4 * it + 1) = v (230 + 4 * it + 1) ∧ v' (230 + 4 * it + 2) = v (230 + 4 * it + 2) + mi ∧ qO v ≤ qO v' ∧ qO v' ≤ qO v + x68 ∧ zG hi (B + 60) v' (some v) c68 := by
      rcases h68 with ⟨a1, a2, a3⟩ | ⟨a1, a2, a3, a4⟩ | h68
      · omega
      · omega
      · exact h68
    have I2 := G.2.2.2.1
    have hI2 := I2.1
    have e20 : v2 0 = P := (hso 0 (by omega) (by omega) (by omega) (by omega)).trans hP
    have hvi2 := I2.2.2.2.2.2.1 it (by omega) w4
    have hq1 : zSum (fun p => v (10 + 4 * p + 3)) P = qO v := by unfold qO; rw [hP]
    have hq2 : zSum (fun p => v2 (10 + 4 * p + 3)) P = qO v2 := by unfold qO; rw [e20]
    have hqb := ow_in I hB60 (k := P) (by omega)
    refine zr_iconst I91_130 ?_
    refine zl_ist12 I91_131 ?_
    refine zr_iconst I91_133 ?_
    refine zl_ist13 I91_134 ?_
    refine l_ow2 hS I2 e20 hB61 (fun c136 G => ?_) 0 (by omega) _ G (by omega)
    refine zl_ald1 I91_159 ?_
    refine zl_ild5 I91_160 ?_
    refine zr_iald I91_162 (sT145 hS) (sN145 hS) (by omega) ?_
    rw [show c136 145 (v (230 + 4 * it + 0)) = v (10 + 4 * v (230 + 4 * it + 0)) from (congrFun (G.1 145 (by decide)) _).trans (hkd.2.1 _ hvi.1.1 (by omega))]
    refine zr_iconst I91_163 ?_
    refine zr_ic_ne (t := 221) I91_164 rfl (fun h164 => absurd h164 (by omega)) (fun h164 => ?_)
    refine zl_ald0 I91_167 ?_
    refine zr_callV I91_168 C10_15 ⟨rfl, rfl⟩ ⟨rfl, Nat.le_of_ble_eq_true rfl⟩ (Or.inl ⟨rfl, sT8 hS⟩) (k_items hS G ) (fun v168 μ168 hv168 => ?_)
    obtain ⟨x168, c168, rfl, rfl, rfl, G⟩ := hv168
    dsimp only [Option.toList, List.cons_append, List.nil_append]
    refine zl_ild7 I91_171 ?_
    refine zl_ild11 I91_173 ?_
    refine zr_isub I91_175 (by unfold zInR; omega) ?_
    refine zr_ic_ne (t := 221) I91_176 rfl (fun h176 => absurd h176 (by omega)) (fun h176 => ?_)
    refine zl_ald0 I91_179 ?_
    refine zl_ild3 I91_180 ?_
    refine zr_iconst I91_181 ?_
    refine zr_callV I91_182 C10_51 ⟨rfl, rfl⟩ ⟨rfl, Nat.le_of_ble_eq_true rfl⟩ (Or.inl ⟨rfl, sT8 hS⟩) (k_item hS G (a := it) (w := 1) (by omega) (by omega)) (fun v182 μ182 hv182 => ?_)
    obtain ⟨x182, c182, rfl, rfl, rfl, G⟩ := hv182
    dsimp only [Option.toList, List.cons_append, List.nil_append]
    refine zl_ald0 I91_185 ?_
    refine zl_ild3 I91_186 ?_
    refine zr_iconst I91_187 ?_
    refine zr_callV I91_188 C10_51 ⟨rfl, rfl⟩ ⟨rfl, Nat.le_of_ble_eq_true rfl⟩ (Or.inl ⟨rfl, sT8 hS⟩) (k_item hS G (a := it) (w := 2) (by omega) (by omega)) (fun v188 μ188 hv188 => ?_)
    obtain ⟨x188, c188, rfl, rfl, rfl, G⟩ := hv188
    dsimp only [Option.toList, List.cons_append, List.nil_append]
    refine zr_iadd I91_191 (by unfold zInR; omega) ?_
    refine zl_ild6 I91_192 ?_
    refine zl_ild4 I91_194 ?_
    refine zr_iadd I91_196 (by unfold zInR; omega) ?_
    refine zr_ic_ne (t := 221) I91_197 rfl (fun h197 => absurd h197 (by omega)) (fun h197 => ?_)
    rw [hq1, hq2]
    refine zl_ild12 I91_200 ?_
    refine zl_ild8 I91_202 ?_
    refine zr_ic_lt (t := 221) I91_204 rfl (fun h204 => absurd h204 (by omega)) (fun h204 => ?_)
    refine zl_ild12 I91_207 ?_
    refine zl_ild8 I91_209 ?_
    refine zl_ild11 I91_211 ?_
    refine zr_iadd I91_213 (by unfold zInR; omega) ?_
    refine zr_ic_gt (t := 221) I91_214 rfl (fun h214 => absurd h214 (by omega)) (fun h214 => ?_)
    refine zr_iconst I91_217 ?_
    refine zr_goto (t := 222) I91_218 rfl ?_
    refine zr_zret I91_222 rfl (Or.inr rfl) ?_
    exact ⟨_, rfl, rfl, Or.inr ⟨v2, hso, G⟩⟩
  · obtain ⟨hE, G⟩ : ((v (10 + 4 * v (230 + 4 * it + 0)) ≠ 1 ∧ x68 = -2) ∨ (v (10 + 4 * v (230 + 4 * it + 0)) = 1 ∧ 10080 < v (230 + 4 * it + 1) + v (230 + 4 * it + 2) + mi ∧ x68 = -4)) ∧ zG hi B v tp c68 := by
      rcases h68 with ⟨a1, a2, a3⟩ | ⟨a1, a2, a3, a4⟩ | ⟨a1, a2, -⟩
      · exact ⟨Or.inl ⟨a1, a2⟩, a3⟩
      · exact ⟨Or.inr ⟨a1, a2, a3⟩, a4⟩
      · omega
    refine zl_ald0 I91_78 ?_
    refine zr_callV I91_79 C10_9 ⟨rfl, rfl⟩ ⟨rfl, Nat.le_of_ble_eq_true rfl⟩ (Or.inl ⟨rfl, sT8 hS⟩) (k_fp hS G) (fun v79 μ79 hv79 => ?_)
    obtain ⟨c79, rfl, rfl, G⟩ := hv79
    dsimp only [Option.toList, List.cons_append, List.nil_append]
    refine zl_lld9 I91_82 ?_
    refine zr_lcmpG I91_84 (fun y84 hy84 => ?_)
    have hz := hy84.mpr rfl
    refine zr_if_ne (t := 128) I91_85 rfl (fun h85 => absurd h85 (by omega)) (fun h85 => ?_)
    refine zl_ald1 I91_88 ?_
    refine zl_ild5 I91_89 ?_
    refine zr_iald I91_91 (sT145 hS) (sN145 hS) (by omega) ?_
    rw [show c79 145 (v (230 + 4 * it + 0)) = v (10 + 4 * v (230 + 4 * it + 0)) from (congrFun (G.1 145 (by decide)) _).trans (hkd.2.1 _ hvi.1.1 (by omega))]
    refine zr_iconst I91_92 ?_
    refine zr_ic_eq (t := 106) I91_93 rfl (fun h93 => ?_) (fun h93 => ?_)
    · refine zl_ild6 I91_106 ?_
      refine zl_ild4 I91_108 ?_
      refine zr_iadd I91_110 (by unfold zInR; omega) ?_
      refine zr_sipush I91_111 ?_
      refine zr_ic_le (t := 128) I91_114 rfl (fun h114 => absurd h114 (by omega)) (fun h114 => ?_)
      refine zl_ild11 I91_117 ?_
      refine zr_bipush I91_119 ?_
      refine zr_ic_ne (t := 128) I91_121 rfl (fun h121 => absurd h121 (by omega)) (fun h121 => ?_)
      refine zr_iconst I91_124 ?_
      refine zr_goto (t := 129) I91_125 rfl ?_
      refine zr_zret I91_129 rfl (Or.inr rfl) ?_
      exact ⟨_, rfl, rfl, Or.inl G⟩
    · refine zl_ild11 I91_96 ?_
      refine zr_bipush I91_98 ?_
      refine zr_ic_ne (t := 128) I91_100 rfl (fun h100 => absurd h100 (by omega)) (fun h100 => ?_)
      refine zr_goto (t := 124) I91_103 rfl ?_
      refine zr_iconst I91_124 ?_
      refine zr_goto (t := 129) I91_125 rfl ?_
      refine zr_zret I91_129 rfl (Or.inr rfl) ?_
      exact ⟨_, rfl, rfl, Or.inl G⟩
