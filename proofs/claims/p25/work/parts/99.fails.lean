/-! the law: numbers of the script, calls that fail -/
theorem l_up {d : Nat} {μ : zMem} {x m : Int} (hm : 0 < m) : zE d 85 0 (zent 85 [zI x, zI m]) [] μ (fun r μ' => ∃ z : Int, r = some (zI z) ∧ (0 ≤ z ∧ z < m) ∧ μ' = μ) := by
  show zE d 85 0 [some (zI x), some (zI m)] [] μ _
  refine zl_ild0 I85_0 ?_
  refine zr_next I85_1 rfl ?_
  refine zr_iandM I85_3 (fun y3 hy3 => ?_)
  refine zl_ild1 I85_4 ?_
  refine zr_irem I85_5 ⟨hy3.1, hm, hy3.2⟩ ?_
  refine zr_iret I85_6 rfl ?_
  exact ⟨_, rfl, ⟨Int.emod_nonneg _ (by omega), Int.emod_lt_of_pos _ hm⟩, rfl⟩
theorem l_cell {d n sl L : Nat} {S : zSh} {c : zC} (h1 : (S 0).1 = 30) (h2 : (S 0).2.1 = L) {k : Int} (hk : 0 ≤ k ∧ k ≤ 1000) : zE d 84 0 (zent 84 [zA 0, zI k]) [] ((n, sl), (S, c)) (fun r μ' => ∃ z : Int, r = some (zI z) ∧ μ' = ((n, sl), (S, c))) := by
  show zE d 84 0 [some (zA 0), some (zI k)] [] ((n, sl), (S, c)) _
  refine zl_ild1 I84_0 ?_
  refine zl_ald0 I84_1 ?_
  refine zr_alen I84_2 (Or.inr (Or.inr (Or.inl h1))) (h2) ?_
  refine zr_ic_ge (t := 12) I84_3 rfl (fun h3 => ?_) (fun h3 => ?_)
  · refine zr_next I84_12 rfl ?_
    refine zl_ild1 I84_14 ?_
    refine zr_iconst I84_15 ?_
    refine zr_iadd I84_16 (by unfold zInR; omega) ?_
    refine zr_imulW I84_17 (fun y17 hy17 => ?_)
    refine zr_iret I84_18 rfl ?_
    exact ⟨_, rfl, rfl⟩
  · refine zl_ald0 I84_6 ?_
    refine zl_ild1 I84_7 ?_
    refine zr_iald0 I84_8 h1 h2 (by omega) ?_
    refine zr_goto (t := 18) I84_9 rfl ?_
    refine zr_iret I84_18 rfl ?_
    exact ⟨_, rfl, rfl⟩
theorem k_lineB {d n sl : Nat} {S : zSh} {hi c : zC} {B : Int} {v : Int → Int} {tp : Option (Int → Int)} (hS : zSok S) (G : zG hi B v tp c) {i k : Int} (h : ¬ (0 ≤ i ∧ i < v 3)) : zE (d + 6) 59 0 (zent 59 [zA 8, zI i, zI k]) [] ((n, sl), (S, c)) (kP n sl S hi B v tp (fun x => x = -1)) := by
  have hB := G.2.1
  have a4 := (zRep_9 G.2.2.1).1.2.2.2
  show zE (d + 6) 59 0 [some (zA 8), some (zI i), some (zI k)] [] ((n, sl), (S, c)) _
  refine zl_ald0 I59_0 ?_
  refine zl_ild1 I59_1 ?_
  refine zr_callV I59_2 C8_99 ⟨rfl, rfl⟩ ⟨rfl, Nat.le_of_ble_eq_true rfl⟩ (Or.inl ⟨rfl, sT8 hS⟩) (e_X8_isItem (d := d + 4) hS hB) (fun v2 μ2 hv2 => ?_)
  obtain ⟨x2, rfl, hx2, rfl⟩ := hv2
  dsimp only [Option.toList, List.cons_append, List.nil_append]
  unfold zTf at hx2
  refine zr_if_eq (t := 12) I59_5 rfl (fun h5 => ?_) (fun h5 => absurd h5 (by omega))
  refine zr_iconst I59_12 ?_
  refine zr_iret I59_13 rfl ?_
  exact ⟨_, c, rfl, rfl, rfl, G⟩
set_option maxRecDepth 10000 in
set_option maxHeartbeats 2000000 in
theorem l_fails {d n sl : Nat} {S : zSh} {hi c : zC} {B : Int} {v : Int → Int} {tp : Option (Int → Int)} (hS : zSok S) (G : zG hi B v tp c) (hB6 : B ≤ 60000) {P R : Int} (hP : v 0 = P) (hR : v 2 = R) : zE (d + 7) 86 0 (zent 86 [zA 8, zI P, zI R]) [] ((n, sl), (S, c)) (kP n sl S hi B v tp (fun x => x = 1)) := by
  show zE (d + 7) 86 0 [some (zA 8), some (zI P), some (zI R), none, none, none, none] [] ((n, sl), (S, c)) _
  refine zl_ald0 I86_0 ?_
  refine zr_callV I86_1 C10_9 ⟨rfl, rfl⟩ ⟨rfl, Nat.le_of_ble_eq_true rfl⟩ (Or.inl ⟨rfl, sT8 hS⟩) (k_fp hS G) (fun v1 μ1 hv1 => ?_)
  obtain ⟨c1, rfl, rfl, G⟩ := hv1
  dsimp only [Option.toList, List.cons_append, List.nil_append]
  refine zl_lst3 I86_4 ?_
  refine zl_ald0 I86_5 ?_
  refine zr_callV I86_6 C10_15 ⟨rfl, rfl⟩ ⟨rfl, Nat.le_of_ble_eq_true rfl⟩ (Or.inl ⟨rfl, sT8 hS⟩) (k_items hS G ) (fun v6 μ6 hv6 => ?_)
  obtain ⟨x6, c6, rfl, rfl, rfl, G⟩ := hv6
  dsimp only [Option.toList, List.cons_append, List.nil_append]
  refine zl_ist5 I86_9 ?_
  refine zl_ald0 I86_11 ?_
  refine zr_iconst I86_12 ?_
  refine zr_iconst I86_13 ?_
  refine zr_iconst I86_14 ?_
  refine zr_callV I86_15 C10_19 ⟨rfl, rfl⟩ ⟨rfl, Nat.le_of_ble_eq_true rfl⟩ (Or.inl ⟨rfl, sT8 hS⟩) (k_addPB hS G (by omega)) (fun v15 μ15 hv15 => ?_)
  obtain ⟨x15, c15, rfl, rfl, rfl, G⟩ := hv15
  dsimp only [Option.toList, List.cons_append, List.nil_append]
  refine zr_iconst I86_18 ?_
  refine zr_ic_ne (t := 104) I86_19 rfl (fun h19 => absurd h19 (by omega)) (fun h19 => ?_)
  refine zl_ald0 I86_22 ?_
  refine zr_iconst I86_23 ?_
  refine zr_sipush I86_24 ?_
  refine zr_iconst I86_27 ?_
  refine zr_callV I86_28 C10_19 ⟨rfl, rfl⟩ ⟨rfl, Nat.le_of_ble_eq_true rfl⟩ (Or.inl ⟨rfl, sT8 hS⟩) (k_addPB hS G (by omega)) (fun v28 μ28 hv28 => ?_)
  obtain ⟨x28, c28, rfl, rfl, rfl, G⟩ := hv28
  dsimp only [Option.toList, List.cons_append, List.nil_append]
  refine zr_iconst I86_31 ?_
  refine zr_ic_ne (t := 104) I86_32 rfl (fun h32 => absurd h32 (by omega)) (fun h32 => ?_)
  refine zl_ald0 I86_35 ?_
  refine zl_ild1 I86_36 ?_
  refine zr_iconst I86_37 ?_
  refine zr_iconst I86_38 ?_
  refine zr_iconst I86_39 ?_
  refine zr_callV I86_40 C10_23 ⟨rfl, rfl⟩ ⟨rfl, Nat.le_of_ble_eq_true rfl⟩ (Or.inl ⟨rfl, sT8 hS⟩) (k_addRB hS G (by omega)) (fun v40 μ40 hv40 => ?_)
  obtain ⟨x40, c40, rfl, rfl, rfl, G⟩ := hv40
  dsimp only [Option.toList, List.cons_append, List.nil_append]
  refine zr_iconst I86_43 ?_
  refine zr_ic_ne (t := 104) I86_44 rfl (fun h44 => absurd h44 (by omega)) (fun h44 => ?_)
  refine zl_ald0 I86_47 ?_
  refine zr_iconst I86_48 ?_
  refine zr_iconst I86_49 ?_
  refine zr_iconst I86_50 ?_
  refine zr_callV I86_51 C10_27 ⟨rfl, rfl⟩ ⟨rfl, Nat.le_of_ble_eq_true rfl⟩ (Or.inl ⟨rfl, sT8 hS⟩) (k_addBB hS G (by omega)) (fun v51 μ51 hv51 => ?_)
  obtain ⟨x51, c51, rfl, rfl, rfl, G⟩ := hv51
  dsimp only [Option.toList, List.cons_append, List.nil_append]
  refine zr_iconst I86_54 ?_
  refine zr_ic_ne (t := 104) I86_55 rfl (fun h55 => absurd h55 (by omega)) (fun h55 => ?_)
  refine zl_ald0 I86_58 ?_
  refine zl_ild1 I86_59 ?_
  refine zr_iconst I86_60 ?_
  refine zr_iconst I86_61 ?_
  refine zr_callV I86_62 C10_30 ⟨rfl, rfl⟩ ⟨rfl, Nat.le_of_ble_eq_true rfl⟩ (Or.inl ⟨rfl, sT8 hS⟩) (k_placeB hS G (by omega)) (fun v62 μ62 hv62 => ?_)
  obtain ⟨x62, c62, rfl, rfl, rfl, G⟩ := hv62
  dsimp only [Option.toList, List.cons_append, List.nil_append]
  refine zr_iconst I86_65 ?_
  refine zr_ic_ne (t := 104) I86_66 rfl (fun h66 => absurd h66 (by omega)) (fun h66 => ?_)
  refine zl_ald0 I86_69 ?_
  refine zr_iconst I86_70 ?_
  refine zr_iconst I86_71 ?_
  refine zr_iconst I86_72 ?_
  refine zr_callV I86_73 C10_30 ⟨rfl, rfl⟩ ⟨rfl, Nat.le_of_ble_eq_true rfl⟩ (Or.inl ⟨rfl, sT8 hS⟩) (k_placeB hS G (by omega)) (fun v73 μ73 hv73 => ?_)
  obtain ⟨x73, c73, rfl, rfl, rfl, G⟩ := hv73
  dsimp only [Option.toList, List.cons_append, List.nil_append]
  refine zr_iconst I86_76 ?_
  refine zr_ic_ne (t := 104) I86_77 rfl (fun h77 => absurd h77 (by omega)) (fun h77 => ?_)
  refine zl_ald0 I86_80 ?_
  refine zl_ild5 I86_81 ?_
  refine zr_callV I86_83 C10_34 ⟨rfl, rfl⟩ ⟨rfl, Nat.le_of_ble_eq_true rfl⟩ (Or.inl ⟨rfl, sT8 hS⟩) (k_removeB hS G (by omega)) (fun v83 μ83 hv83 => ?_)
  obtain ⟨x83, c83, rfl, rfl, rfl, G⟩ := hv83
  dsimp only [Option.toList, List.cons_append, List.nil_append]
  refine zr_iconst I86_86 ?_
  refine zr_ic_ne (t := 104) I86_87 rfl (fun h87 => absurd h87 (by omega)) (fun h87 => ?_)
  refine zl_ald0 I86_90 ?_
  refine zl_ild1 I86_91 ?_
  refine zr_iconst I86_92 ?_
  refine zr_callV I86_93 C10_38 ⟨rfl, rfl⟩ ⟨rfl, Nat.le_of_ble_eq_true rfl⟩ (Or.inl ⟨rfl, sT8 hS⟩) (k_earlB hS G (by omega)) (fun v93 μ93 hv93 => ?_)
  obtain ⟨x93, c93, rfl, rfl, rfl, G⟩ := hv93
  dsimp only [Option.toList, List.cons_append, List.nil_append]
  refine zr_iconst I86_96 ?_
  refine zr_ic_ne (t := 104) I86_97 rfl (fun h97 => absurd h97 (by omega)) (fun h97 => ?_)
  refine zr_iconst I86_100 ?_
  refine zr_goto (t := 105) I86_101 rfl ?_
  refine zl_ist6 I86_105 ?_
  refine zl_ild6 I86_107 ?_
  refine zr_if_eq (t := 225) I86_109 rfl (fun h109 => absurd h109 (by omega)) (fun h109 => ?_)
  refine zl_ald0 I86_112 ?_
  refine zr_bipush I86_113 ?_
  refine zr_bipush I86_115 ?_
  refine zr_callV I86_117 C10_42 ⟨rfl, rfl⟩ ⟨rfl, Nat.le_of_ble_eq_true rfl⟩ (Or.inl ⟨rfl, sT8 hS⟩) (k_fillB hS G (by omega)) (fun v117 μ117 hv117 => ?_)
  obtain ⟨x117, c117, rfl, rfl, rfl, G⟩ := hv117
  dsimp only [Option.toList, List.cons_append, List.nil_append]
  refine zr_iconst I86_120 ?_
  refine zr_ic_ne (t := 225) I86_121 rfl (fun h121 => absurd h121 (by omega)) (fun h121 => ?_)
  refine zl_ald0 I86_124 ?_
  refine zr_iconst I86_125 ?_
  refine zr_sipush I86_126 ?_
  refine zr_callV I86_129 C10_42 ⟨rfl, rfl⟩ ⟨rfl, Nat.le_of_ble_eq_true rfl⟩ (Or.inl ⟨rfl, sT8 hS⟩) (k_fillB hS G (by omega)) (fun v129 μ129 hv129 => ?_)
  obtain ⟨x129, c129, rfl, rfl, rfl, G⟩ := hv129
  dsimp only [Option.toList, List.cons_append, List.nil_append]
  refine zr_iconst I86_132 ?_
  refine zr_ic_ne (t := 225) I86_133 rfl (fun h133 => absurd h133 (by omega)) (fun h133 => ?_)
  refine zl_ald0 I86_136 ?_
  refine zr_sipush I86_137 ?_
  refine zr_sipush I86_140 ?_
  refine zr_callV I86_143 C10_42 ⟨rfl, rfl⟩ ⟨rfl, Nat.le_of_ble_eq_true rfl⟩ (Or.inl ⟨rfl, sT8 hS⟩) (k_fillB hS G (by omega)) (fun v143 μ143 hv143 => ?_)
  obtain ⟨x143, c143, rfl, rfl, rfl, G⟩ := hv143
  dsimp only [Option.toList, List.cons_append, List.nil_append]
  refine zr_iconst I86_146 ?_
  refine zr_ic_ne (t := 225) I86_147 rfl (fun h147 => absurd h147 (by omega)) (fun h147 => ?_)
  refine zl_ald0 I86_150 ?_
  refine zl_ild5 I86_151 ?_
  refine zr_iconst I86_153 ?_
  refine zr_callV I86_154 C10_45 ⟨rfl, rfl⟩ ⟨rfl, Nat.le_of_ble_eq_true rfl⟩ (Or.inl ⟨rfl, sT8 hS⟩) (k_runB hS G hB6 (by omega)) (fun v154 μ154 hv154 => ?_)
  obtain ⟨x154, c154, rfl, rfl, rfl, G⟩ := hv154
  dsimp only [Option.toList, List.cons_append, List.nil_append]
  refine zr_iconst I86_157 ?_
  refine zr_ic_ne (t := 225) I86_158 rfl (fun h158 => absurd h158 (by omega)) (fun h158 => ?_)
  refine zl_ald0 I86_161 ?_
  refine zl_ild1 I86_162 ?_
  refine zr_iconst I86_163 ?_
  refine zr_callV I86_164 C10_48 ⟨rfl, rfl⟩ ⟨rfl, Nat.le_of_ble_eq_true rfl⟩ (Or.inl ⟨rfl, sT8 hS⟩) (k_goodB hS G (by omega)) (fun v164 μ164 hv164 => ?_)
  obtain ⟨x164, c164, rfl, rfl, rfl, G⟩ := hv164
  dsimp only [Option.toList, List.cons_append, List.nil_append]
  refine zr_iconst I86_167 ?_
  refine zr_ic_ne (t := 225) I86_168 rfl (fun h168 => absurd h168 (by omega)) (fun h168 => ?_)
  refine zl_ald0 I86_171 ?_
  refine zl_ild5 I86_172 ?_
  refine zr_iconst I86_174 ?_
  refine zr_callV I86_175 C10_51 ⟨rfl, rfl⟩ ⟨rfl, Nat.le_of_ble_eq_true rfl⟩ (Or.inl ⟨rfl, sT8 hS⟩) (k_itemB hS G (by omega)) (fun v175 μ175 hv175 => ?_)
  obtain ⟨x175, c175, rfl, rfl, rfl, G⟩ := hv175
  dsimp only [Option.toList, List.cons_append, List.nil_append]
  refine zr_iconst I86_178 ?_
  refine zr_ic_ne (t := 225) I86_179 rfl (fun h179 => absurd h179 (by omega)) (fun h179 => ?_)
  refine zl_ald0 I86_182 ?_
  refine zr_sipush I86_183 ?_
  refine zr_callV I86_186 C10_54 ⟨rfl, rfl⟩ ⟨rfl, Nat.le_of_ble_eq_true rfl⟩ (Or.inl ⟨rfl, sT8 hS⟩) (k_onAirB hS G (by omega)) (fun v186 μ186 hv186 => ?_)
  obtain ⟨x186, c186, rfl, rfl, rfl, G⟩ := hv186
  dsimp only [Option.toList, List.cons_append, List.nil_append]
  refine zr_iconst I86_189 ?_
  refine zr_ic_ne (t := 225) I86_190 rfl (fun h190 => absurd h190 (by omega)) (fun h190 => ?_)
  refine zl_ald0 I86_193 ?_
  refine zl_ild2 I86_194 ?_
  refine zr_callV I86_195 C10_57 ⟨rfl, rfl⟩ ⟨rfl, Nat.le_of_ble_eq_true rfl⟩ (Or.inl ⟨rfl, sT8 hS⟩) (k_leftB hS G (by omega)) (fun v195 μ195 hv195 => ?_)
  obtain ⟨x195, c195, rfl, rfl, rfl, G⟩ := hv195
  dsimp only [Option.toList, List.cons_append, List.nil_append]
  refine zr_iconst I86_198 ?_
  refine zr_ic_ne (t := 225) I86_199 rfl (fun h199 => absurd h199 (by omega)) (fun h199 => ?_)
  refine zl_ald0 I86_202 ?_
  refine zl_ild1 I86_203 ?_
  refine zr_iconst I86_204 ?_
  refine zr_callV I86_205 C10_60 ⟨rfl, rfl⟩ ⟨rfl, Nat.le_of_ble_eq_true rfl⟩ (Or.inl ⟨rfl, sT8 hS⟩) (k_mayB hS G (by omega)) (fun v205 μ205 hv205 => ?_)
  obtain ⟨x205, c205, rfl, rfl, rfl, G⟩ := hv205
  dsimp only [Option.toList, List.cons_append, List.nil_append]
  refine zr_iconst I86_208 ?_
  refine zr_ic_ne (t := 225) I86_209 rfl (fun h209 => absurd h209 (by omega)) (fun h209 => ?_)
  refine zl_ald0 I86_212 ?_
  refine zr_iconst I86_213 ?_
  refine zr_callV I86_214 C10_63 ⟨rfl, rfl⟩ ⟨rfl, Nat.le_of_ble_eq_true rfl⟩ (Or.inl ⟨rfl, sT8 hS⟩) (k_owedB hS G (by omega)) (fun v214 μ214 hv214 => ?_)
  obtain ⟨x214, c214, rfl, rfl, rfl, G⟩ := hv214
  dsimp only [Option.toList, List.cons_append, List.nil_append]
  refine zr_iconst I86_217 ?_
  refine zr_ic_ne (t := 225) I86_218 rfl (fun h218 => absurd h218 (by omega)) (fun h218 => ?_)
  refine zr_iconst I86_221 ?_
  refine zr_goto (t := 226) I86_222 rfl ?_
  refine zl_ist6 I86_226 ?_
  refine zl_ild6 I86_228 ?_
  refine zr_if_eq (t := 289) I86_230 rfl (fun h230 => absurd h230 (by omega)) (fun h230 => ?_)
  refine zl_ald0 I86_233 ?_
  refine zr_iconst I86_234 ?_
  refine zr_iconst I86_235 ?_
  refine zr_iconst I86_236 ?_
  refine zr_callV I86_237 C10_66 ⟨rfl, rfl⟩ ⟨rfl, Nat.le_of_ble_eq_true rfl⟩ (Or.inl ⟨rfl, sT8 hS⟩) (k_minutesB hS G (by omega)) (fun v237 μ237 hv237 => ?_)
  obtain ⟨x237, c237, rfl, rfl, rfl, G⟩ := hv237
  dsimp only [Option.toList, List.cons_append, List.nil_append]
  refine zr_iconst I86_240 ?_
  refine zr_ic_ne (t := 289) I86_241 rfl (fun h241 => absurd h241 (by omega)) (fun h241 => ?_)
  refine zl_ald0 I86_244 ?_
  refine zr_iconst I86_245 ?_
  refine zr_iconst I86_246 ?_
  refine zr_iconst I86_247 ?_
  refine zr_callV I86_248 C10_66 ⟨rfl, rfl⟩ ⟨rfl, Nat.le_of_ble_eq_true rfl⟩ (Or.inl ⟨rfl, sT8 hS⟩) (k_minutesB hS G (by omega)) (fun v248 μ248 hv248 => ?_)
  obtain ⟨x248, c248, rfl, rfl, rfl, G⟩ := hv248
  dsimp only [Option.toList, List.cons_append, List.nil_append]
  refine zr_iconst I86_251 ?_
  refine zr_ic_ne (t := 289) I86_252 rfl (fun h252 => absurd h252 (by omega)) (fun h252 => ?_)
  refine zl_ald0 I86_255 ?_
  refine zr_iconst I86_256 ?_
  refine zr_iconst I86_257 ?_
  refine zr_callV I86_258 C10_69 ⟨rfl, rfl⟩ ⟨rfl, Nat.le_of_ble_eq_true rfl⟩ (Or.inl ⟨rfl, sT8 hS⟩) (k_silenceB hS G (by omega)) (fun v258 μ258 hv258 => ?_)
  obtain ⟨x258, c258, rfl, rfl, rfl, G⟩ := hv258
  dsimp only [Option.toList, List.cons_append, List.nil_append]
  refine zr_iconst I86_261 ?_
  refine zr_ic_ne (t := 289) I86_262 rfl (fun h262 => absurd h262 (by omega)) (fun h262 => ?_)
  refine zl_ald0 I86_265 ?_
  refine zl_ild1 I86_266 ?_
  refine zr_callV I86_267 C10_72 ⟨rfl, rfl⟩ ⟨rfl, Nat.le_of_ble_eq_true rfl⟩ (Or.inl ⟨rfl, sT8 hS⟩) (k_rankedB hS G (by omega)) (fun v267 μ267 hv267 => ?_)
  obtain ⟨x267, c267, rfl, rfl, rfl, G⟩ := hv267
  dsimp only [Option.toList, List.cons_append, List.nil_append]
  refine zr_iconst I86_270 ?_
  refine zr_ic_ne (t := 289) I86_271 rfl (fun h271 => absurd h271 (by omega)) (fun h271 => ?_)
  refine zl_ald0 I86_274 ?_
  refine zl_ild5 I86_275 ?_
  refine zr_iconst I86_277 ?_
  refine zr_callV I86_278 C10_75 ⟨rfl, rfl⟩ ⟨rfl, Nat.le_of_ble_eq_true rfl⟩ (Or.inl ⟨rfl, sT8 hS⟩) (k_lineB hS G (by omega)) (fun v278 μ278 hv278 => ?_)
  obtain ⟨x278, c278, rfl, rfl, rfl, G⟩ := hv278
  dsimp only [Option.toList, List.cons_append, List.nil_append]
  refine zr_iconst I86_281 ?_
  refine zr_ic_ne (t := 289) I86_282 rfl (fun h282 => absurd h282 (by omega)) (fun h282 => ?_)
  refine zr_iconst I86_285 ?_
  refine zr_goto (t := 290) I86_286 rfl ?_
  refine zl_ist6 I86_290 ?_
  refine zl_ild6 I86_292 ?_
  refine zr_if_eq (t := 310) I86_294 rfl (fun h294 => absurd h294 (by omega)) (fun h294 => ?_)
  refine zl_ald0 I86_297 ?_
  refine zr_callV I86_298 C10_9 ⟨rfl, rfl⟩ ⟨rfl, Nat.le_of_ble_eq_true rfl⟩ (Or.inl ⟨rfl, sT8 hS⟩) (k_fp hS G) (fun v298 μ298 hv298 => ?_)
  obtain ⟨c298, rfl, rfl, G⟩ := hv298
  dsimp only [Option.toList, List.cons_append, List.nil_append]
  refine zl_lld3 I86_301 ?_
  refine zr_lcmpG I86_302 (fun y302 hy302 => ?_)
  have hz := hy302.mpr rfl
  refine zr_if_ne (t := 310) I86_303 rfl (fun h303 => absurd h303 (by omega)) (fun h303 => ?_)
  refine zr_iconst I86_306 ?_
  refine zr_goto (t := 311) I86_307 rfl ?_
  refine zr_zret I86_311 rfl (Or.inr rfl) ?_
  exact ⟨_, _, rfl, rfl, rfl, G⟩
