/-! the law's rounds -/
theorem zret_int {M len : Nat} {st : List zV} {op : Instr} {v : Option zV} (hR : zR M = some .int) (h : zret M st op len = some v) : ∃ y : Int, v = some (zI y) := by
  unfold zret at h
  rw [hR] at h
  split at h
  · split at h
    · injection h with h
      exact ⟨_, h.symm⟩
    · cases h
  · split at h
    · rw [if_neg (by intro h9; injection h9 with h9; cases h9)] at h
      cases h
    · cases h
  · split at h
    · cases h
    · cases h
  · rw [if_neg (by rintro ⟨-, h9⟩; cases h9)] at h
    cases h
  · cases h
theorem zret_long {M len : Nat} {st : List zV} {op : Instr} {v : Option zV} (hR : zR M = some .long) (h : zret M st op len = some v) : ∃ y : Int, v = some (zJ y) := by
  unfold zret at h
  rw [hR] at h
  split at h
  · split at h
    · cases h
    · cases h
  · split at h
    · rw [if_pos rfl] at h
      injection h with h
      exact ⟨_, h.symm⟩
    · cases h
  · split at h
    · cases h
    · cases h
  · rw [if_neg (by rintro ⟨-, h9⟩; cases h9)] at h
    cases h
  · cases h
theorem zgo_ret {P : Option zV → Prop} : ∀ (f d M pc : Nat) (L : zLs) (st : List zV) (μ : zMem) (r : Option zV) (μ' : zMem), (∀ st op len v, zret M st op len = some v → P v) → zgo f d M pc L st μ = some (r, μ') → P r
  | 0, _, _, _, _, _, _, _, _, _, h => by cases h
  | f + 1, d, M, pc, L, st, μ, r, μ', hP, h => by
    unfold zgo at h
    split at h
    · split at h
      · exact zgo_ret f _ _ _ _ _ _ _ _ hP h
      · split at h
        · split at h
          · cases h
          · split at h
            · exact zgo_ret f _ _ _ _ _ _ _ _ hP h
            · cases h
        · split at h
          · rename_i h9
            injection h with h
            injection h with h1 h2
            rw [← h1]
            exact hP _ _ _ _ h9
          · cases h
    · cases h
theorem zE_ret {P : Option zV → Prop} {d M pc : Nat} {L : zLs} {st : List zV} {μ : zMem} {Q : Option zV → zMem → Prop} (hP : ∀ st op len v, zret M st op len = some v → P v) (h : zE d M pc L st μ Q) : zE d M pc L st μ (fun r μ' => P r ∧ Q r μ') := by
  obtain ⟨f, r, μ', h1, h2⟩ := h
  exact ⟨f, r, μ', h1, zgo_ret f _ _ _ _ _ _ _ _ hP h1, h2⟩
def zX (xs : Nat → Int32) (i : Int) : Int := (xs i.toNat).toInt
theorem zStep_int {L : Nat} {xs : Nat → Int32} {k : Int} {M1 M2 : Nat} {a1 a2 : List zV} (h : zStep L xs k M1 M2 a1 a2) (hR : zR M1 = some .int) {μ : zMem} (hr : zRel L xs k μ) : zE 13 M1 0 (zent M1 (zA 8 :: a1)) [] μ (fun r μ1 => ∃ x : Int, r = some (zI x) ∧ zMid L xs μ1 ∧ zE 13 M2 0 (zent M2 (zA 145 :: a2)) [] μ1 (fun r2 μ2 => r2 = some (zI x) ∧ zRel L xs (k + 1) μ2)) := by
  refine zE.mono (zE_ret (P := fun v => ∃ y : Int, v = some (zI y)) (fun _ _ _ _ h9 => zret_int hR h9) (h μ hr)) ?_
  rintro r μ1 ⟨⟨y, rfl⟩, x, hx, hm, he⟩
  injection hx with hx
  subst hx
  exact ⟨y, rfl, hm, he⟩
theorem zStep_long {L : Nat} {xs : Nat → Int32} {k : Int} {M1 M2 : Nat} {a1 a2 : List zV} (h : zStep L xs k M1 M2 a1 a2) (hR : zR M1 = some .long) {μ : zMem} (hr : zRel L xs k μ) : zE 13 M1 0 (zent M1 (zA 8 :: a1)) [] μ (fun r μ1 => ∃ x : Int, r = some (zJ x) ∧ zMid L xs μ1 ∧ zE 13 M2 0 (zent M2 (zA 145 :: a2)) [] μ1 (fun r2 μ2 => r2 = some (zJ x) ∧ zRel L xs (k + 1) μ2)) := by
  refine zE.mono (zE_ret (P := fun v => ∃ y : Int, v = some (zJ y)) (fun _ _ _ _ h9 => zret_long hR h9) (h μ hr)) ?_
  rintro r μ1 ⟨⟨y, rfl⟩, x, hx, hm, he⟩
  injection hx with hx
  subst hx
  exact ⟨y, rfl, hm, he⟩
theorem zRel_mid {L : Nat} {xs : Nat → Int32} {k : Int} {μ : zMem} (h : zRel L xs k μ) : zMid L xs μ ∧ (μ.2.1 8).1 = 9 := by
  obtain ⟨⟨l, bq, N, h1⟩, h2, -⟩ := h
  have hS : zSok μ.2.1 := h1.1.1
  exact ⟨⟨⟨h1.2.2.2.2.2.1, h1.2.2.2.2.2.2, sT145 hS⟩, h2⟩, sT8 hS⟩
section ZLW
variable {L n sl pc d : Nat} {xs : Nat → Int32} {k i : Int} {Q : Option zV → zMem → Prop} {μ : zMem} {st : List zV} {Ls : zLs}
/-- a word of the script -/
theorem zl_xs (hd : decode (zB 138) pc = .ok (.iaload, 1)) (hm : zMid L xs μ) {j : Int} (hb : 0 ≤ j ∧ j < L) (kk : zE d 138 (pc + 1) Ls (zI (zX xs j) :: st) μ Q) : zE d 138 pc Ls (zI j :: zA 0 :: st) μ Q := by
  obtain ⟨⟨n, sl⟩, ⟨S, c⟩⟩ := μ
  obtain ⟨⟨h1, h2, -⟩, h3⟩ := hm
  refine zr_iald0 hd h1 h2 hb ?_
  rw [show c 0 j = zX xs j from h3 j]
  exact kk
theorem zr_and31 {M : Nat} {x : Int} (hd : decode (zB M) pc = .ok (.iand, 1)) (kk : zE d M (pc + 1) Ls (zI (x % 32) :: st) μ Q) : zE d M pc Ls (zI 31 :: zI x :: st) μ Q := zr_next hd (by show (if (31 : Int) = 31 then some (pc + 1, Ls, zI (x % 32) :: st, μ) else if (31 : Int) = 255 then some (pc + 1, Ls, zI (x % 256) :: st, μ) else none) = _; rw [if_pos rfl]) kk
theorem zlw_len (hd : decode (zB 138) pc = .ok (.arraylength, 1)) (hm : zMid L xs μ) (kk : zE d 138 (pc + 1) Ls (zI (L : Int) :: st) μ Q) : zE d 138 pc Ls (zA 0 :: st) μ Q := by
  obtain ⟨⟨n, sl⟩, ⟨S, c⟩⟩ := μ
  obtain ⟨⟨h1, h2, -⟩, h3⟩ := hm
  exact zr_alen hd (Or.inr (Or.inr (Or.inl h1))) h2 kk
set_option maxRecDepth 10000 in
set_option maxHeartbeats 1000000 in
theorem law_0 (hL : L ≤ 2560) (hk : 0 ≤ k) (hk2 : k ≤ 512) (hi : 0 ≤ i ∧ i + 5 ≤ L) (hr : zRel L xs k μ) (kk : ∀ μ', zRel L xs (k + 1) μ' → zE 14 138 809 [some (zA 0), some (zA 8), some (zA 145), some (zI i)] [] μ' Q) : zE 14 138 136 [some (zA 0), some (zA 8), some (zA 145), some (zI i)] [] μ Q := by
  obtain ⟨hm, h8⟩ := zRel_mid hr
  refine zl_ald1 I138_136 ?_
  refine zl_ald0 I138_137 ?_
  refine zl_ild3 I138_138 ?_
  refine zr_iconst I138_139 ?_
  refine zr_iadd I138_140 (by unfold zInR; omega) ?_
  refine zl_xs I138_141 hm (by omega) ?_
  refine zl_ald0 I138_142 ?_
  refine zl_ild3 I138_143 ?_
  refine zr_iconst I138_144 ?_
  refine zr_iadd I138_145 (by unfold zInR; omega) ?_
  refine zl_xs I138_146 hm (by omega) ?_
  refine zl_ald0 I138_147 ?_
  refine zl_ild3 I138_148 ?_
  refine zr_iconst I138_149 ?_
  refine zr_iadd I138_150 (by unfold zInR; omega) ?_
  refine zl_xs I138_151 hm (by omega) ?_
  refine zr_callV I138_152 C10_13 ⟨rfl, rfl⟩ ⟨rfl, Nat.le_of_ble_eq_true rfl⟩ (Or.inl ⟨rfl, h8⟩) (zStep_int (st_addProgramme hk) rfl hr) (fun v μ1 hv => ?_)
  obtain ⟨x, rfl, hm2, he⟩ := hv
  dsimp only [Option.toList, List.cons_append, List.nil_append]
  refine zl_ald2 I138_155 ?_
  refine zl_ald0 I138_156 ?_
  refine zl_ild3 I138_157 ?_
  refine zr_iconst I138_158 ?_
  refine zr_iadd I138_159 (by unfold zInR; omega) ?_
  refine zl_xs I138_160 hm2 (by omega) ?_
  refine zl_ald0 I138_161 ?_
  refine zl_ild3 I138_162 ?_
  refine zr_iconst I138_163 ?_
  refine zr_iadd I138_164 (by unfold zInR; omega) ?_
  refine zl_xs I138_165 hm2 (by omega) ?_
  refine zl_ald0 I138_166 ?_
  refine zl_ild3 I138_167 ?_
  refine zr_iconst I138_168 ?_
  refine zr_iadd I138_169 (by unfold zInR; omega) ?_
  refine zl_xs I138_170 hm2 (by omega) ?_
  refine zr_callV I138_171 C10_17 ⟨rfl, rfl⟩ ⟨rfl, Nat.le_of_ble_eq_true rfl⟩ (Or.inl ⟨rfl, hm2.1.2.2⟩) he (fun v μ2 hv => ?_)
  obtain ⟨rfl, hr2⟩ := hv
  dsimp only [Option.toList, List.cons_append, List.nil_append]
  refine zr_ic_eq (t := 809) I138_174 rfl (fun _ => ?_) (fun h => absurd rfl h)
  exact kk _ hr2
set_option maxRecDepth 10000 in
set_option maxHeartbeats 1000000 in
theorem law_1 (hL : L ≤ 2560) (hk : 0 ≤ k) (hk2 : k ≤ 512) (hi : 0 ≤ i ∧ i + 5 ≤ L) (hr : zRel L xs k μ) (kk : ∀ μ', zRel L xs (k + 1) μ' → zE 14 138 809 [some (zA 0), some (zA 8), some (zA 145), some (zI i)] [] μ' Q) : zE 14 138 179 [some (zA 0), some (zA 8), some (zA 145), some (zI i)] [] μ Q := by
  obtain ⟨hm, h8⟩ := zRel_mid hr
  refine zl_ald1 I138_179 ?_
  refine zl_ald0 I138_180 ?_
  refine zl_ild3 I138_181 ?_
  refine zr_iconst I138_182 ?_
  refine zr_iadd I138_183 (by unfold zInR; omega) ?_
  refine zl_xs I138_184 hm (by omega) ?_
  refine zl_ald0 I138_185 ?_
  refine zl_ild3 I138_186 ?_
  refine zr_iconst I138_187 ?_
  refine zr_iadd I138_188 (by unfold zInR; omega) ?_
  refine zl_xs I138_189 hm (by omega) ?_
  refine zl_ald0 I138_190 ?_
  refine zl_ild3 I138_191 ?_
  refine zr_iconst I138_192 ?_
  refine zr_iadd I138_193 (by unfold zInR; omega) ?_
  refine zl_xs I138_194 hm (by omega) ?_
  refine zl_ald0 I138_195 ?_
  refine zl_ild3 I138_196 ?_
  refine zr_iconst I138_197 ?_
  refine zr_iadd I138_198 (by unfold zInR; omega) ?_
  refine zl_xs I138_199 hm (by omega) ?_
  refine zr_callV I138_200 C10_18 ⟨rfl, rfl⟩ ⟨rfl, Nat.le_of_ble_eq_true rfl⟩ (Or.inl ⟨rfl, h8⟩) (zStep_int (st_addRight hk) rfl hr) (fun v μ1 hv => ?_)
  obtain ⟨x, rfl, hm2, he⟩ := hv
  dsimp only [Option.toList, List.cons_append, List.nil_append]
  refine zl_ald2 I138_203 ?_
  refine zl_ald0 I138_204 ?_
  refine zl_ild3 I138_205 ?_
  refine zr_iconst I138_206 ?_
  refine zr_iadd I138_207 (by unfold zInR; omega) ?_
  refine zl_xs I138_208 hm2 (by omega) ?_
  refine zl_ald0 I138_209 ?_
  refine zl_ild3 I138_210 ?_
  refine zr_iconst I138_211 ?_
  refine zr_iadd I138_212 (by unfold zInR; omega) ?_
  refine zl_xs I138_213 hm2 (by omega) ?_
  refine zl_ald0 I138_214 ?_
  refine zl_ild3 I138_215 ?_
  refine zr_iconst I138_216 ?_
  refine zr_iadd I138_217 (by unfold zInR; omega) ?_
  refine zl_xs I138_218 hm2 (by omega) ?_
  refine zl_ald0 I138_219 ?_
  refine zl_ild3 I138_220 ?_
  refine zr_iconst I138_221 ?_
  refine zr_iadd I138_222 (by unfold zInR; omega) ?_
  refine zl_xs I138_223 hm2 (by omega) ?_
  refine zr_callV I138_224 C10_22 ⟨rfl, rfl⟩ ⟨rfl, Nat.le_of_ble_eq_true rfl⟩ (Or.inl ⟨rfl, hm2.1.2.2⟩) he (fun v μ2 hv => ?_)
  obtain ⟨rfl, hr2⟩ := hv
  dsimp only [Option.toList, List.cons_append, List.nil_append]
  refine zr_ic_eq (t := 809) I138_227 rfl (fun _ => ?_) (fun h => absurd rfl h)
  exact kk _ hr2
set_option maxRecDepth 10000 in
set_option maxHeartbeats 1000000 in
theorem law_2 (hL : L ≤ 2560) (hk : 0 ≤ k) (hk2 : k ≤ 512) (hi : 0 ≤ i ∧ i + 5 ≤ L) (hr : zRel L xs k μ) (kk : ∀ μ', zRel L xs (k + 1) μ' → zE 14 138 809 [some (zA 0), some (zA 8), some (zA 145), some (zI i)] [] μ' Q) : zE 14 138 232 [some (zA 0), some (zA 8), some (zA 145), some (zI i)] [] μ Q := by
  obtain ⟨hm, h8⟩ := zRel_mid hr
  refine zl_ald1 I138_232 ?_
  refine zl_ald0 I138_233 ?_
  refine zl_ild3 I138_234 ?_
  refine zr_iconst I138_235 ?_
  refine zr_iadd I138_236 (by unfold zInR; omega) ?_
  refine zl_xs I138_237 hm (by omega) ?_
  refine zl_ald0 I138_238 ?_
  refine zl_ild3 I138_239 ?_
  refine zr_iconst I138_240 ?_
  refine zr_iadd I138_241 (by unfold zInR; omega) ?_
  refine zl_xs I138_242 hm (by omega) ?_
  refine zl_ald0 I138_243 ?_
  refine zl_ild3 I138_244 ?_
  refine zr_iconst I138_245 ?_
  refine zr_iadd I138_246 (by unfold zInR; omega) ?_
  refine zl_xs I138_247 hm (by omega) ?_
  refine zr_callV I138_248 C10_23 ⟨rfl, rfl⟩ ⟨rfl, Nat.le_of_ble_eq_true rfl⟩ (Or.inl ⟨rfl, h8⟩) (zStep_int (st_addBlackout hk) rfl hr) (fun v μ1 hv => ?_)
  obtain ⟨x, rfl, hm2, he⟩ := hv
  dsimp only [Option.toList, List.cons_append, List.nil_append]
  refine zl_ald2 I138_251 ?_
  refine zl_ald0 I138_252 ?_
  refine zl_ild3 I138_253 ?_
  refine zr_iconst I138_254 ?_
  refine zr_iadd I138_255 (by unfold zInR; omega) ?_
  refine zl_xs I138_256 hm2 (by omega) ?_
  refine zl_ald0 I138_257 ?_
  refine zl_ild3 I138_258 ?_
  refine zr_iconst I138_259 ?_
  refine zr_iadd I138_260 (by unfold zInR; omega) ?_
  refine zl_xs I138_261 hm2 (by omega) ?_
  refine zl_ald0 I138_262 ?_
  refine zl_ild3 I138_263 ?_
  refine zr_iconst I138_264 ?_
  refine zr_iadd I138_265 (by unfold zInR; omega) ?_
  refine zl_xs I138_266 hm2 (by omega) ?_
  refine zr_callV I138_267 C10_26 ⟨rfl, rfl⟩ ⟨rfl, Nat.le_of_ble_eq_true rfl⟩ (Or.inl ⟨rfl, hm2.1.2.2⟩) he (fun v μ2 hv => ?_)
  obtain ⟨rfl, hr2⟩ := hv
  dsimp only [Option.toList, List.cons_append, List.nil_append]
  refine zr_ic_eq (t := 809) I138_270 rfl (fun _ => ?_) (fun h => absurd rfl h)
  exact kk _ hr2
set_option maxRecDepth 10000 in
set_option maxHeartbeats 1000000 in
theorem law_3 (hL : L ≤ 2560) (hk : 0 ≤ k) (hk2 : k ≤ 512) (hi : 0 ≤ i ∧ i + 5 ≤ L) (hr : zRel L xs k μ) (kk : ∀ μ', zRel L xs (k + 1) μ' → zE 14 138 809 [some (zA 0), some (zA 8), some (zA 145), some (zI i)] [] μ' Q) : zE 14 138 275 [some (zA 0), some (zA 8), some (zA 145), some (zI i)] [] μ Q := by
  obtain ⟨hm, h8⟩ := zRel_mid hr
  by_cases e : zX xs (i + 3) = 0
  · refine zl_ald1 I138_275 ?_
    refine zl_ald0 I138_276 ?_
    refine zl_ild3 I138_277 ?_
    refine zr_iconst I138_278 ?_
    refine zr_iadd I138_279 (by unfold zInR; omega) ?_
    refine zl_xs I138_280 hm (by omega) ?_
    refine zl_ald0 I138_281 ?_
    refine zl_ild3 I138_282 ?_
    refine zr_iconst I138_283 ?_
    refine zr_iadd I138_284 (by unfold zInR; omega) ?_
    refine zl_xs I138_285 hm (by omega) ?_
    refine zl_ald0 I138_286 ?_
    refine zl_ild3 I138_287 ?_
    refine zr_iconst I138_288 ?_
    refine zr_iadd I138_289 (by unfold zInR; omega) ?_
    refine zl_xs I138_290 hm (by omega) ?_
    refine zr_if_eq (t := 298) I138_291 rfl (fun _ => ?_) (fun h => absurd e h)
    refine zr_iconst I138_298 ?_
    refine zr_callV I138_299 C10_27 ⟨rfl, rfl⟩ ⟨rfl, Nat.le_of_ble_eq_true rfl⟩ (Or.inl ⟨rfl, h8⟩) (zStep_int (st_place hk) rfl hr) (fun v μ1 hv => ?_)
    obtain ⟨x, rfl, hm2, he⟩ := hv
    dsimp only [Option.toList, List.cons_append, List.nil_append]
    refine zl_ald2 I138_302 ?_
    refine zl_ald0 I138_303 ?_
    refine zl_ild3 I138_304 ?_
    refine zr_iconst I138_305 ?_
    refine zr_iadd I138_306 (by unfold zInR; omega) ?_
    refine zl_xs I138_307 hm2 (by omega) ?_
    refine zl_ald0 I138_308 ?_
    refine zl_ild3 I138_309 ?_
    refine zr_iconst I138_310 ?_
    refine zr_iadd I138_311 (by unfold zInR; omega) ?_
    refine zl_xs I138_312 hm2 (by omega) ?_
    refine zl_ald0 I138_313 ?_
    refine zl_ild3 I138_314 ?_
    refine zr_iconst I138_315 ?_
    refine zr_iadd I138_316 (by unfold zInR; omega) ?_
    refine zl_xs I138_317 hm2 (by omega) ?_
    refine zr_if_eq (t := 325) I138_318 rfl (fun _ => ?_) (fun h => absurd e h)
    refine zr_iconst I138_325 ?_
    refine zr_callV I138_326 C10_31 ⟨rfl, rfl⟩ ⟨rfl, Nat.le_of_ble_eq_true rfl⟩ (Or.inl ⟨rfl, hm2.1.2.2⟩) he (fun v μ2 hv => ?_)
    obtain ⟨rfl, hr2⟩ := hv
    dsimp only [Option.toList, List.cons_append, List.nil_append]
    refine zr_ic_eq (t := 809) I138_329 rfl (fun _ => ?_) (fun h => absurd rfl h)
    exact kk _ hr2
  · refine zl_ald1 I138_275 ?_
    refine zl_ald0 I138_276 ?_
    refine zl_ild3 I138_277 ?_
    refine zr_iconst I138_278 ?_
    refine zr_iadd I138_279 (by unfold zInR; omega) ?_
    refine zl_xs I138_280 hm (by omega) ?_
    refine zl_ald0 I138_281 ?_
    refine zl_ild3 I138_282 ?_
    refine zr_iconst I138_283 ?_
    refine zr_iadd I138_284 (by unfold zInR; omega) ?_
    refine zl_xs I138_285 hm (by omega) ?_
    refine zl_ald0 I138_286 ?_
    refine zl_ild3 I138_287 ?_
    refine zr_iconst I138_288 ?_
    refine zr_iadd I138_289 (by unfold zInR; omega) ?_
    refine zl_xs I138_290 hm (by omega) ?_
    refine zr_if_eq (t := 298) I138_291 rfl (fun h => absurd h e) (fun _ => ?_)
    refine zr_iconst I138_294 ?_
    refine zr_goto (t := 299) I138_295 rfl ?_
    refine zr_callV I138_299 C10_27 ⟨rfl, rfl⟩ ⟨rfl, Nat.le_of_ble_eq_true rfl⟩ (Or.inl ⟨rfl, h8⟩) (zStep_int (st_place hk) rfl hr) (fun v μ1 hv => ?_)
    obtain ⟨x, rfl, hm2, he⟩ := hv
    dsimp only [Option.toList, List.cons_append, List.nil_append]
    refine zl_ald2 I138_302 ?_
    refine zl_ald0 I138_303 ?_
    refine zl_ild3 I138_304 ?_
    refine zr_iconst I138_305 ?_
    refine zr_iadd I138_306 (by unfold zInR; omega) ?_
    refine zl_xs I138_307 hm2 (by omega) ?_
    refine zl_ald0 I138_308 ?_
    refine zl_ild3 I138_309 ?_
    refine zr_iconst I138_310 ?_
    refine zr_iadd I138_311 (by unfold zInR; omega) ?_
    refine zl_xs I138_312 hm2 (by omega) ?_
    refine zl_ald0 I138_313 ?_
    refine zl_ild3 I138_314 ?_
    refine zr_iconst I138_315 ?_
    refine zr_iadd I138_316 (by unfold zInR; omega) ?_
    refine zl_xs I138_317 hm2 (by omega) ?_
    refine zr_if_eq (t := 325) I138_318 rfl (fun h => absurd h e) (fun _ => ?_)
    refine zr_iconst I138_321 ?_
    refine zr_goto (t := 326) I138_322 rfl ?_
    refine zr_callV I138_326 C10_31 ⟨rfl, rfl⟩ ⟨rfl, Nat.le_of_ble_eq_true rfl⟩ (Or.inl ⟨rfl, hm2.1.2.2⟩) he (fun v μ2 hv => ?_)
    obtain ⟨rfl, hr2⟩ := hv
    dsimp only [Option.toList, List.cons_append, List.nil_append]
    refine zr_ic_eq (t := 809) I138_329 rfl (fun _ => ?_) (fun h => absurd rfl h)
    exact kk _ hr2
set_option maxRecDepth 10000 in
set_option maxHeartbeats 1000000 in
theorem law_4 (hL : L ≤ 2560) (hk : 0 ≤ k) (hk2 : k ≤ 512) (hi : 0 ≤ i ∧ i + 5 ≤ L) (hr : zRel L xs k μ) (kk : ∀ μ', zRel L xs (k + 1) μ' → zE 14 138 809 [some (zA 0), some (zA 8), some (zA 145), some (zI i)] [] μ' Q) : zE 14 138 334 [some (zA 0), some (zA 8), some (zA 145), some (zI i)] [] μ Q := by
  obtain ⟨hm, h8⟩ := zRel_mid hr
  refine zl_ald1 I138_334 ?_
  refine zl_ald0 I138_335 ?_
  refine zl_ild3 I138_336 ?_
  refine zr_iconst I138_337 ?_
  refine zr_iadd I138_338 (by unfold zInR; omega) ?_
  refine zl_xs I138_339 hm (by omega) ?_
  refine zr_callV I138_340 C10_32 ⟨rfl, rfl⟩ ⟨rfl, Nat.le_of_ble_eq_true rfl⟩ (Or.inl ⟨rfl, h8⟩) (zStep_int (st_remove hk) rfl hr) (fun v μ1 hv => ?_)
  obtain ⟨x, rfl, hm2, he⟩ := hv
  dsimp only [Option.toList, List.cons_append, List.nil_append]
  refine zl_ald2 I138_343 ?_
  refine zl_ald0 I138_344 ?_
  refine zl_ild3 I138_345 ?_
  refine zr_iconst I138_346 ?_
  refine zr_iadd I138_347 (by unfold zInR; omega) ?_
  refine zl_xs I138_348 hm2 (by omega) ?_
  refine zr_callV I138_349 C10_36 ⟨rfl, rfl⟩ ⟨rfl, Nat.le_of_ble_eq_true rfl⟩ (Or.inl ⟨rfl, hm2.1.2.2⟩) he (fun v μ2 hv => ?_)
  obtain ⟨rfl, hr2⟩ := hv
  dsimp only [Option.toList, List.cons_append, List.nil_append]
  refine zr_ic_eq (t := 809) I138_352 rfl (fun _ => ?_) (fun h => absurd rfl h)
  exact kk _ hr2
set_option maxRecDepth 10000 in
set_option maxHeartbeats 1000000 in
theorem law_5 (hL : L ≤ 2560) (hk : 0 ≤ k) (hk2 : k ≤ 512) (hi : 0 ≤ i ∧ i + 5 ≤ L) (hr : zRel L xs k μ) (kk : ∀ μ', zRel L xs (k + 1) μ' → zE 14 138 809 [some (zA 0), some (zA 8), some (zA 145), some (zI i)] [] μ' Q) : zE 14 138 357 [some (zA 0), some (zA 8), some (zA 145), some (zI i)] [] μ Q := by
  obtain ⟨hm, h8⟩ := zRel_mid hr
  refine zl_ald1 I138_357 ?_
  refine zl_ald0 I138_358 ?_
  refine zl_ild3 I138_359 ?_
  refine zr_iconst I138_360 ?_
  refine zr_iadd I138_361 (by unfold zInR; omega) ?_
  refine zl_xs I138_362 hm (by omega) ?_
  refine zl_ald0 I138_363 ?_
  refine zl_ild3 I138_364 ?_
  refine zr_iconst I138_365 ?_
  refine zr_iadd I138_366 (by unfold zInR; omega) ?_
  refine zl_xs I138_367 hm (by omega) ?_
  refine zr_callV I138_368 C10_37 ⟨rfl, rfl⟩ ⟨rfl, Nat.le_of_ble_eq_true rfl⟩ (Or.inl ⟨rfl, h8⟩) (zStep_int (st_earliest hk) rfl hr) (fun v μ1 hv => ?_)
  obtain ⟨x, rfl, hm2, he⟩ := hv
  dsimp only [Option.toList, List.cons_append, List.nil_append]
  refine zl_ald2 I138_371 ?_
  refine zl_ald0 I138_372 ?_
  refine zl_ild3 I138_373 ?_
  refine zr_iconst I138_374 ?_
  refine zr_iadd I138_375 (by unfold zInR; omega) ?_
  refine zl_xs I138_376 hm2 (by omega) ?_
  refine zl_ald0 I138_377 ?_
  refine zl_ild3 I138_378 ?_
  refine zr_iconst I138_379 ?_
  refine zr_iadd I138_380 (by unfold zInR; omega) ?_
  refine zl_xs I138_381 hm2 (by omega) ?_
  refine zr_callV I138_382 C10_41 ⟨rfl, rfl⟩ ⟨rfl, Nat.le_of_ble_eq_true rfl⟩ (Or.inl ⟨rfl, hm2.1.2.2⟩) he (fun v μ2 hv => ?_)
  obtain ⟨rfl, hr2⟩ := hv
  dsimp only [Option.toList, List.cons_append, List.nil_append]
  refine zr_ic_eq (t := 809) I138_385 rfl (fun _ => ?_) (fun h => absurd rfl h)
  exact kk _ hr2
set_option maxRecDepth 10000 in
set_option maxHeartbeats 1000000 in
theorem law_6 (hL : L ≤ 2560) (hk : 0 ≤ k) (hk2 : k ≤ 512) (hi : 0 ≤ i ∧ i + 5 ≤ L) (hr : zRel L xs k μ) (kk : ∀ μ', zRel L xs (k + 1) μ' → zE 14 138 809 [some (zA 0), some (zA 8), some (zA 145), some (zI i)] [] μ' Q) : zE 14 138 390 [some (zA 0), some (zA 8), some (zA 145), some (zI i)] [] μ Q := by
  obtain ⟨hm, h8⟩ := zRel_mid hr
  refine zl_ald1 I138_390 ?_
  refine zl_ald0 I138_391 ?_
  refine zl_ild3 I138_392 ?_
  refine zr_iconst I138_393 ?_
  refine zr_iadd I138_394 (by unfold zInR; omega) ?_
  refine zl_xs I138_395 hm (by omega) ?_
  refine zl_ald0 I138_396 ?_
  refine zl_ild3 I138_397 ?_
  refine zr_iconst I138_398 ?_
  refine zr_iadd I138_399 (by unfold zInR; omega) ?_
  refine zl_xs I138_400 hm (by omega) ?_
  refine zr_callV I138_401 C10_42 ⟨rfl, rfl⟩ ⟨rfl, Nat.le_of_ble_eq_true rfl⟩ (Or.inl ⟨rfl, h8⟩) (zStep_int (st_fill hk) rfl hr) (fun v μ1 hv => ?_)
  obtain ⟨x, rfl, hm2, he⟩ := hv
  dsimp only [Option.toList, List.cons_append, List.nil_append]
  refine zl_ald2 I138_404 ?_
  refine zl_ald0 I138_405 ?_
  refine zl_ild3 I138_406 ?_
  refine zr_iconst I138_407 ?_
  refine zr_iadd I138_408 (by unfold zInR; omega) ?_
  refine zl_xs I138_409 hm2 (by omega) ?_
  refine zl_ald0 I138_410 ?_
  refine zl_ild3 I138_411 ?_
  refine zr_iconst I138_412 ?_
  refine zr_iadd I138_413 (by unfold zInR; omega) ?_
  refine zl_xs I138_414 hm2 (by omega) ?_
  refine zr_callV I138_415 C10_45 ⟨rfl, rfl⟩ ⟨rfl, Nat.le_of_ble_eq_true rfl⟩ (Or.inl ⟨rfl, hm2.1.2.2⟩) he (fun v μ2 hv => ?_)
  obtain ⟨rfl, hr2⟩ := hv
  dsimp only [Option.toList, List.cons_append, List.nil_append]
  refine zr_ic_eq (t := 809) I138_418 rfl (fun _ => ?_) (fun h => absurd rfl h)
  exact kk _ hr2
set_option maxRecDepth 10000 in
set_option maxHeartbeats 1000000 in
theorem law_7 (hL : L ≤ 2560) (hk : 0 ≤ k) (hk2 : k ≤ 512) (hi : 0 ≤ i ∧ i + 5 ≤ L) (hr : zRel L xs k μ) (kk : ∀ μ', zRel L xs (k + 1) μ' → zE 14 138 809 [some (zA 0), some (zA 8), some (zA 145), some (zI i)] [] μ' Q) : zE 14 138 423 [some (zA 0), some (zA 8), some (zA 145), some (zI i)] [] μ Q := by
  obtain ⟨hm, h8⟩ := zRel_mid hr
  refine zl_ald1 I138_423 ?_
  refine zl_ald0 I138_424 ?_
  refine zl_ild3 I138_425 ?_
  refine zr_iconst I138_426 ?_
  refine zr_iadd I138_427 (by unfold zInR; omega) ?_
  refine zl_xs I138_428 hm (by omega) ?_
  refine zl_ald0 I138_429 ?_
  refine zl_ild3 I138_430 ?_
  refine zr_iconst I138_431 ?_
  refine zr_iadd I138_432 (by unfold zInR; omega) ?_
  refine zl_xs I138_433 hm (by omega) ?_
  refine zr_callV I138_434 C10_46 ⟨rfl, rfl⟩ ⟨rfl, Nat.le_of_ble_eq_true rfl⟩ (Or.inl ⟨rfl, h8⟩) (zStep_int (st_runOver hk hk2) rfl hr) (fun v μ1 hv => ?_)
  obtain ⟨x, rfl, hm2, he⟩ := hv
  dsimp only [Option.toList, List.cons_append, List.nil_append]
  refine zl_ald2 I138_437 ?_
  refine zl_ald0 I138_438 ?_
  refine zl_ild3 I138_439 ?_
  refine zr_iconst I138_440 ?_
  refine zr_iadd I138_441 (by unfold zInR; omega) ?_
  refine zl_xs I138_442 hm2 (by omega) ?_
  refine zl_ald0 I138_443 ?_
  refine zl_ild3 I138_444 ?_
  refine zr_iconst I138_445 ?_
  refine zr_iadd I138_446 (by unfold zInR; omega) ?_
  refine zl_xs I138_447 hm2 (by omega) ?_
  refine zr_callV I138_448 C10_49 ⟨rfl, rfl⟩ ⟨rfl, Nat.le_of_ble_eq_true rfl⟩ (Or.inl ⟨rfl, hm2.1.2.2⟩) he (fun v μ2 hv => ?_)
  obtain ⟨rfl, hr2⟩ := hv
  dsimp only [Option.toList, List.cons_append, List.nil_append]
  refine zr_ic_eq (t := 809) I138_451 rfl (fun _ => ?_) (fun h => absurd rfl h)
  exact kk _ hr2
set_option maxRecDepth 10000 in
set_option maxHeartbeats 1000000 in
theorem law_8 (hL : L ≤ 2560) (hk : 0 ≤ k) (hk2 : k ≤ 512) (hi : 0 ≤ i ∧ i + 5 ≤ L) (hr : zRel L xs k μ) (kk : ∀ μ', zRel L xs (k + 1) μ' → zE 14 138 809 [some (zA 0), some (zA 8), some (zA 145), some (zI i)] [] μ' Q) : zE 14 138 456 [some (zA 0), some (zA 8), some (zA 145), some (zI i)] [] μ Q := by
  obtain ⟨hm, h8⟩ := zRel_mid hr
  refine zl_ald1 I138_456 ?_
  refine zl_ald0 I138_457 ?_
  refine zl_ild3 I138_458 ?_
  refine zr_iconst I138_459 ?_
  refine zr_iadd I138_460 (by unfold zInR; omega) ?_
  refine zl_xs I138_461 hm (by omega) ?_
  refine zl_ald0 I138_462 ?_
  refine zl_ild3 I138_463 ?_
  refine zr_iconst I138_464 ?_
  refine zr_iadd I138_465 (by unfold zInR; omega) ?_
  refine zl_xs I138_466 hm (by omega) ?_
  refine zr_callV I138_467 C10_50 ⟨rfl, rfl⟩ ⟨rfl, Nat.le_of_ble_eq_true rfl⟩ (Or.inl ⟨rfl, h8⟩) (zStep_int (st_makeGood hk hk2) rfl hr) (fun v μ1 hv => ?_)
  obtain ⟨x, rfl, hm2, he⟩ := hv
  dsimp only [Option.toList, List.cons_append, List.nil_append]
  refine zl_ald2 I138_470 ?_
  refine zl_ald0 I138_471 ?_
  refine zl_ild3 I138_472 ?_
  refine zr_iconst I138_473 ?_
  refine zr_iadd I138_474 (by unfold zInR; omega) ?_
  refine zl_xs I138_475 hm2 (by omega) ?_
  refine zl_ald0 I138_476 ?_
  refine zl_ild3 I138_477 ?_
  refine zr_iconst I138_478 ?_
  refine zr_iadd I138_479 (by unfold zInR; omega) ?_
  refine zl_xs I138_480 hm2 (by omega) ?_
  refine zr_callV I138_481 C10_53 ⟨rfl, rfl⟩ ⟨rfl, Nat.le_of_ble_eq_true rfl⟩ (Or.inl ⟨rfl, hm2.1.2.2⟩) he (fun v μ2 hv => ?_)
  obtain ⟨rfl, hr2⟩ := hv
  dsimp only [Option.toList, List.cons_append, List.nil_append]
  refine zr_ic_eq (t := 809) I138_484 rfl (fun _ => ?_) (fun h => absurd rfl h)
  exact kk _ hr2
set_option maxRecDepth 10000 in
set_option maxHeartbeats 1000000 in
theorem law_9 (hL : L ≤ 2560) (hk : 0 ≤ k) (hk2 : k ≤ 512) (hi : 0 ≤ i ∧ i + 5 ≤ L) (hr : zRel L xs k μ) (kk : ∀ μ', zRel L xs (k + 1) μ' → zE 14 138 809 [some (zA 0), some (zA 8), some (zA 145), some (zI i)] [] μ' Q) : zE 14 138 489 [some (zA 0), some (zA 8), some (zA 145), some (zI i)] [] μ Q := by
  obtain ⟨hm, h8⟩ := zRel_mid hr
  refine zl_ald1 I138_489 ?_
  refine zr_callV I138_490 C10_54 ⟨rfl, rfl⟩ ⟨rfl, Nat.le_of_ble_eq_true rfl⟩ (Or.inl ⟨rfl, h8⟩) (zStep_int (st_items hk) rfl hr) (fun v μ1 hv => ?_)
  obtain ⟨x, rfl, hm2, he⟩ := hv
  dsimp only [Option.toList, List.cons_append, List.nil_append]
  refine zl_ald2 I138_493 ?_
  refine zr_callV I138_494 C10_58 ⟨rfl, rfl⟩ ⟨rfl, Nat.le_of_ble_eq_true rfl⟩ (Or.inl ⟨rfl, hm2.1.2.2⟩) he (fun v μ2 hv => ?_)
  obtain ⟨rfl, hr2⟩ := hv
  dsimp only [Option.toList, List.cons_append, List.nil_append]
  refine zr_ic_eq (t := 809) I138_497 rfl (fun _ => ?_) (fun h => absurd rfl h)
  exact kk _ hr2
set_option maxRecDepth 10000 in
set_option maxHeartbeats 1000000 in
theorem law_10 (hL : L ≤ 2560) (hk : 0 ≤ k) (hk2 : k ≤ 512) (hi : 0 ≤ i ∧ i + 5 ≤ L) (hr : zRel L xs k μ) (kk : ∀ μ', zRel L xs (k + 1) μ' → zE 14 138 809 [some (zA 0), some (zA 8), some (zA 145), some (zI i)] [] μ' Q) : zE 14 138 502 [some (zA 0), some (zA 8), some (zA 145), some (zI i)] [] μ Q := by
  obtain ⟨hm, h8⟩ := zRel_mid hr
  refine zl_ald1 I138_502 ?_
  refine zl_ald0 I138_503 ?_
  refine zl_ild3 I138_504 ?_
  refine zr_iconst I138_505 ?_
  refine zr_iadd I138_506 (by unfold zInR; omega) ?_
  refine zl_xs I138_507 hm (by omega) ?_
  refine zl_ald0 I138_508 ?_
  refine zl_ild3 I138_509 ?_
  refine zr_iconst I138_510 ?_
  refine zr_iadd I138_511 (by unfold zInR; omega) ?_
  refine zl_xs I138_512 hm (by omega) ?_
  refine zr_callV I138_513 C10_59 ⟨rfl, rfl⟩ ⟨rfl, Nat.le_of_ble_eq_true rfl⟩ (Or.inl ⟨rfl, h8⟩) (zStep_int (st_item hk) rfl hr) (fun v μ1 hv => ?_)
  obtain ⟨x, rfl, hm2, he⟩ := hv
  dsimp only [Option.toList, List.cons_append, List.nil_append]
  refine zl_ald2 I138_516 ?_
  refine zl_ald0 I138_517 ?_
  refine zl_ild3 I138_518 ?_
  refine zr_iconst I138_519 ?_
  refine zr_iadd I138_520 (by unfold zInR; omega) ?_
  refine zl_xs I138_521 hm2 (by omega) ?_
  refine zl_ald0 I138_522 ?_
  refine zl_ild3 I138_523 ?_
  refine zr_iconst I138_524 ?_
  refine zr_iadd I138_525 (by unfold zInR; omega) ?_
  refine zl_xs I138_526 hm2 (by omega) ?_
  refine zr_callV I138_527 C10_62 ⟨rfl, rfl⟩ ⟨rfl, Nat.le_of_ble_eq_true rfl⟩ (Or.inl ⟨rfl, hm2.1.2.2⟩) he (fun v μ2 hv => ?_)
  obtain ⟨rfl, hr2⟩ := hv
  dsimp only [Option.toList, List.cons_append, List.nil_append]
  refine zr_ic_eq (t := 809) I138_530 rfl (fun _ => ?_) (fun h => absurd rfl h)
  exact kk _ hr2
set_option maxRecDepth 10000 in
set_option maxHeartbeats 1000000 in
theorem law_11 (hL : L ≤ 2560) (hk : 0 ≤ k) (hk2 : k ≤ 512) (hi : 0 ≤ i ∧ i + 5 ≤ L) (hr : zRel L xs k μ) (kk : ∀ μ', zRel L xs (k + 1) μ' → zE 14 138 809 [some (zA 0), some (zA 8), some (zA 145), some (zI i)] [] μ' Q) : zE 14 138 535 [some (zA 0), some (zA 8), some (zA 145), some (zI i)] [] μ Q := by
  obtain ⟨hm, h8⟩ := zRel_mid hr
  refine zl_ald1 I138_535 ?_
  refine zl_ald0 I138_536 ?_
  refine zl_ild3 I138_537 ?_
  refine zr_iconst I138_538 ?_
  refine zr_iadd I138_539 (by unfold zInR; omega) ?_
  refine zl_xs I138_540 hm (by omega) ?_
  refine zr_callV I138_541 C10_63 ⟨rfl, rfl⟩ ⟨rfl, Nat.le_of_ble_eq_true rfl⟩ (Or.inl ⟨rfl, h8⟩) (zStep_int (st_onAir hk) rfl hr) (fun v μ1 hv => ?_)
  obtain ⟨x, rfl, hm2, he⟩ := hv
  dsimp only [Option.toList, List.cons_append, List.nil_append]
  refine zl_ald2 I138_544 ?_
  refine zl_ald0 I138_545 ?_
  refine zl_ild3 I138_546 ?_
  refine zr_iconst I138_547 ?_
  refine zr_iadd I138_548 (by unfold zInR; omega) ?_
  refine zl_xs I138_549 hm2 (by omega) ?_
  refine zr_callV I138_550 C10_66 ⟨rfl, rfl⟩ ⟨rfl, Nat.le_of_ble_eq_true rfl⟩ (Or.inl ⟨rfl, hm2.1.2.2⟩) he (fun v μ2 hv => ?_)
  obtain ⟨rfl, hr2⟩ := hv
  dsimp only [Option.toList, List.cons_append, List.nil_append]
  refine zr_ic_eq (t := 809) I138_553 rfl (fun _ => ?_) (fun h => absurd rfl h)
  exact kk _ hr2
set_option maxRecDepth 10000 in
set_option maxHeartbeats 1000000 in
theorem law_12 (hL : L ≤ 2560) (hk : 0 ≤ k) (hk2 : k ≤ 512) (hi : 0 ≤ i ∧ i + 5 ≤ L) (hr : zRel L xs k μ) (kk : ∀ μ', zRel L xs (k + 1) μ' → zE 14 138 809 [some (zA 0), some (zA 8), some (zA 145), some (zI i)] [] μ' Q) : zE 14 138 558 [some (zA 0), some (zA 8), some (zA 145), some (zI i)] [] μ Q := by
  obtain ⟨hm, h8⟩ := zRel_mid hr
  refine zl_ald1 I138_558 ?_
  refine zl_ald0 I138_559 ?_
  refine zl_ild3 I138_560 ?_
  refine zr_iconst I138_561 ?_
  refine zr_iadd I138_562 (by unfold zInR; omega) ?_
  refine zl_xs I138_563 hm (by omega) ?_
  refine zr_callV I138_564 C10_67 ⟨rfl, rfl⟩ ⟨rfl, Nat.le_of_ble_eq_true rfl⟩ (Or.inl ⟨rfl, h8⟩) (zStep_int (st_left hk) rfl hr) (fun v μ1 hv => ?_)
  obtain ⟨x, rfl, hm2, he⟩ := hv
  dsimp only [Option.toList, List.cons_append, List.nil_append]
  refine zl_ald2 I138_567 ?_
  refine zl_ald0 I138_568 ?_
  refine zl_ild3 I138_569 ?_
  refine zr_iconst I138_570 ?_
  refine zr_iadd I138_571 (by unfold zInR; omega) ?_
  refine zl_xs I138_572 hm2 (by omega) ?_
  refine zr_callV I138_573 C10_70 ⟨rfl, rfl⟩ ⟨rfl, Nat.le_of_ble_eq_true rfl⟩ (Or.inl ⟨rfl, hm2.1.2.2⟩) he (fun v μ2 hv => ?_)
  obtain ⟨rfl, hr2⟩ := hv
  dsimp only [Option.toList, List.cons_append, List.nil_append]
  refine zr_ic_eq (t := 809) I138_576 rfl (fun _ => ?_) (fun h => absurd rfl h)
  exact kk _ hr2
set_option maxRecDepth 10000 in
set_option maxHeartbeats 1000000 in
theorem law_13 (hL : L ≤ 2560) (hk : 0 ≤ k) (hk2 : k ≤ 512) (hi : 0 ≤ i ∧ i + 5 ≤ L) (hr : zRel L xs k μ) (kk : ∀ μ', zRel L xs (k + 1) μ' → zE 14 138 809 [some (zA 0), some (zA 8), some (zA 145), some (zI i)] [] μ' Q) : zE 14 138 581 [some (zA 0), some (zA 8), some (zA 145), some (zI i)] [] μ Q := by
  obtain ⟨hm, h8⟩ := zRel_mid hr
  refine zl_ald1 I138_581 ?_
  refine zl_ald0 I138_582 ?_
  refine zl_ild3 I138_583 ?_
  refine zr_iconst I138_584 ?_
  refine zr_iadd I138_585 (by unfold zInR; omega) ?_
  refine zl_xs I138_586 hm (by omega) ?_
  refine zl_ald0 I138_587 ?_
  refine zl_ild3 I138_588 ?_
  refine zr_iconst I138_589 ?_
  refine zr_iadd I138_590 (by unfold zInR; omega) ?_
  refine zl_xs I138_591 hm (by omega) ?_
  refine zr_callV I138_592 C10_71 ⟨rfl, rfl⟩ ⟨rfl, Nat.le_of_ble_eq_true rfl⟩ (Or.inl ⟨rfl, h8⟩) (zStep_int (st_mayPlace hk) rfl hr) (fun v μ1 hv => ?_)
  obtain ⟨x, rfl, hm2, he⟩ := hv
  dsimp only [Option.toList, List.cons_append, List.nil_append]
  refine zl_ald2 I138_595 ?_
  refine zl_ald0 I138_596 ?_
  refine zl_ild3 I138_597 ?_
  refine zr_iconst I138_598 ?_
  refine zr_iadd I138_599 (by unfold zInR; omega) ?_
  refine zl_xs I138_600 hm2 (by omega) ?_
  refine zl_ald0 I138_601 ?_
  refine zl_ild3 I138_602 ?_
  refine zr_iconst I138_603 ?_
  refine zr_iadd I138_604 (by unfold zInR; omega) ?_
  refine zl_xs I138_605 hm2 (by omega) ?_
  refine zr_callV I138_606 C10_74 ⟨rfl, rfl⟩ ⟨rfl, Nat.le_of_ble_eq_true rfl⟩ (Or.inl ⟨rfl, hm2.1.2.2⟩) he (fun v μ2 hv => ?_)
  obtain ⟨rfl, hr2⟩ := hv
  dsimp only [Option.toList, List.cons_append, List.nil_append]
  refine zr_ic_eq (t := 809) I138_609 rfl (fun _ => ?_) (fun h => absurd rfl h)
  exact kk _ hr2
set_option maxRecDepth 10000 in
set_option maxHeartbeats 1000000 in
theorem law_14 (hL : L ≤ 2560) (hk : 0 ≤ k) (hk2 : k ≤ 512) (hi : 0 ≤ i ∧ i + 5 ≤ L) (hr : zRel L xs k μ) (kk : ∀ μ', zRel L xs (k + 1) μ' → zE 14 138 809 [some (zA 0), some (zA 8), some (zA 145), some (zI i)] [] μ' Q) : zE 14 138 614 [some (zA 0), some (zA 8), some (zA 145), some (zI i)] [] μ Q := by
  obtain ⟨hm, h8⟩ := zRel_mid hr
  refine zl_ald1 I138_614 ?_
  refine zl_ald0 I138_615 ?_
  refine zl_ild3 I138_616 ?_
  refine zr_iconst I138_617 ?_
  refine zr_iadd I138_618 (by unfold zInR; omega) ?_
  refine zl_xs I138_619 hm (by omega) ?_
  refine zr_callV I138_620 C10_75 ⟨rfl, rfl⟩ ⟨rfl, Nat.le_of_ble_eq_true rfl⟩ (Or.inl ⟨rfl, h8⟩) (zStep_int (st_owed hk) rfl hr) (fun v μ1 hv => ?_)
  obtain ⟨x, rfl, hm2, he⟩ := hv
  dsimp only [Option.toList, List.cons_append, List.nil_append]
  refine zl_ald2 I138_623 ?_
  refine zl_ald0 I138_624 ?_
  refine zl_ild3 I138_625 ?_
  refine zr_iconst I138_626 ?_
  refine zr_iadd I138_627 (by unfold zInR; omega) ?_
  refine zl_xs I138_628 hm2 (by omega) ?_
  refine zr_callV I138_629 C10_78 ⟨rfl, rfl⟩ ⟨rfl, Nat.le_of_ble_eq_true rfl⟩ (Or.inl ⟨rfl, hm2.1.2.2⟩) he (fun v μ2 hv => ?_)
  obtain ⟨rfl, hr2⟩ := hv
  dsimp only [Option.toList, List.cons_append, List.nil_append]
  refine zr_ic_eq (t := 809) I138_632 rfl (fun _ => ?_) (fun h => absurd rfl h)
  exact kk _ hr2
set_option maxRecDepth 10000 in
set_option maxHeartbeats 1000000 in
theorem law_15 (hL : L ≤ 2560) (hk : 0 ≤ k) (hk2 : k ≤ 512) (hi : 0 ≤ i ∧ i + 5 ≤ L) (hr : zRel L xs k μ) (kk : ∀ μ', zRel L xs (k + 1) μ' → zE 14 138 809 [some (zA 0), some (zA 8), some (zA 145), some (zI i)] [] μ' Q) : zE 14 138 637 [some (zA 0), some (zA 8), some (zA 145), some (zI i)] [] μ Q := by
  obtain ⟨hm, h8⟩ := zRel_mid hr
  refine zl_ald1 I138_637 ?_
  refine zl_ald0 I138_638 ?_
  refine zl_ild3 I138_639 ?_
  refine zr_iconst I138_640 ?_
  refine zr_iadd I138_641 (by unfold zInR; omega) ?_
  refine zl_xs I138_642 hm (by omega) ?_
  refine zl_ald0 I138_643 ?_
  refine zl_ild3 I138_644 ?_
  refine zr_iconst I138_645 ?_
  refine zr_iadd I138_646 (by unfold zInR; omega) ?_
  refine zl_xs I138_647 hm (by omega) ?_
  refine zl_ald0 I138_648 ?_
  refine zl_ild3 I138_649 ?_
  refine zr_iconst I138_650 ?_
  refine zr_iadd I138_651 (by unfold zInR; omega) ?_
  refine zl_xs I138_652 hm (by omega) ?_
  refine zr_callV I138_653 C10_79 ⟨rfl, rfl⟩ ⟨rfl, Nat.le_of_ble_eq_true rfl⟩ (Or.inl ⟨rfl, h8⟩) (zStep_int (st_minutes hk) rfl hr) (fun v μ1 hv => ?_)
  obtain ⟨x, rfl, hm2, he⟩ := hv
  dsimp only [Option.toList, List.cons_append, List.nil_append]
  refine zl_ald2 I138_656 ?_
  refine zl_ald0 I138_657 ?_
  refine zl_ild3 I138_658 ?_
  refine zr_iconst I138_659 ?_
  refine zr_iadd I138_660 (by unfold zInR; omega) ?_
  refine zl_xs I138_661 hm2 (by omega) ?_
  refine zl_ald0 I138_662 ?_
  refine zl_ild3 I138_663 ?_
  refine zr_iconst I138_664 ?_
  refine zr_iadd I138_665 (by unfold zInR; omega) ?_
  refine zl_xs I138_666 hm2 (by omega) ?_
  refine zl_ald0 I138_667 ?_
  refine zl_ild3 I138_668 ?_
  refine zr_iconst I138_669 ?_
  refine zr_iadd I138_670 (by unfold zInR; omega) ?_
  refine zl_xs I138_671 hm2 (by omega) ?_
  refine zr_callV I138_672 C10_82 ⟨rfl, rfl⟩ ⟨rfl, Nat.le_of_ble_eq_true rfl⟩ (Or.inl ⟨rfl, hm2.1.2.2⟩) he (fun v μ2 hv => ?_)
  obtain ⟨rfl, hr2⟩ := hv
  dsimp only [Option.toList, List.cons_append, List.nil_append]
  refine zr_ic_eq (t := 809) I138_675 rfl (fun _ => ?_) (fun h => absurd rfl h)
  exact kk _ hr2
set_option maxRecDepth 10000 in
set_option maxHeartbeats 1000000 in
theorem law_16 (hL : L ≤ 2560) (hk : 0 ≤ k) (hk2 : k ≤ 512) (hi : 0 ≤ i ∧ i + 5 ≤ L) (hr : zRel L xs k μ) (kk : ∀ μ', zRel L xs (k + 1) μ' → zE 14 138 809 [some (zA 0), some (zA 8), some (zA 145), some (zI i)] [] μ' Q) : zE 14 138 680 [some (zA 0), some (zA 8), some (zA 145), some (zI i)] [] μ Q := by
  obtain ⟨hm, h8⟩ := zRel_mid hr
  refine zl_ald1 I138_680 ?_
  refine zl_ald0 I138_681 ?_
  refine zl_ild3 I138_682 ?_
  refine zr_iconst I138_683 ?_
  refine zr_iadd I138_684 (by unfold zInR; omega) ?_
  refine zl_xs I138_685 hm (by omega) ?_
  refine zl_ald0 I138_686 ?_
  refine zl_ild3 I138_687 ?_
  refine zr_iconst I138_688 ?_
  refine zr_iadd I138_689 (by unfold zInR; omega) ?_
  refine zl_xs I138_690 hm (by omega) ?_
  refine zr_callV I138_691 C10_83 ⟨rfl, rfl⟩ ⟨rfl, Nat.le_of_ble_eq_true rfl⟩ (Or.inl ⟨rfl, h8⟩) (zStep_int (st_silence hk) rfl hr) (fun v μ1 hv => ?_)
  obtain ⟨x, rfl, hm2, he⟩ := hv
  dsimp only [Option.toList, List.cons_append, List.nil_append]
  refine zl_ald2 I138_694 ?_
  refine zl_ald0 I138_695 ?_
  refine zl_ild3 I138_696 ?_
  refine zr_iconst I138_697 ?_
  refine zr_iadd I138_698 (by unfold zInR; omega) ?_
  refine zl_xs I138_699 hm2 (by omega) ?_
  refine zl_ald0 I138_700 ?_
  refine zl_ild3 I138_701 ?_
  refine zr_iconst I138_702 ?_
  refine zr_iadd I138_703 (by unfold zInR; omega) ?_
  refine zl_xs I138_704 hm2 (by omega) ?_
  refine zr_callV I138_705 C10_86 ⟨rfl, rfl⟩ ⟨rfl, Nat.le_of_ble_eq_true rfl⟩ (Or.inl ⟨rfl, hm2.1.2.2⟩) he (fun v μ2 hv => ?_)
  obtain ⟨rfl, hr2⟩ := hv
  dsimp only [Option.toList, List.cons_append, List.nil_append]
  refine zr_ic_eq (t := 809) I138_708 rfl (fun _ => ?_) (fun h => absurd rfl h)
  exact kk _ hr2
set_option maxRecDepth 10000 in
set_option maxHeartbeats 1000000 in
theorem law_17 (hL : L ≤ 2560) (hk : 0 ≤ k) (hk2 : k ≤ 512) (hi : 0 ≤ i ∧ i + 5 ≤ L) (hr : zRel L xs k μ) (kk : ∀ μ', zRel L xs (k + 1) μ' → zE 14 138 809 [some (zA 0), some (zA 8), some (zA 145), some (zI i)] [] μ' Q) : zE 14 138 713 [some (zA 0), some (zA 8), some (zA 145), some (zI i)] [] μ Q := by
  obtain ⟨hm, h8⟩ := zRel_mid hr
  refine zl_ald1 I138_713 ?_
  refine zl_ald0 I138_714 ?_
  refine zl_ild3 I138_715 ?_
  refine zr_iconst I138_716 ?_
  refine zr_iadd I138_717 (by unfold zInR; omega) ?_
  refine zl_xs I138_718 hm (by omega) ?_
  refine zr_callV I138_719 C10_87 ⟨rfl, rfl⟩ ⟨rfl, Nat.le_of_ble_eq_true rfl⟩ (Or.inl ⟨rfl, h8⟩) (zStep_int (st_ranked hk) rfl hr) (fun v μ1 hv => ?_)
  obtain ⟨x, rfl, hm2, he⟩ := hv
  dsimp only [Option.toList, List.cons_append, List.nil_append]
  refine zl_ald2 I138_722 ?_
  refine zl_ald0 I138_723 ?_
  refine zl_ild3 I138_724 ?_
  refine zr_iconst I138_725 ?_
  refine zr_iadd I138_726 (by unfold zInR; omega) ?_
  refine zl_xs I138_727 hm2 (by omega) ?_
  refine zr_callV I138_728 C10_90 ⟨rfl, rfl⟩ ⟨rfl, Nat.le_of_ble_eq_true rfl⟩ (Or.inl ⟨rfl, hm2.1.2.2⟩) he (fun v μ2 hv => ?_)
  obtain ⟨rfl, hr2⟩ := hv
  dsimp only [Option.toList, List.cons_append, List.nil_append]
  refine zr_ic_eq (t := 809) I138_731 rfl (fun _ => ?_) (fun h => absurd rfl h)
  exact kk _ hr2
set_option maxRecDepth 10000 in
set_option maxHeartbeats 1000000 in
theorem law_18 (hL : L ≤ 2560) (hk : 0 ≤ k) (hk2 : k ≤ 512) (hi : 0 ≤ i ∧ i + 5 ≤ L) (hr : zRel L xs k μ) (kk : ∀ μ', zRel L xs (k + 1) μ' → zE 14 138 809 [some (zA 0), some (zA 8), some (zA 145), some (zI i)] [] μ' Q) : zE 14 138 736 [some (zA 0), some (zA 8), some (zA 145), some (zI i)] [] μ Q := by
  obtain ⟨hm, h8⟩ := zRel_mid hr
  refine zl_ald1 I138_736 ?_
  refine zr_callV I138_737 C10_91 ⟨rfl, rfl⟩ ⟨rfl, Nat.le_of_ble_eq_true rfl⟩ (Or.inl ⟨rfl, h8⟩) (zStep_int (st_broken hk) rfl hr) (fun v μ1 hv => ?_)
  obtain ⟨x, rfl, hm2, he⟩ := hv
  dsimp only [Option.toList, List.cons_append, List.nil_append]
  refine zl_ald2 I138_740 ?_
  refine zr_callV I138_741 C10_94 ⟨rfl, rfl⟩ ⟨rfl, Nat.le_of_ble_eq_true rfl⟩ (Or.inl ⟨rfl, hm2.1.2.2⟩) he (fun v μ2 hv => ?_)
  obtain ⟨rfl, hr2⟩ := hv
  dsimp only [Option.toList, List.cons_append, List.nil_append]
  refine zr_ic_eq (t := 809) I138_744 rfl (fun _ => ?_) (fun h => absurd rfl h)
  exact kk _ hr2
set_option maxRecDepth 10000 in
set_option maxHeartbeats 1000000 in
theorem law_19 (hL : L ≤ 2560) (hk : 0 ≤ k) (hk2 : k ≤ 512) (hi : 0 ≤ i ∧ i + 5 ≤ L) (hr : zRel L xs k μ) (kk : ∀ μ', zRel L xs (k + 1) μ' → zE 14 138 809 [some (zA 0), some (zA 8), some (zA 145), some (zI i)] [] μ' Q) : zE 14 138 749 [some (zA 0), some (zA 8), some (zA 145), some (zI i)] [] μ Q := by
  obtain ⟨hm, h8⟩ := zRel_mid hr
  refine zl_ald1 I138_749 ?_
  refine zl_ald0 I138_750 ?_
  refine zl_ild3 I138_751 ?_
  refine zr_iconst I138_752 ?_
  refine zr_iadd I138_753 (by unfold zInR; omega) ?_
  refine zl_xs I138_754 hm (by omega) ?_
  refine zl_ald0 I138_755 ?_
  refine zl_ild3 I138_756 ?_
  refine zr_iconst I138_757 ?_
  refine zr_iadd I138_758 (by unfold zInR; omega) ?_
  refine zl_xs I138_759 hm (by omega) ?_
  refine zr_callV I138_760 C10_95 ⟨rfl, rfl⟩ ⟨rfl, Nat.le_of_ble_eq_true rfl⟩ (Or.inl ⟨rfl, h8⟩) (zStep_int (st_line hk) rfl hr) (fun v μ1 hv => ?_)
  obtain ⟨x, rfl, hm2, he⟩ := hv
  dsimp only [Option.toList, List.cons_append, List.nil_append]
  refine zl_ald2 I138_763 ?_
  refine zl_ald0 I138_764 ?_
  refine zl_ild3 I138_765 ?_
  refine zr_iconst I138_766 ?_
  refine zr_iadd I138_767 (by unfold zInR; omega) ?_
  refine zl_xs I138_768 hm2 (by omega) ?_
  refine zl_ald0 I138_769 ?_
  refine zl_ild3 I138_770 ?_
  refine zr_iconst I138_771 ?_
  refine zr_iadd I138_772 (by unfold zInR; omega) ?_
  refine zl_xs I138_773 hm2 (by omega) ?_
  refine zr_callV I138_774 C10_98 ⟨rfl, rfl⟩ ⟨rfl, Nat.le_of_ble_eq_true rfl⟩ (Or.inl ⟨rfl, hm2.1.2.2⟩) he (fun v μ2 hv => ?_)
  obtain ⟨rfl, hr2⟩ := hv
  dsimp only [Option.toList, List.cons_append, List.nil_append]
  refine zr_ic_eq (t := 809) I138_777 rfl (fun _ => ?_) (fun h => absurd rfl h)
  exact kk _ hr2
set_option maxRecDepth 10000 in
set_option maxHeartbeats 1000000 in
theorem law_20 (hL : L ≤ 2560) (hk : 0 ≤ k) (hk2 : k ≤ 512) (hi : 0 ≤ i ∧ i + 5 ≤ L) (hr : zRel L xs k μ) (kk : ∀ μ', zRel L xs (k + 1) μ' → zE 14 138 809 [some (zA 0), some (zA 8), some (zA 145), some (zI i)] [] μ' Q) : zE 14 138 782 [some (zA 0), some (zA 8), some (zA 145), some (zI i)] [] μ Q := by
  obtain ⟨hm, h8⟩ := zRel_mid hr
  refine zl_ald1 I138_782 ?_
  refine zr_callV I138_783 C10_99 ⟨rfl, rfl⟩ ⟨rfl, Nat.le_of_ble_eq_true rfl⟩ (Or.inl ⟨rfl, h8⟩) (zStep_int (st_undo hk) rfl hr) (fun v μ1 hv => ?_)
  obtain ⟨x, rfl, hm2, he⟩ := hv
  dsimp only [Option.toList, List.cons_append, List.nil_append]
  refine zl_ald2 I138_786 ?_
  refine zr_callV I138_787 C10_102 ⟨rfl, rfl⟩ ⟨rfl, Nat.le_of_ble_eq_true rfl⟩ (Or.inl ⟨rfl, hm2.1.2.2⟩) he (fun v μ2 hv => ?_)
  obtain ⟨rfl, hr2⟩ := hv
  dsimp only [Option.toList, List.cons_append, List.nil_append]
  refine zr_ic_eq (t := 809) I138_790 rfl (fun _ => ?_) (fun h => absurd rfl h)
  exact kk _ hr2
set_option maxRecDepth 10000 in
set_option maxHeartbeats 1000000 in
theorem law_21 (hL : L ≤ 2560) (hk : 0 ≤ k) (hk2 : k ≤ 512) (hi : 0 ≤ i ∧ i + 5 ≤ L) (hr : zRel L xs k μ) (kk : ∀ μ', zRel L xs (k + 1) μ' → zE 14 138 809 [some (zA 0), some (zA 8), some (zA 145), some (zI i)] [] μ' Q) : zE 14 138 795 [some (zA 0), some (zA 8), some (zA 145), some (zI i)] [] μ Q := by
  obtain ⟨hm, h8⟩ := zRel_mid hr
  refine zl_ald1 I138_795 ?_
  refine zr_callV I138_796 C10_103 ⟨rfl, rfl⟩ ⟨rfl, Nat.le_of_ble_eq_true rfl⟩ (Or.inl ⟨rfl, h8⟩) (zStep_long (st_fingerprint hk) rfl hr) (fun v μ1 hv => ?_)
  obtain ⟨x, rfl, hm2, he⟩ := hv
  dsimp only [Option.toList, List.cons_append, List.nil_append]
  refine zl_ald2 I138_799 ?_
  refine zr_callV I138_800 C10_107 ⟨rfl, rfl⟩ ⟨rfl, Nat.le_of_ble_eq_true rfl⟩ (Or.inl ⟨rfl, hm2.1.2.2⟩) he (fun v μ2 hv => ?_)
  obtain ⟨rfl, hr2⟩ := hv
  dsimp only [Option.toList, List.cons_append, List.nil_append]
  refine zr_lcmp I138_803 ?_
  refine zr_if_eq (t := 809) I138_804 rfl (fun _ => ?_) (fun h => absurd (if_pos rfl) h)
  exact kk _ hr2
end ZLW
set_option maxRecDepth 10000 in
set_option maxHeartbeats 2000000 in
theorem zlaw_loop {L : Nat} {xs : Nat → Int32} (hL : L ≤ 2560) : ∀ i : Int, i ≤ L → ∀ (k : Int) (μ : zMem), 5 * k ≤ i → 0 ≤ k → zRel L xs k μ → zE 14 138 18 [some (zA 0), some (zA 8), some (zA 145), some (zI i)] [] μ (fun r μ' => r = some (zI 1) ∧ ∃ k', zRel L xs k' μ') := by
  refine zind _ (fun i ih hN => ?_)
  intro k μ hik hk hr
  obtain ⟨hm, h8⟩ := zRel_mid hr
  refine zl_ild3 I138_18 ?_
  refine zl_ald0 I138_19 ?_
  refine zlw_len I138_20 hm ?_
  refine zr_iconst I138_21 ?_
  refine zr_isub I138_22 (by unfold zInR; omega) ?_
  refine zr_ic_gt (t := 815) I138_23 rfl (fun h23 => ?_) (fun h23 => ?_)
  · refine zr_iconst I138_815 ?_
    refine zr_zret I138_816 rfl (by decide) ?_
    exact ⟨rfl, k, hr⟩
  · have kk : ∀ (k2 : Int) (μ' : zMem), 0 ≤ k2 → k2 ≤ k + 1 → zRel L xs k2 μ' → zE 14 138 809 [some (zA 0), some (zA 8), some (zA 145), some (zI i)] [] μ' (fun r μ' => r = some (zI 1) ∧ ∃ k', zRel L xs k' μ') := fun k2 μ' hk1 hk2 hr' => by
      refine zl_iinc3 I138_809 (by unfold zInR; omega) ?_
      refine zr_goto (t := 18) I138_812 rfl ?_
      exact ih (i + 5) (by omega) (by omega) k2 μ' (by omega) hk1 hr'
    refine zl_ald0 I138_26 ?_
    refine zl_ild3 I138_27 ?_
    refine zl_xs I138_28 hm (by omega) ?_
    refine zr_bipush I138_29 ?_
    refine zr_and31 I138_31 ?_
    have hx0 : 0 ≤ zX xs i % 32 ∧ zX xs i % 32 < 32 := by omega
    generalize zX xs i % 32 = x at hx0 ⊢
    by_cases h21 : 21 < x
    · refine zr_tsw_d (t := 809) I138_32 (Or.inr h21) rfl ?_
      exact kk k μ hk (by omega) hr
    have hk2 : k ≤ 512 := by omega
    have k1 := fun μ' (h9 : zRel L xs (k + 1) μ') => kk (k + 1) μ' (by omega) (by omega) h9
    have hc : x = 0 ∨ x = 1 ∨ x = 2 ∨ x = 3 ∨ x = 4 ∨ x = 5 ∨ x = 6 ∨ x = 7 ∨ x = 8 ∨ x = 9 ∨ x = 10 ∨ x = 11 ∨ x = 12 ∨ x = 13 ∨ x = 14 ∨ x = 15 ∨ x = 16 ∨ x = 17 ∨ x = 18 ∨ x = 19 ∨ x = 20 ∨ x = 21 := by omega
    rcases hc with rfl | rfl | rfl | rfl | rfl | rfl | rfl | rfl | rfl | rfl | rfl | rfl | rfl | rfl | rfl | rfl | rfl | rfl | rfl | rfl | rfl | rfl
    · exact zr_tsw_i (t := 136) I138_32 (by decide) rfl rfl (law_0 hL hk hk2 (by omega) hr k1)
    · exact zr_tsw_i (t := 179) I138_32 (by decide) rfl rfl (law_1 hL hk hk2 (by omega) hr k1)
    · exact zr_tsw_i (t := 232) I138_32 (by decide) rfl rfl (law_2 hL hk hk2 (by omega) hr k1)
    · exact zr_tsw_i (t := 275) I138_32 (by decide) rfl rfl (law_3 hL hk hk2 (by omega) hr k1)
    · exact zr_tsw_i (t := 334) I138_32 (by decide) rfl rfl (law_4 hL hk hk2 (by omega) hr k1)
    · exact zr_tsw_i (t := 357) I138_32 (by decide) rfl rfl (law_5 hL hk hk2 (by omega) hr k1)
    · exact zr_tsw_i (t := 390) I138_32 (by decide) rfl rfl (law_6 hL hk hk2 (by omega) hr k1)
    · exact zr_tsw_i (t := 423) I138_32 (by decide) rfl rfl (law_7 hL hk hk2 (by omega) hr k1)
    · exact zr_tsw_i (t := 456) I138_32 (by decide) rfl rfl (law_8 hL hk hk2 (by omega) hr k1)
    · exact zr_tsw_i (t := 489) I138_32 (by decide) rfl rfl (law_9 hL hk hk2 (by omega) hr k1)
    · exact zr_tsw_i (t := 502) I138_32 (by decide) rfl rfl (law_10 hL hk hk2 (by omega) hr k1)
    · exact zr_tsw_i (t := 535) I138_32 (by decide) rfl rfl (law_11 hL hk hk2 (by omega) hr k1)
    · exact zr_tsw_i (t := 558) I138_32 (by decide) rfl rfl (law_12 hL hk hk2 (by omega) hr k1)
    · exact zr_tsw_i (t := 581) I138_32 (by decide) rfl rfl (law_13 hL hk hk2 (by omega) hr k1)
    · exact zr_tsw_i (t := 614) I138_32 (by decide) rfl rfl (law_14 hL hk hk2 (by omega) hr k1)
    · exact zr_tsw_i (t := 637) I138_32 (by decide) rfl rfl (law_15 hL hk hk2 (by omega) hr k1)
    · exact zr_tsw_i (t := 680) I138_32 (by decide) rfl rfl (law_16 hL hk hk2 (by omega) hr k1)
    · exact zr_tsw_i (t := 713) I138_32 (by decide) rfl rfl (law_17 hL hk hk2 (by omega) hr k1)
    · exact zr_tsw_i (t := 736) I138_32 (by decide) rfl rfl (law_18 hL hk hk2 (by omega) hr k1)
    · exact zr_tsw_i (t := 749) I138_32 (by decide) rfl rfl (law_19 hL hk hk2 (by omega) hr k1)
    · exact zr_tsw_i (t := 782) I138_32 (by decide) rfl rfl (law_20 hL hk hk2 (by omega) hr k1)
    · exact zr_tsw_i (t := 795) I138_32 (by decide) rfl rfl (law_21 hL hk hk2 (by omega) hr k1)
