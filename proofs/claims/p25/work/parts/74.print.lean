/-! fingerprint -/
def zh1 (h x : Int) : Int := zwl (zwl (31 * h) + x)
def zHi (g : Int → Int → Int) (h : Int) : Nat → Int
  | 0 => h
  | k + 1 => zh1 (zh1 (zh1 (zh1 (zh1 (zHi g h k) (g 0 k)) (g 1 k)) (g 2 k)) (g 3 k)) (g 4 k)
def zHs (f : Int → Int) (h : Int) : Nat → Int
  | 0 => h
  | k + 1 => zh1 (zHs f h k) (f k)
theorem zHi_congr {g g' : Int → Int → Int} {h : Int} : ∀ n : Nat, (∀ c i : Int, 0 ≤ c → c ≤ 4 → 0 ≤ i → i < n → g c i = g' c i) → zHi g h n = zHi g' h n
  | 0, _ => rfl
  | k + 1, e => by
    unfold zHi
    rw [zHi_congr k (fun c i c1 c2 i1 i2 => e c i c1 c2 i1 (by omega)), e 0 k (by omega) (by omega) (by omega) (by omega), e 1 k (by omega) (by omega) (by omega) (by omega), e 2 k (by omega) (by omega) (by omega) (by omega), e 3 k (by omega) (by omega) (by omega) (by omega), e 4 k (by omega) (by omega) (by omega) (by omega)]
theorem zHs_congr {f f' : Int → Int} {h : Int} : ∀ n : Nat, (∀ i : Int, 0 ≤ i → i < n → f i = f' i) → zHs f h n = zHs f' h n
  | 0, _ => rfl
  | k + 1, e => by
    unfold zHs
    rw [zHs_congr k (fun i i1 i2 => e i i1 (by omega)), e k (by omega) (by omega)]
def zPrt (n0 n2 n1 n3 : Int) (g : Int → Int → Int) (fo fl : Int → Int) : Int := zHs fl (zHs fo (zHi g (zh1 (zh1 (zh1 (zh1 73 n0) n2) n1) n3) n3.toNat) n0.toNat) n2.toNat
def zGM (c : zC) : Int → Int → Int := fun k i => if k < 4 then c 146 (230 + 4 * i + k) else c 151 i
def zGX (c : zC) : Int → Int → Int := fun k i => if k = 0 then c 25 i else if k = 1 then c 26 i else if k = 2 then c 27 i else if k = 3 then c 28 i else c 135 i
theorem zHs_s (f : Int → Int) (h : Int) {i : Int} (h0 : 0 ≤ i) : zHs f h (i + 1).toNat = zh1 (zHs f h i.toNat) (f i) := by
  rw [show (i + 1).toNat = i.toNat + 1 by omega]
  show zh1 _ (f (i.toNat : Int)) = _
  rw [show ((i.toNat : Nat) : Int) = i by omega]
theorem zHi_s (g : Int → Int → Int) (h : Int) {i : Int} (h0 : 0 ≤ i) : zHi g h (i + 1).toNat = zh1 (zh1 (zh1 (zh1 (zh1 (zHi g h i.toNat) (g 0 i)) (g 1 i)) (g 2 i)) (g 3 i)) (g 4 i) := by
  rw [show (i + 1).toNat = i.toNat + 1 by omega]
  show zh1 (zh1 (zh1 (zh1 (zh1 _ (g 0 (i.toNat : Int))) (g 1 (i.toNat : Int))) (g 2 (i.toNat : Int))) (g 3 (i.toNat : Int))) (g 4 (i.toNat : Int)) = _
  rw [show ((i.toNat : Nat) : Int) = i by omega]
set_option maxRecDepth 10000 in
set_option maxHeartbeats 2000000 in
theorem e_X8_fp3 {d n sl : Nat} {S : zSh} {c : zC} (hS : zSok S) (hB : zBd c) (hr : 0 ≤ c 15 0 ∧ c 15 0 ≤ 30) {h0 : Int} : ∀ i : Int, i ≤ c 15 0 → ∀ h : Int, (0 ≤ i) → (h = zHs (c 136) h0 i.toNat) → zE (d + 4) 61 243 [some (zA 8), some (zJ h), none, some (zI i)] [] ((n, sl), (S, c)) (fun r μ' => r = some (zJ (zHs (c 136) h0 (c 15 0).toNat)) ∧ μ' = ((n, sl), (S, c))) := by
  refine zind _ (fun i ih hN => ?_)
  intro h h0i hh
  refine zl_ild3 I61_243 ?_
  refine zl_ald0 I61_244 ?_
  refine zr_getr (j := 0) I61_245 F8_12 rfl (sT8 hS) (sR8_0 hS) ?_
  refine zr_getr (j := 1) I61_248 F8_73 rfl (sT9 hS) (sR9_1 hS) ?_
  refine zr_giB (j := 0) hB (by decide) I61_251 F8_77 rfl (sT15 hS) (fun b251 => ?_)
  refine zr_ic_ge (t := 280) I61_254 rfl (fun h254 => ?_) (fun h254 => ?_)
  · refine zl_lld1 I61_280 ?_
    refine zr_lret I61_281 rfl ?_
    exact ⟨by rw [hh, show i = c 15 0 by omega], rfl⟩
  · refine zr_next I61_257 rfl ?_
    refine zl_lld1 I61_260 ?_
    refine zr_lmul I61_261 ?_
    refine zl_ald0 I61_262 ?_
    refine zr_getr (j := 2) I61_263 F8_26 rfl (sT8 hS) (sR8_2 hS) ?_
    refine zr_getr (j := 5) I61_266 F8_162 rfl (sT131 hS) (sR131_5 hS) ?_
    refine zl_ild3 I61_269 ?_
    refine zr_iaB hB (by decide) I61_270 (sT136 hS) (sN136 hS) (by omega) (fun b270 => ?_)
    refine zr_i2l I61_271 ?_
    refine zr_ladd I61_272 ?_
    refine zl_lst1 I61_273 ?_
    refine zl_iinc3 I61_274 (by unfold zInR; omega) ?_
    refine zr_goto (t := 243) I61_277 rfl ?_
    refine ih _ (by omega) (by omega) _ (by omega) ?_
    rw [zHs_s _ _ h0i, hh]
    rfl
set_option maxRecDepth 10000 in
set_option maxHeartbeats 2000000 in
theorem e_X8_fp2 {d n sl : Nat} {S : zSh} {c : zC} (hS : zSok S) (hB : zBd c) (hr : 0 ≤ c 15 0 ∧ c 15 0 ≤ 30) (hpq : 0 ≤ c 10 0 ∧ c 10 0 ≤ 16) {h0 : Int} : ∀ i : Int, i ≤ c 10 0 → ∀ h : Int, (0 ≤ i) → (h = zHs (c 14) h0 i.toNat) → zE (d + 4) 61 201 [some (zA 8), some (zJ h), none, some (zI i)] [] ((n, sl), (S, c)) (fun r μ' => r = some (zJ (zHs (c 136) (zHs (c 14) h0 (c 10 0).toNat) (c 15 0).toNat)) ∧ μ' = ((n, sl), (S, c))) := by
  refine zind _ (fun i ih hN => ?_)
  intro h h0i hh
  refine zl_ild3 I61_201 ?_
  refine zl_ald0 I61_202 ?_
  refine zr_getr (j := 0) I61_203 F8_12 rfl (sT8 hS) (sR8_0 hS) ?_
  refine zr_getr (j := 0) I61_206 F8_48 rfl (sT9 hS) (sR9_0 hS) ?_
  refine zr_giB (j := 0) hB (by decide) I61_209 F8_52 rfl (sT10 hS) (fun b209 => ?_)
  refine zr_ic_ge (t := 241) I61_212 rfl (fun h212 => ?_) (fun h212 => ?_)
  · refine zr_iconst I61_241 ?_
    refine zl_ist3 I61_242 ?_
    have h9 := e_X8_fp3 (d := d) (n := n) (sl := sl) hS hB hr (h0 := h) 0 (by omega) h (by omega) rfl
    rw [hh, show i = c 10 0 by omega] at h9
    rw [hh, show i = c 10 0 by omega]
    exact h9
  · refine zr_next I61_215 rfl ?_
    refine zl_lld1 I61_218 ?_
    refine zr_lmul I61_219 ?_
    refine zl_ald0 I61_220 ?_
    refine zr_getr (j := 0) I61_221 F8_12 rfl (sT8 hS) (sR8_0 hS) ?_
    refine zr_getr (j := 0) I61_224 F8_48 rfl (sT9 hS) (sR9_0 hS) ?_
    refine zr_getr (j := 4) I61_227 F8_144 rfl (sT10 hS) (sR10_4 hS) ?_
    refine zl_ild3 I61_230 ?_
    refine zr_iaB hB (by decide) I61_231 (sT14 hS) (sN14 hS) (by omega) (fun b231 => ?_)
    refine zr_i2l I61_232 ?_
    refine zr_ladd I61_233 ?_
    refine zl_lst1 I61_234 ?_
    refine zl_iinc3 I61_235 (by unfold zInR; omega) ?_
    refine zr_goto (t := 201) I61_238 rfl ?_
    refine ih _ (by omega) (by omega) _ (by omega) ?_
    rw [zHs_s _ _ h0i, hh]
    rfl
set_option maxRecDepth 10000 in
set_option maxHeartbeats 2000000 in
theorem e_X8_fp1 {d n sl : Nat} {S : zSh} {c : zC} (hS : zSok S) (hB : zBd c) (hc : 0 ≤ c 24 0 ∧ c 24 0 ≤ 60) (hr : 0 ≤ c 15 0 ∧ c 15 0 ≤ 30) (hpq : 0 ≤ c 10 0 ∧ c 10 0 ≤ 16) {h0 : Int} : ∀ i : Int, i ≤ c 24 0 → ∀ h : Int, (0 ≤ i) → (h = zHi (zGX c) h0 i.toNat) → zE (d + 4) 61 82 [some (zA 8), some (zJ h), none, some (zI i)] [] ((n, sl), (S, c)) (fun r μ' => r = some (zJ (zHs (c 136) (zHs (c 14) (zHi (zGX c) h0 (c 24 0).toNat) (c 10 0).toNat) (c 15 0).toNat)) ∧ μ' = ((n, sl), (S, c))) := by
  refine zind _ (fun i ih hN => ?_)
  intro h h0i hh
  refine zl_ild3 I61_82 ?_
  refine zl_ald0 I61_83 ?_
  refine zr_getr (j := 0) I61_84 F8_12 rfl (sT8 hS) (sR8_0 hS) ?_
  refine zr_getr (j := 3) I61_87 F8_102 rfl (sT9 hS) (sR9_3 hS) ?_
  refine zr_giB (j := 0) hB (by decide) I61_90 F8_112 rfl (sT24 hS) (fun b90 => ?_)
  refine zr_ic_ge (t := 199) I61_93 rfl (fun h93 => ?_) (fun h93 => ?_)
  · refine zr_iconst I61_199 ?_
    refine zl_ist3 I61_200 ?_
    have h9 := e_X8_fp2 (d := d) (n := n) (sl := sl) hS hB hr hpq (h0 := h) 0 (by omega) h (by omega) rfl
    rw [hh, show i = c 24 0 by omega] at h9
    rw [hh, show i = c 24 0 by omega]
    exact h9
  · refine zr_next I61_96 rfl ?_
    refine zl_lld1 I61_99 ?_
    refine zr_lmul I61_100 ?_
    refine zl_ald0 I61_101 ?_
    refine zr_getr (j := 0) I61_102 F8_12 rfl (sT8 hS) (sR8_0 hS) ?_
    refine zr_getr (j := 3) I61_105 F8_102 rfl (sT9 hS) (sR9_3 hS) ?_
    refine zr_getr (j := 1) I61_108 F8_147 rfl (sT24 hS) (sR24_1 hS) ?_
    refine zl_ild3 I61_111 ?_
    refine zr_iaB hB (by decide) I61_112 (sT25 hS) (sN25 hS) (by omega) (fun b112 => ?_)
    refine zr_i2l I61_113 ?_
    refine zr_ladd I61_114 ?_
    refine zl_lst1 I61_115 ?_
    refine zr_next I61_116 rfl ?_
    refine zl_lld1 I61_119 ?_
    refine zr_lmul I61_120 ?_
    refine zl_ald0 I61_121 ?_
    refine zr_getr (j := 0) I61_122 F8_12 rfl (sT8 hS) (sR8_0 hS) ?_
    refine zr_getr (j := 3) I61_125 F8_102 rfl (sT9 hS) (sR9_3 hS) ?_
    refine zr_getr (j := 2) I61_128 F8_150 rfl (sT24 hS) (sR24_2 hS) ?_
    refine zl_ild3 I61_131 ?_
    refine zr_iaB hB (by decide) I61_132 (sT26 hS) (sN26 hS) (by omega) (fun b132 => ?_)
    refine zr_i2l I61_133 ?_
    refine zr_ladd I61_134 ?_
    refine zl_lst1 I61_135 ?_
    refine zr_next I61_136 rfl ?_
    refine zl_lld1 I61_139 ?_
    refine zr_lmul I61_140 ?_
    refine zl_ald0 I61_141 ?_
    refine zr_getr (j := 0) I61_142 F8_12 rfl (sT8 hS) (sR8_0 hS) ?_
    refine zr_getr (j := 3) I61_145 F8_102 rfl (sT9 hS) (sR9_3 hS) ?_
    refine zr_getr (j := 3) I61_148 F8_140 rfl (sT24 hS) (sR24_3 hS) ?_
    refine zl_ild3 I61_151 ?_
    refine zr_iaB hB (by decide) I61_152 (sT27 hS) (sN27 hS) (by omega) (fun b152 => ?_)
    refine zr_i2l I61_153 ?_
    refine zr_ladd I61_154 ?_
    refine zl_lst1 I61_155 ?_
    refine zr_next I61_156 rfl ?_
    refine zl_lld1 I61_159 ?_
    refine zr_lmul I61_160 ?_
    refine zl_ald0 I61_161 ?_
    refine zr_getr (j := 0) I61_162 F8_12 rfl (sT8 hS) (sR8_0 hS) ?_
    refine zr_getr (j := 3) I61_165 F8_102 rfl (sT9 hS) (sR9_3 hS) ?_
    refine zr_getr (j := 4) I61_168 F8_153 rfl (sT24 hS) (sR24_4 hS) ?_
    refine zl_ild3 I61_171 ?_
    refine zr_iaB hB (by decide) I61_172 (sT28 hS) (sN28 hS) (by omega) (fun b172 => ?_)
    refine zr_i2l I61_173 ?_
    refine zr_ladd I61_174 ?_
    refine zl_lst1 I61_175 ?_
    refine zr_next I61_176 rfl ?_
    refine zl_lld1 I61_179 ?_
    refine zr_lmul I61_180 ?_
    refine zl_ald0 I61_181 ?_
    refine zr_getr (j := 2) I61_182 F8_26 rfl (sT8 hS) (sR8_2 hS) ?_
    refine zr_getr (j := 4) I61_185 F8_159 rfl (sT131 hS) (sR131_4 hS) ?_
    refine zl_ild3 I61_188 ?_
    refine zr_iaB hB (by decide) I61_189 (sT135 hS) (sN135 hS) (by omega) (fun b189 => ?_)
    refine zr_i2l I61_190 ?_
    refine zr_ladd I61_191 ?_
    refine zl_lst1 I61_192 ?_
    refine zl_iinc3 I61_193 (by unfold zInR; omega) ?_
    refine zr_goto (t := 82) I61_196 rfl ?_
    refine ih _ (by omega) (by omega) _ (by omega) ?_
    rw [zHi_s _ _ h0i, hh]
    rfl
set_option maxRecDepth 10000 in
set_option maxHeartbeats 2000000 in
theorem e_X8_fingerprint {d n sl : Nat} {S : zSh} {c : zC} (hS : zSok S) (hB : zBd c) (hc : 0 ≤ c 24 0 ∧ c 24 0 ≤ 60) (hit : ∀ i, 0 ≤ i → i < c 24 0 → 0 ≤ c 25 i ∧ c 25 i < 16 ∧ 0 ≤ c 26 i ∧ c 26 i ≤ 20000 ∧ 0 ≤ c 27 i ∧ c 27 i ≤ 20000) (hr : 0 ≤ c 15 0 ∧ c 15 0 ≤ 30) (hpl : ∀ r, 0 ≤ r → r < c 15 0 → 0 ≤ c 19 r ∧ c 19 r ≤ 50) (hpq : 0 ≤ c 10 0 ∧ c 10 0 ≤ 16) : zE (d + 4) 61 0 (zent 61 [zA 8]) [] ((n, sl), (S, c)) (fun r μ' => ∃ (c' : zC), r = some (zJ (zPrt (c 10 0) (c 15 0) (c 20 0) (c 24 0) (zGX c') (c 14) (c' 136))) ∧ μ' = ((n, sl), (S, c')) ∧ (∀ (k : Nat) (x : zEn), (zGs c (c 24 0).toNat)[k]? = some x → c' 135 k = zUsl (zTX c) (c 19) (zGs c (c 24 0).toNat) k x) ∧ (∀ r, 0 ≤ r → r < c 15 0 → c' 136 r = zLvX c r) ∧ (∀ r, (r < 131 ∨ 136 < r) → c' r = c r) ∧ zBd c') := by
  show zE (d + 4) 61 0 [some (zA 8), none, none, none] [] ((n, sl), (S, c)) _
  refine zl_ald0 I61_0 ?_
  refine zr_callV I61_1 C8_156 ⟨rfl, rfl⟩ ⟨rfl, Nat.le_of_ble_eq_true rfl⟩ (Or.inl ⟨rfl, sT8 hS⟩) (e_X8_shareRights hS hB hc hit hr hpl) (fun v1 μ1 hv1 => ?_)
  obtain ⟨c1, rfl, rfl, hc1⟩ := hv1
  dsimp only [Option.toList, List.cons_append, List.nil_append]
  have hB5 := hc1.2.1
  refine zr_next I61_4 rfl ?_
  refine zl_lst1 I61_7 ?_
  refine zr_next I61_8 rfl ?_
  refine zl_lld1 I61_11 ?_
  refine zr_lmul I61_12 ?_
  refine zl_ald0 I61_13 ?_
  refine zr_getr (j := 0) I61_14 F8_12 rfl (sT8 hS) (sR8_0 hS) ?_
  refine zr_getr (j := 0) I61_17 F8_48 rfl (sT9 hS) (sR9_0 hS) ?_
  refine zr_geti (j := 0) I61_20 F8_52 rfl (sT10 hS) ?_
  refine zr_i2l I61_23 ?_
  refine zr_ladd I61_24 ?_
  refine zl_lst1 I61_25 ?_
  refine zr_next I61_26 rfl ?_
  refine zl_lld1 I61_29 ?_
  refine zr_lmul I61_30 ?_
  refine zl_ald0 I61_31 ?_
  refine zr_getr (j := 0) I61_32 F8_12 rfl (sT8 hS) (sR8_0 hS) ?_
  refine zr_getr (j := 1) I61_35 F8_73 rfl (sT9 hS) (sR9_1 hS) ?_
  refine zr_geti (j := 0) I61_38 F8_77 rfl (sT15 hS) ?_
  refine zr_i2l I61_41 ?_
  refine zr_ladd I61_42 ?_
  refine zl_lst1 I61_43 ?_
  refine zr_next I61_44 rfl ?_
  refine zl_lld1 I61_47 ?_
  refine zr_lmul I61_48 ?_
  refine zl_ald0 I61_49 ?_
  refine zr_getr (j := 0) I61_50 F8_12 rfl (sT8 hS) (sR8_0 hS) ?_
  refine zr_getr (j := 2) I61_53 F8_83 rfl (sT9 hS) (sR9_2 hS) ?_
  refine zr_geti (j := 0) I61_56 F8_87 rfl (sT20 hS) ?_
  refine zr_i2l I61_59 ?_
  refine zr_ladd I61_60 ?_
  refine zl_lst1 I61_61 ?_
  refine zr_next I61_62 rfl ?_
  refine zl_lld1 I61_65 ?_
  refine zr_lmul I61_66 ?_
  refine zl_ald0 I61_67 ?_
  refine zr_getr (j := 0) I61_68 F8_12 rfl (sT8 hS) (sR8_0 hS) ?_
  refine zr_getr (j := 3) I61_71 F8_102 rfl (sT9 hS) (sR9_3 hS) ?_
  refine zr_geti (j := 0) I61_74 F8_112 rfl (sT24 hS) ?_
  refine zr_i2l I61_77 ?_
  refine zr_ladd I61_78 ?_
  refine zl_lst1 I61_79 ?_
  refine zr_iconst I61_80 ?_
  refine zl_ist3 I61_81 ?_
  obtain ⟨w1, w2, w3, w4⟩ := hc1
  refine zE.mono (e_X8_fp1 (d := d) (n := n) (sl := sl) hS w2 (by rw [w1 24 (by decide)]; exact hc) (by rw [w1 15 (by decide)]; exact hr) (by rw [w1 10 (by decide)]; exact hpq) (h0 := _) 0 (by rw [w1 24 (by decide)]; omega) _ (by omega) rfl) ?_
  rintro r μ' ⟨rfl, rfl⟩
  refine ⟨c1, ?_, rfl, w3, w4, w1, w2⟩
  rw [w1 10 (by decide), w1 15 (by decide), w1 24 (by decide), w1 14 (by decide), w1 20 (by decide)]
  rfl
