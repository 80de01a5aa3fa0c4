/-! the model: fill -/
def zPt (v v' : Int → Int) (p s e x at9 : Int) : Prop := (0 ≤ at9 ∧ at9 ≤ v 3) ∧ (at9 = 0 ∨ v (230 + 4 * (at9 - 1) + 1) ≤ s) ∧ (∀ j, at9 ≤ j → j < v 3 → s < v (230 + 4 * j + 1)) ∧ (∀ k, v' k = if k = 3 then v 3 + 1 else if k = 230 + 4 * at9 + 3 then x else if k = 230 + 4 * at9 + 2 then e else if k = 230 + 4 * at9 + 1 then s else if k = 230 + 4 * at9 then p else if 230 + 4 * (at9 + 1) ≤ k ∧ k < 230 + 4 * (v 3 + 1) then v (k - 4) else v k)
theorem zPut.pt {c c' : zC} {p s e x at9 : Int} (h : zPut c c' p s e x at9) : zPt (c 146) (c' 146) p s e x at9 := ⟨h.1, h.2.1, h.2.2.1, h.2.2.2.1⟩
/-- all but the items -/
def zSm (v v' : Int → Int) : Prop := ∀ k, 0 ≤ k → k < 230 → k ≠ 3 → v' k = v k
theorem zSm.rf {v : Int → Int} : zSm v v := fun _ _ _ _ => rfl
theorem zSm.tr {a b c : Int → Int} (h : zSm a b) (h2 : zSm b c) : zSm a c := fun k k1 k2 k3 => (h2 k k1 k2 k3).trans (h k k1 k2 k3)
theorem zPt.sm {v v' : Int → Int} {p s e x at9 : Int} (h : zPt v v' p s e x at9) : zSm v v' := fun k k1 k2 k3 => by
  have := h.1
  rw [h.2.2.2 k, if_neg k3, if_neg (by omega), if_neg (by omega), if_neg (by omega), if_neg (by omega), if_neg (by omega)]
theorem zMf_sm {c c1 : zC} (h : zSm (c 146) (c1 146)) (hn : 0 ≤ c 146 1 ∧ c 146 1 ≤ 10) {p b t z : Int} (hp : 0 ≤ p ∧ p < 16) : zMf c1 p b t z ↔ zMf c p b t z := by
  unfold zMf
  rw [h (10 + 4 * p) (by omega) (by omega) (by omega), h (10 + 4 * p + 1) (by omega) (by omega) (by omega), h (10 + 4 * p + 2) (by omega) (by omega) (by omega), h 1 (by omega) (by omega) (by omega)]
  rw [zDk_congr (fun j j1 j2 => ⟨h (80 + 3 * j) (by omega) (by omega) (by omega), h (80 + 3 * j + 1) (by omega) (by omega) (by omega), h (80 + 3 * j + 2) (by omega) (by omega) (by omega)⟩)]
/-- the next filler -/
def zNxO (c : zC) (w : Int → Int) (a z t l q : Int) : Prop := zMf c q l t z ∧ 1 + w (17 * (t + c 146 (10 + 4 * q + 1) - a) + q) = w (17 * (t - a) + l)
def zNx (c : zC) (w : Int → Int) (a z t l q : Int) : Prop := (0 ≤ q ∧ q < c 146 0) ∧ zNxO c w a z t l q ∧ ∀ q', 0 ≤ q' → q' < q → ¬ zNxO c w a z t l q'
theorem zNxO_sm {c c1 : zC} (h : zSm (c 146) (c1 146)) (hn : 0 ≤ c 146 1 ∧ c 146 1 ≤ 10) {w : Int → Int} {a z t l q : Int} (hp : 0 ≤ q ∧ q < 16) : zNxO c1 w a z t l q ↔ zNxO c w a z t l q := by
  unfold zNxO
  rw [zMf_sm h hn hp, h (10 + 4 * q + 1) (by omega) (by omega) (by omega)]
theorem zNx_sm {c c1 : zC} (h : zSm (c 146) (c1 146)) (hn : 0 ≤ c 146 1 ∧ c 146 1 ≤ 10) (hpn : 0 ≤ c 146 0 ∧ c 146 0 ≤ 16) {w : Int → Int} {a z t l q : Int} (hx : zNx c1 w a z t l q) : zNx c w a z t l q := by
  obtain ⟨h1, h2, h3⟩ := hx
  rw [h 0 (by omega) (by omega) (by omega)] at h1
  exact ⟨h1, (zNxO_sm h hn (by omega)).mp h2, fun q' q1 q2 h9 => h3 q' q1 q2 ((zNxO_sm h hn (by omega)).mpr h9)⟩
/-- the fillers put one after the other -/
def zFls (c : zC) (w : Int → Int) (a z : Int) : List Int → (Int → Int) → Int → Int → (Int → Int) → Prop
  | [], v, t, _, v' => ¬ t < z ∧ v' = v
  | q :: r, v, t, l, v' => t < z ∧ zNx c w a z t l q ∧ ∃ at9 v1, zPt v v1 q t (c 146 (10 + 4 * q + 1)) 0 at9 ∧ zFls c w a z r v1 (t + c 146 (10 + 4 * q + 1)) q v'
def zBf (c : zC) (a n x : Int) : Prop := (x = 16 ∧ ∀ j, 0 ≤ j → j < n → c 146 (230 + 4 * j + 1) + c 146 (230 + 4 * j + 2) ≠ a) ∨ ∃ j, 0 ≤ j ∧ j < n ∧ c 146 (230 + 4 * j + 1) + c 146 (230 + 4 * j + 2) = a ∧ x = c 146 (230 + 4 * j + 0)
def zBh (c : zC) (z n x : Int) : Prop := (x = -1 ∧ ∀ j, 0 ≤ j → j < n → c 146 (230 + 4 * j + 1) ≠ z) ∨ ∃ j, 0 ≤ j ∧ j < n ∧ c 146 (230 + 4 * j + 1) = z ∧ x = c 146 (230 + 4 * j + 0)
def zFlM (c c' : zC) (a z x : Int) : Prop := ∃ (be bh : Int) (c1 : zC), zBf c a (c 146 3) be ∧ zBh c z (c 146 3) bh ∧ zMs c c1 a z bh ∧ ((999 ≤ c1 153 be ∧ x = -9 ∧ c' = c1) ∨ (c1 153 be < 999 ∧ 60 < c 146 3 + c1 153 be ∧ x = -3 ∧ c' = c1) ∨ (c1 153 be < 999 ∧ c 146 3 + c1 153 be ≤ 60 ∧ x = c1 153 be ∧ ∃ (c2 : zC) (l : List Int), zDid c1 c2 ∧ zFls c (c1 153) a z l (c 146) a be (c' 146) ∧ (∀ r, r ≠ 146 → c' r = c2 r) ∧ zBd c'))
set_option maxRecDepth 10000 in
set_option maxHeartbeats 2000000 in
theorem e_X9_fill_n {d n sl : Nat} {S : zSh} {c : zC} (hS : zSok S) (hB : zBd c) (hbl : ∀ j, 0 ≤ j → j < c 146 1 → 0 ≤ c 146 (80 + 3 * j) ∧ c 146 (80 + 3 * j) < c 146 (80 + 3 * j + 1) ∧ c 146 (80 + 3 * j + 1) ≤ 1440) (hn : 0 ≤ c 146 1 ∧ c 146 1 ≤ 10) (hlen : ∀ p, 0 ≤ p → p < c 146 0 → 1 ≤ c 146 (10 + 4 * p + 1) ∧ c 146 (10 + 4 * p + 1) ≤ 240) (hpn : 0 ≤ c 146 0 ∧ c 146 0 ≤ 16) {a z be bh m t l q0 : Int} {Q9 : Option zV → zMem → Prop} (ha : 0 ≤ a ∧ a ≤ 10079) (hz : a < z ∧ z ≤ 10080 ∧ z - a ≤ 240) (hc59 : 0 ≤ c 146 3 ∧ c 146 3 ≤ 59) (ht : a ≤ t ∧ t < z) (hl : 0 ≤ l ∧ l < 17) (hq0 : (0 ≤ q0 ∧ q0 < c 146 0) ∧ zNxO c (c 153) a z t l q0) (hex : ∀ (q at9 : Int) (c2 : zC), zNx c (c 153) a z t l q → zPut c c2 q t (c 146 (10 + 4 * q + 1)) 0 at9 → ∀ w8 w9, zE (d + 3) 112 184 [some (zA 145), some (zI a), some (zI z), some (zI be), some (zI bh), some (zI m), some (zI (t + c 146 (10 + 4 * q + 1))), some (zI q), w8, w9] [] ((n, sl), (S, c2)) Q9) : ∀ i : Int, i ≤ q0 → ∀ w9 : Option zV, (0 ≤ i) → (∀ q', 0 ≤ q' → q' < i → ¬ zNxO c (c 153) a z t l q') → zE (d + 3) 112 193 [some (zA 145), some (zI a), some (zI z), some (zI be), some (zI bh), some (zI m), some (zI t), some (zI l), some (zI i), w9] [] ((n, sl), (S, c)) (Q9) := by
  refine zind _ (fun i ih hN => ?_)
  intro w9 h0 hp
  refine zl_ald0 I112_193 ?_
  refine zl_ild8 I112_194 ?_
  refine zl_ild7 I112_196 ?_
  refine zl_ild6 I112_198 ?_
  refine zl_ild2 I112_200 ?_
  refine zr_callV I112_201 C9_110 ⟨rfl, rfl⟩ ⟨rfl, Nat.le_of_ble_eq_true rfl⟩ (Or.inl ⟨rfl, sT145 hS⟩) (e_X9_mayFill hS hB hbl hn (by omega) (by omega) (by omega)) (fun v201 μ201 hv201 => ?_)
  obtain ⟨x201, rfl, hx201, rfl⟩ := hv201
  unfold zTf at hx201
  dsimp only [Option.toList, List.cons_append, List.nil_append]
  refine zr_if_eq (t := 249) I112_204 rfl (fun h204 => ?_) (fun h204 => ?_)
  · refine zl_iinc8 I112_249 (by unfold zInR; omega) ?_
    refine zr_goto (t := 193) I112_252 rfl ?_
    have hne : i ≠ q0 := fun h9 => ((fun h => (hx201.elim (fun h => absurd (h.1.symm.trans h204) (by decide)) (fun h => h.2)) h.1) : ¬ zNxO c (c 153) a z t l i) (by rw [h9]; exact hq0.2)
    refine ih _ (by omega) (by omega) _ (by omega) (fun q' q1 q2 => ?_)
    by_cases e9 : q' = i
    · rw [e9]
      exact ((fun h => (hx201.elim (fun h => absurd (h.1.symm.trans h204) (by decide)) (fun h => h.2)) h.1) : ¬ zNxO c (c 153) a z t l i)
    · exact hp q' q1 (by omega)
  · have hym := hx201.elim (fun h => h.2) (fun h => absurd h.1 h204)
    have hml := hym.2.2.1
    have hl1 := hlen i h0 (by omega)
    refine zr_iconst I112_207 ?_
    refine zl_ald0 I112_208 ?_
    refine zr_getr (j := 9) I112_209 F9_31 rfl (sT145 hS) (sR145_9 hS) ?_
    refine zr_bipush I112_212 ?_
    refine zl_ild6 I112_214 ?_
    refine zl_ald0 I112_216 ?_
    refine zl_ild8 I112_217 ?_
    refine zr_callV I112_219 C9_73 ⟨rfl, rfl⟩ ⟨rfl, Nat.le_of_ble_eq_true rfl⟩ (Or.inl ⟨rfl, sT145 hS⟩) (e_X9_length hS hB (by omega)) (fun v219 μ219 hv219 => ?_)
    obtain ⟨rfl, rfl⟩ := hv219
    dsimp only [Option.toList, List.cons_append, List.nil_append]
    refine zr_iadd I112_222 (by unfold zInR; omega) ?_
    refine zl_ild1 I112_223 ?_
    refine zr_isub I112_224 (by unfold zInR; omega) ?_
    refine zr_imul I112_225 (by unfold zInR; omega) ?_
    refine zl_ild8 I112_226 ?_
    refine zr_iadd I112_228 (by unfold zInR; omega) ?_
    refine zr_iaB hB (by decide) I112_229 (sT153 hS) (sN153 hS) (by omega) (fun b229 => ?_)
    refine zr_iadd I112_230 (by unfold zInR; omega) ?_
    refine zl_ald0 I112_231 ?_
    refine zr_getr (j := 9) I112_232 F9_31 rfl (sT145 hS) (sR145_9 hS) ?_
    refine zr_bipush I112_235 ?_
    refine zl_ild6 I112_237 ?_
    refine zl_ild1 I112_239 ?_
    refine zr_isub I112_240 (by unfold zInR; omega) ?_
    refine zr_imul I112_241 (by unfold zInR; omega) ?_
    refine zl_ild7 I112_242 ?_
    refine zr_iadd I112_244 (by unfold zInR; omega) ?_
    refine zr_iaB hB (by decide) I112_245 (sT153 hS) (sN153 hS) (by omega) (fun b245 => ?_)
    refine zr_ic_eq (t := 255) I112_246 rfl (fun h246 => ?_) (fun h246 => ?_)
    · refine zl_ald0 I112_255 ?_
      refine zl_ild8 I112_256 ?_
      refine zl_ild6 I112_258 ?_
      refine zl_ald0 I112_260 ?_
      refine zl_ild8 I112_261 ?_
      refine zr_callV I112_263 C9_73 ⟨rfl, rfl⟩ ⟨rfl, Nat.le_of_ble_eq_true rfl⟩ (Or.inl ⟨rfl, sT145 hS⟩) (e_X9_length hS hB (by omega)) (fun v263 μ263 hv263 => ?_)
      obtain ⟨rfl, rfl⟩ := hv263
      dsimp only [Option.toList, List.cons_append, List.nil_append]
      refine zr_iconst I112_266 ?_
      refine zr_callV I112_267 C9_96 ⟨rfl, rfl⟩ ⟨rfl, Nat.le_of_ble_eq_true rfl⟩ (Or.inl ⟨rfl, sT145 hS⟩) (e_X9_puts hS hB hc59 (by omega) (by omega) (by omega) (by omega)) (fun v267 μ267 hv267 => ?_)
      obtain ⟨at267, c267, rfl, rfl, hp267⟩ := hv267
      dsimp only [Option.toList, List.cons_append, List.nil_append]
      refine zl_ist9 I112_270 ?_
      have hb7 := hp267.2.2.2.2.2
      refine zl_ild6 I112_272 ?_
      refine zl_ald0 I112_274 ?_
      refine zl_ild8 I112_275 ?_
      refine zr_callV I112_277 C9_73 ⟨rfl, rfl⟩ ⟨rfl, Nat.le_of_ble_eq_true rfl⟩ (Or.inl ⟨rfl, sT145 hS⟩) (e_X9_length hS hb7 (by omega)) (fun v277 μ277 hv277 => ?_)
      obtain ⟨rfl, rfl⟩ := hv277
      dsimp only [Option.toList, List.cons_append, List.nil_append]
      rw [show c267 146 (10 + 4 * i + 1) = c 146 (10 + 4 * i + 1) from (hp267.pt).sm _ (by omega) (by omega) (by omega)]
      refine zr_iadd I112_280 (by unfold zInR; omega) ?_
      refine zl_ist6 I112_281 ?_
      refine zl_ild8 I112_283 ?_
      refine zl_ist7 I112_285 ?_
      refine zr_goto (t := 184) I112_287 rfl ?_
      exact hex i at267 c267 ⟨⟨h0, by omega⟩, ⟨hym, by omega⟩, hp⟩ hp267 _ _
    · refine zl_iinc8 I112_249 (by unfold zInR; omega) ?_
      refine zr_goto (t := 193) I112_252 rfl ?_
      have hne : i ≠ q0 := fun h9 => ((fun h => absurd h.2 h246) : ¬ zNxO c (c 153) a z t l i) (by rw [h9]; exact hq0.2)
      refine ih _ (by omega) (by omega) _ (by omega) (fun q' q1 q2 => ?_)
      by_cases e9 : q' = i
      · rw [e9]
        exact ((fun h => absurd h.2 h246) : ¬ zNxO c (c 153) a z t l i)
      · exact hp q' q1 (by omega)
set_option maxRecDepth 10000 in
set_option maxHeartbeats 2000000 in
theorem e_X9_fill_t {d n sl : Nat} {S : zSh} {c : zC} (hS : zSok S) (hbl : ∀ j, 0 ≤ j → j < c 146 1 → 0 ≤ c 146 (80 + 3 * j) ∧ c 146 (80 + 3 * j) < c 146 (80 + 3 * j + 1) ∧ c 146 (80 + 3 * j + 1) ≤ 1440) (hn : 0 ≤ c 146 1 ∧ c 146 1 ≤ 10) (hlen : ∀ p, 0 ≤ p → p < c 146 0 → 1 ≤ c 146 (10 + 4 * p + 1) ∧ c 146 (10 + 4 * p + 1) ≤ 240) (hpn : 0 ≤ c 146 0 ∧ c 146 0 ≤ 16) {a z be bh m : Int} {cm : zC} (ha : 0 ≤ a ∧ a ≤ 10079) (hz : a < z ∧ z ≤ 10080 ∧ z - a ≤ 240) (hms : zMs c cm a z bh) : ∀ t : Int, t ≤ z → ∀ c1 : zC, ∀ lst : Int, ∀ w8 : Option zV, ∀ w9 : Option zV, (a ≤ t) → (0 ≤ lst ∧ lst < 17) → (cm 153 (17 * (t - a) + lst) < 999) → (0 ≤ c1 146 3 ∧ c1 146 3 + cm 153 (17 * (t - a) + lst) ≤ 60) → (c1 153 = cm 153) → (zSm (c 146) (c1 146)) → (zBd c1) → zE (d + 3) 112 184 [some (zA 145), some (zI a), some (zI z), some (zI be), some (zI bh), some (zI m), some (zI t), some (zI lst), w8, w9] [] ((n, sl), (S, c1)) (fun r μ' => ∃ c', r = some (zI m) ∧ μ' = ((n, sl), (S, c')) ∧ ∃ l : List Int, zFls c (cm 153) a z l (c1 146) t lst (c' 146) ∧ (∀ r, r ≠ 146 → c' r = c1 r) ∧ zBd c') := by
  refine zind _ (fun t ih hN => ?_)
  intro c1 lst w8 w9 h0 hl hlt h60 e153 hsm hBd
  refine zl_ild6 I112_184 ?_
  refine zl_ild2 I112_186 ?_
  refine zr_ic_ge (t := 290) I112_187 rfl (fun h187 => ?_) (fun h187 => ?_)
  · refine zl_ild5 I112_290 ?_
    refine zr_iret I112_292 rfl ?_
    refine ⟨_, rfl, rfl, [], ⟨by omega, rfl⟩, fun r hr => rfl, hBd⟩
  · refine zr_iconst I112_190 ?_
    refine zl_ist8 I112_191 ?_
    have hrow := hms.1 t lst (by omega) (by omega) (by omega) (by omega)
    have hq : ∃ q0, (0 ≤ q0 ∧ q0 < c 146 0) ∧ zNxO c (cm 153) a z t lst q0 := by
      rcases hrow.2.2 with h9 | ⟨_, q, q1, q2, q3, q4, q5⟩
      · unfold zBs at h9
        rw [if_neg (by omega)] at h9
        omega
      · exact ⟨q, ⟨q1, q2⟩, ⟨q3.1, fun h => q4 h.symm, q3.2.2.1, q3.2.2.2⟩, q5.symm⟩
    obtain ⟨q0, hq1, hq2⟩ := hq
    have n0 : c1 146 0 = c 146 0 := hsm 0 (by omega) (by omega) (by omega)
    have n1 : c1 146 1 = c 146 1 := hsm 1 (by omega) (by omega) (by omega)
    have hw1 : 1 ≤ cm 153 (17 * (t - a) + lst) := by
      have h9 := hlen q0 hq1.1 hq1.2
      have h8 := hq2.1.2.2.1
      have h7 := (hms.1 (t + c 146 (10 + 4 * q0 + 1)) q0 (by omega) h8 (by omega) (by omega)).1
      have h6 := hq2.2
      omega
    refine e_X9_fill_n hS hBd (fun j j1 j2 => by rw [n1] at j2; rw [hsm (80 + 3 * j) (by omega) (by omega) (by omega), hsm (80 + 3 * j + 1) (by omega) (by omega) (by omega)]; exact hbl j j1 j2) (by rw [n1]; exact hn) (fun p p1 p2 => by rw [n0] at p2; rw [hsm (10 + 4 * p + 1) (by omega) (by omega) (by omega)]; exact hlen p p1 p2) (by rw [n0]; exact hpn) (q0 := q0) ha hz (by omega) (by omega) (by omega) (by rw [n0, e153]; exact ⟨hq1, (zNxO_sm hsm hn (by omega)).mpr hq2⟩) (fun q at9 c2 hnx hpt w8 w9 => ?_) 0 (by omega) _ (by omega) (fun q' q1 q2 => absurd q1 (by omega))
    rw [e153] at hnx
    have hnx2 := zNx_sm hsm hn hpn hnx
    have hq9 := hnx2.1
    have el : c1 146 (10 + 4 * q + 1) = c 146 (10 + 4 * q + 1) := hsm _ (by omega) (by omega) (by omega)
    rw [el] at hpt ⊢
    have hl9 := hlen q hq9.1 hq9.2
    have hml := hnx2.2.1.1.2.2.1
    have hw9 := hnx2.2.1.2
    have e3 : c2 146 3 = c1 146 3 + 1 := by rw [hpt.2.2.2.1 3, if_pos rfl]
    refine zE.mono (ih (t + c 146 (10 + 4 * q + 1)) (by omega) hml c2 q _ _ (by omega) (by omega) (by omega) (by omega) (by rw [hpt.2.2.2.2.1 153 (by decide)]; exact e153) (hsm.tr hpt.pt.sm) hpt.2.2.2.2.2) ?_
    rintro r μ' ⟨c', rfl, rfl, l9, f1, f2, f3⟩
    exact ⟨c', rfl, rfl, q :: l9, ⟨by omega, hnx2, at9, c2 146, hpt.pt, f1⟩, fun r hr => by rw [f2 r hr]; exact hpt.2.2.2.2.1 r hr, f3⟩
theorem zBf_y {c : zC} {a n x : Int} (h : zBf c a n x) (h0 : 0 ≤ n) (e : c 146 (230 + 4 * n + 1) + c 146 (230 + 4 * n + 2) = a) : zBf c a (n + 1) (c 146 (230 + 4 * n + 0)) := Or.inr ⟨n, h0, by omega, e, rfl⟩
theorem zBf_n {c : zC} {a n x : Int} (h : zBf c a n x) (h0 : 0 ≤ n) (e : c 146 (230 + 4 * n + 1) + c 146 (230 + 4 * n + 2) ≠ a) : zBf c a (n + 1) x := by
  rcases h with ⟨h1, h2⟩ | ⟨j, j1, j2, j3, j4⟩
  · refine Or.inl ⟨h1, fun j j1 j2 => ?_⟩
    by_cases e9 : j = n
    · subst e9
      exact e
    · exact h2 j j1 (by omega)
  · exact Or.inr ⟨j, j1, by omega, j3, j4⟩
theorem zBh_y {c : zC} {a n x : Int} (h : zBh c a n x) (h0 : 0 ≤ n) (e : c 146 (230 + 4 * n + 1) = a) : zBh c a (n + 1) (c 146 (230 + 4 * n + 0)) := Or.inr ⟨n, h0, by omega, e, rfl⟩
theorem zBh_n {c : zC} {a n x : Int} (h : zBh c a n x) (h0 : 0 ≤ n) (e : c 146 (230 + 4 * n + 1) ≠ a) : zBh c a (n + 1) x := by
  rcases h with ⟨h1, h2⟩ | ⟨j, j1, j2, j3, j4⟩
  · refine Or.inl ⟨h1, fun j j1 j2 => ?_⟩
    by_cases e9 : j = n
    · subst e9
      exact e
    · exact h2 j j1 (by omega)
  · exact Or.inr ⟨j, j1, by omega, j3, j4⟩
set_option maxRecDepth 10000 in
set_option maxHeartbeats 2000000 in
theorem e_X9_fill_i {d n sl : Nat} {S : zSh} {c : zC} (hS : zSok S) (hB : zBd c) (hc : 0 ≤ c 146 3 ∧ c 146 3 ≤ 60) (hip : ∀ i, 0 ≤ i → i < c 146 3 → 0 ≤ c 146 (230 + 4 * i + 0) ∧ c 146 (230 + 4 * i + 0) < 16) (hbl : ∀ j, 0 ≤ j → j < c 146 1 → 0 ≤ c 146 (80 + 3 * j) ∧ c 146 (80 + 3 * j) < c 146 (80 + 3 * j + 1) ∧ c 146 (80 + 3 * j + 1) ≤ 1440) (hn : 0 ≤ c 146 1 ∧ c 146 1 ≤ 10) (hlen : ∀ p, 0 ≤ p → p < c 146 0 → 1 ≤ c 146 (10 + 4 * p + 1) ∧ c 146 (10 + 4 * p + 1) ≤ 240) (hpn : 0 ≤ c 146 0 ∧ c 146 0 ≤ 16) (hm : 0 ≤ c 145 2 ∧ c 145 2 ≤ 5) {a z : Int} (ha : 0 ≤ a ∧ a ≤ 10079) (hz : a < z ∧ z ≤ 10080 ∧ z - a ≤ 240) : ∀ i : Int, i ≤ c 146 3 → ∀ be : Int, ∀ bh : Int, ∀ w6 : Option zV, ∀ w7 : Option zV, ∀ w8 : Option zV, ∀ w9 : Option zV, (0 ≤ i) → (zBf c a i be) → (zBh c z i bh) → (0 ≤ be ∧ be < 17) → (-1 ≤ bh ∧ bh < 16) → zE (d + 4) 112 66 [some (zA 145), some (zI a), some (zI z), some (zI be), some (zI bh), some (zI i), w6, w7, w8, w9] [] ((n, sl), (S, c)) (fun r μ' => ∃ (x : Int) (c' : zC), r = some (zI x) ∧ μ' = ((n, sl), (S, c')) ∧ zFlM c c' a z x) := by
  refine zind _ (fun i ih hN => ?_)
  intro be bh w6 w7 w8 w9 h0 hbe hbh hbe9 hbh9
  refine zl_ild5 I112_66 ?_
  refine zl_ald0 I112_68 ?_
  refine zr_getr (j := 0) I112_69 F9_7 rfl (sT145 hS) (sR145_0 hS) ?_
  refine zr_iconst I112_72 ?_
  refine zr_iaB hB (by decide) I112_73 (sT146 hS) (sN146 hS) (by omega) (fun b73 => ?_)
  refine zr_ic_ge (t := 130) I112_74 rfl (fun h74 => ?_) (fun h74 => ?_)
  · refine zl_ald0 I112_130 ?_
    refine zl_ild1 I112_131 ?_
    refine zl_ild2 I112_132 ?_
    refine zl_ild4 I112_133 ?_
    refine zr_callV I112_135 C9_114 ⟨rfl, rfl⟩ ⟨rfl, Nat.le_of_ble_eq_true rfl⟩ (Or.inl ⟨rfl, sT145 hS⟩) (e_X9_measures hS hB hbl hn hlen hpn ha hz (by omega)) (fun v135 μ135 hv135 => ?_)
    obtain ⟨c135, rfl, rfl, hms⟩ := hv135
    have hmB := hms.2.2
    have e146 := hms.2.1 146 (by decide)
    have e145 := hms.2.1 145 (by decide)
    have hw0 := (hms.1 a be (by omega) (by omega) (by omega) (by omega)).1
    rw [show 17 * (a - a) + be = be by omega] at hw0
    dsimp only [Option.toList, List.cons_append, List.nil_append]
    refine zl_ald0 I112_138 ?_
    refine zr_getr (j := 9) I112_139 F9_31 rfl (sT145 hS) (sR145_9 hS) ?_
    refine zl_ild3 I112_142 ?_
    refine zr_iaB hmB (by decide) I112_143 (sT153 hS) (sN153 hS) (by omega) (fun b143 => ?_)
    refine zl_ist5 I112_144 ?_
    refine zl_ild5 I112_146 ?_
    refine zr_sipush I112_148 ?_
    refine zr_ic_lt (t := 157) I112_151 rfl (fun h151 => ?_) (fun h151 => ?_)
    · refine zl_ald0 I112_157 ?_
      refine zr_getr (j := 0) I112_158 F9_7 rfl (sT145 hS) (sR145_0 hS) ?_
      refine zr_iconst I112_161 ?_
      refine zr_iaB hmB (by decide) I112_162 (sT146 hS) (sN146 hS) (by omega) (fun b162 => ?_)
      rw [e146]
      refine zl_ild5 I112_163 ?_
      refine zr_iadd I112_165 (by unfold zInR; omega) ?_
      refine zr_bipush I112_166 ?_
      refine zr_ic_le (t := 174) I112_168 rfl (fun h168 => ?_) (fun h168 => ?_)
      · refine zl_ald0 I112_174 ?_
        refine zr_callV I112_175 C9_49 ⟨rfl, rfl⟩ ⟨rfl, Nat.le_of_ble_eq_true rfl⟩ (Or.inl ⟨rfl, sT145 hS⟩) (e_X9_act hS hmB (by rw [e145]; exact hm)) (fun v175 μ175 hv175 => ?_)
        obtain ⟨c175, rfl, rfl, hc175⟩ := hv175
        dsimp only [Option.toList, List.cons_append, List.nil_append]
        refine zl_ild1 I112_178 ?_
        refine zl_ist6 I112_179 ?_
        refine zl_ild3 I112_181 ?_
        refine zl_ist7 I112_182 ?_
        have hd : zDid c135 c175 := hc175
        have ed : c175 146 = c 146 := hd.v.trans e146
        have ed3 : c175 153 = c135 153 := hd.elim (fun h => h.2.2.2.1 153 (by decide) (by decide)) (fun h => h.2.2.2.1 153 (by decide) (by decide))
        refine zE.mono (e_X9_fill_t hS hbl hn hlen hpn ha hz hms a (by omega) c175 be _ _ (by omega) (by omega) (by rw [show 17 * (a - a) + be = be by omega]; omega) (by rw [show 17 * (a - a) + be = be by omega, ed]; omega) ed3 (by rw [ed]; exact zSm.rf) hd.b) ?_
        rintro r μ' ⟨c', rfl, rfl, l9, f1, f2, f3⟩
        rw [ed] at f1
        exact ⟨_, c', rfl, rfl, be, bh, c135, by rw [show c 146 3 = i by omega]; exact hbe, by rw [show c 146 3 = i by omega]; exact hbh, hms, Or.inr (Or.inr ⟨by omega, by omega, rfl, c175, l9, hd, f1, f2, f3⟩)⟩
      · refine zr_bipush I112_171 ?_
        refine zr_iret I112_173 rfl ?_
        exact ⟨_, _, rfl, rfl, be, bh, c135, by rw [show c 146 3 = i by omega]; exact hbe, by rw [show c 146 3 = i by omega]; exact hbh, hms, Or.inr (Or.inl ⟨by omega, by omega, rfl, rfl⟩)⟩
    · refine zr_bipush I112_154 ?_
      refine zr_iret I112_156 rfl ?_
      exact ⟨_, _, rfl, rfl, be, bh, c135, by rw [show c 146 3 = i by omega]; exact hbe, by rw [show c 146 3 = i by omega]; exact hbh, hms, Or.inl ⟨by omega, rfl, rfl⟩⟩
  · have hip9 := hip i h0 (by omega)
    refine zl_ald0 I112_77 ?_
    refine zl_ild5 I112_78 ?_
    refine zr_callV I112_80 C9_70 ⟨rfl, rfl⟩ ⟨rfl, Nat.le_of_ble_eq_true rfl⟩ (Or.inl ⟨rfl, sT145 hS⟩) (e_X9_end hS hB (by omega)) (fun v80 μ80 hv80 => ?_)
    obtain ⟨rfl, rfl⟩ := hv80
    dsimp only [Option.toList, List.cons_append, List.nil_append]
    refine zl_ild1 I112_83 ?_
    refine zr_ic_ne (t := 97) I112_84 rfl (fun h84 => ?_) (fun h84 => ?_)
    · refine zl_ild3 I112_97 ?_
      refine zl_ist3 I112_98 ?_
      refine zl_ald0 I112_99 ?_
      refine zl_ild5 I112_100 ?_
      refine zr_iconst I112_102 ?_
      refine zr_callV I112_103 C9_45 ⟨rfl, rfl⟩ ⟨rfl, Nat.le_of_ble_eq_true rfl⟩ (Or.inl ⟨rfl, sT145 hS⟩) (e_X9_of hS hB (by omega) (by omega)) (fun v103 μ103 hv103 => ?_)
      obtain ⟨rfl, rfl⟩ := hv103
      dsimp only [Option.toList, List.cons_append, List.nil_append]
      refine zl_ild2 I112_106 ?_
      refine zr_ic_ne (t := 120) I112_107 rfl (fun h107 => ?_) (fun h107 => ?_)
      · refine zl_ild4 I112_120 ?_
        refine zl_ist4 I112_122 ?_
        refine zl_iinc5 I112_124 (by unfold zInR; omega) ?_
        refine zr_goto (t := 66) I112_127 rfl ?_
        exact ih _ (by omega) (by omega) _ _ _ _ _ _ (by omega) (zBf_n hbe h0 (by omega)) (zBh_n hbh h0 (by omega)) (by omega) (by omega)
      · refine zl_ald0 I112_110 ?_
        refine zl_ild5 I112_111 ?_
        refine zr_iconst I112_113 ?_
        refine zr_callV I112_114 C9_45 ⟨rfl, rfl⟩ ⟨rfl, Nat.le_of_ble_eq_true rfl⟩ (Or.inl ⟨rfl, sT145 hS⟩) (e_X9_of hS hB (by omega) (by omega)) (fun v114 μ114 hv114 => ?_)
        obtain ⟨rfl, rfl⟩ := hv114
        dsimp only [Option.toList, List.cons_append, List.nil_append]
        refine zr_goto (t := 122) I112_117 rfl ?_
        refine zl_ist4 I112_122 ?_
        refine zl_iinc5 I112_124 (by unfold zInR; omega) ?_
        refine zr_goto (t := 66) I112_127 rfl ?_
        exact ih _ (by omega) (by omega) _ _ _ _ _ _ (by omega) (zBf_n hbe h0 (by omega)) (zBh_y hbh h0 (by omega)) (by omega) (by omega)
    · refine zl_ald0 I112_87 ?_
      refine zl_ild5 I112_88 ?_
      refine zr_iconst I112_90 ?_
      refine zr_callV I112_91 C9_45 ⟨rfl, rfl⟩ ⟨rfl, Nat.le_of_ble_eq_true rfl⟩ (Or.inl ⟨rfl, sT145 hS⟩) (e_X9_of hS hB (by omega) (by omega)) (fun v91 μ91 hv91 => ?_)
      obtain ⟨rfl, rfl⟩ := hv91
      dsimp only [Option.toList, List.cons_append, List.nil_append]
      refine zr_goto (t := 98) I112_94 rfl ?_
      refine zl_ist3 I112_98 ?_
      refine zl_ald0 I112_99 ?_
      refine zl_ild5 I112_100 ?_
      refine zr_iconst I112_102 ?_
      refine zr_callV I112_103 C9_45 ⟨rfl, rfl⟩ ⟨rfl, Nat.le_of_ble_eq_true rfl⟩ (Or.inl ⟨rfl, sT145 hS⟩) (e_X9_of hS hB (by omega) (by omega)) (fun v103 μ103 hv103 => ?_)
      obtain ⟨rfl, rfl⟩ := hv103
      dsimp only [Option.toList, List.cons_append, List.nil_append]
      refine zl_ild2 I112_106 ?_
      refine zr_ic_ne (t := 120) I112_107 rfl (fun h107 => ?_) (fun h107 => ?_)
      · refine zl_ild4 I112_120 ?_
        refine zl_ist4 I112_122 ?_
        refine zl_iinc5 I112_124 (by unfold zInR; omega) ?_
        refine zr_goto (t := 66) I112_127 rfl ?_
        exact ih _ (by omega) (by omega) _ _ _ _ _ _ (by omega) (zBf_y hbe h0 (by omega)) (zBh_n hbh h0 (by omega)) (by omega) (by omega)
      · refine zl_ald0 I112_110 ?_
        refine zl_ild5 I112_111 ?_
        refine zr_iconst I112_113 ?_
        refine zr_callV I112_114 C9_45 ⟨rfl, rfl⟩ ⟨rfl, Nat.le_of_ble_eq_true rfl⟩ (Or.inl ⟨rfl, sT145 hS⟩) (e_X9_of hS hB (by omega) (by omega)) (fun v114 μ114 hv114 => ?_)
        obtain ⟨rfl, rfl⟩ := hv114
        dsimp only [Option.toList, List.cons_append, List.nil_append]
        refine zr_goto (t := 122) I112_117 rfl ?_
        refine zl_ist4 I112_122 ?_
        refine zl_iinc5 I112_124 (by unfold zInR; omega) ?_
        refine zr_goto (t := 66) I112_127 rfl ?_
        exact ih _ (by omega) (by omega) _ _ _ _ _ _ (by omega) (zBf_y hbe h0 (by omega)) (zBh_y hbh h0 (by omega)) (by omega) (by omega)
set_option maxRecDepth 10000 in
set_option maxHeartbeats 2000000 in
theorem e_X9_fill {d n sl : Nat} {S : zSh} {c : zC} (hS : zSok S) (hB : zBd c) (hc : 0 ≤ c 146 3 ∧ c 146 3 ≤ 60) (hip : ∀ i, 0 ≤ i → i < c 146 3 → 0 ≤ c 146 (230 + 4 * i + 0) ∧ c 146 (230 + 4 * i + 0) < 16) (hbl : ∀ j, 0 ≤ j → j < c 146 1 → 0 ≤ c 146 (80 + 3 * j) ∧ c 146 (80 + 3 * j) < c 146 (80 + 3 * j + 1) ∧ c 146 (80 + 3 * j + 1) ≤ 1440) (hn : 0 ≤ c 146 1 ∧ c 146 1 ≤ 10) (hlen : ∀ p, 0 ≤ p → p < c 146 0 → 1 ≤ c 146 (10 + 4 * p + 1) ∧ c 146 (10 + 4 * p + 1) ≤ 240) (hpn : 0 ≤ c 146 0 ∧ c 146 0 ≤ 16) (hm : 0 ≤ c 145 2 ∧ c 145 2 ≤ 5) {a z : Int} : zE (d + 4) 112 0 (zent 112 [zA 145, zI a, zI z]) [] ((n, sl), (S, c)) (fun r μ' => ∃ (x : Int) (c' : zC), r = some (zI x) ∧ μ' = ((n, sl), (S, c')) ∧ ((¬ (0 ≤ a ∧ a < z ∧ z ≤ 10080 ∧ z - a ≤ 240) ∧ x = -1 ∧ c' = c) ∨ ((0 ≤ a ∧ a < z ∧ z ≤ 10080 ∧ z - a ≤ 240) ∧ zHit (c 146 3) (fun j => c 146 (230 + 4 * j + 1)) (fun j => c 146 (230 + 4 * j + 2)) a z ∧ x = -4 ∧ c' = c) ∨ ((0 ≤ a ∧ a < z ∧ z ≤ 10080 ∧ z - a ≤ 240) ∧ ¬ zHit (c 146 3) (fun j => c 146 (230 + 4 * j + 1)) (fun j => c 146 (230 + 4 * j + 2)) a z ∧ zFlM c c' a z x))) := by
  show zE (d + 4) 112 0 [some (zA 145), some (zI a), some (zI z), none, none, none, none, none, none, none] [] ((n, sl), (S, c)) _
  refine zl_ild1 I112_0 ?_
  refine zr_iconst I112_1 ?_
  refine zr_sipush I112_2 ?_
  refine zr_callS I112_5 C9_41 ⟨rfl, rfl⟩ ⟨by simp, rfl, Nat.le_of_ble_eq_true rfl⟩ (e_X9_in ) (fun v5 μ5 hv5 => ?_)
  obtain ⟨x5, rfl, hx5, rfl⟩ := hv5
  dsimp only [Option.toList, List.cons_append, List.nil_append]
  unfold zTf at hx5
  refine zr_if_eq (t := 43) I112_8 rfl (fun h8 => ?_) (fun h8 => ?_)
  · refine zr_iconst I112_43 ?_
    refine zr_iret I112_44 rfl ?_
    exact ⟨_, _, rfl, rfl, Or.inl ⟨by omega, rfl, rfl⟩⟩
  · refine zl_ild2 I112_11 ?_
    refine zl_ild1 I112_12 ?_
    refine zr_iconst I112_13 ?_
    refine zr_iadd I112_14 (by unfold zInR; omega) ?_
    refine zl_ild1 I112_15 ?_
    refine zr_sipush I112_16 ?_
    refine zr_iadd I112_19 (by unfold zInR; omega) ?_
    refine zr_sipush I112_20 ?_
    refine zr_ic_ge (t := 34) I112_23 rfl (fun h23 => ?_) (fun h23 => ?_)
    · refine zr_sipush I112_34 ?_
      refine zr_callS I112_37 C9_41 ⟨rfl, rfl⟩ ⟨by simp, rfl, Nat.le_of_ble_eq_true rfl⟩ (e_X9_in ) (fun v37 μ37 hv37 => ?_)
      obtain ⟨x37, rfl, hx37, rfl⟩ := hv37
      dsimp only [Option.toList, List.cons_append, List.nil_append]
      unfold zTf at hx37
      refine zr_if_ne (t := 45) I112_40 rfl (fun h40 => ?_) (fun h40 => ?_)
      · refine zl_ald0 I112_45 ?_
        refine zl_ild1 I112_46 ?_
        refine zl_ild2 I112_47 ?_
        refine zr_callV I112_48 C9_76 ⟨rfl, rfl⟩ ⟨rfl, Nat.le_of_ble_eq_true rfl⟩ (Or.inl ⟨rfl, sT145 hS⟩) (e_X9_isTaken hS hB hc) (fun v48 μ48 hv48 => ?_)
        obtain ⟨x48, rfl, hx48, rfl⟩ := hv48
        unfold zTf at hx48
        dsimp only [Option.toList, List.cons_append, List.nil_append]
        refine zr_if_eq (t := 57) I112_51 rfl (fun h51 => ?_) (fun h51 => ?_)
        · refine zr_bipush I112_57 ?_
          refine zl_ist3 I112_59 ?_
          refine zr_iconst I112_60 ?_
          refine zl_ist4 I112_61 ?_
          refine zr_iconst I112_63 ?_
          refine zl_ist5 I112_64 ?_
          have hz9 := hx48.elim (fun h => absurd (h.1.symm.trans h51) (by decide)) (fun h => h.2)
          refine zE.mono (e_X9_fill_i hS hB hc hip hbl hn hlen hpn hm (a := a) (z := z) (by omega) (by omega) 0 (by omega) 16 (-1) _ _ _ _ (by omega) (Or.inl ⟨rfl, fun j j1 j2 => absurd j1 (by omega)⟩) (Or.inl ⟨rfl, fun j j1 j2 => absurd j1 (by omega)⟩) (by omega) (by omega)) ?_
          rintro r μ' ⟨x, c', rfl, rfl, hf⟩
          exact ⟨x, c', rfl, rfl, Or.inr (Or.inr ⟨by omega, hz9, hf⟩)⟩
        · refine zr_bipush I112_54 ?_
          refine zr_iret I112_56 rfl ?_
          have hz9 := hx48.elim (fun h => h.2) (fun h => absurd h.1 h51)
          exact ⟨_, _, rfl, rfl, Or.inr (Or.inl ⟨by omega, hz9, rfl, rfl⟩)⟩
      · refine zr_iconst I112_43 ?_
        refine zr_iret I112_44 rfl ?_
        exact ⟨_, _, rfl, rfl, Or.inl ⟨by omega, rfl, rfl⟩⟩
    · refine zl_ild1 I112_26 ?_
      refine zr_sipush I112_27 ?_
      refine zr_iadd I112_30 (by unfold zInR; omega) ?_
      refine zr_goto (t := 37) I112_31 rfl ?_
      refine zr_callS I112_37 C9_41 ⟨rfl, rfl⟩ ⟨by simp, rfl, Nat.le_of_ble_eq_true rfl⟩ (e_X9_in ) (fun v37 μ37 hv37 => ?_)
      obtain ⟨x37, rfl, hx37, rfl⟩ := hv37
      dsimp only [Option.toList, List.cons_append, List.nil_append]
      unfold zTf at hx37
      refine zr_if_ne (t := 45) I112_40 rfl (fun h40 => ?_) (fun h40 => ?_)
      · refine zl_ald0 I112_45 ?_
        refine zl_ild1 I112_46 ?_
        refine zl_ild2 I112_47 ?_
        refine zr_callV I112_48 C9_76 ⟨rfl, rfl⟩ ⟨rfl, Nat.le_of_ble_eq_true rfl⟩ (Or.inl ⟨rfl, sT145 hS⟩) (e_X9_isTaken hS hB hc) (fun v48 μ48 hv48 => ?_)
        obtain ⟨x48, rfl, hx48, rfl⟩ := hv48
        unfold zTf at hx48
        dsimp only [Option.toList, List.cons_append, List.nil_append]
        refine zr_if_eq (t := 57) I112_51 rfl (fun h51 => ?_) (fun h51 => ?_)
        · refine zr_bipush I112_57 ?_
          refine zl_ist3 I112_59 ?_
          refine zr_iconst I112_60 ?_
          refine zl_ist4 I112_61 ?_
          refine zr_iconst I112_63 ?_
          refine zl_ist5 I112_64 ?_
          have hz9 := hx48.elim (fun h => absurd (h.1.symm.trans h51) (by decide)) (fun h => h.2)
          refine zE.mono (e_X9_fill_i hS hB hc hip hbl hn hlen hpn hm (a := a) (z := z) (by omega) (by omega) 0 (by omega) 16 (-1) _ _ _ _ (by omega) (Or.inl ⟨rfl, fun j j1 j2 => absurd j1 (by omega)⟩) (Or.inl ⟨rfl, fun j j1 j2 => absurd j1 (by omega)⟩) (by omega) (by omega)) ?_
          rintro r μ' ⟨x, c', rfl, rfl, hf⟩
          exact ⟨x, c', rfl, rfl, Or.inr (Or.inr ⟨by omega, hz9, hf⟩)⟩
        · refine zr_bipush I112_54 ?_
          refine zr_iret I112_56 rfl ?_
          have hz9 := hx48.elim (fun h => h.2) (fun h => absurd h.1 h51)
          exact ⟨_, _, rfl, rfl, Or.inr (Or.inl ⟨by omega, hz9, rfl, rfl⟩)⟩
      · refine zr_iconst I112_43 ?_
        refine zr_iret I112_44 rfl ?_
        exact ⟨_, _, rfl, rfl, Or.inl ⟨by omega, rfl, rfl⟩⟩
