/-! fingerprint -/
def zh1 (h x : Int) : Int := zwl (zwl (31 * h) + x)
def zHi (g : Int → Int → Int) (h : Int) : Nat → Int
  | 0 => h
  | k + 1 => zh1 (zh1 (zh1 (zh1 (zh1 (zHi g h k) (g 0 k)) (g 1 k)) (g 2 k)) (g 3 k)) (g 4 k)
def zHs (f : Int → Int) (h : Int) : Nat → Int
  | 0 => h
  | k + 1 => zh1 (zHs f h k) (f k)
theorem zHi_congr {g g' : Int → Int → Int} {h : Int} : ∀ n : Nat, (∀ c i : Int, 0 ≤ c → c ≤ 4 → 0 ≤ i → i < n → g c i = g' c i) → zHi g h n = zHi g' h n
  | 0, _ => rfl
  | k + 1, e => by
    unfold zHi
    rw [zHi_congr k (fun c i c1 c2 i1 i2 => e c i c1 c2 i1 (by omega)), e 0 k (by omega) (by omega) (by omega) (by omega), e 1 k (by omega) (by omega) (by omega) (by omega), e 2 k (by omega) (by omega) (by omega) (by omega), e 3 k (by omega) (by omega) (by omega) (by omega), e 4 k (by omega) (by omega) (by omega) (by omega)]
theorem zHs_congr {f f' : Int → Int} {h : Int} : ∀ n : Nat, (∀ i : Int, 0 ≤ i → i < n → f i = f' i) → zHs f h n = zHs f' h n
  | 0, _ => rfl
  | k + 1, e => by
    unfold zHs
    rw [zHs_congr k (fun i i1 i2 => e i i1 (by omega)), e k (by omega) (by omega)]
def zPrt (n0 n2 n1 n3 : Int) (g : Int → Int → Int) (fo fl : Int → Int) : Int := zHs fl (zHs fo (zHi g (zh1 (zh1 (zh1 (zh1 73 n0) n2) n1) n3) n3.toNat) n0.toNat) n2.toNat
def zGM (c : zC) : Int → Int → Int := fun k i => if k < 4 then c 146 (230 + 4 * i + k) else c 151 i
def zGX (c : zC) : Int → Int → Int := fun k i => if k = 0 then c 25 i else if k = 1 then c 26 i else if k = 2 then c 27 i else if k = 3 then c 28 i else c 135 i
theorem zHs_s (f : Int → Int) (h : Int) {i : Int} (h0 : 0 ≤ i) : zHs f h (i + 1).toNat = zh1 (zHs f h i.toNat) (f i) := by
  rw [show (i + 1).toNat = i.toNat + 1 by omega]
  show zh1 _ (f (i.toNat : Int)) = _
  rw [show ((i.toNat : Nat) : Int) = i by omega]
theorem zHi_s (g : Int → Int → Int) (h : Int) {i : Int} (h0 : 0 ≤ i) : zHi g h (i + 1).toNat = zh1 (zh1 (zh1 (zh1 (zh1 (zHi g h i.toNat) (g 0 i)) (g 1 i)) (g 2 i)) (g 3 i)) (g 4 i) := by
  rw [show (i + 1).toNat = i.toNat + 1 by omega]
  show zh1 (zh1 (zh1 (zh1 (zh1 _ (g 0 (i.toNat : Int))) (g 1 (i.toNat : Int))) (g 2 (i.toNat : Int))) (g 3 (i.toNat : Int))) (g 4 (i.toNat : Int)) = _
  rw [show ((i.toNat : Nat) : Int) = i by omega]
set_option maxRecDepth 10000 in
set_option maxHeartbeats 2000000 in
theorem e_X9_fp3 {d n sl : Nat} {S : zSh} {c : zC} (hS : zSok S) (hB : zBd c) (hr : 0 ≤ c 146 2 ∧ c 146 2 ≤ 30) {h0 : Int} : ∀ i : Int, i ≤ c 146 2 → ∀ h : Int, ∀ w4 : Option zV, (0 ≤ i) → (h = zHs (c 152) h0 i.toNat) → zE (d + 3) 137 161 [some (zA 145), some (zJ h), none, some (zI i), w4] [] ((n, sl), (S, c)) (fun r μ' => r = some (zJ (zHs (c 152) h0 (c 146 2).toNat)) ∧ μ' = ((n, sl), (S, c))) := by
  refine zind _ (fun i ih hN => ?_)
  intro h w4 h0i hh
  refine zl_ild3 I137_161 ?_
  refine zl_ald0 I137_162 ?_
  refine zr_getr (j := 0) I137_163 F9_7 rfl (sT145 hS) (sR145_0 hS) ?_
  refine zr_iconst I137_166 ?_
  refine zr_iaB hB (by decide) I137_167 (sT146 hS) (sN146 hS) (by omega) (fun b167 => ?_)
  refine zr_ic_ge (t := 191) I137_168 rfl (fun h168 => ?_) (fun h168 => ?_)
  · refine zl_lld1 I137_191 ?_
    refine zr_lret I137_192 rfl ?_
    exact ⟨by rw [hh, show i = c 146 2 by omega], rfl⟩
  · refine zr_next I137_171 rfl ?_
    refine zl_lld1 I137_174 ?_
    refine zr_lmul I137_175 ?_
    refine zl_ald0 I137_176 ?_
    refine zr_getr (j := 7) I137_177 F9_28 rfl (sT145 hS) (sR145_7 hS) ?_
    refine zl_ild3 I137_180 ?_
    refine zr_iaB hB (by decide) I137_181 (sT152 hS) (sN152 hS) (by omega) (fun b181 => ?_)
    refine zr_i2l I137_182 ?_
    refine zr_ladd I137_183 ?_
    refine zl_lst1 I137_184 ?_
    refine zl_iinc3 I137_185 (by unfold zInR; omega) ?_
    refine zr_goto (t := 161) I137_188 rfl ?_
    refine ih _ (by omega) (by omega) _ _ (by omega) ?_
    rw [zHs_s _ _ h0i, hh]
    rfl
set_option maxRecDepth 10000 in
set_option maxHeartbeats 2000000 in
theorem e_X9_fp2 {d n sl : Nat} {S : zSh} {c : zC} (hS : zSok S) (hB : zBd c) (hr : 0 ≤ c 146 2 ∧ c 146 2 ≤ 30) (hpn : 0 ≤ c 146 0 ∧ c 146 0 ≤ 16) {h0 : Int} : ∀ i : Int, i ≤ c 146 0 → ∀ h : Int, ∀ w4 : Option zV, (0 ≤ i) → (h = zHs (fun p => c 146 (10 + 4 * p + 3)) h0 i.toNat) → zE (d + 3) 137 122 [some (zA 145), some (zJ h), none, some (zI i), w4] [] ((n, sl), (S, c)) (fun r μ' => r = some (zJ (zHs (c 152) (zHs (fun p => c 146 (10 + 4 * p + 3)) h0 (c 146 0).toNat) (c 146 2).toNat)) ∧ μ' = ((n, sl), (S, c))) := by
  refine zind _ (fun i ih hN => ?_)
  intro h w4 h0i hh
  refine zl_ild3 I137_122 ?_
  refine zl_ald0 I137_123 ?_
  refine zr_getr (j := 0) I137_124 F9_7 rfl (sT145 hS) (sR145_0 hS) ?_
  refine zr_iconst I137_127 ?_
  refine zr_iaB hB (by decide) I137_128 (sT146 hS) (sN146 hS) (by omega) (fun b128 => ?_)
  refine zr_ic_ge (t := 159) I137_129 rfl (fun h129 => ?_) (fun h129 => ?_)
  · refine zr_iconst I137_159 ?_
    refine zl_ist3 I137_160 ?_
    have h9 := e_X9_fp3 (d := d) (n := n) (sl := sl) hS hB hr (h0 := h) 0 (by omega) h w4 (by omega) rfl
    rw [hh, show i = c 146 0 by omega] at h9
    rw [hh, show i = c 146 0 by omega]
    exact h9
  · refine zr_next I137_132 rfl ?_
    refine zl_lld1 I137_135 ?_
    refine zr_lmul I137_136 ?_
    refine zl_ald0 I137_137 ?_
    refine zr_getr (j := 0) I137_138 F9_7 rfl (sT145 hS) (sR145_0 hS) ?_
    refine zr_bipush I137_141 ?_
    refine zr_iconst I137_143 ?_
    refine zl_ild3 I137_144 ?_
    refine zr_imul I137_145 (by unfold zInR; omega) ?_
    refine zr_iadd I137_146 (by unfold zInR; omega) ?_
    refine zr_iconst I137_147 ?_
    refine zr_iadd I137_148 (by unfold zInR; omega) ?_
    refine zr_iaB hB (by decide) I137_149 (sT146 hS) (sN146 hS) (by omega) (fun b149 => ?_)
    refine zr_i2l I137_150 ?_
    refine zr_ladd I137_151 ?_
    refine zl_lst1 I137_152 ?_
    refine zl_iinc3 I137_153 (by unfold zInR; omega) ?_
    refine zr_goto (t := 122) I137_156 rfl ?_
    refine ih _ (by omega) (by omega) _ _ (by omega) ?_
    rw [zHs_s _ _ h0i, hh]
    rfl
set_option maxRecDepth 10000 in
set_option maxHeartbeats 2000000 in
theorem e_X9_fp1 {d n sl : Nat} {S : zSh} {c : zC} (hS : zSok S) (hB : zBd c) (hc : 0 ≤ c 146 3 ∧ c 146 3 ≤ 60) (hr : 0 ≤ c 146 2 ∧ c 146 2 ≤ 30) (hpn : 0 ≤ c 146 0 ∧ c 146 0 ≤ 16) {h0 : Int} : ∀ i : Int, i ≤ c 146 3 → ∀ h : Int, ∀ w4 : Option zV, (0 ≤ i) → (h = zHi (zGM c) h0 i.toNat) → zE (d + 3) 137 60 [some (zA 145), some (zJ h), none, some (zI i), w4] [] ((n, sl), (S, c)) (fun r μ' => r = some (zJ (zHs (c 152) (zHs (fun p => c 146 (10 + 4 * p + 3)) (zHi (zGM c) h0 (c 146 3).toNat) (c 146 0).toNat) (c 146 2).toNat)) ∧ μ' = ((n, sl), (S, c))) := by
  refine zind _ (fun i ih hN => ?_)
  intro h w4 h0i hh
  refine zl_ild3 I137_60 ?_
  refine zl_ald0 I137_61 ?_
  refine zr_getr (j := 0) I137_62 F9_7 rfl (sT145 hS) (sR145_0 hS) ?_
  refine zr_iconst I137_65 ?_
  refine zr_iaB hB (by decide) I137_66 (sT146 hS) (sN146 hS) (by omega) (fun b66 => ?_)
  refine zr_ic_ge (t := 120) I137_67 rfl (fun h67 => ?_) (fun h67 => ?_)
  · refine zr_iconst I137_120 ?_
    refine zl_ist3 I137_121 ?_
    have h9 := e_X9_fp2 (d := d) (n := n) (sl := sl) hS hB hr hpn (h0 := h) 0 (by omega) h w4 (by omega) rfl
    rw [hh, show i = c 146 3 by omega] at h9
    rw [hh, show i = c 146 3 by omega]
    exact h9
  · refine zr_iconst I137_70 ?_
    refine zl_ist4 I137_71 ?_
    refine zl_ild4 I137_73 ?_
    refine zr_iconst I137_75 ?_
    refine zr_ic_ge (t := 100) I137_76 rfl (fun h76 => absurd h76 (by omega)) (fun h76 => ?_)
    refine zr_next I137_79 rfl ?_
    refine zl_lld1 I137_82 ?_
    refine zr_lmul I137_83 ?_
    refine zl_ald0 I137_84 ?_
    refine zl_ild3 I137_85 ?_
    refine zl_ild4 I137_86 ?_
    refine zr_callV I137_88 C9_45 ⟨rfl, rfl⟩ ⟨rfl, Nat.le_of_ble_eq_true rfl⟩ (Or.inl ⟨rfl, sT145 hS⟩) (e_X9_of hS hB (i := i) (by omega) (by omega)) (fun v88 μ88 hv88 => ?_)
    obtain ⟨rfl, rfl⟩ := hv88
    dsimp only [Option.toList, List.cons_append, List.nil_append]
    refine zr_i2l I137_91 ?_
    refine zr_ladd I137_92 ?_
    refine zl_lst1 I137_93 ?_
    refine zl_iinc4 I137_94 (by unfold zInR; omega) ?_
    refine zr_goto (t := 73) I137_97 rfl ?_
    refine zl_ild4 I137_73 ?_
    refine zr_iconst I137_75 ?_
    refine zr_ic_ge (t := 100) I137_76 rfl (fun h76 => absurd h76 (by omega)) (fun h76 => ?_)
    refine zr_next I137_79 rfl ?_
    refine zl_lld1 I137_82 ?_
    refine zr_lmul I137_83 ?_
    refine zl_ald0 I137_84 ?_
    refine zl_ild3 I137_85 ?_
    refine zl_ild4 I137_86 ?_
    refine zr_callV I137_88 C9_45 ⟨rfl, rfl⟩ ⟨rfl, Nat.le_of_ble_eq_true rfl⟩ (Or.inl ⟨rfl, sT145 hS⟩) (e_X9_of hS hB (i := i) (by omega) (by omega)) (fun v88 μ88 hv88 => ?_)
    obtain ⟨rfl, rfl⟩ := hv88
    dsimp only [Option.toList, List.cons_append, List.nil_append]
    refine zr_i2l I137_91 ?_
    refine zr_ladd I137_92 ?_
    refine zl_lst1 I137_93 ?_
    refine zl_iinc4 I137_94 (by unfold zInR; omega) ?_
    refine zr_goto (t := 73) I137_97 rfl ?_
    refine zl_ild4 I137_73 ?_
    refine zr_iconst I137_75 ?_
    refine zr_ic_ge (t := 100) I137_76 rfl (fun h76 => absurd h76 (by omega)) (fun h76 => ?_)
    refine zr_next I137_79 rfl ?_
    refine zl_lld1 I137_82 ?_
    refine zr_lmul I137_83 ?_
    refine zl_ald0 I137_84 ?_
    refine zl_ild3 I137_85 ?_
    refine zl_ild4 I137_86 ?_
    refine zr_callV I137_88 C9_45 ⟨rfl, rfl⟩ ⟨rfl, Nat.le_of_ble_eq_true rfl⟩ (Or.inl ⟨rfl, sT145 hS⟩) (e_X9_of hS hB (i := i) (by omega) (by omega)) (fun v88 μ88 hv88 => ?_)
    obtain ⟨rfl, rfl⟩ := hv88
    dsimp only [Option.toList, List.cons_append, List.nil_append]
    refine zr_i2l I137_91 ?_
    refine zr_ladd I137_92 ?_
    refine zl_lst1 I137_93 ?_
    refine zl_iinc4 I137_94 (by unfold zInR; omega) ?_
    refine zr_goto (t := 73) I137_97 rfl ?_
    refine zl_ild4 I137_73 ?_
    refine zr_iconst I137_75 ?_
    refine zr_ic_ge (t := 100) I137_76 rfl (fun h76 => absurd h76 (by omega)) (fun h76 => ?_)
    refine zr_next I137_79 rfl ?_
    refine zl_lld1 I137_82 ?_
    refine zr_lmul I137_83 ?_
    refine zl_ald0 I137_84 ?_
    refine zl_ild3 I137_85 ?_
    refine zl_ild4 I137_86 ?_
    refine zr_callV I137_88 C9_45 ⟨rfl, rfl⟩ ⟨rfl, Nat.le_of_ble_eq_true rfl⟩ (Or.inl ⟨rfl, sT145 hS⟩) (e_X9_of hS hB (i := i) (by omega) (by omega)) (fun v88 μ88 hv88 => ?_)
    obtain ⟨rfl, rfl⟩ := hv88
    dsimp only [Option.toList, List.cons_append, List.nil_append]
    refine zr_i2l I137_91 ?_
    refine zr_ladd I137_92 ?_
    refine zl_lst1 I137_93 ?_
    refine zl_iinc4 I137_94 (by unfold zInR; omega) ?_
    refine zr_goto (t := 73) I137_97 rfl ?_
    refine zl_ild4 I137_73 ?_
    refine zr_iconst I137_75 ?_
    refine zr_ic_ge (t := 100) I137_76 rfl (fun h76 => ?_) (fun h76 => absurd h76 (by omega))
    refine zr_next I137_100 rfl ?_
    refine zl_lld1 I137_103 ?_
    refine zr_lmul I137_104 ?_
    refine zl_ald0 I137_105 ?_
    refine zr_getr (j := 6) I137_106 F9_25 rfl (sT145 hS) (sR145_6 hS) ?_
    refine zl_ild3 I137_109 ?_
    refine zr_iaB hB (by decide) I137_110 (sT151 hS) (sN151 hS) (by omega) (fun b110 => ?_)
    refine zr_i2l I137_111 ?_
    refine zr_ladd I137_112 ?_
    refine zl_lst1 I137_113 ?_
    refine zl_iinc3 I137_114 (by unfold zInR; omega) ?_
    refine zr_goto (t := 60) I137_117 rfl ?_
    refine ih _ (by omega) (by omega) _ _ (by omega) ?_
    rw [zHi_s _ _ h0i, hh]
    rfl
set_option maxRecDepth 10000 in
set_option maxHeartbeats 2000000 in
theorem e_X9_fingerprint {d n sl : Nat} {S : zSh} {c : zC} (hS : zSok S) (hB : zBd c) (hc : 0 ≤ c 146 3 ∧ c 146 3 ≤ 60) (hit : ∀ i, 0 ≤ i → i < c 146 3 → 0 ≤ c 146 (230 + 4 * i + 0) ∧ c 146 (230 + 4 * i + 0) < 16 ∧ 0 ≤ c 146 (230 + 4 * i + 1) ∧ c 146 (230 + 4 * i + 1) ≤ 20000 ∧ 0 ≤ c 146 (230 + 4 * i + 2) ∧ c 146 (230 + 4 * i + 2) ≤ 20000) (hr : 0 ≤ c 146 2 ∧ c 146 2 ≤ 30) (hpl : ∀ r, 0 ≤ r → r < c 146 2 → 0 ≤ c 146 (110 + 4 * r + 3) ∧ c 146 (110 + 4 * r + 3) ≤ 50 ∧ 0 ≤ c 146 (110 + 4 * r)) (hpn : 0 ≤ c 146 0 ∧ c 146 0 ≤ 16) : zE (d + 3) 137 0 (zent 137 [zA 145]) [] ((n, sl), (S, c)) (fun r μ' => ∃ (c' : zC), r = some (zJ (zPrt (c 146 0) (c 146 2) (c 146 1) (c 146 3) (zGM c') (fun p => c 146 (10 + 4 * p + 3)) (c' 152))) ∧ μ' = ((n, sl), (S, c')) ∧ (∀ i, 0 ≤ i → i < c 146 3 → c' 151 i = zUvM c i.toNat) ∧ (∀ r, 0 ≤ r → r < c 146 2 → c' 152 r = zLvM c r) ∧ zFm c c' ∧ zBd c') := by
  show zE (d + 3) 137 0 [some (zA 145), none, none, none, none] [] ((n, sl), (S, c)) _
  refine zr_next I137_0 rfl ?_
  refine zr_next I137_3 rfl ?_
  refine zr_next I137_6 rfl ?_
  refine zl_ald0 I137_9 ?_
  refine zr_getr (j := 0) I137_10 F9_7 rfl (sT145 hS) (sR145_0 hS) ?_
  refine zr_iconst I137_13 ?_
  refine zr_iaB hB (by decide) I137_14 (sT146 hS) (sN146 hS) (by omega) (fun b14 => ?_)
  refine zr_i2l I137_15 ?_
  refine zr_ladd I137_16 ?_
  refine zr_lmul I137_17 ?_
  refine zl_ald0 I137_18 ?_
  refine zr_getr (j := 0) I137_19 F9_7 rfl (sT145 hS) (sR145_0 hS) ?_
  refine zr_iconst I137_22 ?_
  refine zr_iaB hB (by decide) I137_23 (sT146 hS) (sN146 hS) (by omega) (fun b23 => ?_)
  refine zr_i2l I137_24 ?_
  refine zr_ladd I137_25 ?_
  refine zr_lmul I137_26 ?_
  refine zl_ald0 I137_27 ?_
  refine zr_getr (j := 0) I137_28 F9_7 rfl (sT145 hS) (sR145_0 hS) ?_
  refine zr_iconst I137_31 ?_
  refine zr_iaB hB (by decide) I137_32 (sT146 hS) (sN146 hS) (by omega) (fun b32 => ?_)
  refine zr_i2l I137_33 ?_
  refine zr_ladd I137_34 ?_
  refine zl_lst1 I137_35 ?_
  refine zr_next I137_36 rfl ?_
  refine zl_lld1 I137_39 ?_
  refine zr_lmul I137_40 ?_
  refine zl_ald0 I137_41 ?_
  refine zr_getr (j := 0) I137_42 F9_7 rfl (sT145 hS) (sR145_0 hS) ?_
  refine zr_iconst I137_45 ?_
  refine zr_iaB hB (by decide) I137_46 (sT146 hS) (sN146 hS) (by omega) (fun b46 => ?_)
  refine zr_i2l I137_47 ?_
  refine zr_ladd I137_48 ?_
  refine zl_lst1 I137_49 ?_
  refine zl_ald0 I137_50 ?_
  refine zr_callV I137_51 C9_80 ⟨rfl, rfl⟩ ⟨rfl, Nat.le_of_ble_eq_true rfl⟩ (Or.inl ⟨rfl, sT145 hS⟩) (e_X9_listsAll hS hB hc) (fun v51 μ51 hv51 => ?_)
  obtain ⟨c51, rfl, rfl, hc51⟩ := hv51
  dsimp only [Option.toList, List.cons_append, List.nil_append]
  obtain ⟨la1, la2, la3, la4⟩ := hc51
  have hrep : zRepM c51 (zAl (c 146) (c 146 3).toNat) := by
    refine ⟨by rw [la1]; unfold zAl; simp; omega, fun k x hx => ?_⟩
    obtain ⟨k1, rfl⟩ := zAl_get hx
    obtain ⟨l1, l2, l3⟩ := la2 k (by omega) (by omega)
    unfold zIt
    exact ⟨l1, l2, by rw [l3]; dsimp only; omega⟩
  have k0 := hrep.1
  have e146 := la3.1 146 (by omega)
  have hep : ∀ k, 0 ≤ k → k < c51 145 8 → 0 ≤ c51 148 k ∧ c51 148 k < 16 := fun k k1 k2 => by
    have := la2 k k1 (by omega)
    have := hit k k1 (by omega)
    omega
  have eT : zTM c51 = zTM c := by unfold zTM; rw [e146]
  have eP : zPlM c51 = zPlM c := by unfold zPlM; rw [e146]
  have eM : ∀ l, zMk c51 l = zMk c l := fun l => by unfold zMk; rw [e146]
  refine zl_ald0 I137_54 ?_
  refine zr_callV I137_55 C9_67 ⟨rfl, rfl⟩ ⟨rfl, Nat.le_of_ble_eq_true rfl⟩ (Or.inl ⟨rfl, sT145 hS⟩) (e_X9_gives hS la4 (by rw [e146]; exact hr) (by omega) hep (by rw [e146]; exact hpl)) (fun v55 μ55 hv55 => ?_)
  obtain ⟨c55, rfl, rfl, hc55⟩ := hv55
  dsimp only [Option.toList, List.cons_append, List.nil_append]
  refine zr_iconst I137_58 ?_
  refine zl_ist3 I137_59 ?_
  have e146b : c55 146 = c 146 := by rw [hc55.1 146 (by decide) (by decide)]; exact e146
  refine zE.mono (e_X9_fp1 (d := d) (n := n) (sl := sl) hS hc55.2.1 (by rw [e146b]; exact hc) (by rw [e146b]; exact hr) (by rw [e146b]; exact hpn) (h0 := _) 0 (by rw [e146b]; omega) _ _ (by omega) rfl) ?_
  rintro r μ' ⟨rfl, rfl⟩
  refine ⟨c55, ?_, rfl, fun i i1 i2 => ?_, fun r r1 r2 => ?_, ?_, hc55.2.1⟩
  · rw [e146b]
    rfl
  · have hx : (zAl (c 146) (c 146 3).toNat)[i.toNat]? = some (zIt (c 146) i.toNat) := zAl_at (by omega)
    have hv := hc55.2.2.1 i (by omega) (by omega)
    rw [zUM_l hrep hx, eT, eP, eM, e146] at hv
    exact hv
  · have hv := hc55.2.2.2 r (by omega) (by rw [e146]; omega)
    rw [show (c51 145 8).toNat = (zAl (c 146) (c 146 3).toNat).length by omega, zLM_l hrep _ (Nat.le_refl _), List.take_of_length_le (by unfold zMk; rw [List.length_map]; exact Nat.le_refl _), eT, eP, eM] at hv
    exact hv
  · exact ⟨fun q hq => by rw [hc55.1 q (by omega) (by omega)]; exact la3.1 q hq, fun k hk => by rw [hc55.1 145 (by decide) (by decide)]; exact la3.2 k hk⟩
set_option maxRecDepth 10000 in
set_option maxHeartbeats 2000000 in
theorem e_X8_fp3 {d n sl : Nat} {S : zSh} {c : zC} (hS : zSok S) (hB : zBd c) (hr : 0 ≤ c 15 0 ∧ c 15 0 ≤ 30) {h0 : Int} : ∀ i : Int, i ≤ c 15 0 → ∀ h : Int, (0 ≤ i) → (h = zHs (c 136) h0 i.toNat) → zE (d + 4) 61 243 [some (zA 8), some (zJ h), none, some (zI i)] [] ((n, sl), (S, c)) (fun r μ' => r = some (zJ (zHs (c 136) h0 (c 15 0).toNat)) ∧ μ' = ((n, sl), (S, c))) := by
  refine zind _ (fun i ih hN => ?_)
  intro h h0i hh
  refine zl_ild3 I61_243 ?_
  refine zl_ald0 I61_244 ?_
  refine zr_getr (j := 0) I61_245 F8_12 rfl (sT8 hS) (sR8_0 hS) ?_
  refine zr_getr (j := 1) I61_248 F8_73 rfl (sT9 hS) (sR9_1 hS) ?_
  refine zr_giB (j := 0) hB (by decide) I61_251 F8_77 rfl (sT15 hS) (fun b251 => ?_)
  refine zr_ic_ge (t := 280) I61_254 rfl (fun h254 => ?_) (fun h254 => ?_)
  · refine zl_lld1 I61_280 ?_
    refine zr_lret I61_281 rfl ?_
    exact ⟨by rw [hh, show i = c 15 0 by omega], rfl⟩
  · refine zr_next I61_257 rfl ?_
    refine zl_lld1 I61_260 ?_
    refine zr_lmul I61_261 ?_
    refine zl_ald0 I61_262 ?_
    refine zr_getr (j := 2) I61_263 F8_26 rfl (sT8 hS) (sR8_2 hS) ?_
    refine zr_getr (j := 5) I61_266 F8_162 rfl (sT131 hS) (sR131_5 hS) ?_
    refine zl_ild3 I61_269 ?_
    refine zr_iaB hB (by decide) I61_270 (sT136 hS) (sN136 hS) (by omega) (fun b270 => ?_)
    refine zr_i2l I61_271 ?_
    refine zr_ladd I61_272 ?_
    refine zl_lst1 I61_273 ?_
    refine zl_iinc3 I61_274 (by unfold zInR; omega) ?_
    refine zr_goto (t := 243) I61_277 rfl ?_
    refine ih _ (by omega) (by omega) _ (by omega) ?_
    rw [zHs_s _ _ h0i, hh]
    rfl
set_option maxRecDepth 10000 in
set_option maxHeartbeats 2000000 in
theorem e_X8_fp2 {d n sl : Nat} {S : zSh} {c : zC} (hS : zSok S) (hB : zBd c) (hr : 0 ≤ c 15 0 ∧ c 15 0 ≤ 30) (hpq : 0 ≤ c 10 0 ∧ c 10 0 ≤ 16) {h0 : Int} : ∀ i : Int, i ≤ c 10 0 → ∀ h : Int, (0 ≤ i) → (h = zHs (c 14) h0 i.toNat) → zE (d + 4) 61 201 [some (zA 8), some (zJ h), none, some (zI i)] [] ((n, sl), (S, c)) (fun r μ' => r = some (zJ (zHs (c 136) (zHs (c 14) h0 (c 10 0).toNat) (c 15 0).toNat)) ∧ μ' = ((n, sl), (S, c))) := by
  refine zind _ (fun i ih hN => ?_)
  intro h h0i hh
  refine zl_ild3 I61_201 ?_
  refine zl_ald0 I61_202 ?_
  refine zr_getr (j := 0) I61_203 F8_12 rfl (sT8 hS) (sR8_0 hS) ?_
  refine zr_getr (j := 0) I61_206 F8_48 rfl (sT9 hS) (sR9_0 hS) ?_
  refine zr_giB (j := 0) hB (by decide) I61_209 F8_52 rfl (sT10 hS) (fun b209 => ?_)
  refine zr_ic_ge (t := 241) I61_212 rfl (fun h212 => ?_) (fun h212 => ?_)
  · refine zr_iconst I61_241 ?_
    refine zl_ist3 I61_242 ?_
    have h9 := e_X8_fp3 (d := d) (n := n) (sl := sl) hS hB hr (h0 := h) 0 (by omega) h (by omega) rfl
    rw [hh, show i = c 10 0 by omega] at h9
    rw [hh, show i = c 10 0 by omega]
    exact h9
  · refine zr_next I61_215 rfl ?_
    refine zl_lld1 I61_218 ?_
    refine zr_lmul I61_219 ?_
    refine zl_ald0 I61_220 ?_
    refine zr_getr (j := 0) I61_221 F8_12 rfl (sT8 hS) (sR8_0 hS) ?_
    refine zr_getr (j := 0) I61_224 F8_48 rfl (sT9 hS) (sR9_0 hS) ?_
    refine zr_getr (j := 4) I61_227 F8_144 rfl (sT10 hS) (sR10_4 hS) ?_
    refine zl_ild3 I61_230 ?_
    refine zr_iaB hB (by decide) I61_231 (sT14 hS) (sN14 hS) (by omega) (fun b231 => ?_)
    refine zr_i2l I61_232 ?_
    refine zr_ladd I61_233 ?_
    refine zl_lst1 I61_234 ?_
    refine zl_iinc3 I61_235 (by unfold zInR; omega) ?_
    refine zr_goto (t := 201) I61_238 rfl ?_
    refine ih _ (by omega) (by omega) _ (by omega) ?_
    rw [zHs_s _ _ h0i, hh]
    rfl
set_option maxRecDepth 10000 in
set_option maxHeartbeats 2000000 in
theorem e_X8_fp1 {d n sl : Nat} {S : zSh} {c : zC} (hS : zSok S) (hB : zBd c) (hc : 0 ≤ c 24 0 ∧ c 24 0 ≤ 60) (hr : 0 ≤ c 15 0 ∧ c 15 0 ≤ 30) (hpq : 0 ≤ c 10 0 ∧ c 10 0 ≤ 16) {h0 : Int} : ∀ i : Int, i ≤ c 24 0 → ∀ h : Int, (0 ≤ i) → (h = zHi (zGX c) h0 i.toNat) → zE (d + 4) 61 82 [some (zA 8), some (zJ h), none, some (zI i)] [] ((n, sl), (S, c)) (fun r μ' => r = some (zJ (zHs (c 136) (zHs (c 14) (zHi (zGX c) h0 (c 24 0).toNat) (c 10 0).toNat) (c 15 0).toNat)) ∧ μ' = ((n, sl), (S, c))) := by
  refine zind _ (fun i ih hN => ?_)
  intro h h0i hh
  refine zl_ild3 I61_82 ?_
  refine zl_ald0 I61_83 ?_
  refine zr_getr (j := 0) I61_84 F8_12 rfl (sT8 hS) (sR8_0 hS) ?_
  refine zr_getr (j := 3) I61_87 F8_102 rfl (sT9 hS) (sR9_3 hS) ?_
  refine zr_giB (j := 0) hB (by decide) I61_90 F8_112 rfl (sT24 hS) (fun b90 => ?_)
  refine zr_ic_ge (t := 199) I61_93 rfl (fun h93 => ?_) (fun h93 => ?_)
  · refine zr_iconst I61_199 ?_
    refine zl_ist3 I61_200 ?_
    have h9 := e_X8_fp2 (d := d) (n := n) (sl := sl) hS hB hr hpq (h0 := h) 0 (by omega) h (by omega) rfl
    rw [hh, show i = c 24 0 by omega] at h9
    rw [hh, show i = c 24 0 by omega]
    exact h9
  · refine zr_next I61_96 rfl ?_
    refine zl_lld1 I61_99 ?_
    refine zr_lmul I61_100 ?_
    refine zl_ald0 I61_101 ?_
    refine zr_getr (j := 0) I61_102 F8_12 rfl (sT8 hS) (sR8_0 hS) ?_
    refine zr_getr (j := 3) I61_105 F8_102 rfl (sT9 hS) (sR9_3 hS) ?_
    refine zr_getr (j := 1) I61_108 F8_147 rfl (sT24 hS) (sR24_1 hS) ?_
    refine zl_ild3 I61_111 ?_
    refine zr_iaB hB (by decide) I61_112 (sT25 hS) (sN25 hS) (by omega) (fun b112 => ?_)
    refine zr_i2l I61_113 ?_
    refine zr_ladd I61_114 ?_
    refine zl_lst1 I61_115 ?_
    refine zr_next I61_116 rfl ?_
    refine zl_lld1 I61_119 ?_
    refine zr_lmul I61_120 ?_
    refine zl_ald0 I61_121 ?_
    refine zr_getr (j := 0) I61_122 F8_12 rfl (sT8 hS) (sR8_0 hS) ?_
    refine zr_getr (j := 3) I61_125 F8_102 rfl (sT9 hS) (sR9_3 hS) ?_
    refine zr_getr (j := 2) I61_128 F8_150 rfl (sT24 hS) (sR24_2 hS) ?_
    refine zl_ild3 I61_131 ?_
    refine zr_iaB hB (by decide) I61_132 (sT26 hS) (sN26 hS) (by omega) (fun b132 => ?_)
    refine zr_i2l I61_133 ?_
    refine zr_ladd I61_134 ?_
    refine zl_lst1 I61_135 ?_
    refine zr_next I61_136 rfl ?_
    refine zl_lld1 I61_139 ?_
    refine zr_lmul I61_140 ?_
    refine zl_ald0 I61_141 ?_
    refine zr_getr (j := 0) I61_142 F8_12 rfl (sT8 hS) (sR8_0 hS) ?_
    refine zr_getr (j := 3) I61_145 F8_102 rfl (sT9 hS) (sR9_3 hS) ?_
    refine zr_getr (j := 3) I61_148 F8_140 rfl (sT24 hS) (sR24_3 hS) ?_
    refine zl_ild3 I61_151 ?_
    refine zr_iaB hB (by decide) I61_152 (sT27 hS) (sN27 hS) (by omega) (fun b152 => ?_)
    refine zr_i2l I61_153 ?_
    refine zr_ladd I61_154 ?_
    refine zl_lst1 I61_155 ?_
    refine zr_next I61_156 rfl ?_
    refine zl_lld1 I61_159 ?_
    refine zr_lmul I61_160 ?_
    refine zl_ald0 I61_161 ?_
    refine zr_getr (j := 0) I61_162 F8_12 rfl (sT8 hS) (sR8_0 hS) ?_
    refine zr_getr (j := 3) I61_165 F8_102 rfl (sT9 hS) (sR9_3 hS) ?_
    refine zr_getr (j := 4) I61_168 F8_153 rfl (sT24 hS) (sR24_4 hS) ?_
    refine zl_ild3 I61_171 ?_
    refine zr_iaB hB (by decide) I61_172 (sT28 hS) (sN28 hS) (by omega) (fun b172 => ?_)
    refine zr_i2l I61_173 ?_
    refine zr_ladd I61_174 ?_
    refine zl_lst1 I61_175 ?_
    refine zr_next I61_176 rfl ?_
    refine zl_lld1 I61_179 ?_
    refine zr_lmul I61_180 ?_
    refine zl_ald0 I61_181 ?_
    refine zr_getr (j := 2) I61_182 F8_26 rfl (sT8 hS) (sR8_2 hS) ?_
    refine zr_getr (j := 4) I61_185 F8_159 rfl (sT131 hS) (sR131_4 hS) ?_
    refine zl_ild3 I61_188 ?_
    refine zr_iaB hB (by decide) I61_189 (sT135 hS) (sN135 hS) (by omega) (fun b189 => ?_)
    refine zr_i2l I61_190 ?_
    refine zr_ladd I61_191 ?_
    refine zl_lst1 I61_192 ?_
    refine zl_iinc3 I61_193 (by unfold zInR; omega) ?_
    refine zr_goto (t := 82) I61_196 rfl ?_
    refine ih _ (by omega) (by omega) _ (by omega) ?_
    rw [zHi_s _ _ h0i, hh]
    rfl
set_option maxRecDepth 10000 in
set_option maxHeartbeats 2000000 in
theorem e_X8_fingerprint {d n sl : Nat} {S : zSh} {c : zC} (hS : zSok S) (hB : zBd c) (hc : 0 ≤ c 24 0 ∧ c 24 0 ≤ 60) (hit : ∀ i, 0 ≤ i → i < c 24 0 → 0 ≤ c 25 i ∧ c 25 i < 16 ∧ 0 ≤ c 26 i ∧ c 26 i ≤ 20000 ∧ 0 ≤ c 27 i ∧ c 27 i ≤ 20000) (hr : 0 ≤ c 15 0 ∧ c 15 0 ≤ 30) (hpl : ∀ r, 0 ≤ r → r < c 15 0 → 0 ≤ c 19 r ∧ c 19 r ≤ 50) (hpq : 0 ≤ c 10 0 ∧ c 10 0 ≤ 16) : zE (d + 4) 61 0 (zent 61 [zA 8]) [] ((n, sl), (S, c)) (fun r μ' => ∃ (c' : zC), r = some (zJ (zPrt (c 10 0) (c 15 0) (c 20 0) (c 24 0) (zGX c') (c 14) (c' 136))) ∧ μ' = ((n, sl), (S, c')) ∧ (∀ (k : Nat) (x : zEn), (zGs c (c 24 0).toNat)[k]? = some x → c' 135 k = zUsl (zTX c) (c 19) (zGs c (c 24 0).toNat) k x) ∧ (∀ r, 0 ≤ r → r < c 15 0 → c' 136 r = zLvX c r) ∧ (∀ r, (r < 131 ∨ 136 < r) → c' r = c r) ∧ zBd c') := by
  show zE (d + 4) 61 0 [some (zA 8), none, none, none] [] ((n, sl), (S, c)) _
  refine zl_ald0 I61_0 ?_
  refine zr_callV I61_1 C8_156 ⟨rfl, rfl⟩ ⟨rfl, Nat.le_of_ble_eq_true rfl⟩ (Or.inl ⟨rfl, sT8 hS⟩) (e_X8_shareRights hS hB hc hit hr hpl) (fun v1 μ1 hv1 => ?_)
  obtain ⟨c1, rfl, rfl, hc1⟩ := hv1
  dsimp only [Option.toList, List.cons_append, List.nil_append]
  have hB5 := hc1.2.1
  refine zr_next I61_4 rfl ?_
  refine zl_lst1 I61_7 ?_
  refine zr_next I61_8 rfl ?_
  refine zl_lld1 I61_11 ?_
  refine zr_lmul I61_12 ?_
  refine zl_ald0 I61_13 ?_
  refine zr_getr (j := 0) I61_14 F8_12 rfl (sT8 hS) (sR8_0 hS) ?_
  refine zr_getr (j := 0) I61_17 F8_48 rfl (sT9 hS) (sR9_0 hS) ?_
  refine zr_geti (j := 0) I61_20 F8_52 rfl (sT10 hS) ?_
  refine zr_i2l I61_23 ?_
  refine zr_ladd I61_24 ?_
  refine zl_lst1 I61_25 ?_
  refine zr_next I61_26 rfl ?_
  refine zl_lld1 I61_29 ?_
  refine zr_lmul I61_30 ?_
  refine zl_ald0 I61_31 ?_
  refine zr_getr (j := 0) I61_32 F8_12 rfl (sT8 hS) (sR8_0 hS) ?_
  refine zr_getr (j := 1) I61_35 F8_73 rfl (sT9 hS) (sR9_1 hS) ?_
  refine zr_geti (j := 0) I61_38 F8_77 rfl (sT15 hS) ?_
  refine zr_i2l I61_41 ?_
  refine zr_ladd I61_42 ?_
  refine zl_lst1 I61_43 ?_
  refine zr_next I61_44 rfl ?_
  refine zl_lld1 I61_47 ?_
  refine zr_lmul I61_48 ?_
  refine zl_ald0 I61_49 ?_
  refine zr_getr (j := 0) I61_50 F8_12 rfl (sT8 hS) (sR8_0 hS) ?_
  refine zr_getr (j := 2) I61_53 F8_83 rfl (sT9 hS) (sR9_2 hS) ?_
  refine zr_geti (j := 0) I61_56 F8_87 rfl (sT20 hS) ?_
  refine zr_i2l I61_59 ?_
  refine zr_ladd I61_60 ?_
  refine zl_lst1 I61_61 ?_
  refine zr_next I61_62 rfl ?_
  refine zl_lld1 I61_65 ?_
  refine zr_lmul I61_66 ?_
  refine zl_ald0 I61_67 ?_
  refine zr_getr (j := 0) I61_68 F8_12 rfl (sT8 hS) (sR8_0 hS) ?_
  refine zr_getr (j := 3) I61_71 F8_102 rfl (sT9 hS) (sR9_3 hS) ?_
  refine zr_geti (j := 0) I61_74 F8_112 rfl (sT24 hS) ?_
  refine zr_i2l I61_77 ?_
  refine zr_ladd I61_78 ?_
  refine zl_lst1 I61_79 ?_
  refine zr_iconst I61_80 ?_
  refine zl_ist3 I61_81 ?_
  obtain ⟨w1, w2, w3, w4⟩ := hc1
  refine zE.mono (e_X8_fp1 (d := d) (n := n) (sl := sl) hS w2 (by rw [w1 24 (by decide)]; exact hc) (by rw [w1 15 (by decide)]; exact hr) (by rw [w1 10 (by decide)]; exact hpq) (h0 := _) 0 (by rw [w1 24 (by decide)]; omega) _ (by omega) rfl) ?_
  rintro r μ' ⟨rfl, rfl⟩
  refine ⟨c1, ?_, rfl, w3, w4, w1, w2⟩
  rw [w1 10 (by decide), w1 15 (by decide), w1 24 (by decide), w1 14 (by decide), w1 20 (by decide)]
  rfl
