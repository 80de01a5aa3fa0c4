/-! the law: agrees -/
theorem qM_in {B : Int} {v : Int → Int} (I : zInv B v) {g a b : Int} (hab : a ≤ b) : 0 ≤ qM v g a b ∧ qM v g a b ≤ b - a := by
  have hT := qT_in I hab
  have hI := I.1
  by_cases e : g = 4
  · rw [e, qM_4]
    omega
  · unfold qM
    rw [if_neg e]
    unfold qT at hT
    have h1 : zSum (fun j => if v (10 + 4 * v (230 + 4 * j + 0)) = g then zMin (v (230 + 4 * j + 1)) (v (230 + 4 * j + 1) + v (230 + 4 * j + 2)) a b else 0) (v 3) ≤ zSum (fun j => zMin (v (230 + 4 * j + 1)) (v (230 + 4 * j + 1) + v (230 + 4 * j + 2)) a b) (v 3) := zS_lt _ (fun j _ => by
      have := zMin_nn (s := v (230 + 4 * (j : Int) + 1)) (e := v (230 + 4 * (j : Int) + 1) + v (230 + 4 * (j : Int) + 2)) (a := a) (b := b)
      (try dsimp only)
      split <;> omega)
    have h0 : zS (fun _ => 0) (v 3).toNat ≤ zSum (fun j => if v (10 + 4 * v (230 + 4 * j + 0)) = g then zMin (v (230 + 4 * j + 1)) (v (230 + 4 * j + 1) + v (230 + 4 * j + 2)) a b else 0) (v 3) := zS_lt _ (fun j _ => by
      have := zMin_nn (s := v (230 + 4 * (j : Int) + 1)) (e := v (230 + 4 * (j : Int) + 1) + v (230 + 4 * (j : Int) + 2)) (a := a) (b := b)
      (try dsimp only)
      split <;> omega)
    rw [zS_0 _ (fun _ _ => rfl)] at h0
    omega
theorem qMs_in {B : Int} {v : Int → Int} (I : zInv B v) {a b k : Int} (hab : a ≤ b ∧ b - a ≤ 10080) (hk : 0 ≤ k ∧ k ≤ 5) : 0 ≤ zSum (fun g => qM v g a b) k ∧ zSum (fun g => qM v g a b) k ≤ 50400 := by
  have h9 := zSum_le (f := fun g => qM v g a b) (lo := 0) (hi := 10080) k hk.1 (fun j j1 j2 => by have := qM_in I (g := j) hab.1; (try dsimp only); omega)
  omega
theorem zSum_4 (f : Int → Int) : zSum f 4 = f 0 + f 1 + f 2 + f 3 := by
  show (((0 + f 0) + f 1) + f 2) + f 3 = _
  omega
theorem zSum_5 (f : Int → Int) : zSum f 5 = f 0 + f 1 + f 2 + f 3 + f 4 := by
  show ((((0 + f 0) + f 1) + f 2) + f 3) + f 4 = _
  omega
theorem ln_in {B : Int} {v : Int → Int} (I : zInv B v) {k : Int} (hk : 0 ≤ k ∧ k ≤ v 3) : 0 ≤ zSum (fun j => v (230 + 4 * j + 2)) k ∧ zSum (fun j => v (230 + 4 * j + 2)) k ≤ 604800 := by
  have hI := I.1
  have h9 := zSum_le (f := fun j => v (230 + 4 * j + 2)) (lo := 0) (hi := 10080) k hk.1 (fun j j1 j2 => by have := I.2.2.2.2.2.1 j j1 (by omega); (try dsimp only); omega)
  omega
set_option maxRecDepth 10000 in
set_option maxHeartbeats 4000000 in
theorem l_ag1 {d n sl m : Nat} {S : zSh} {hi0 : zC} {B : Int} {v : Int → Int} {tp : Option (Int → Int)} {P R q : Int} {Q : Option zV → zMem → Prop} (hS : zSok S) (I : zInv B v) (hm : 147 ≤ m) (hT : (S m).1 = 20) (hN : (S m).2.1 = 30) (hR : v 2 = R) (K : ∀ (c hi : zC), zG hi B v tp c → (∀ r, 0 ≤ r → r < 30 → hi m r = qC v r (v 3).toNat) → (∀ r, r ≠ m → hi r = hi0 r) → ∀ (l : Int) (w11 w12 w13 : Option zV), zE (d + 7) 87 158 [some (zA 8), some (zI P), some (zI R), some (zA 146), some (zI q), some (zI (v 3)), some (zI l), some (zI (zSum (fun j => v (230 + 4 * j + 2)) (v 3))), some (zI 0), some (zA m), some (zI (v 3)), w11, w12, w13, none, none, none] [] ((n, sl), (S, c)) Q) : ∀ i : Int, i ≤ v 3 → ∀ (c hi : zC) (l : Int) (w11 w12 w13 : Option zV), zG hi B v tp c → 0 ≤ i → (∀ r, 0 ≤ r → r < 30 → hi m r = qC v r i.toNat) → (∀ r, r ≠ m → hi r = hi0 r) → ((i = 0 ∧ l = 0) ∨ (1 ≤ i ∧ l = v (230 + 4 * (i - 1) + 1) + v (230 + 4 * (i - 1) + 2))) → zE (d + 7) 87 24 [some (zA 8), some (zI P), some (zI R), some (zA 146), some (zI q), some (zI (v 3)), some (zI l), some (zI (zSum (fun j => v (230 + 4 * j + 2)) i)), some (zI 0), some (zA m), some (zI i), w11, w12, w13, none, none, none] [] ((n, sl), (S, c)) Q := by
  have hI := I.1
  refine zind _ (fun i ih hN0 => ?_)
  intro c hi l w11 w12 w13 G h0 U1 U2 hl
  refine zl_ild10 I87_24 ?_
  refine zl_ild5 I87_26 ?_
  refine zr_ic_ge (t := 158) I87_28 rfl (fun h28 => ?_) (fun h28 => ?_)
  · have ei : i = v 3 := by omega
    subst ei
    exact K _ _ G U1 U2 _ _ _ _
  · have hv := I.2.2.2.2.2.1 i h0 h28
    have hz := zSum_s (fun j => v (230 + 4 * j + 2)) (i := i) h0
    (try dsimp only at hz)
    have hb := ln_in I (k := i) (by omega)
    have hb2 := ln_in I (k := i + 1) (by omega)
    have hu := q_use I i
    have hll : l ≤ v (230 + 4 * i + 1) := by
      rcases hl with ⟨a1, a2⟩ | ⟨a1, a2⟩
      · omega
      · rw [a2]
        exact I.2.2.2.2.2.2 (i - 1) i (by omega) (by omega) h28
    refine zl_ald0 I87_31 ?_
    refine zl_ild10 I87_32 ?_
    refine zr_iconst I87_34 ?_
    refine zr_callV I87_35 C10_51 ⟨rfl, rfl⟩ ⟨rfl, Nat.le_of_ble_eq_true rfl⟩ (Or.inl ⟨rfl, sT8 hS⟩) (k_item hS G (a := i) (w := 1) (by omega) (by omega)) (fun v35 μ35 hv35 => ?_)
    obtain ⟨x35, c35, rfl, rfl, rfl, G⟩ := hv35
    dsimp only [Option.toList, List.cons_append, List.nil_append]
    refine zl_ist11 I87_38 ?_
    refine zl_ald0 I87_40 ?_
    refine zl_ild10 I87_41 ?_
    refine zr_iconst I87_43 ?_
    refine zr_callV I87_44 C10_51 ⟨rfl, rfl⟩ ⟨rfl, Nat.le_of_ble_eq_true rfl⟩ (Or.inl ⟨rfl, sT8 hS⟩) (k_item hS G (a := i) (w := 2) (by omega) (by omega)) (fun v44 μ44 hv44 => ?_)
    obtain ⟨x44, c44, rfl, rfl, rfl, G⟩ := hv44
    dsimp only [Option.toList, List.cons_append, List.nil_append]
    refine zl_ist12 I87_47 ?_
    refine zl_ald0 I87_49 ?_
    refine zl_ild10 I87_50 ?_
    refine zr_iconst I87_52 ?_
    refine zr_callV I87_53 C10_51 ⟨rfl, rfl⟩ ⟨rfl, Nat.le_of_ble_eq_true rfl⟩ (Or.inl ⟨rfl, sT8 hS⟩) (k_use hS G (a := i) (by omega)) (fun v53 μ53 hv53 => ?_)
    obtain ⟨x53, c53, rfl, rfl, rfl, G⟩ := hv53
    dsimp only [Option.toList, List.cons_append, List.nil_append]
    refine zl_ist13 I87_56 ?_
    refine zl_ild11 I87_58 ?_
    refine zl_ild6 I87_60 ?_
    refine zr_ic_lt (t := 122) I87_62 rfl (fun h62 => absurd h62 (by omega)) (fun h62 => ?_)
    refine zl_ild12 I87_65 ?_
    refine zr_iconst I87_67 ?_
    refine zr_ic_lt (t := 122) I87_68 rfl (fun h68 => absurd h68 (by omega)) (fun h68 => ?_)
    refine zl_ild11 I87_71 ?_
    refine zl_ild12 I87_73 ?_
    refine zr_iadd I87_75 (by unfold zInR; omega) ?_
    refine zr_sipush I87_76 ?_
    refine zr_ic_gt (t := 122) I87_79 rfl (fun h79 => absurd h79 (by omega)) (fun h79 => ?_)
    refine zl_ald0 I87_82 ?_
    refine zl_ild11 I87_83 ?_
    refine zr_callV I87_85 C10_54 ⟨rfl, rfl⟩ ⟨rfl, Nat.le_of_ble_eq_true rfl⟩ (Or.inl ⟨rfl, sT8 hS⟩) (k_onAir hS G (by omega)) (fun v85 μ85 hv85 => ?_)
    obtain ⟨x85, c85, rfl, rfl, hx85, G⟩ := hv85
    have e85 := on_v I (i := i) (by omega) (by omega) (by omega) hx85
    dsimp only [Option.toList, List.cons_append, List.nil_append]
    refine zl_ild10 I87_88 ?_
    refine zr_ic_ne (t := 122) I87_90 rfl (fun h90 => absurd h90 (by omega)) (fun h90 => ?_)
    refine zl_ald0 I87_93 ?_
    refine zl_ild11 I87_94 ?_
    refine zl_ild12 I87_96 ?_
    refine zr_iadd I87_98 (by unfold zInR; omega) ?_
    refine zr_iconst I87_99 ?_
    refine zr_isub I87_100 (by unfold zInR; omega) ?_
    refine zr_callV I87_101 C10_54 ⟨rfl, rfl⟩ ⟨rfl, Nat.le_of_ble_eq_true rfl⟩ (Or.inl ⟨rfl, sT8 hS⟩) (k_onAir hS G (by omega)) (fun v101 μ101 hv101 => ?_)
    obtain ⟨x101, c101, rfl, rfl, hx101, G⟩ := hv101
    have e101 := on_v I (i := i) (by omega) (by omega) (by omega) hx101
    dsimp only [Option.toList, List.cons_append, List.nil_append]
    refine zl_ild10 I87_104 ?_
    refine zr_ic_ne (t := 122) I87_106 rfl (fun h106 => absurd h106 (by omega)) (fun h106 => ?_)
    refine zl_ild13 I87_109 ?_
    refine zr_bipush I87_111 ?_
    refine zr_ic_lt (t := 122) I87_113 rfl (fun h113 => absurd h113 (by omega)) (fun h113 => ?_)
    refine zl_ild13 I87_116 ?_
    refine zl_ild2 I87_118 ?_
    refine zr_ic_lt (t := 124) I87_119 rfl (fun h119 => ?_) (fun h119 => absurd h119 (by omega))
    refine zl_ild13 I87_124 ?_
    refine zr_if_lt (t := 138) I87_126 rfl (fun h126 => ?_) (fun h126 => ?_)
    · refine zl_ild11 I87_138 ?_
      refine zl_ild12 I87_140 ?_
      refine zr_iadd I87_142 (by unfold zInR; omega) ?_
      refine zl_ist6 I87_143 ?_
      refine zl_ild7 I87_145 ?_
      refine zl_ild12 I87_147 ?_
      refine zr_iadd I87_149 (by unfold zInR; omega) ?_
      refine zl_ist7 I87_150 ?_
      refine zl_iinc10 I87_152 (by unfold zInR; omega) ?_
      refine zr_goto (t := 24) I87_155 rfl ?_
      rw [← hz]
      refine ih (i + 1) (by omega) (by omega) _ _ _ _ _ _ G (by omega) (fun r r1 r2 => ?_) U2 (Or.inr ⟨by omega, by rw [show i + 1 - 1 = i by omega]⟩)
      rw [qC_s h0, if_neg (by omega), U1 r r1 r2, Int.add_zero]
    · refine zl_ald9 I87_129 ?_
      refine zl_ild13 I87_131 ?_
      refine zr_dup2 I87_133 ?_
      refine zr_iald I87_134 (hT) (hN) (by omega) ?_
      have hq := qC_in v (qU v i) i.toNat
      rw [show c101 m (qU v i) = qC v (qU v i) i.toNat from (congrFun (G.1 m (by omega)) _).trans (U1 _ (by omega) (by omega))]
      refine zr_iconst I87_135 ?_
      refine zr_iadd I87_136 (by unfold zInR; omega) ?_
      refine zr_iast I87_137 (hT) (hN) (by omega) ?_
      replace G := zG_put G (q := m) (k := qU v i) (x := qC v (qU v i) i.toNat + 1) (by omega) (by omega)
      refine zl_ild11 I87_138 ?_
      refine zl_ild12 I87_140 ?_
      refine zr_iadd I87_142 (by unfold zInR; omega) ?_
      refine zl_ist6 I87_143 ?_
      refine zl_ild7 I87_145 ?_
      refine zl_ild12 I87_147 ?_
      refine zr_iadd I87_149 (by unfold zInR; omega) ?_
      refine zl_ist7 I87_150 ?_
      refine zl_iinc10 I87_152 (by unfold zInR; omega) ?_
      refine zr_goto (t := 24) I87_155 rfl ?_
      rw [← hz]
      refine ih (i + 1) (by omega) (by omega) _ _ _ _ _ _ G (by omega) (fun r r1 r2 => ?_) (fun r r1 => by rw [zup_ne r1]; exact U2 r r1) (Or.inr ⟨by omega, by rw [show i + 1 - 1 = i by omega]⟩)
      rw [qC_s h0, zup_q]
      by_cases e : r = qU v i
      · rw [if_pos e, if_pos e.symm, e]
      · rw [if_neg e, if_neg (fun h9 => e h9.symm), U1 r r1 r2, Int.add_zero]
set_option maxRecDepth 10000 in
set_option maxHeartbeats 4000000 in
theorem l_ag2 {d n sl m : Nat} {S : zSh} {hi : zC} {B : Int} {v : Int → Int} {tp : Option (Int → Int)} {P R q l al : Int} {w11 w12 w13 : Option zV} {Q : Option zV → zMem → Prop} (hS : zSok S) (I : zInv B v) (hm : 147 ≤ m) (hT : (S m).1 = 20) (hN : (S m).2.1 = 30) (hkd : zKd hi P R v) (U1 : ∀ r, 0 ≤ r → r < 30 → hi m r = qC v r (v 3).toNat) (K : ∀ c : zC, zG hi B v tp c → zE (d + 7) 87 203 [some (zA 8), some (zI P), some (zI R), some (zA 146), some (zI q), some (zI (v 3)), some (zI l), some (zI al), some (zI 0), some (zA m), some (zI R), w11, w12, w13, none, none, none] [] ((n, sl), (S, c)) Q) : ∀ i : Int, i ≤ R → ∀ c : zC, zG hi B v tp c → 0 ≤ i → zE (d + 7) 87 161 [some (zA 8), some (zI P), some (zI R), some (zA 146), some (zI q), some (zI (v 3)), some (zI l), some (zI al), some (zI 0), some (zA m), some (zI i), w11, w12, w13, none, none, none] [] ((n, sl), (S, c)) Q := by
  have hI := I.1
  have hP := hkd.1
  refine zind _ (fun i ih hN0 => ?_)
  intro c G h0
  refine zl_ild10 I87_161 ?_
  refine zl_ild2 I87_163 ?_
  refine zr_ic_ge (t := 203) I87_164 rfl (fun h164 => ?_) (fun h164 => ?_)
  · have ei : i = R := by omega
    subst ei
    exact K _ G
  · have hq := q_left I (r := i) (by omega)
    have hr := I.2.2.2.1 i h0 (by omega)
    have hq2 := qC_in v i (v 3).toNat
    refine zl_ald0 I87_167 ?_
    refine zl_ild10 I87_168 ?_
    refine zr_callV I87_170 C10_57 ⟨rfl, rfl⟩ ⟨rfl, Nat.le_of_ble_eq_true rfl⟩ (Or.inl ⟨rfl, sT8 hS⟩) (k_left hS G (by omega)) (fun v170 μ170 hv170 => ?_)
    obtain ⟨x170, c170, rfl, rfl, rfl, G⟩ := hv170
    dsimp only [Option.toList, List.cons_append, List.nil_append]
    refine zl_ald3 I87_173 ?_
    refine zl_ild10 I87_174 ?_
    refine zr_iald I87_176 (sT146 hS) (sN146 hS) (by omega) ?_
    rw [show c170 146 i = v (110 + 4 * i + 3) from (congrFun (G.1 146 (by decide)) _).trans (hkd.2.2 _ h0 (by omega))]
    refine zl_ald9 I87_177 ?_
    refine zl_ild10 I87_179 ?_
    refine zr_iald I87_181 (hT) (hN) (by omega) ?_
    rw [show c170 m i = qC v i (v 3).toNat from (congrFun (G.1 m (by omega)) _).trans (U1 _ (by omega) (by omega))]
    refine zr_isub I87_182 (by unfold zInR; omega) ?_
    refine zr_ic_ne (t := 195) I87_183 rfl (fun h183 => absurd h183 (by omega)) (fun h183 => ?_)
    refine zl_ald0 I87_186 ?_
    refine zl_ild10 I87_187 ?_
    refine zr_callV I87_189 C10_57 ⟨rfl, rfl⟩ ⟨rfl, Nat.le_of_ble_eq_true rfl⟩ (Or.inl ⟨rfl, sT8 hS⟩) (k_left hS G (by omega)) (fun v189 μ189 hv189 => ?_)
    obtain ⟨x189, c189, rfl, rfl, rfl, G⟩ := hv189
    dsimp only [Option.toList, List.cons_append, List.nil_append]
    refine zr_if_ge (t := 197) I87_192 rfl (fun h192 => ?_) (fun h192 => absurd h192 (by omega))
    refine zl_iinc10 I87_197 (by unfold zInR; omega) ?_
    refine zr_goto (t := 161) I87_200 rfl ?_
    exact ih (i + 1) (by omega) (by omega) _ G (by omega)
set_option maxRecDepth 10000 in
set_option maxHeartbeats 4000000 in
theorem l_ag3 {d n sl m : Nat} {S : zSh} {hi : zC} {B : Int} {v : Int → Int} {tp : Option (Int → Int)} {P R q l al : Int} {w12 w13 : Option zV} {Q : Option zV → zMem → Prop} (hS : zSok S) (I : zInv B v)  (K : ∀ c : zC, zG hi B v tp c → zE (d + 7) 87 236 [some (zA 8), some (zI P), some (zI R), some (zA 146), some (zI q), some (zI (v 3)), some (zI l), some (zI al), some (zI 0), some (zA m), some (zI (zSum (fun g => qM v g 0 10080) 4)), some (zI 4), w12, w13, none, none, none] [] ((n, sl), (S, c)) Q) : ∀ k : Int, k ≤ 4 → ∀ c : zC, zG hi B v tp c → 0 ≤ k → zE (d + 7) 87 209 [some (zA 8), some (zI P), some (zI R), some (zA 146), some (zI q), some (zI (v 3)), some (zI l), some (zI al), some (zI 0), some (zA m), some (zI (zSum (fun g => qM v g 0 10080) k)), some (zI k), w12, w13, none, none, none] [] ((n, sl), (S, c)) Q := by
  have hI := I.1
  refine zind _ (fun k ih hN0 => ?_)
  intro c G h0
  refine zl_ild11 I87_209 ?_
  refine zr_iconst I87_211 ?_
  refine zr_ic_ge (t := 236) I87_212 rfl (fun h212 => ?_) (fun h212 => ?_)
  · have ek : k = 4 := by omega
    subst ek
    exact K _ G
  · refine zl_ild10 I87_215 ?_
    refine zl_ald0 I87_217 ?_
    refine zl_ild11 I87_218 ?_
    refine zr_iconst I87_220 ?_
    refine zr_sipush I87_221 ?_
    refine zr_callV I87_224 C10_66 ⟨rfl, rfl⟩ ⟨rfl, Nat.le_of_ble_eq_true rfl⟩ (Or.inl ⟨rfl, sT8 hS⟩) (k_minutes hS G (by omega) (by omega)) (fun v224 μ224 hv224 => ?_)
    obtain ⟨x224, c224, rfl, rfl, rfl, G⟩ := hv224
    dsimp only [Option.toList, List.cons_append, List.nil_append]
    have hz := zSum_s (fun g => qM v g 0 10080) (i := k) h0
    (try dsimp only at hz)
    have hb := qMs_in I (a := 0) (b := 10080) (k := k) (by omega) (by omega)
    have hb2 := qMs_in I (a := 0) (b := 10080) (k := k + 1) (by omega) (by omega)
    refine zr_iadd I87_227 (by unfold zInR; omega) ?_
    refine zl_ist10 I87_228 ?_
    refine zl_iinc11 I87_230 (by unfold zInR; omega) ?_
    refine zr_goto (t := 209) I87_233 rfl ?_
    rw [← hz]
    exact ih (k + 1) (by omega) (by omega) _ G (by omega)
set_option maxRecDepth 10000 in
set_option maxHeartbeats 4000000 in
theorem l_ag4 {d n sl m : Nat} {S : zSh} {hi : zC} {B : Int} {v : Int → Int} {tp : Option (Int → Int)} {P R q l al : Int} {sm : Int} {Q : Option zV → zMem → Prop} (hS : zSok S) (I : zInv B v) {ta tb : Int} (hab : 0 ≤ ta ∧ ta < tb ∧ tb ≤ 10080) (K : ∀ c : zC, zG hi B v tp c → zE (d + 7) 87 297 [some (zA 8), some (zI P), some (zI R), some (zA 146), some (zI q), some (zI (v 3)), some (zI l), some (zI al), some (zI 0), some (zA m), some (zI sm), some (zI ta), some (zI tb), some (zI (zSum (fun g => qM v g ta tb) 5)), some (zI 5), none, none] [] ((n, sl), (S, c)) Q) : ∀ k : Int, k ≤ 5 → ∀ c : zC, zG hi B v tp c → 0 ≤ k → zE (d + 7) 87 270 [some (zA 8), some (zI P), some (zI R), some (zA 146), some (zI q), some (zI (v 3)), some (zI l), some (zI al), some (zI 0), some (zA m), some (zI sm), some (zI ta), some (zI tb), some (zI (zSum (fun g => qM v g ta tb) k)), some (zI k), none, none] [] ((n, sl), (S, c)) Q := by
  have hI := I.1
  refine zind _ (fun k ih hN0 => ?_)
  intro c G h0
  refine zl_ild14 I87_270 ?_
  refine zr_iconst I87_272 ?_
  refine zr_ic_ge (t := 297) I87_273 rfl (fun h273 => ?_) (fun h273 => ?_)
  · have ek : k = 5 := by omega
    subst ek
    exact K _ G
  · refine zl_ild13 I87_276 ?_
    refine zl_ald0 I87_278 ?_
    refine zl_ild14 I87_279 ?_
    refine zl_ild11 I87_281 ?_
    refine zl_ild12 I87_283 ?_
    refine zr_callV I87_285 C10_66 ⟨rfl, rfl⟩ ⟨rfl, Nat.le_of_ble_eq_true rfl⟩ (Or.inl ⟨rfl, sT8 hS⟩) (k_minutes hS G (by omega) (by omega)) (fun v285 μ285 hv285 => ?_)
    obtain ⟨x285, c285, rfl, rfl, rfl, G⟩ := hv285
    dsimp only [Option.toList, List.cons_append, List.nil_append]
    have hz := zSum_s (fun g => qM v g ta tb) (i := k) h0
    (try dsimp only at hz)
    have hb := qMs_in I (a := ta) (b := tb) (k := k) (by omega) (by omega)
    have hb2 := qMs_in I (a := ta) (b := tb) (k := k + 1) (by omega) (by omega)
    refine zr_iadd I87_288 (by unfold zInR; omega) ?_
    refine zl_ist13 I87_289 ?_
    refine zl_iinc14 I87_291 (by unfold zInR; omega) ?_
    refine zr_goto (t := 270) I87_294 rfl ?_
    rw [← hz]
    exact ih (k + 1) (by omega) (by omega) _ G (by omega)
set_option maxRecDepth 10000 in
set_option maxHeartbeats 4000000 in
theorem l_agrees {d n sl : Nat} {S : zSh} {hi c : zC} {B : Int} {v : Int → Int} {tp : Option (Int → Int)} (hS : zSok S) (G : zG hi B v tp c) (hn : 147 ≤ n) {P R q : Int} (hkd : zKd hi P R v) : zE (d + 7) 87 0 (zent 87 [zA 8, zI P, zI R, zA 146, zI q]) [] ((n, sl), (S, c)) (fun r μ' => ∃ (c' hi' : zC) (S' : zSh), r = some (zI 1) ∧ μ' = ((n + 1, sl + 30), (S', c')) ∧ zSok S' ∧ S' 0 = S 0 ∧ zG hi' B v tp c' ∧ hi' 145 = hi 145 ∧ hi' 146 = hi 146 ∧ hi' 0 = hi 0) := by
  have I := G.2.2.2.1
  have hI := I.1
  have hP := hkd.1
  have hT0 := qT_in I (a := 0) (b := 10080) (by omega)
  have hq1 := qM_sum I 0 10080
  have hq2 := qT_all I
  have hq3 := zSum_4 (fun g => qM v g 0 10080)
  have hq4 := qM_4 v 0 10080
  (try dsimp only at hq3)
  show zE (d + 7) 87 0 [some (zA 8), some (zI P), some (zI R), some (zA 146), some (zI q), none, none, none, none, none, none, none, none, none, none, none, none] [] ((n, sl), (S, c)) _
  refine zl_ald0 I87_0 ?_
  refine zr_callV I87_1 C10_15 ⟨rfl, rfl⟩ ⟨rfl, Nat.le_of_ble_eq_true rfl⟩ (Or.inl ⟨rfl, sT8 hS⟩) (k_items hS G ) (fun v1 μ1 hv1 => ?_)
  obtain ⟨x1, c1, rfl, rfl, rfl, G⟩ := hv1
  dsimp only [Option.toList, List.cons_append, List.nil_append]
  refine zl_ist5 I87_4 ?_
  refine zr_iconst I87_6 ?_
  refine zl_ist6 I87_7 ?_
  refine zr_iconst I87_9 ?_
  refine zl_ist7 I87_10 ?_
  refine zr_iconst I87_12 ?_
  refine zl_ist8 I87_13 ?_
  refine zr_bipush I87_15 ?_
  refine zr_newi I87_17 (by decide) ?_
  refine zl_ast9 I87_19 ?_
  refine zr_iconst I87_21 ?_
  refine zl_ist10 I87_22 ?_
  replace G := zG_new G (q := n) (by omega)
  have hS0 : zsup S n (20, ((30 : Int), fun _ => none)) 0 = S 0 := zsup_n (by omega)
  replace hS := zSok_new (x := (20, ((30 : Int), fun _ => none))) hS hn
  have hT : (zsup S n (20, ((30 : Int), fun _ => none)) n).1 = 20 := by rw [zsup_eq]
  have hN : (zsup S n (20, ((30 : Int), fun _ => none)) n).2.1 = 30 := by rw [zsup_eq]
  refine l_ag1 (hi0 := zfr hi n) hS I hn hT hN hkd.1.2.1 (fun c24 hi24 G U1 U2 l w11 w12 w13 => ?_) 0 (by omega) _ _ _ _ _ _ G (by omega) (fun r r1 r2 => by rw [zfr_eq]; rfl) (fun _ _ => rfl) (Or.inl ⟨rfl, rfl⟩)
  have E1 : hi24 145 = hi 145 := (U2 145 (by omega)).trans (zfr_ne (by omega))
  have E2 : hi24 146 = hi 146 := (U2 146 (by omega)).trans (zfr_ne (by omega))
  have E3 : hi24 0 = hi 0 := (U2 0 (by omega)).trans (zfr_ne (by omega))
  have hkd2 := zKd_hi hkd E1 E2
  refine zr_iconst I87_158 ?_
  refine zl_ist10 I87_159 ?_
  refine l_ag2 hS I hn hT hN hkd2 U1 (fun c161 G => ?_) 0 (by omega) _ G (by omega)
  refine zr_iconst I87_203 ?_
  refine zl_ist10 I87_204 ?_
  refine zr_iconst I87_206 ?_
  refine zl_ist11 I87_207 ?_
  refine l_ag3 hS I (fun c209 G => ?_) 0 (by omega) _ G (by omega)
  refine zl_ild4 I87_236 ?_
  refine zr_sipush I87_238 ?_
  refine zr_callS I87_241 C10_78 ⟨rfl, rfl⟩ ⟨by simp, rfl, Nat.le_of_ble_eq_true rfl⟩ (l_up (by decide)) (fun v241 μ241 hv241 => ?_)
  obtain ⟨z241, rfl, hz241, rfl⟩ := hv241
  dsimp only [Option.toList, List.cons_append, List.nil_append]
  refine zl_ist11 I87_244 ?_
  refine zl_ild11 I87_246 ?_
  refine zr_iconst I87_248 ?_
  refine zr_iadd I87_249 (by unfold zInR; omega) ?_
  refine zl_ild4 I87_250 ?_
  refine zr_bipush I87_252 ?_
  refine zr_ishrG I87_254 (by decide) (fun y254 hy254 => ?_)
  refine zr_sipush I87_255 ?_
  refine zr_callS I87_258 C10_78 ⟨rfl, rfl⟩ ⟨by simp, rfl, Nat.le_of_ble_eq_true rfl⟩ (l_up (by decide)) (fun v258 μ258 hv258 => ?_)
  obtain ⟨z258, rfl, hz258, rfl⟩ := hv258
  dsimp only [Option.toList, List.cons_append, List.nil_append]
  refine zr_iadd I87_261 (by unfold zInR; omega) ?_
  refine zl_ist12 I87_262 ?_
  refine zr_iconst I87_264 ?_
  refine zl_ist13 I87_265 ?_
  refine zr_iconst I87_267 ?_
  refine zl_ist14 I87_268 ?_
  refine l_ag4 (ta := z241) (tb := z241 + 1 + z258) hS I (by omega) (fun c270 G => ?_) 0 (by omega) _ G (by omega)
  generalize ea : z241 = ta
  generalize eb : ta + 1 + z258 = tb
  have hab : 0 ≤ ta ∧ ta < tb ∧ tb ≤ 10080 := by omega
  have hq5 := zSum_5 (fun g => qM v g ta tb)
  have hq6 := qM_sum I ta tb
  have hq7 := qM_4 v ta tb
  (try dsimp only at hq5)
  refine zl_ald0 I87_297 ?_
  refine zl_ild11 I87_298 ?_
  refine zl_ild12 I87_300 ?_
  refine zr_callV I87_302 C10_69 ⟨rfl, rfl⟩ ⟨rfl, Nat.le_of_ble_eq_true rfl⟩ (Or.inl ⟨rfl, sT8 hS⟩) (k_silence hS G (by omega)) (fun v302 μ302 hv302 => ?_)
  obtain ⟨x302, c302, rfl, rfl, hx302, G⟩ := hv302
  have hsi := si_ok I (by omega) hx302
  dsimp only [Option.toList, List.cons_append, List.nil_append]
  refine zl_ist14 I87_305 ?_
  refine zl_ald0 I87_307 ?_
  refine zr_iconst I87_308 ?_
  refine zl_ild11 I87_309 ?_
  refine zl_ild12 I87_311 ?_
  refine zr_callV I87_313 C10_66 ⟨rfl, rfl⟩ ⟨rfl, Nat.le_of_ble_eq_true rfl⟩ (Or.inl ⟨rfl, sT8 hS⟩) (k_minutes hS G (by omega) (by omega)) (fun v313 μ313 hv313 => ?_)
  obtain ⟨x313, c313, rfl, rfl, rfl, G⟩ := hv313
  dsimp only [Option.toList, List.cons_append, List.nil_append]
  refine zl_ist15 I87_316 ?_
  refine zl_ild14 I87_318 ?_
  refine zr_if_ge (t := 343) I87_320 rfl (fun h320 => ?_) (fun h320 => ?_)
  · obtain ⟨l9, s9, s1, s2, s3, s4, s5, s6, s7⟩ := hsi.resolve_left (fun h9 => absurd h9.1 (by omega))
    have d1 : x302 / 10081 = l9 := by omega
    have d2 : x302 % 10081 = s9 := by omega
    refine zl_ild14 I87_343 ?_
    refine zr_sipush I87_345 ?_
    refine zr_idiv I87_348 (by omega) ?_
    rw [d1]
    refine zl_ild15 I87_349 ?_
    refine zr_ic_gt (t := 427) I87_351 rfl (fun h351 => absurd h351 (by omega)) (fun h351 => ?_)
    refine zl_ild14 I87_354 ?_
    refine zr_sipush I87_356 ?_
    refine zr_idiv I87_359 (by omega) ?_
    rw [d1]
    refine zr_iconst I87_360 ?_
    refine zr_ic_lt (t := 427) I87_361 rfl (fun h361 => absurd h361 (by omega)) (fun h361 => ?_)
    refine zl_ild14 I87_364 ?_
    refine zr_sipush I87_366 ?_
    refine zr_irem I87_369 (by omega) ?_
    rw [d2]
    refine zl_ild11 I87_370 ?_
    refine zr_ic_lt (t := 427) I87_372 rfl (fun h372 => absurd h372 (by omega)) (fun h372 => ?_)
    refine zl_ald0 I87_375 ?_
    refine zl_ild14 I87_376 ?_
    refine zr_sipush I87_378 ?_
    refine zr_irem I87_381 (by omega) ?_
    rw [d2]
    refine zr_callV I87_382 C10_54 ⟨rfl, rfl⟩ ⟨rfl, Nat.le_of_ble_eq_true rfl⟩ (Or.inl ⟨rfl, sT8 hS⟩) (k_onAir hS G (by omega)) (fun v382 μ382 hv382 => ?_)
    obtain ⟨x382, c382, rfl, rfl, hx382, G⟩ := hv382
    have e382 : x382 = -9 := by
      unfold zFst at hx382
      rcases hx382 with ⟨m1, m2, m3, m4, -⟩ | ⟨m1, -⟩
      · exact absurd ⟨m3, m4⟩ (s7 x382 m1 m2)
      · exact m1
    dsimp only [Option.toList, List.cons_append, List.nil_append]
    refine zr_bipush I87_385 ?_
    refine zr_ic_ne (t := 427) I87_387 rfl (fun h387 => absurd h387 (by omega)) (fun h387 => ?_)
    refine zl_ald0 I87_390 ?_
    refine zr_iconst I87_391 ?_
    refine zl_ild14 I87_392 ?_
    refine zr_sipush I87_394 ?_
    refine zr_irem I87_397 (by omega) ?_
    rw [d2]
    refine zl_ild14 I87_398 ?_
    refine zr_sipush I87_400 ?_
    refine zr_irem I87_403 (by omega) ?_
    rw [d2]
    refine zl_ild14 I87_404 ?_
    refine zr_sipush I87_406 ?_
    refine zr_idiv I87_409 (by omega) ?_
    rw [d1]
    refine zr_iadd I87_410 (by unfold zInR; omega) ?_
    refine zr_callV I87_411 C10_66 ⟨rfl, rfl⟩ ⟨rfl, Nat.le_of_ble_eq_true rfl⟩ (Or.inl ⟨rfl, sT8 hS⟩) (k_minutes hS G (by omega) (by omega)) (fun v411 μ411 hv411 => ?_)
    obtain ⟨x411, c411, rfl, rfl, rfl, G⟩ := hv411
    dsimp only [Option.toList, List.cons_append, List.nil_append]
    rw [s6]
    refine zl_ild14 I87_414 ?_
    refine zr_sipush I87_416 ?_
    refine zr_idiv I87_419 (by omega) ?_
    rw [d1]
    refine zr_ic_ne (t := 427) I87_420 rfl (fun h420 => absurd h420 (by omega)) (fun h420 => ?_)
    refine zr_iconst I87_423 ?_
    refine zr_goto (t := 428) I87_424 rfl ?_
    refine zl_ist16 I87_428 ?_
    refine zl_ild16 I87_430 ?_
    refine zr_if_eq (t := 499) I87_432 rfl (fun h432 => absurd h432 (by omega)) (fun h432 => ?_)
    refine zl_ild10 I87_435 ?_
    refine zl_ild7 I87_437 ?_
    refine zr_ic_ne (t := 499) I87_439 rfl (fun h439 => absurd h439 (by omega)) (fun h439 => ?_)
    refine zl_ald0 I87_442 ?_
    refine zr_iconst I87_443 ?_
    refine zr_iconst I87_444 ?_
    refine zr_sipush I87_445 ?_
    refine zr_callV I87_448 C10_66 ⟨rfl, rfl⟩ ⟨rfl, Nat.le_of_ble_eq_true rfl⟩ (Or.inl ⟨rfl, sT8 hS⟩) (k_minutes hS G (by omega) (by omega)) (fun v448 μ448 hv448 => ?_)
    obtain ⟨x448, c448, rfl, rfl, rfl, G⟩ := hv448
    dsimp only [Option.toList, List.cons_append, List.nil_append]
    rw [hq4]
    refine zr_sipush I87_451 ?_
    refine zl_ild7 I87_454 ?_
    refine zr_isub I87_456 (by unfold zInR; omega) ?_
    refine zr_ic_ne (t := 499) I87_457 rfl (fun h457 => absurd h457 (by omega)) (fun h457 => ?_)
    refine zl_ild13 I87_460 ?_
    refine zl_ild12 I87_462 ?_
    refine zl_ild11 I87_464 ?_
    refine zr_isub I87_466 (by unfold zInR; omega) ?_
    refine zr_ic_ne (t := 499) I87_467 rfl (fun h467 => absurd h467 (by omega)) (fun h467 => ?_)
    refine zl_ild5 I87_470 ?_
    refine zr_bipush I87_472 ?_
    refine zr_ic_gt (t := 499) I87_474 rfl (fun h474 => absurd h474 (by omega)) (fun h474 => ?_)
    refine zl_ald0 I87_477 ?_
    refine zr_callV I87_478 C10_83 ⟨rfl, rfl⟩ ⟨rfl, Nat.le_of_ble_eq_true rfl⟩ (Or.inl ⟨rfl, sT8 hS⟩) (k_broken hS G ) (fun v478 μ478 hv478 => ?_)
    obtain ⟨x478, c478, rfl, rfl, hx478, G⟩ := hv478
    dsimp only [Option.toList, List.cons_append, List.nil_append]
    refine zl_ild8 I87_481 ?_
    refine zr_ic_lt (t := 499) I87_483 rfl (fun h483 => absurd h483 (by omega)) (fun h483 => ?_)
    refine zl_ald0 I87_486 ?_
    refine zr_callV I87_487 C10_83 ⟨rfl, rfl⟩ ⟨rfl, Nat.le_of_ble_eq_true rfl⟩ (Or.inl ⟨rfl, sT8 hS⟩) (k_broken hS G ) (fun v487 μ487 hv487 => ?_)
    obtain ⟨x487, c487, rfl, rfl, hx487, G⟩ := hv487
    dsimp only [Option.toList, List.cons_append, List.nil_append]
    refine zl_ild5 I87_490 ?_
    refine zr_ic_gt (t := 499) I87_492 rfl (fun h492 => absurd h492 (by omega)) (fun h492 => ?_)
    refine zr_iconst I87_495 ?_
    refine zr_goto (t := 500) I87_496 rfl ?_
    refine zr_zret I87_500 rfl (Or.inr rfl) ?_
    exact ⟨_, _, _, rfl, rfl, hS, hS0, G, E1, E2, E3⟩
  · obtain ⟨e1, e2⟩ : x302 = -9 ∧ qM v 4 ta tb = 0 := by
      rcases hsi with h9 | ⟨l9, s9, k1, k2, k3, k4, -⟩
      · exact h9
      · omega
    refine zl_ild14 I87_323 ?_
    refine zr_bipush I87_325 ?_
    refine zr_ic_ne (t := 339) I87_327 rfl (fun h327 => absurd h327 (by omega)) (fun h327 => ?_)
    refine zl_ild15 I87_330 ?_
    refine zr_if_ne (t := 339) I87_332 rfl (fun h332 => absurd h332 (by omega)) (fun h332 => ?_)
    refine zr_iconst I87_335 ?_
    refine zr_goto (t := 428) I87_336 rfl ?_
    refine zl_ist16 I87_428 ?_
    refine zl_ild16 I87_430 ?_
    refine zr_if_eq (t := 499) I87_432 rfl (fun h432 => absurd h432 (by omega)) (fun h432 => ?_)
    refine zl_ild10 I87_435 ?_
    refine zl_ild7 I87_437 ?_
    refine zr_ic_ne (t := 499) I87_439 rfl (fun h439 => absurd h439 (by omega)) (fun h439 => ?_)
    refine zl_ald0 I87_442 ?_
    refine zr_iconst I87_443 ?_
    refine zr_iconst I87_444 ?_
    refine zr_sipush I87_445 ?_
    refine zr_callV I87_448 C10_66 ⟨rfl, rfl⟩ ⟨rfl, Nat.le_of_ble_eq_true rfl⟩ (Or.inl ⟨rfl, sT8 hS⟩) (k_minutes hS G (by omega) (by omega)) (fun v448 μ448 hv448 => ?_)
    obtain ⟨x448, c448, rfl, rfl, rfl, G⟩ := hv448
    dsimp only [Option.toList, List.cons_append, List.nil_append]
    rw [hq4]
    refine zr_sipush I87_451 ?_
    refine zl_ild7 I87_454 ?_
    refine zr_isub I87_456 (by unfold zInR; omega) ?_
    refine zr_ic_ne (t := 499) I87_457 rfl (fun h457 => absurd h457 (by omega)) (fun h457 => ?_)
    refine zl_ild13 I87_460 ?_
    refine zl_ild12 I87_462 ?_
    refine zl_ild11 I87_464 ?_
    refine zr_isub I87_466 (by unfold zInR; omega) ?_
    refine zr_ic_ne (t := 499) I87_467 rfl (fun h467 => absurd h467 (by omega)) (fun h467 => ?_)
    refine zl_ild5 I87_470 ?_
    refine zr_bipush I87_472 ?_
    refine zr_ic_gt (t := 499) I87_474 rfl (fun h474 => absurd h474 (by omega)) (fun h474 => ?_)
    refine zl_ald0 I87_477 ?_
    refine zr_callV I87_478 C10_83 ⟨rfl, rfl⟩ ⟨rfl, Nat.le_of_ble_eq_true rfl⟩ (Or.inl ⟨rfl, sT8 hS⟩) (k_broken hS G ) (fun v478 μ478 hv478 => ?_)
    obtain ⟨x478, c478, rfl, rfl, hx478, G⟩ := hv478
    dsimp only [Option.toList, List.cons_append, List.nil_append]
    refine zl_ild8 I87_481 ?_
    refine zr_ic_lt (t := 499) I87_483 rfl (fun h483 => absurd h483 (by omega)) (fun h483 => ?_)
    refine zl_ald0 I87_486 ?_
    refine zr_callV I87_487 C10_83 ⟨rfl, rfl⟩ ⟨rfl, Nat.le_of_ble_eq_true rfl⟩ (Or.inl ⟨rfl, sT8 hS⟩) (k_broken hS G ) (fun v487 μ487 hv487 => ?_)
    obtain ⟨x487, c487, rfl, rfl, hx487, G⟩ := hv487
    dsimp only [Option.toList, List.cons_append, List.nil_append]
    refine zl_ild5 I87_490 ?_
    refine zr_ic_gt (t := 499) I87_492 rfl (fun h492 => absurd h492 (by omega)) (fun h492 => ?_)
    refine zr_iconst I87_495 ?_
    refine zr_goto (t := 500) I87_496 rfl ?_
    refine zr_zret I87_500 rfl (Or.inr rfl) ?_
    exact ⟨_, _, _, rfl, rfl, hS, hS0, G, E1, E2, E3⟩
