/-! the law's start -/
def zTr (p : Nat × (Int × List (Option Nat))) : zSc := (p.1, (p.2.1, zrl p.2.2))
theorem zAr_tr : zAr = fun x => zTr (20, (x, [])) := by
  funext x
  unfold zAr zTr
  rw [zrl_0 0]
  rfl
theorem zTx_tr : (21, ((16 : Int), (fun _ => none : Int → Option Nat))) = zTr (21, (16, [])) := by
  unfold zTr
  rw [zrl_0 0]
  rfl
theorem zShF_tr {r : Nat} {p : Nat × (Int × List (Option Nat))} (h : zShL[r - 8]? = some p) : zShF r = zTr p := by
  unfold zShF
  rw [h]
  rfl
def zW8 : List zSc := (((8, (0, zrl (zWl 10))) :: zWk 10) ++ ((3, (0, zrl [none, none, some 30])) :: ((22, (5, zrl [some 31, some 51, some 71, some 91, some 111])) :: (((8, (0, zrl (zWl (32)))) :: zWk (32)) ++ ((8, (0, zrl (zWl (52)))) :: zWk (52)) ++ ((8, (0, zrl (zWl (72)))) :: zWk (72)) ++ ((8, (0, zrl (zWl (92)))) :: zWk (92)) ++ ((8, (0, zrl (zWl (112)))) :: zWk (112))))) ++ ((7, (0, zrl [none, some 132, some 133, some 134, some 135, some 136])) :: [zAr 61, zAr 61, zAr 61, zAr 61, zAr 30]) ++ ((2, (0, zrl [some 138, none, none, none, some 139, some 140, some 141, some 142])) :: [zAr 240, zAr 240, zAr 240, zAr 240, zAr 240]) ++ ((0, (0, zrl [some 144, none, none, none])) :: [(21, (16, fun _ => none))]))
def zP8 : List (Nat × (Int × List (Option Nat))) := (zShL.drop 1).take 134 ++ [(0, (0, [some 144, none, none, none])), (21, (16, []))]
set_option maxRecDepth 20000 in
set_option maxHeartbeats 2000000 in
theorem zW8_tr : zW8 = zP8.map zTr := by
  unfold zW8 zWk
  rw [zTx_tr, zAr_tr]
  rfl
theorem zP8_get : ∀ i, i < 136 → i ≠ 134 → zP8[i]? = zShL[i + 1]? := by
  have h : ∀ i, i < 136 → (i = 134 ∨ zP8[i]? = zShL[i + 1]?) := by decide +kernel
  exact fun i hi h4 => (h i hi).resolve_left h4
theorem zShL_some : ∀ i, i < 139 → (zShL[i]?).isSome = true := by decide +kernel
theorem zW8_get {i : Nat} (hi : i < 136) (h4 : i ≠ 134) : zW8[i]? = some (zShF (9 + i)) := by
  have h1 := zShL_some (i + 1) (by omega)
  obtain ⟨p, hp⟩ := Option.isSome_iff_exists.mp h1
  rw [zW8_tr, List.getElem?_map, zP8_get i hi h4, hp, zShF_tr (r := 9 + i) (p := p) (by rw [show 9 + i - 8 = i + 1 by omega, hp])]
  rfl
theorem zr_z {c : zC} (h0 : ∀ r k, 8 ≤ r → c r k = 0) (q : Nat) (hq : 8 ≤ q) : zRep c q (fun _ => 0) := by
  refine ⟨⟨?_, ?_, ?_, ?_⟩, fun p p1 p2 => absurd (show p < 0 from p2) (Int.not_lt.mpr p1), fun p p1 p2 => absurd (show p < 0 from p2) (Int.not_lt.mpr p1), fun p p1 p2 => absurd (show p < 0 from p2) (Int.not_lt.mpr p1), fun p p1 p2 => absurd (show p < 0 from p2) (Int.not_lt.mpr p1)⟩
  · exact h0 _ _ (by omega)
  · exact h0 _ _ (by omega)
  · exact h0 _ _ (by omega)
  · exact h0 _ _ (by omega)
theorem zi_z : zInv 0 (fun _ => 0) := by
  refine ⟨⟨?_, ?_, ?_, ?_⟩, fun p p1 p2 => absurd (show p < 0 from p2) (Int.not_lt.mpr p1), fun p p1 p2 => ⟨Int.le_refl _, Int.le_refl _⟩, fun p p1 p2 => absurd (show p < 0 from p2) (Int.not_lt.mpr p1), fun p p1 p2 => absurd (show p < 0 from p2) (Int.not_lt.mpr p1), fun p p1 p2 => absurd (show p < 0 from p2) (Int.not_lt.mpr p1), fun i j i1 i2 i3 => absurd (show j < 0 from i3) (Int.not_lt.mpr (Int.le_trans i1 (Int.le_of_lt i2)))⟩
  · exact ⟨Int.le_refl _, by decide⟩
  · exact ⟨Int.le_refl _, by decide⟩
  · exact ⟨Int.le_refl _, by decide⟩
  · exact ⟨Int.le_refl _, by decide⟩
theorem zG_z {c : zC} (h0 : ∀ r k, 8 ≤ r → c r k = 0) : zG c 0 (fun _ => 0) none c := by
  refine ⟨fun _ _ => rfl, fun r k hr => by rw [h0 r k hr]; omega, zr_z h0 9 (by decide), zi_z, ?_, ?_, fun j hj => ?_, fun u hu => by cases hu⟩
  · rw [h0 29 0 (by decide)]
    omega
  · rw [h0 29 1 (by decide)]
    omega
  · unfold zCnW
    rw [h0 _ _ (by omega), h0 _ _ (by omega), h0 _ _ (by omega), h0 _ _ (by omega)]
    omega
theorem k_undo0 {d n sl : Nat} {S : zSh} {hi c : zC} {B : Int} {v : Int → Int} {tp : Option (Int → Int)} (hS : zSok S) (G : zG hi B v tp c) (h29 : c 29 0 = 0) : zE (d + 6) 60 0 (zent 60 [zA 8]) [] ((n, sl), (S, c)) (kP n sl S hi B v tp (fun x => x = -9)) := by
  obtain ⟨g1, hB, R, I, H1, H2, H3, H4⟩ := id G
  refine zE.mono (e_X8_undo (d := d + 2) hS hB H1 H2 H3) ?_
  rintro r μ' ⟨x, c1, rfl, rfl, h⟩
  rcases h with ⟨-, h2, rfl⟩ | ⟨h1, -⟩
  · exact ⟨_, _, rfl, rfl, h2, G⟩
  · exact absurd h29 h1
theorem si_z {x : Int} (h : qSi (fun _ => 0) 0 10080 x) : x = 101616480 := by
  unfold qSi zSlR at h
  have e : zSl 0 (fun _ => (0 : Int)) (fun _ => (0 : Int) + 0) 0 10080 1 = (10080, (0, 0)) := by decide
  have h2 : (0 < (zSl 0 (fun _ => (0 : Int)) (fun _ => (0 : Int) + 0) 0 10080 1).1 ∧ x = 10081 * (zSl 0 (fun _ => (0 : Int)) (fun _ => (0 : Int) + 0) 0 10080 1).1 + (zSl 0 (fun _ => (0 : Int)) (fun _ => (0 : Int) + 0) 0 10080 1).2.1) ∨ ((zSl 0 (fun _ => (0 : Int)) (fun _ => (0 : Int) + 0) 0 10080 1).1 ≤ 0 ∧ x = -9) := h
  rw [e] at h2
  dsimp only at h2
  omega
set_option maxRecDepth 10000 in
set_option maxHeartbeats 4000000 in
theorem lw_dark {sl L : Nat} {S : zSh} {hi c : zC} {v : Int → Int} {tp : Option (Int → Int)} {P R : Int} {w7 w8 : Option zV} (hS : zSok S) (hS0 : (S 0).1 = 30 ∧ (S 0).2.1 = L) (hP3 : 3 ≤ P ∧ P ≤ 9) (hR : R ≤ 10) (hkd : zKd hi P R v) (G : zG hi 0 v tp c) (hv1 : v 1 = 0) (hsl : (sl : Int) ≤ 20000) : zE 15 138 287 [some (zA 0), some (zA 8), some (zA 145), some (zA 146), some (zI P), some (zI R), some (zI R), w7, w8, none, none, none, none, none, none] [] ((147, sl), (S, c)) zQf := by
  have hP3' := hP3
  replace hP3 := hP3.1
  refine zl_ald0 I138_287 ?_
  refine zr_iconst I138_288 ?_
  refine zr_callS I138_289 C10_95 ⟨rfl, rfl⟩ ⟨by simp, rfl, Nat.le_of_ble_eq_true rfl⟩ (l_cell (d := 14) hS0.1 hS0.2 (by omega)) (fun v289 μ289 hv289 => ?_)
  obtain ⟨z289, rfl, rfl⟩ := hv289
  dsimp only [Option.toList, List.cons_append, List.nil_append]
  refine zr_sipush I138_292 ?_
  refine zr_iandG I138_295 (by decide) (fun y295 hy295 => ?_)
  refine zr_if_eq (t := 339) I138_296 rfl (fun h296 => ?_) (fun h296 => ?_)
  · refine zr_iconst I138_339 ?_
    refine zl_ist6 I138_340 ?_
    exact lw_main hP3 0 (by omega) _ _ _ _ _ _ _ _ _ _ _ _ _ _ _ hS hS0 hkd G (by omega) (by omega) (by omega)
  · refine zl_ald1 I138_299 ?_
    refine zl_ald0 I138_300 ?_
    refine zr_iconst I138_301 ?_
    refine zr_callS I138_302 C10_95 ⟨rfl, rfl⟩ ⟨by simp, rfl, Nat.le_of_ble_eq_true rfl⟩ (l_cell (d := 14) hS0.1 hS0.2 (by omega)) (fun v302 μ302 hv302 => ?_)
    obtain ⟨z302, rfl, rfl⟩ := hv302
    dsimp only [Option.toList, List.cons_append, List.nil_append]
    refine zr_bipush I138_305 ?_
    refine zr_ishrG I138_307 (by decide) (fun y307 hy307 => ?_)
    refine zr_sipush I138_308 ?_
    refine zr_callS I138_311 C10_78 ⟨rfl, rfl⟩ ⟨by simp, rfl, Nat.le_of_ble_eq_true rfl⟩ (l_up (by decide)) (fun v311 μ311 hv311 => ?_)
    obtain ⟨z311, rfl, hz311, rfl⟩ := hv311
    dsimp only [Option.toList, List.cons_append, List.nil_append]
    refine zr_sipush I138_314 ?_
    refine zr_iconst I138_317 ?_
    refine zl_ald0 I138_318 ?_
    refine zr_iconst I138_319 ?_
    refine zr_callS I138_320 C10_95 ⟨rfl, rfl⟩ ⟨by simp, rfl, Nat.le_of_ble_eq_true rfl⟩ (l_cell (d := 14) hS0.1 hS0.2 (by omega)) (fun v320 μ320 hv320 => ?_)
    obtain ⟨z320, rfl, rfl⟩ := hv320
    dsimp only [Option.toList, List.cons_append, List.nil_append]
    refine zr_bipush I138_323 ?_
    refine zr_ishrG I138_325 (by decide) (fun y325 hy325 => ?_)
    refine zr_iconst I138_326 ?_
    refine zr_callS I138_327 C10_78 ⟨rfl, rfl⟩ ⟨by simp, rfl, Nat.le_of_ble_eq_true rfl⟩ (l_up (by decide)) (fun v327 μ327 hv327 => ?_)
    obtain ⟨z327, rfl, hz327, rfl⟩ := hv327
    dsimp only [Option.toList, List.cons_append, List.nil_append]
    refine zr_iadd I138_330 (by unfold zInR; omega) ?_
    refine zr_callV I138_331 C10_27 ⟨rfl, rfl⟩ ⟨rfl, Nat.le_of_ble_eq_true rfl⟩ (Or.inl ⟨rfl, sT8 hS⟩) (a_addB (d := 8) hS G (by omega) (by omega) (by omega)) (fun v331 μ331 hv331 => ?_)
    obtain ⟨v2, c331, rfl, rfl, s3, G⟩ := hv331
    dsimp only [Option.toList, List.cons_append, List.nil_append]
    refine zr_if_eq (t := 339) I138_334 rfl (fun h334 => ?_) (fun h334 => absurd h334 (by omega))
    refine zr_iconst I138_339 ?_
    refine zl_ist6 I138_340 ?_
    have hkd2 : zKd hi P R v2 := by
      have hP := hkd.1
      refine ⟨⟨?_, ?_, hP.2.2⟩, fun p p1 p2 => ?_, fun r r1 r2 => ?_⟩
      · rw [s3 0 (by omega) (by omega)]
        exact hP.1
      · rw [s3 2 (by omega) (by omega)]
        exact hP.2.1
      · rw [s3 _ (by omega) (by omega)]
        exact hkd.2.1 p p1 p2
      · rw [s3 _ (by omega) (by omega)]
        exact hkd.2.2 r r1 r2
    exact lw_main hP3 0 (by omega) _ _ _ _ _ _ _ _ _ _ _ _ _ _ _ hS hS0 hkd2 G (by omega) (by omega) (by omega)
set_option maxRecDepth 10000 in
set_option maxHeartbeats 4000000 in
theorem lw_two {sl L : Nat} {S : zSh} {hi c : zC} {v : Int → Int} {tp : Option (Int → Int)} {P : Int} {w6 : Option zV} (hS : zSok S) (hS0 : (S 0).1 = 30 ∧ (S 0).2.1 = L) (hP3 : 3 ≤ P ∧ P ≤ 9) (hkd : zKd hi P 0 v) (G : zG hi 0 v tp c) (hv1 : v 1 = 0) (hsl : (sl : Int) ≤ 20000) : zE 15 138 159 [some (zA 0), some (zA 8), some (zA 145), some (zA 146), some (zI P), some (zI P), w6, none, none, none, none, none, none, none, none] [] ((147, sl), (S, c)) zQf := by
  refine zr_iconst I138_159 ?_
  refine zl_ald0 I138_160 ?_
  refine zr_iconst I138_161 ?_
  refine zr_callS I138_162 C10_95 ⟨rfl, rfl⟩ ⟨by simp, rfl, Nat.le_of_ble_eq_true rfl⟩ (l_cell (d := 14) hS0.1 hS0.2 (by omega)) (fun v162 μ162 hv162 => ?_)
  obtain ⟨z162, rfl, rfl⟩ := hv162
  dsimp only [Option.toList, List.cons_append, List.nil_append]
  refine zr_iconst I138_165 ?_
  refine zr_ishrG I138_166 (by decide) (fun y166 hy166 => ?_)
  refine zr_bipush I138_167 ?_
  refine zr_callS I138_169 C10_78 ⟨rfl, rfl⟩ ⟨by simp, rfl, Nat.le_of_ble_eq_true rfl⟩ (l_up (by decide)) (fun v169 μ169 hv169 => ?_)
  obtain ⟨z169, rfl, hz169, rfl⟩ := hv169
  dsimp only [Option.toList, List.cons_append, List.nil_append]
  refine zr_iadd I138_172 (by unfold zInR; omega) ?_
  refine zl_ist5 I138_173 ?_
  refine zr_iconst I138_175 ?_
  refine zl_ist6 I138_176 ?_
  refine lw_rights hS hS0 hP3.1 (by omega) (fun c9 hi9 v9 t9 w7 w8 hkd9 G9 hv9 => ?_) 0 (by omega) _ _ _ _ _ _ hkd G hv1 (by omega)
  exact lw_dark hS hS0 hP3 (by omega) hkd9 G9 hv9 hsl
set_option maxRecDepth 10000 in
set_option maxHeartbeats 4000000 in
theorem lw_one {sl L : Nat} {S : zSh} {c : zC} (hS : zSok S) (hS0 : (S 0).1 = 30 ∧ (S 0).2.1 = L) (h0 : ∀ r k, 8 ≤ r → c r k = 0) (hsl : (sl : Int) ≤ 20000) : zE 15 138 18 [some (zA 0), some (zA 8), some (zA 145), some (zA 146), none, none, none, none, none, none, none, none, none, none, none] [] ((147, sl), (S, c)) zQf := by
  have G := zG_z h0
  have h29 := h0 29 0 (by decide)
  have hkd : zKd c 0 0 (fun _ => 0) := ⟨⟨rfl, rfl, by omega, by omega, by omega, by omega⟩, fun p p1 p2 => absurd p2 (by omega), fun p p1 p2 => absurd p2 (by omega)⟩
  refine zl_ald1 I138_18 ?_
  refine zr_callV I138_19 C10_87 ⟨rfl, rfl⟩ ⟨rfl, Nat.le_of_ble_eq_true rfl⟩ (Or.inl ⟨rfl, sT8 hS⟩) (k_undo0 (d := 8) hS G h29) (fun v19 μ19 hv19 => ?_)
  obtain ⟨x19, c19, rfl, rfl, rfl, G⟩ := hv19
  dsimp only [Option.toList, List.cons_append, List.nil_append]
  refine zr_bipush I138_22 ?_
  refine zr_ic_ne (t := 49) I138_24 rfl (fun h24 => absurd h24 (by omega)) (fun h24 => ?_)
  refine zl_ald1 I138_27 ?_
  refine zr_iconst I138_28 ?_
  refine zr_sipush I138_29 ?_
  refine zr_callV I138_32 C10_69 ⟨rfl, rfl⟩ ⟨rfl, Nat.le_of_ble_eq_true rfl⟩ (Or.inl ⟨rfl, sT8 hS⟩) (k_silence (d := 8) hS G (by omega)) (fun v32 μ32 hv32 => ?_)
  obtain ⟨x32, c32, rfl, rfl, hx32, G⟩ := hv32
  have e32 := si_z hx32
  dsimp only [Option.toList, List.cons_append, List.nil_append]
  refine zr_next I138_35 rfl ?_
  refine zr_ic_ne (t := 49) I138_37 rfl (fun h37 => absurd h37 (by omega)) (fun h37 => ?_)
  refine zl_ald1 I138_40 ?_
  refine zr_iconst I138_41 ?_
  refine zr_iconst I138_42 ?_
  refine zr_callS I138_43 C10_91 ⟨rfl, rfl⟩ ⟨by simp, rfl, Nat.le_of_ble_eq_true rfl⟩ (l_fails (d := 7) hS G (by omega) rfl rfl) (fun v43 μ43 hv43 => ?_)
  obtain ⟨x43, c43, rfl, rfl, rfl, G⟩ := hv43
  dsimp only [Option.toList, List.cons_append, List.nil_append]
  refine zr_if_ne (t := 51) I138_46 rfl (fun h46 => ?_) (fun h46 => absurd h46 (by omega))
  refine zr_iconst I138_51 ?_
  refine zl_ald0 I138_52 ?_
  refine zr_iconst I138_53 ?_
  refine zr_callS I138_54 C10_95 ⟨rfl, rfl⟩ ⟨by simp, rfl, Nat.le_of_ble_eq_true rfl⟩ (l_cell (d := 14) hS0.1 hS0.2 (by omega)) (fun v54 μ54 hv54 => ?_)
  obtain ⟨z54, rfl, rfl⟩ := hv54
  dsimp only [Option.toList, List.cons_append, List.nil_append]
  refine zr_bipush I138_57 ?_
  refine zr_callS I138_59 C10_78 ⟨rfl, rfl⟩ ⟨by simp, rfl, Nat.le_of_ble_eq_true rfl⟩ (l_up (by decide)) (fun v59 μ59 hv59 => ?_)
  obtain ⟨z59, rfl, hz59, rfl⟩ := hv59
  dsimp only [Option.toList, List.cons_append, List.nil_append]
  refine zr_iadd I138_62 (by unfold zInR; omega) ?_
  refine zl_ist4 I138_63 ?_
  refine zr_iconst I138_65 ?_
  refine zl_ist5 I138_66 ?_
  refine lw_progs hS hS0 (by omega) (fun c9 hi9 v9 t9 w6 hkd9 G9 hv9 => ?_) 0 (by omega) _ _ _ _ _ hkd G rfl (by omega)
  exact lw_two hS hS0 (by omega) hkd9 G9 hv9 hsl
set_option maxRecDepth 10000 in
set_option maxHeartbeats 4000000 in
theorem zlaw_run {L : Nat} {xs : Nat → Int32} (hL : L ≤ 260) : zE 15 138 0 (zent 138 [zA 0]) [] (zm0 xs L) zQf := by
  show zE 15 138 0 [some (zA 0), none, none, none, none, none, none, none, none, none, none, none, none, none, none] [] ((8, 0), (zS0 L, zct xs)) _
  refine zr_new (ci := 9) I138_0 N10_10 ?_
  refine zr_dup I138_3 ?_
  refine zr_callI I138_4 C10_86 ⟨rfl, rfl⟩ ⟨rfl, Nat.le_of_ble_eq_true rfl⟩ (Or.inl rfl) (k_X8_init (d := 10) (zCb_new (m := 5) rfl)) (fun v μ hv => ?_)
  obtain ⟨n8, s8, S8, c8, rfl, rfl, e8, K8⟩ := hv
  dsimp only [Option.toList, List.cons_append, List.nil_append]
  refine zl_ast1 I138_7 ?_
  have m8 := K8.1.1
  have z8 : n8 = 145 := by
    rw [m8]
    rfl
  subst z8
  refine zr_bipush I138_8 ?_
  refine zr_newi I138_10 (by decide) ?_
  refine zl_ast2 I138_12 ?_
  refine zr_bipush I138_13 ?_
  refine zr_newi I138_15 (by decide) ?_
  refine zl_ast3 I138_17 ?_
  obtain ⟨-, k2, k3, k4, k5, k6⟩ := K8
  have g8 : ∀ (i : Nat) (s : zSc), zW8[i]? = some s → S8 (9 + i) = s := k4
  have zc : ∀ r k, 8 ≤ r → zct xs r k = 0 := fun r k hr => by
    unfold zct
    split <;> first | rfl | omega
  have z8 : ∀ r k, 8 ≤ r → c8 r k = 0 := fun r k hr => by
    by_cases e : r = 8
    · rw [e, k5 8 (by decide), zfr_eq]
    · refine k6 r k (by omega) (Or.inr ?_)
      rw [zfr_ne e]
      exact zc r k hr
  have f9 : znf 9 = 5 := rfl
  refine lw_one (L := L) (fun r r1 r2 r3 => ?_) ?_ (fun r k hr => ?_) (by omega)
  · by_cases e146 : r = 146
    · rw [e146, zsup_eq]
      exact (congrFun zAr_tr 30).trans (zShF_tr (r := 146) rfl).symm
    · rw [zsup_n e146]
      by_cases e145 : r = 145
      · rw [e145, zsup_eq]
        exact (congrFun zAr_tr 16).trans (zShF_tr (r := 145) rfl).symm
      · rw [zsup_n e145]
        by_cases e8 : r = 8
        · rw [e8, k3]
          exact (zShF_tr (r := 8) rfl).symm
        · have h9 := g8 (r - 9) _ (zW8_get (by omega) (by omega))
          rw [show 9 + (r - 9) = r by omega] at h9
          exact h9
  · rw [zsup_n (by decide), zsup_n (by decide), k2 0 (by decide) (by decide), zsup_n (by decide)]
    exact ⟨rfl, rfl⟩
  · by_cases e146 : r = 146
    · rw [e146, zfr_eq]
    · rw [zfr_ne e146]
      by_cases e145 : r = 145
      · rw [e145, zfr_eq]
      · rw [zfr_ne e145]
        exact z8 r k hr
theorem zlaw : zLaw := by
  intro L xs hL
  obtain ⟨f, r, μ', h1, rfl, h2, h3⟩ := zlaw_run (xs := xs) hL
  exact ⟨f, μ', h1, h2, h3⟩
