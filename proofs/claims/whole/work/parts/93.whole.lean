/-! the law, whole -/
def zTr (p : Nat × (Int × List (Option Nat))) : zSc := (p.1, (p.2.1, zrl p.2.2))
theorem zAr_tr : zAr = fun x => zTr (20, (x, [])) := by
  funext x
  unfold zAr zTr
  rw [zrl_0 0]
  rfl
theorem zTx_tr : (21, ((16 : Int), (fun _ => none : Int → Option Nat))) = zTr (21, (16, [])) := by
  unfold zTr
  rw [zrl_0 0]
  rfl
theorem zShF_tr {r : Nat} {p : Nat × (Int × List (Option Nat))} (h : zShL[r - 8]? = some p) : zShF r = zTr p := by
  unfold zShF
  rw [h]
  rfl
def zW8 : List zSc := (((8, (0, zrl (zWl 10))) :: zWk 10) ++ ((3, (0, zrl [none, none, some 30])) :: ((22, (5, zrl [some 31, some 51, some 71, some 91, some 111])) :: (((8, (0, zrl (zWl (32)))) :: zWk (32)) ++ ((8, (0, zrl (zWl (52)))) :: zWk (52)) ++ ((8, (0, zrl (zWl (72)))) :: zWk (72)) ++ ((8, (0, zrl (zWl (92)))) :: zWk (92)) ++ ((8, (0, zrl (zWl (112)))) :: zWk (112))))) ++ ((7, (0, zrl [none, some 132, some 133, some 134, some 135, some 136])) :: [zAr 61, zAr 61, zAr 61, zAr 61, zAr 30]) ++ ((2, (0, zrl [some 138, none, none, none, some 139, some 140, some 141, some 142])) :: [zAr 240, zAr 240, zAr 240, zAr 240, zAr 240]) ++ ((0, (0, zrl [some 144, none, none, none])) :: [(21, (16, fun _ => none))]))
def zW9 : List zSc := [zAr 480, zAr 2400, zAr 61, zAr 61, zAr 61, zAr 61, zAr 30, zAr 4097, zAr 40]
def zP8 : List (Nat × (Int × List (Option Nat))) := (zShL.drop 1).take 134 ++ [(0, (0, [some 144, none, none, none])), (21, (16, []))]
set_option maxRecDepth 20000 in
set_option maxHeartbeats 2000000 in
theorem zW8_tr : zW8 = zP8.map zTr := by
  unfold zW8 zWk
  rw [zTx_tr, zAr_tr]
  rfl
theorem zW9_tr : zW9 = ((zShL.drop 138).take 9).map zTr := by
  unfold zW9
  rw [zAr_tr]
  rfl
theorem zP8_get : ∀ i, i < 136 → i ≠ 134 → zP8[i]? = zShL[i + 1]? := by
  have h : ∀ i, i < 136 → (i = 134 ∨ zP8[i]? = zShL[i + 1]?) := by decide +kernel
  exact fun i hi h4 => (h i hi).resolve_left h4
theorem zShL_some : ∀ i, i < 147 → (zShL[i]?).isSome = true := by decide +kernel
theorem zW8_get {i : Nat} (hi : i < 136) (h4 : i ≠ 134) : zW8[i]? = some (zShF (9 + i)) := by
  have h1 := zShL_some (i + 1) (by omega)
  obtain ⟨p, hp⟩ := Option.isSome_iff_exists.mp h1
  rw [zW8_tr, List.getElem?_map, zP8_get i hi h4, hp, zShF_tr (r := 9 + i) (p := p) (by rw [show 9 + i - 8 = i + 1 by omega, hp])]
  rfl
theorem zW9_get {i : Nat} (hi : i < 9) : zW9[i]? = some (zShF (146 + i)) := by
  have h1 := zShL_some (i + 138) (by omega)
  obtain ⟨p, hp⟩ := Option.isSome_iff_exists.mp h1
  rw [zW9_tr, List.getElem?_map, List.getElem?_take, if_pos hi, List.getElem?_drop, show 138 + i = i + 138 by omega, hp, zShF_tr (r := 146 + i) (p := p) (by rw [show 146 + i - 8 = i + 138 by omega, hp])]
  rfl
theorem zRel_zero {L : Nat} {xs : Nat → Int32} {S : zSh} {c : zC} {sl : Nat} (hS : zSok S) (hlo : ∀ r, r < 8 → S r = zS0 L r) (hlc : ∀ r, r < 8 → c r = zct xs r) (h0 : ∀ r k, 8 ≤ r → c r k = 0) (h143 : S 143 = zTr (0, (0, [some 144, none, none, none]))) (h144 : S 144 = zTr (21, (16, []))) (hs : sl ≤ 50000) : zRel L xs 0 ((155, sl), (S, c)) := by
  have hz : ∀ q v, 8 ≤ q → (∀ j, v j = 0) → zRep c q v := fun q v hq hv => by
    refine ⟨⟨?_, ?_, ?_, ?_⟩, fun p p1 p2 => ?_, fun p p1 p2 => ?_, fun p p1 p2 => ?_, fun p p1 p2 => ?_⟩
    · rw [h0 _ _ (by omega), hv]
    · rw [h0 _ _ (by omega), hv]
    · rw [h0 _ _ (by omega), hv]
    · rw [h0 _ _ (by omega), hv]
    · rw [hv] at p2; omega
    · rw [hv] at p2; omega
    · rw [hv] at p2; omega
    · rw [hv] at p2; omega
  have hi : ∀ v : Int → Int, (∀ j, v j = 0) → zInv (60 * 0) v := fun v hv => by
    refine ⟨⟨?_, ?_, ?_, ?_⟩, fun p p1 p2 => ?_, fun p p1 p2 => ?_, fun p p1 p2 => ?_, fun p p1 p2 => ?_, fun p p1 p2 => ?_, fun i j i1 i2 i3 => ?_⟩
    · rw [hv]; omega
    · rw [hv]; omega
    · rw [hv]; omega
    · rw [hv]; omega
    · rw [hv] at p2; omega
    · rw [hv]; omega
    · rw [hv] at p2; omega
    · rw [hv] at p2; omega
    · rw [hv] at p2; omega
    · rw [hv] at i3; omega
  have hlw : zLow S c := by
    unfold zLow
    rw [hlo 1 (by decide), hlo 2 (by decide), hlo 3 (by decide), hlo 4 (by decide), hlo 5 (by decide), hlo 6 (by decide), hlc 2 (by decide), hlc 4 (by decide), hlc 5 (by decide), hlc 6 (by decide)]
    exact ⟨⟨rfl, rfl⟩, ⟨rfl, rfl, rfl, rfl⟩, ⟨rfl, rfl⟩, ⟨rfl, rfl, rfl, rfl⟩, ⟨rfl, rfl, fun k => rfl⟩, ⟨rfl, rfl, fun k => rfl⟩⟩
  have hB : zBd c := fun r k hr => by
    rw [h0 r k hr]
    omega
  have hsb : zSB S c 155 sl L [] 144 16 := by
    refine ⟨⟨hS, hlw, hB⟩, ⟨by rw [h143]; rfl, by rw [h143]; rfl, h0 _ _ (by decide), h0 _ _ (by decide)⟩, by decide, ⟨by rw [h144]; rfl, by rw [h144]; rfl, fun k x h => by simp at h⟩, Or.inl ⟨rfl, rfl, rfl, hs⟩, by rw [hlo 0 (by decide)]; rfl, by rw [hlo 0 (by decide)]; rfl⟩
  have hcw : ∀ j : Nat, j < 5 → zCnW c (31 + 20 * j) := fun j hj => by
    unfold zCnW
    rw [h0 _ _ (by omega), h0 _ _ (by omega), h0 _ _ (by omega), h0 _ _ (by omega)]
    omega
  have hco : zCore 0 c := by
    refine ⟨hz 9 _ (by decide) (fun j => h0 _ _ (by decide)), hi _ (fun j => h0 _ _ (by decide)), ⟨?_, ?_, ?_⟩, fun j hj => ?_, hcw⟩
    · rw [h0 _ _ (by decide)]
      omega
    · rw [h0 _ _ (by decide)]
      omega
    · rw [h0 _ _ (by decide), h0 _ _ (by decide)]
    · rw [h0 _ _ (by decide)] at hj
      omega
  refine ⟨⟨[], 144, 16, hsb⟩, fun j => ?_, hco⟩
  show c 0 j = _
  rw [hlc 0 (by decide)]
  rfl
set_option maxRecDepth 10000 in
set_option maxHeartbeats 2000000 in
theorem zlaw_run {L : Nat} {xs : Nat → Int32} (hL : L ≤ 2560) : zE 14 138 0 (zent 138 [zA 0]) [] (zm0 xs L) (fun r μ' => r = some (zI 1) ∧ ∃ k', zRel L xs k' μ') := by
  show zE 14 138 0 [some (zA 0), none, none, none] [] ((8, 0), (zS0 L, zct xs)) _
  refine zr_new (ci := 9) I138_0 N10_7 ?_
  refine zr_dup I138_3 ?_
  refine zr_callI I138_4 C10_9 ⟨rfl, rfl⟩ ⟨rfl, Nat.le_of_ble_eq_true rfl⟩ (Or.inl rfl) (k_X8_init (d := 9) (zCb_new (m := 5) rfl)) (fun v μ hv => ?_)
  obtain ⟨n8, s8, S8, c8, rfl, rfl, e8, K8⟩ := hv
  dsimp only [Option.toList, List.cons_append, List.nil_append]
  refine zl_ast1 I138_7 ?_
  have m8 := K8.1.1
  have z8 : n8 = 145 := by
    rw [m8]
    rfl
  subst z8
  refine zr_new (ci := 10) I138_8 N10_10 ?_
  refine zr_dup I138_11 ?_
  refine zr_callI I138_12 C10_12 ⟨rfl, rfl⟩ ⟨rfl, Nat.le_of_ble_eq_true rfl⟩ (Or.inl rfl) (k_X9_init (d := 12) (zCb_new (m := 12) rfl)) (fun v μ hv => ?_)
  obtain ⟨n9, s9, S9, c9, rfl, rfl, e9, K9⟩ := hv
  dsimp only [Option.toList, List.cons_append, List.nil_append]
  refine zl_ast2 I138_15 ?_
  have m9 := K9.1.1
  have z9 : n9 = 155 := by
    rw [m9]
    rfl
  subst z9
  refine zr_iconst I138_16 ?_
  refine zl_ist3 I138_17 ?_
  refine zlaw_loop hL 0 (by omega) 0 _ (by omega) (by omega) ?_
  obtain ⟨-, k2, k3, k4, k5, k6⟩ := K8
  obtain ⟨-, j2, j3, j4, j5, j6⟩ := K9
  have g8 : ∀ (i : Nat) (s : zSc), zW8[i]? = some s → S8 (9 + i) = s := k4
  have g9 : ∀ (i : Nat) (s : zSc), zW9[i]? = some s → S9 (146 + i) = s := j4
  have fS : ∀ r, r < 145 → S9 r = S8 r := fun r hr => by
    rw [j2 r (by omega) (by omega), zsup_ne (by omega)]
  have lowS : ∀ r, r < 8 → S9 r = zS0 L r := fun r hr => by
    rw [fS r (by omega), k2 r (by omega) (by omega), zsup_ne (by omega)]
  have lowC : ∀ r, r < 8 → c9 r = zct xs r := fun r hr => by
    rw [j5 r (by omega), zfr_ne (by omega), k5 r (by omega), zfr_ne (by omega)]
  have zc : ∀ r k, 8 ≤ r → zct xs r k = 0 := fun r k hr => by
    unfold zct
    split <;> first | rfl | omega
  have z8 : ∀ r k, 8 ≤ r → c8 r k = 0 := fun r k hr => by
    by_cases e : r = 8
    · rw [e, k5 8 (by decide), zfr_eq]
    · refine k6 r k (by omega) (Or.inr ?_)
      rw [zfr_ne e]
      exact zc r k hr
  have z9 : ∀ r k, 8 ≤ r → c9 r k = 0 := fun r k hr => by
    by_cases e : r = 145
    · rw [e, j5 145 (by decide), zfr_eq]
    · have h1 : zfr c8 145 r k = 0 := by
        rw [zfr_ne e]
        exact z8 r k hr
      by_cases e2 : r < 146
      · rw [j5 r e2, h1]
      · exact j6 r k (by omega) (Or.inr h1)
  refine zRel_zero (fun r r1 r2 r3 => ?_) lowS lowC z9 ?_ ?_ ?_
  · by_cases e8 : r = 8
    · rw [e8, fS 8 (by decide), k3]
      exact (zShF_tr (r := 8) rfl).symm
    · by_cases e145 : r = 145
      · rw [e145, j3]
        exact (zShF_tr (r := 145) rfl).symm
      · by_cases e : r < 145
        · rw [fS r e]
          have h9 := g8 (r - 9) _ (zW8_get (by omega) (by omega))
          rw [show 9 + (r - 9) = r by omega] at h9
          exact h9
        · have h9 := g9 (r - 146) _ (zW9_get (by omega))
          rw [show 146 + (r - 146) = r by omega] at h9
          exact h9
  · rw [fS 143 (by decide)]
    exact g8 134 _ rfl
  · rw [fS 144 (by decide)]
    refine g8 135 _ ?_
    rw [zW8_tr]
    rfl
  · have f9 : znf 9 = 5 := rfl
    have f10 : znf 10 = 12 := rfl
    omega
theorem zlaw : zLaw := by
  intro L xs hL
  obtain ⟨f, r, μ', h1, rfl, k', hr⟩ := zlaw_run (xs := xs) hL
  refine ⟨f, μ', h1, ?_⟩
  obtain ⟨⟨l, bq, N, -, -, -, -, h5, -⟩, -⟩ := hr
  omega
