/-! the model: item, left, onAir, items, owed -/
def zLvM (c : zC) (r : Int) : Int := zLfl (zTM c) (zPlM c) (zMk c (zAl (c 146) (c 146 3).toNat)) r
def zUvM (c : zC) (k : Nat) : Int := zUsl (zTM c) (zPlM c) (zMk c (zAl (c 146) (c 146 3).toNat)) k (if c 146 (10 + 4 * (zIt (c 146) k).1) = 2 then -9 else (zIt (c 146) k).1, (zIt (c 146) k).2)
theorem zAl_at {v : Int → Int} {n k : Nat} (h : k < n) : (zAl v n)[k]? = some (zIt v k) := by
  unfold zAl
  rw [List.getElem?_map, List.getElem?_range h]
  rfl
set_option maxRecDepth 10000 in
set_option maxHeartbeats 2000000 in
theorem e_X9_leftOf {d n sl : Nat} {S : zSh} {c : zC} (hS : zSok S) (hB : zBd c) (hc : 0 ≤ c 146 3 ∧ c 146 3 ≤ 60) (hit : ∀ i, 0 ≤ i → i < c 146 3 → 0 ≤ c 146 (230 + 4 * i + 0) ∧ c 146 (230 + 4 * i + 0) < 16 ∧ 0 ≤ c 146 (230 + 4 * i + 1) ∧ c 146 (230 + 4 * i + 1) ≤ 20000 ∧ 0 ≤ c 146 (230 + 4 * i + 2) ∧ c 146 (230 + 4 * i + 2) ≤ 20000) (hr : 0 ≤ c 146 2 ∧ c 146 2 ≤ 30) (hpl : ∀ r, 0 ≤ r → r < c 146 2 → 0 ≤ c 146 (110 + 4 * r + 3) ∧ c 146 (110 + 4 * r + 3) ≤ 50 ∧ 0 ≤ c 146 (110 + 4 * r)) {k9 : Int} (hk : 0 ≤ k9 ∧ k9 < c 146 2) : zE (d + 2) 122 0 (zent 122 [zA 145, zI k9]) [] ((n, sl), (S, c)) (fun r μ' => ∃ (x : Int) (c' : zC), r = some (zI x) ∧ μ' = ((n, sl), (S, c')) ∧ x = zLvM c k9 ∧ zFm c c' ∧ zBd c') := by
  show zE (d + 2) 122 0 [some (zA 145), some (zI k9)] [] ((n, sl), (S, c)) _
  refine zl_ald0 I122_0 ?_
  refine zr_callV I122_1 C9_80 ⟨rfl, rfl⟩ ⟨rfl, Nat.le_of_ble_eq_true rfl⟩ (Or.inl ⟨rfl, sT145 hS⟩) (e_X9_listsAll hS hB hc) (fun v1 μ1 hv1 => ?_)
  obtain ⟨c1, rfl, rfl, hc1⟩ := hv1
  dsimp only [Option.toList, List.cons_append, List.nil_append]
  refine zl_ald0 I122_4 ?_
  obtain ⟨la1, la2, la3, la4⟩ := hc1
  have hrep : zRepM c1 (zAl (c 146) (c 146 3).toNat) := by
    refine ⟨by rw [la1]; unfold zAl; simp; omega, fun k x hx => ?_⟩
    obtain ⟨k1, rfl⟩ := zAl_get hx
    obtain ⟨l1, l2, l3⟩ := la2 k (by omega) (by omega)
    unfold zIt
    exact ⟨l1, l2, by rw [l3]; dsimp only; omega⟩
  have k0 := hrep.1
  have e146 := la3.1 146 (by omega)
  have hep : ∀ k, 0 ≤ k → k < c1 145 8 → 0 ≤ c1 148 k ∧ c1 148 k < 16 := fun k k1 k2 => by
    have := la2 k k1 (by omega)
    have := hit k k1 (by omega)
    omega
  have eT : zTM c1 = zTM c := by unfold zTM; rw [e146]
  have eP : zPlM c1 = zPlM c := by unfold zPlM; rw [e146]
  have eM : ∀ l, zMk c1 l = zMk c l := fun l => by unfold zMk; rw [e146]
  refine zr_callV I122_5 C9_67 ⟨rfl, rfl⟩ ⟨rfl, Nat.le_of_ble_eq_true rfl⟩ (Or.inl ⟨rfl, sT145 hS⟩) (e_X9_gives hS la4 (by rw [e146]; exact hr) (by omega) hep (by rw [e146]; exact hpl)) (fun v5 μ5 hv5 => ?_)
  obtain ⟨c5, rfl, rfl, hc5⟩ := hv5
  dsimp only [Option.toList, List.cons_append, List.nil_append]
  refine zl_ald0 I122_8 ?_
  have hB5 := hc5.2.1
  refine zr_getr (j := 7) I122_9 F9_28 rfl (sT145 hS) (sR145_7 hS) ?_
  refine zl_ild1 I122_12 ?_
  refine zr_iaB hB5 (by decide) I122_13 (sT152 hS) (sN152 hS) (by omega) (fun b13 => ?_)
  refine zr_iret I122_14 rfl ?_
  have hv := hc5.2.2.2 k9 (by omega) (by rw [e146]; omega)
  rw [show (c1 145 8).toNat = (zAl (c 146) (c 146 3).toNat).length by omega, zLM_l hrep _ (Nat.le_refl _), List.take_of_length_le (by unfold zMk; rw [List.length_map]; exact Nat.le_refl _), eT, eP, eM] at hv
  have hfm5 : zFm c c5 := ⟨fun q hq => by rw [hc5.1 q (by omega) (by omega)]; exact la3.1 q hq, fun k hk => by rw [hc5.1 145 (by decide) (by decide)]; exact la3.2 k hk⟩
  exact ⟨_, _, rfl, rfl, hv, hfm5, hc5.2.1⟩
set_option maxRecDepth 10000 in
set_option maxHeartbeats 2000000 in
theorem e_X9_left {d n sl : Nat} {S : zSh} {c : zC} (hS : zSok S) (hB : zBd c) (hc : 0 ≤ c 146 3 ∧ c 146 3 ≤ 60) (hit : ∀ i, 0 ≤ i → i < c 146 3 → 0 ≤ c 146 (230 + 4 * i + 0) ∧ c 146 (230 + 4 * i + 0) < 16 ∧ 0 ≤ c 146 (230 + 4 * i + 1) ∧ c 146 (230 + 4 * i + 1) ≤ 20000 ∧ 0 ≤ c 146 (230 + 4 * i + 2) ∧ c 146 (230 + 4 * i + 2) ≤ 20000) (hr : 0 ≤ c 146 2 ∧ c 146 2 ≤ 30) (hpl : ∀ r, 0 ≤ r → r < c 146 2 → 0 ≤ c 146 (110 + 4 * r + 3) ∧ c 146 (110 + 4 * r + 3) ≤ 50 ∧ 0 ≤ c 146 (110 + 4 * r)) {k9 : Int} : zE (d + 3) 123 0 (zent 123 [zA 145, zI k9]) [] ((n, sl), (S, c)) (fun r μ' => ∃ (x : Int) (c' : zC), r = some (zI x) ∧ μ' = ((n, sl), (S, c')) ∧ ((¬ (0 ≤ k9 ∧ k9 ≤ c 146 2 - 1) ∧ x = -1 ∧ c' = c) ∨ ((0 ≤ k9 ∧ k9 ≤ c 146 2 - 1) ∧ x = zLvM c k9 ∧ zFm c c' ∧ zBd c'))) := by
  show zE (d + 3) 123 0 [some (zA 145), some (zI k9)] [] ((n, sl), (S, c)) _
  refine zl_ild1 I123_0 ?_
  refine zr_iconst I123_1 ?_
  refine zl_ald0 I123_2 ?_
  refine zr_getr (j := 0) I123_3 F9_7 rfl (sT145 hS) (sR145_0 hS) ?_
  refine zr_iconst I123_6 ?_
  refine zr_iaB hB (by decide) I123_7 (sT146 hS) (sN146 hS) (by omega) (fun b7 => ?_)
  refine zr_iconst I123_8 ?_
  refine zr_isub I123_9 (by unfold zInR; omega) ?_
  refine zr_callS I123_10 C9_41 ⟨rfl, rfl⟩ ⟨by simp, rfl, Nat.le_of_ble_eq_true rfl⟩ (e_X9_in ) (fun v10 μ10 hv10 => ?_)
  obtain ⟨x10, rfl, hx10, rfl⟩ := hv10
  dsimp only [Option.toList, List.cons_append, List.nil_append]
  unfold zTf at hx10
  refine zr_if_eq (t := 24) I123_13 rfl (fun h13 => ?_) (fun h13 => ?_)
  · refine zr_iconst I123_24 ?_
    refine zr_iret I123_25 rfl ?_
    exact ⟨_, _, rfl, rfl, Or.inl ⟨by omega, rfl, rfl⟩⟩
  · refine zl_ald0 I123_16 ?_
    refine zl_ild1 I123_17 ?_
    refine zr_callV I123_18 C9_129 ⟨rfl, rfl⟩ ⟨rfl, Nat.le_of_ble_eq_true rfl⟩ (Or.inl ⟨rfl, sT145 hS⟩) (e_X9_leftOf hS hB hc hit hr hpl (by omega)) (fun v18 μ18 hv18 => ?_)
    obtain ⟨x18, c18, rfl, rfl, hv18⟩ := hv18
    dsimp only [Option.toList, List.cons_append, List.nil_append]
    refine zr_goto (t := 25) I123_21 rfl ?_
    refine zr_iret I123_25 rfl ?_
    exact ⟨_, _, rfl, rfl, Or.inr ⟨by omega, hv18⟩⟩
set_option maxRecDepth 10000 in
set_option maxHeartbeats 2000000 in
theorem e_X9_told {d n sl : Nat} {S : zSh} {c : zC} (hS : zSok S) (hB : zBd c) (hc : 0 ≤ c 146 3 ∧ c 146 3 ≤ 60) (hit : ∀ i, 0 ≤ i → i < c 146 3 → 0 ≤ c 146 (230 + 4 * i + 0) ∧ c 146 (230 + 4 * i + 0) < 16 ∧ 0 ≤ c 146 (230 + 4 * i + 1) ∧ c 146 (230 + 4 * i + 1) ≤ 20000 ∧ 0 ≤ c 146 (230 + 4 * i + 2) ∧ c 146 (230 + 4 * i + 2) ≤ 20000) (hr : 0 ≤ c 146 2 ∧ c 146 2 ≤ 30) (hpl : ∀ r, 0 ≤ r → r < c 146 2 → 0 ≤ c 146 (110 + 4 * r + 3) ∧ c 146 (110 + 4 * r + 3) ≤ 50 ∧ 0 ≤ c 146 (110 + 4 * r)) {k9 w9 : Int} (hk : 0 ≤ k9 ∧ k9 < c 146 3) (hw : 0 ≤ w9 ∧ w9 ≤ 4) : zE (d + 2) 118 0 (zent 118 [zA 145, zI k9, zI w9]) [] ((n, sl), (S, c)) (fun r μ' => ∃ (x : Int) (c' : zC), r = some (zI x) ∧ μ' = ((n, sl), (S, c')) ∧ x = (if w9 < 4 then c 146 (230 + 4 * k9 + w9) else zUvM c k9.toNat) ∧ zFm c c' ∧ zBd c') := by
  show zE (d + 2) 118 0 [some (zA 145), some (zI k9), some (zI w9)] [] ((n, sl), (S, c)) _
  refine zl_ild2 I118_0 ?_
  refine zr_iconst I118_1 ?_
  refine zr_ic_ge (t := 12) I118_2 rfl (fun h2 => ?_) (fun h2 => ?_)
  · refine zl_ald0 I118_12 ?_
    refine zr_callV I118_13 C9_80 ⟨rfl, rfl⟩ ⟨rfl, Nat.le_of_ble_eq_true rfl⟩ (Or.inl ⟨rfl, sT145 hS⟩) (e_X9_listsAll hS hB hc) (fun v13 μ13 hv13 => ?_)
    obtain ⟨c13, rfl, rfl, hc13⟩ := hv13
    dsimp only [Option.toList, List.cons_append, List.nil_append]
    refine zl_ald0 I118_16 ?_
    obtain ⟨la1, la2, la3, la4⟩ := hc13
    have hrep : zRepM c13 (zAl (c 146) (c 146 3).toNat) := by
      refine ⟨by rw [la1]; unfold zAl; simp; omega, fun k x hx => ?_⟩
      obtain ⟨k1, rfl⟩ := zAl_get hx
      obtain ⟨l1, l2, l3⟩ := la2 k (by omega) (by omega)
      unfold zIt
      exact ⟨l1, l2, by rw [l3]; dsimp only; omega⟩
    have k0 := hrep.1
    have e146 := la3.1 146 (by omega)
    have hep : ∀ k, 0 ≤ k → k < c13 145 8 → 0 ≤ c13 148 k ∧ c13 148 k < 16 := fun k k1 k2 => by
      have := la2 k k1 (by omega)
      have := hit k k1 (by omega)
      omega
    have eT : zTM c13 = zTM c := by unfold zTM; rw [e146]
    have eP : zPlM c13 = zPlM c := by unfold zPlM; rw [e146]
    have eM : ∀ l, zMk c13 l = zMk c l := fun l => by unfold zMk; rw [e146]
    refine zr_callV I118_17 C9_67 ⟨rfl, rfl⟩ ⟨rfl, Nat.le_of_ble_eq_true rfl⟩ (Or.inl ⟨rfl, sT145 hS⟩) (e_X9_gives hS la4 (by rw [e146]; exact hr) (by omega) hep (by rw [e146]; exact hpl)) (fun v17 μ17 hv17 => ?_)
    obtain ⟨c17, rfl, rfl, hc17⟩ := hv17
    dsimp only [Option.toList, List.cons_append, List.nil_append]
    refine zl_ald0 I118_20 ?_
    have hB5 := hc17.2.1
    refine zr_getr (j := 6) I118_21 F9_25 rfl (sT145 hS) (sR145_6 hS) ?_
    refine zl_ild1 I118_24 ?_
    refine zr_iaB hB5 (by decide) I118_25 (sT151 hS) (sN151 hS) (by omega) (fun b25 => ?_)
    refine zr_iret I118_26 rfl ?_
    have hx : (zAl (c 146) (c 146 3).toNat)[k9.toNat]? = some (zIt (c 146) k9.toNat) := zAl_at (by omega)
    have hv := hc17.2.2.1 k9 (by omega) (by omega)
    rw [zUM_l hrep hx, eT, eP, eM, e146] at hv
    have hfm5 : zFm c c17 := ⟨fun q hq => by rw [hc17.1 q (by omega) (by omega)]; exact la3.1 q hq, fun k hk => by rw [hc17.1 145 (by decide) (by decide)]; exact la3.2 k hk⟩
    exact ⟨_, _, rfl, rfl, by rw [if_neg (by omega)]; exact hv, hfm5, hc17.2.1⟩
  · refine zl_ald0 I118_5 ?_
    refine zl_ild1 I118_6 ?_
    refine zl_ild2 I118_7 ?_
    refine zr_callV I118_8 C9_45 ⟨rfl, rfl⟩ ⟨rfl, Nat.le_of_ble_eq_true rfl⟩ (Or.inl ⟨rfl, sT145 hS⟩) (e_X9_of hS hB (by omega) (by omega)) (fun v8 μ8 hv8 => ?_)
    obtain ⟨rfl, rfl⟩ := hv8
    dsimp only [Option.toList, List.cons_append, List.nil_append]
    refine zr_iret I118_11 rfl ?_
    exact ⟨_, _, rfl, rfl, by rw [if_pos (by omega)], zFm.rf, hB⟩
set_option maxRecDepth 10000 in
set_option maxHeartbeats 2000000 in
theorem e_X9_item {d n sl : Nat} {S : zSh} {c : zC} (hS : zSok S) (hB : zBd c) (hc : 0 ≤ c 146 3 ∧ c 146 3 ≤ 60) (hit : ∀ i, 0 ≤ i → i < c 146 3 → 0 ≤ c 146 (230 + 4 * i + 0) ∧ c 146 (230 + 4 * i + 0) < 16 ∧ 0 ≤ c 146 (230 + 4 * i + 1) ∧ c 146 (230 + 4 * i + 1) ≤ 20000 ∧ 0 ≤ c 146 (230 + 4 * i + 2) ∧ c 146 (230 + 4 * i + 2) ≤ 20000) (hr : 0 ≤ c 146 2 ∧ c 146 2 ≤ 30) (hpl : ∀ r, 0 ≤ r → r < c 146 2 → 0 ≤ c 146 (110 + 4 * r + 3) ∧ c 146 (110 + 4 * r + 3) ≤ 50 ∧ 0 ≤ c 146 (110 + 4 * r)) {k9 w9 : Int} : zE (d + 3) 119 0 (zent 119 [zA 145, zI k9, zI w9]) [] ((n, sl), (S, c)) (fun r μ' => ∃ (x : Int) (c' : zC), r = some (zI x) ∧ μ' = ((n, sl), (S, c')) ∧ ((¬ ((0 ≤ k9 ∧ k9 < c 146 3) ∧ (0 ≤ w9 ∧ w9 ≤ 4)) ∧ x = -1 ∧ c' = c) ∨ (((0 ≤ k9 ∧ k9 < c 146 3) ∧ (0 ≤ w9 ∧ w9 ≤ 4)) ∧ x = (if w9 < 4 then c 146 (230 + 4 * k9 + w9) else zUvM c k9.toNat) ∧ zFm c c' ∧ zBd c'))) := by
  show zE (d + 3) 119 0 [some (zA 145), some (zI k9), some (zI w9)] [] ((n, sl), (S, c)) _
  refine zl_ald0 I119_0 ?_
  refine zl_ild1 I119_1 ?_
  refine zr_callV I119_2 C9_100 ⟨rfl, rfl⟩ ⟨rfl, Nat.le_of_ble_eq_true rfl⟩ (Or.inl ⟨rfl, sT145 hS⟩) (e_X9_isItem hS hB) (fun v2 μ2 hv2 => ?_)
  obtain ⟨x2, rfl, hx2, rfl⟩ := hv2
  dsimp only [Option.toList, List.cons_append, List.nil_append]
  unfold zTf at hx2
  refine zr_if_eq (t := 26) I119_5 rfl (fun h5 => ?_) (fun h5 => ?_)
  · refine zr_iconst I119_26 ?_
    refine zr_iret I119_27 rfl ?_
    exact ⟨_, _, rfl, rfl, Or.inl ⟨by omega, rfl, rfl⟩⟩
  · refine zl_ild2 I119_8 ?_
    refine zr_iconst I119_9 ?_
    refine zr_iconst I119_10 ?_
    refine zr_callS I119_11 C9_41 ⟨rfl, rfl⟩ ⟨by simp, rfl, Nat.le_of_ble_eq_true rfl⟩ (e_X9_in ) (fun v11 μ11 hv11 => ?_)
    obtain ⟨x11, rfl, hx11, rfl⟩ := hv11
    dsimp only [Option.toList, List.cons_append, List.nil_append]
    unfold zTf at hx11
    refine zr_if_eq (t := 26) I119_14 rfl (fun h14 => ?_) (fun h14 => ?_)
    · refine zr_iconst I119_26 ?_
      refine zr_iret I119_27 rfl ?_
      exact ⟨_, _, rfl, rfl, Or.inl ⟨by omega, rfl, rfl⟩⟩
    · refine zl_ald0 I119_17 ?_
      refine zl_ild1 I119_18 ?_
      refine zl_ild2 I119_19 ?_
      refine zr_callV I119_20 C9_123 ⟨rfl, rfl⟩ ⟨rfl, Nat.le_of_ble_eq_true rfl⟩ (Or.inl ⟨rfl, sT145 hS⟩) (e_X9_told hS hB hc hit hr hpl (by omega) (by omega)) (fun v20 μ20 hv20 => ?_)
      obtain ⟨x20, c20, rfl, rfl, hv20⟩ := hv20
      dsimp only [Option.toList, List.cons_append, List.nil_append]
      refine zr_goto (t := 27) I119_23 rfl ?_
      refine zr_iret I119_27 rfl ?_
      exact ⟨_, _, rfl, rfl, Or.inr ⟨⟨by omega, by omega⟩, hv20⟩⟩
set_option maxRecDepth 10000 in
set_option maxHeartbeats 2000000 in
theorem e_X9_onAir {d n sl : Nat} {S : zSh} {c : zC} (hS : zSok S) (hB : zBd c) (hc : 0 ≤ c 146 3 ∧ c 146 3 ≤ 60) {t : Int} : zE (d + 3) 121 0 (zent 121 [zA 145, zI t]) [] ((n, sl), (S, c)) (zRp (fun x => (¬ (0 ≤ t ∧ t ≤ 10079) ∧ x = -1) ∨ ((0 ≤ t ∧ t ≤ 10079) ∧ zFst (c 146 3) (fun j => c 146 (230 + 4 * j + 1)) (fun j => c 146 (230 + 4 * j + 2)) t (t + 1) x)) ((n, sl), (S, c))) := by
  show zE (d + 3) 121 0 [some (zA 145), some (zI t)] [] ((n, sl), (S, c)) _
  refine zl_ild1 I121_0 ?_
  refine zr_iconst I121_1 ?_
  refine zr_sipush I121_2 ?_
  refine zr_callS I121_5 C9_41 ⟨rfl, rfl⟩ ⟨by simp, rfl, Nat.le_of_ble_eq_true rfl⟩ (e_X9_in ) (fun v5 μ5 hv5 => ?_)
  obtain ⟨x5, rfl, hx5, rfl⟩ := hv5
  dsimp only [Option.toList, List.cons_append, List.nil_append]
  unfold zTf at hx5
  refine zr_if_eq (t := 19) I121_8 rfl (fun h8 => ?_) (fun h8 => ?_)
  · refine zr_iconst I121_19 ?_
    refine zr_iret I121_20 rfl ?_
    exact ⟨_, rfl, Or.inl ⟨by omega, rfl⟩, rfl⟩
  · refine zl_ald0 I121_11 ?_
    refine zl_ild1 I121_12 ?_
    refine zr_callV I121_13 C9_126 ⟨rfl, rfl⟩ ⟨rfl, Nat.le_of_ble_eq_true rfl⟩ (Or.inl ⟨rfl, sT145 hS⟩) (e_X9_itemAt hS hB hc (by omega)) (fun v13 μ13 hv13 => ?_)
    obtain ⟨x13, rfl, hx13, rfl⟩ := hv13
    dsimp only [Option.toList, List.cons_append, List.nil_append]
    refine zr_goto (t := 20) I121_16 rfl ?_
    refine zr_iret I121_20 rfl ?_
    exact ⟨_, rfl, Or.inr ⟨by omega, hx13⟩, rfl⟩
set_option maxRecDepth 10000 in
set_option maxHeartbeats 2000000 in
theorem e_X9_items {d n sl : Nat} {S : zSh} {c : zC} (hS : zSok S) (hB : zBd c) : zE (d + 0) 117 0 (zent 117 [zA 145]) [] ((n, sl), (S, c)) (zRd (c 146 3) ((n, sl), (S, c))) := by
  show zE (d + 0) 117 0 [some (zA 145)] [] ((n, sl), (S, c)) _
  refine zl_ald0 I117_0 ?_
  refine zr_getr (j := 0) I117_1 F9_7 rfl (sT145 hS) (sR145_0 hS) ?_
  refine zr_iconst I117_4 ?_
  refine zr_iaB hB (by decide) I117_5 (sT146 hS) (sN146 hS) (by omega) (fun b5 => ?_)
  refine zr_iret I117_6 rfl ?_
  exact ⟨rfl, rfl⟩
set_option maxRecDepth 10000 in
set_option maxHeartbeats 2000000 in
theorem e_X9_owed {d n sl : Nat} {S : zSh} {c : zC} (hS : zSok S) (hB : zBd c) (hpn : 0 ≤ c 146 0 ∧ c 146 0 ≤ 16) {p : Int} : zE (d + 2) 125 0 (zent 125 [zA 145, zI p]) [] ((n, sl), (S, c)) (zRp (fun x => (¬ (0 ≤ p ∧ p < c 146 0) ∧ x = -1) ∨ ((0 ≤ p ∧ p < c 146 0) ∧ x = c 146 (10 + 4 * p + 3))) ((n, sl), (S, c))) := by
  show zE (d + 2) 125 0 [some (zA 145), some (zI p)] [] ((n, sl), (S, c)) _
  refine zl_ald0 I125_0 ?_
  refine zl_ild1 I125_1 ?_
  refine zr_callV I125_2 C9_52 ⟨rfl, rfl⟩ ⟨rfl, Nat.le_of_ble_eq_true rfl⟩ (Or.inl ⟨rfl, sT145 hS⟩) (e_X9_isProgramme hS hB) (fun v2 μ2 hv2 => ?_)
  obtain ⟨x2, rfl, hx2, rfl⟩ := hv2
  dsimp only [Option.toList, List.cons_append, List.nil_append]
  unfold zTf at hx2
  refine zr_if_eq (t := 24) I125_5 rfl (fun h5 => ?_) (fun h5 => ?_)
  · refine zr_iconst I125_24 ?_
    refine zr_iret I125_25 rfl ?_
    exact ⟨_, rfl, Or.inl ⟨by omega, rfl⟩, rfl⟩
  · refine zl_ald0 I125_8 ?_
    refine zr_getr (j := 0) I125_9 F9_7 rfl (sT145 hS) (sR145_0 hS) ?_
    refine zr_bipush I125_12 ?_
    refine zr_iconst I125_14 ?_
    refine zl_ild1 I125_15 ?_
    refine zr_imul I125_16 (by unfold zInR; omega) ?_
    refine zr_iadd I125_17 (by unfold zInR; omega) ?_
    refine zr_iconst I125_18 ?_
    refine zr_iadd I125_19 (by unfold zInR; omega) ?_
    refine zr_iaB hB (by decide) I125_20 (sT146 hS) (sN146 hS) (by omega) (fun b20 => ?_)
    refine zr_goto (t := 25) I125_21 rfl ?_
    refine zr_iret I125_25 rfl ?_
    exact ⟨_, rfl, Or.inr ⟨by omega, rfl⟩, rfl⟩
