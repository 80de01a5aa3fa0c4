/-! rights run over a list of entries -/
def zStp (T : zRT) (pl : Int → Int) (x : zEn) : Int → Int := fun r => if r = zBst T pl x.1 x.2.1 x.2.2 T.1 then pl r - 1 else pl r
def zLfl (T : zRT) : (Int → Int) → List zEn → Int → Int
  | pl, [] => pl
  | pl, x :: l => zLfl T (zStp T pl x) l
theorem zLfl_snoc (T : zRT) : ∀ (l : List zEn) (pl : Int → Int) (x : zEn), zLfl T pl (l ++ [x]) = zStp T (zLfl T pl l) x
  | [], _, _ => rfl
  | y :: l, pl, x => zLfl_snoc T l (zStp T pl y) x
def zUsl (T : zRT) (pl : Int → Int) (l : List zEn) (k : Nat) (x : zEn) : Int := zBst T (zLfl T pl (l.take k)) x.1 x.2.1 x.2.2 T.1
def zOkl (T : zRT) (pl : Int → Int) (l : List zEn) : Prop := ∀ (k : Nat) (x : zEn), l[k]? = some x → zUsl T pl l k x ≠ -9
theorem zLf_l {c : zC} {l : List zEn} (T : zRT) (pl : Int → Int) (h : zRepE c l) : ∀ k : Nat, k ≤ l.length → zLf T pl (c 132) (c 133) (c 134) k = zLfl T pl (l.take k)
  | 0, _ => by simp [zLf, zLfl]
  | k + 1, hk => by
    have ih := zLf_l T pl h k (by omega)
    have hlt : k < l.length := by omega
    have hx : l[k]? = some l[k] := List.getElem?_eq_getElem hlt
    obtain ⟨e1, e2, e3⟩ := h.2 k _ hx
    rw [List.take_succ, hx, Option.toList_some, zLfl_snoc, ← ih]
    unfold zStp
    rw [← e1, ← e2, ← e3]
    rfl
theorem zUs_l {c : zC} {l : List zEn} (T : zRT) (pl : Int → Int) (h : zRepE c l) {k : Nat} {x : zEn} (hx : l[k]? = some x) : zUs T pl (c 132) (c 133) (c 134) k = zUsl T pl l k x := by
  obtain ⟨e1, e2, e3⟩ := h.2 k x hx
  unfold zUs zUsl
  rw [zLf_l T pl h k (Nat.le_of_lt (List.getElem?_eq_some_iff.mp hx).1), e1, e2, e3]
theorem zAll_l {c : zC} {l : List zEn} (h : zRepE c l) : zAll c (c 131 0) ↔ zOkl (zTX c) (c 19) l := by
  constructor
  · intro h1 k x hx
    have hlt := (List.getElem?_eq_some_iff.mp hx).1
    rw [← zUs_l (zTX c) (c 19) h hx]
    have h2 := h1 k (by omega) (by rw [h.1]; omega)
    exact h2
  · intro h1 j j1 j2
    have hlt : j.toNat < l.length := by rw [h.1] at j2; omega
    have hx : l[j.toNat]? = some l[j.toNat] := List.getElem?_eq_getElem hlt
    rw [zUs_l (zTX c) (c 19) h hx]
    exact h1 _ _ hx
theorem zRepE_fr {c c' : zC} {l : List zEn} (h : zRepE c l) (hf : ∀ r, 131 ≤ r → r ≤ 134 → c' r = c r) : zRepE c' l := by
  unfold zRepE
  rw [hf 131 (by decide) (by decide), hf 132 (by decide) (by decide), hf 133 (by decide) (by decide), hf 134 (by decide) (by decide)]
  exact h
/-- the items of a programme as entries; all items as entries -/
def zGt (c : zC) (p : Int) : Nat → List zEn
  | 0 => []
  | k + 1 => if c 25 k = p then zInsL (zGt c p k) (p, (c 26 k, c 26 k + c 27 k)) else zGt c p k
def zGs (c : zC) : Nat → List zEn
  | 0 => []
  | k + 1 => zInsL (zGs c k) (if c 11 (c 25 k) = 2 then -9 else c 25 k, (c 26 k, c 26 k + c 27 k))
theorem zSrt_nil : zSrt [] := fun j k a b _ ha => by rw [List.getElem?_nil] at ha; cases ha
theorem zGt_s (c : zC) (p : Int) : ∀ k : Nat, zSrt (zGt c p k) ∧ (zGt c p k).length ≤ k
  | 0 => ⟨zSrt_nil, Nat.le_refl 0⟩
  | k + 1 => by
    have ih := zGt_s c p k
    unfold zGt
    split
    · exact ⟨zSrt_ins ih.1, by rw [zIns_len]; omega⟩
    · exact ⟨ih.1, by omega⟩
theorem zGs_s (c : zC) : ∀ k : Nat, zSrt (zGs c k) ∧ (zGs c k).length = k
  | 0 => ⟨zSrt_nil, rfl⟩
  | k + 1 => by
    have ih := zGs_s c k
    unfold zGs
    exact ⟨zSrt_ins ih.1, by rw [zIns_len]; omega⟩
set_option maxRecDepth 10000 in
set_option maxHeartbeats 2000000 in
theorem e_X8_gather_l {d n sl : Nat} {S : zSh} {c : zC} (hS : zSok S) (hc : 0 ≤ c 24 0 ∧ c 24 0 ≤ 60) (hit : ∀ i, 0 ≤ i → i < c 24 0 → 0 ≤ c 25 i ∧ c 25 i < 16 ∧ 0 ≤ c 26 i ∧ c 26 i ≤ 20000 ∧ 0 ≤ c 27 i ∧ c 27 i ≤ 20000) {p : Int} (hp : 0 ≤ p ∧ p < 16) : ∀ i : Int, i ≤ c 24 0 → ∀ c1 : zC, (0 ≤ i) → (zRepE c1 (zGt c p i.toNat)) → (∀ r, (r < 131 ∨ 134 < r) → c1 r = c r) → (zBd c1) → zE (d + 1) 69 9 [some (zA 8), some (zI p), some (zI i)] [] ((n, sl), (S, c1)) (fun r μ' => ∃ c', r = none ∧ μ' = ((n, sl), (S, c')) ∧ (zRepE c' (zGt c p (c 24 0).toNat) ∧ (∀ r, (r < 131 ∨ 134 < r) → c' r = c r) ∧ zBd c')) := by
  refine zind _ (fun i ih hN => ?_)
  intro c1 h0 hre hfr hBd
  have e24 := hfr 24 (by omega)
  have e25 := hfr 25 (by omega)
  have e26 := hfr 26 (by omega)
  have e27 := hfr 27 (by omega)
  have e11 := hfr 11 (by omega)
  have n24 : c1 24 0 = c 24 0 := by rw [e24]
  have hl9 := (zGt_s c p i.toNat).2
  have hre1 := hre.1
  refine zl_ild2 I69_9 ?_
  refine zl_ald0 I69_10 ?_
  refine zr_getr (j := 0) I69_11 F8_12 rfl (sT8 hS) (sR8_0 hS) ?_
  refine zr_getr (j := 3) I69_14 F8_102 rfl (sT9 hS) (sR9_3 hS) ?_
  refine zr_giB (j := 0) hBd (by decide) I69_17 F8_112 rfl (sT24 hS) (fun b17 => ?_)
  refine zr_ic_ge (t := 76) I69_20 rfl (fun h20 => ?_) (fun h20 => ?_)
  · refine zr_vret I69_76 rfl ?_
    exact ⟨_, rfl, rfl, by rw [show c 24 0 = i by omega]; exact hre, hfr, hBd⟩
  · refine zl_ald0 I69_23 ?_
    refine zr_getr (j := 0) I69_24 F8_12 rfl (sT8 hS) (sR8_0 hS) ?_
    refine zr_getr (j := 3) I69_27 F8_102 rfl (sT9 hS) (sR9_3 hS) ?_
    refine zr_getr (j := 1) I69_30 F8_147 rfl (sT24 hS) (sR24_1 hS) ?_
    refine zl_ild2 I69_33 ?_
    have hit1 := hit i h0 (by omega)
    refine zr_iaB hBd (by decide) I69_34 (sT25 hS) (sN25 hS) (by omega) (fun b34 => ?_)
    rw [e25]
    refine zl_ild1 I69_35 ?_
    refine zr_ic_ne (t := 70) I69_36 rfl (fun h36 => ?_) (fun h36 => ?_)
    · refine zl_iinc2 I69_70 (by unfold zInR; omega) ?_
      refine zr_goto (t := 9) I69_73 rfl ?_
      refine ih _ (by omega) (by omega) _ (by omega) ?_ hfr hBd
      rw [show (i + 1).toNat = i.toNat + 1 by omega]
      unfold zGt
      rw [show ((i.toNat : Nat) : Int) = i by omega, if_neg (by omega)]
      exact hre
    · refine zl_ald0 I69_39 ?_
      refine zr_getr (j := 2) I69_40 F8_26 rfl (sT8 hS) (sR8_2 hS) ?_
      refine zl_ild1 I69_43 ?_
      refine zl_ald0 I69_44 ?_
      refine zr_getr (j := 0) I69_45 F8_12 rfl (sT8 hS) (sR8_0 hS) ?_
      refine zr_getr (j := 3) I69_48 F8_102 rfl (sT9 hS) (sR9_3 hS) ?_
      refine zr_getr (j := 2) I69_51 F8_150 rfl (sT24 hS) (sR24_2 hS) ?_
      refine zl_ild2 I69_54 ?_
      refine zr_iaB hBd (by decide) I69_55 (sT26 hS) (sN26 hS) (by omega) (fun b55 => ?_)
      rw [e26]
      refine zl_ald0 I69_56 ?_
      refine zr_getr (j := 0) I69_57 F8_12 rfl (sT8 hS) (sR8_0 hS) ?_
      refine zr_getr (j := 3) I69_60 F8_102 rfl (sT9 hS) (sR9_3 hS) ?_
      refine zl_ild2 I69_63 ?_
      refine zr_callV I69_64 C8_137 ⟨rfl, rfl⟩ ⟨rfl, Nat.le_of_ble_eq_true rfl⟩ (Or.inl ⟨rfl, sT24 hS⟩) (e_X3_end hS hBd (by omega)) (fun v64 μ64 hv64 => ?_)
      obtain ⟨rfl, rfl⟩ := hv64
      dsimp only [Option.toList, List.cons_append, List.nil_append]
      rw [e26, e27]
      refine zr_callV I69_67 C8_215 ⟨rfl, rfl⟩ ⟨rfl, Nat.le_of_ble_eq_true rfl⟩ (Or.inl ⟨rfl, sT131 hS⟩) (e_X6_add hS hBd (by omega) (by omega) (by omega) (by omega)) (fun v67 μ67 hv67 => ?_)
      obtain ⟨c67, rfl, rfl, hc67⟩ := hv67
      dsimp only [Option.toList, List.cons_append, List.nil_append]
      refine zl_iinc2 I69_70 (by unfold zInR; omega) ?_
      refine zr_goto (t := 9) I69_73 rfl ?_
      have hadd := hc67
      obtain ⟨t9, _, _, _, _, _, _, _, _, hfr2, hBd2⟩ := id hadd
      refine ih _ (by omega) (by omega) _ (by omega) ?_ (fun r hr => by rw [hfr2 r hr]; exact hfr r hr) hBd2
      rw [show (i + 1).toNat = i.toNat + 1 by omega]
      unfold zGt
      rw [show ((i.toNat : Nat) : Int) = i by omega, if_pos (by omega)]
      exact zAdd_rep hadd hre (zGt_s c p _).1
set_option maxRecDepth 10000 in
set_option maxHeartbeats 2000000 in
theorem e_X8_gatherItemsOf {d n sl : Nat} {S : zSh} {c : zC} (hS : zSok S) (hB : zBd c) (hc : 0 ≤ c 24 0 ∧ c 24 0 ≤ 60) (hit : ∀ i, 0 ≤ i → i < c 24 0 → 0 ≤ c 25 i ∧ c 25 i < 16 ∧ 0 ≤ c 26 i ∧ c 26 i ≤ 20000 ∧ 0 ≤ c 27 i ∧ c 27 i ≤ 20000) {p : Int} (hp : 0 ≤ p ∧ p < 16) : zE (d + 1) 69 0 (zent 69 [zA 8, zI p]) [] ((n, sl), (S, c)) (fun r μ' => ∃ c', r = none ∧ μ' = ((n, sl), (S, c')) ∧ (zRepE c' (zGt c p (c 24 0).toNat) ∧ (∀ r, (r < 131 ∨ 134 < r) → c' r = c r) ∧ zBd c')) := by
  show zE (d + 1) 69 0 [some (zA 8), some (zI p), none] [] ((n, sl), (S, c)) _
  refine zl_ald0 I69_0 ?_
  refine zr_getr (j := 2) I69_1 F8_26 rfl (sT8 hS) (sR8_2 hS) ?_
  refine zr_callV I69_4 C8_223 ⟨rfl, rfl⟩ ⟨rfl, Nat.le_of_ble_eq_true rfl⟩ (Or.inl ⟨rfl, sT131 hS⟩) (e_X6_clear hS hB) (fun v4 μ4 hv4 => ?_)
  obtain ⟨c4, rfl, rfl, hc4⟩ := hv4
  dsimp only [Option.toList, List.cons_append, List.nil_append]
  refine zr_iconst I69_7 ?_
  refine zl_ist2 I69_8 ?_
  exact e_X8_gather_l hS hc hit hp 0 (by omega) _ (by omega) ⟨hc4.1, fun k x hx => by cases hx⟩ (fun r hr => hc4.2.1 r (by omega)) hc4.2.2
set_option maxRecDepth 10000 in
set_option maxHeartbeats 2000000 in
theorem e_X8_shareRights_l {d n sl : Nat} {S : zSh} {c : zC} (hS : zSok S) (hc : 0 ≤ c 24 0 ∧ c 24 0 ≤ 60) (hit : ∀ i, 0 ≤ i → i < c 24 0 → 0 ≤ c 25 i ∧ c 25 i < 16 ∧ 0 ≤ c 26 i ∧ c 26 i ≤ 20000 ∧ 0 ≤ c 27 i ∧ c 27 i ≤ 20000) (hr : 0 ≤ c 15 0 ∧ c 15 0 ≤ 30) (hpl : ∀ r, 0 ≤ r → r < c 15 0 → 0 ≤ c 19 r ∧ c 19 r ≤ 50) : ∀ i : Int, i ≤ c 24 0 → ∀ c1 : zC, ∀ w2 : Option zV, (0 ≤ i) → (zRepE c1 (zGs c i.toNat)) → (∀ r, (r < 131 ∨ 134 < r) → c1 r = c r) → (zBd c1) → zE (d + 3) 80 9 [some (zA 8), some (zI i), w2] [] ((n, sl), (S, c1)) (fun r μ' => ∃ c', r = none ∧ μ' = ((n, sl), (S, c')) ∧ ((∀ r, (r < 131 ∨ 136 < r) → c' r = c r) ∧ zBd c' ∧ (∀ (k : Nat) (x : zEn), (zGs c (c 24 0).toNat)[k]? = some x → c' 135 k = zUsl (zTX c) (c 19) (zGs c (c 24 0).toNat) k x) ∧ ∀ r, 0 ≤ r → r < c 15 0 → c' 136 r = zLfl (zTX c) (c 19) (zGs c (c 24 0).toNat) r)) := by
  refine zind _ (fun i ih hN => ?_)
  intro c1 w2 h0 hre hfr hBd
  have e24 := hfr 24 (by omega)
  have e25 := hfr 25 (by omega)
  have e26 := hfr 26 (by omega)
  have e27 := hfr 27 (by omega)
  have e11 := hfr 11 (by omega)
  have n24 : c1 24 0 = c 24 0 := by rw [e24]
  have hl9 := (zGs_s c i.toNat).2
  have hre1 := hre.1
  refine zl_ild1 I80_9 ?_
  refine zl_ald0 I80_10 ?_
  refine zr_getr (j := 0) I80_11 F8_12 rfl (sT8 hS) (sR8_0 hS) ?_
  refine zr_getr (j := 3) I80_14 F8_102 rfl (sT9 hS) (sR9_3 hS) ?_
  refine zr_giB (j := 0) hBd (by decide) I80_17 F8_112 rfl (sT24 hS) (fun b17 => ?_)
  refine zr_ic_ge (t := 87) I80_20 rfl (fun h20 => ?_) (fun h20 => ?_)
  · refine zl_ald0 I80_87 ?_
    refine zr_getr (j := 2) I80_88 F8_26 rfl (sT8 hS) (sR8_2 hS) ?_
    refine zl_ald0 I80_91 ?_
    refine zr_getr (j := 0) I80_92 F8_12 rfl (sT8 hS) (sR8_0 hS) ?_
    refine zr_getr (j := 1) I80_95 F8_73 rfl (sT9 hS) (sR9_1 hS) ?_
    refine zr_callV I80_98 C8_219 ⟨rfl, rfl⟩ ⟨rfl, Nat.le_of_ble_eq_true rfl⟩ (Or.inl ⟨rfl, sT131 hS⟩) (e_X6_share hS hBd (by rw [hfr 15 (by omega)]; exact hr) (by omega) (fun r r1 r2 => by rw [hfr 19 (by omega)]; rw [hfr 15 (by omega)] at r2; exact hpl r r1 r2)) (fun v98 μ98 hv98 => ?_)
    obtain ⟨x98, c98, rfl, rfl, _, hsh⟩ := hv98
    dsimp only [Option.toList, List.cons_append, List.nil_append]
    refine zr_pop I80_101 ?_
    refine zr_vret I80_102 rfl ?_
    obtain ⟨x1, x2, x3, x4⟩ := hsh
    have eT : zTX c1 = zTX c := by
      unfold zTX
      rw [hfr 15 (by omega), hfr 16 (by omega), hfr 17 (by omega), hfr 18 (by omega)]
    have e19 := hfr 19 (by omega)
    have hre9 : zRepE c1 (zGs c (c 24 0).toNat) := by rw [show c 24 0 = i by omega]; exact hre
    refine ⟨_, rfl, rfl, fun r hr => by rw [x1 r (by omega) (by omega)]; exact hfr r (by omega), x2, fun k x hx => ?_, fun r r1 r2 => ?_⟩
    · have hlt := (List.getElem?_eq_some_iff.mp hx).1
      rw [x3 k (by omega) (by rw [hre9.1]; omega), eT, e19]
      exact zUs_l (zTX c) (c 19) hre9 hx
    · rw [x4 r r1 (by rw [hfr 15 (by omega)]; exact r2), eT, e19, zLf_l (zTX c) (c 19) hre9 _ (by have := hre9.1; omega), List.take_of_length_le (by have := hre9.1; omega)]
  · have hit1 := hit i h0 (by omega)
    have n25 : c1 25 i = c 25 i := by rw [e25]
    refine zl_ald0 I80_23 ?_
    refine zl_ild1 I80_24 ?_
    refine zr_callV I80_25 C8_133 ⟨rfl, rfl⟩ ⟨rfl, Nat.le_of_ble_eq_true rfl⟩ (Or.inl ⟨rfl, sT8 hS⟩) (e_X8_kindOf hS hBd (by omega) (by omega)) (fun v25 μ25 hv25 => ?_)
    obtain ⟨rfl, rfl⟩ := hv25
    dsimp only [Option.toList, List.cons_append, List.nil_append]
    rw [e11, e25]
    refine zr_iconst I80_28 ?_
    refine zr_ic_ne (t := 37) I80_29 rfl (fun h29 => ?_) (fun h29 => ?_)
    · refine zl_ald0 I80_37 ?_
      refine zr_getr (j := 0) I80_38 F8_12 rfl (sT8 hS) (sR8_0 hS) ?_
      refine zr_getr (j := 3) I80_41 F8_102 rfl (sT9 hS) (sR9_3 hS) ?_
      refine zr_getr (j := 1) I80_44 F8_147 rfl (sT24 hS) (sR24_1 hS) ?_
      refine zl_ild1 I80_47 ?_
      have hit1 := hit i h0 (by omega)
      refine zr_iaB hBd (by decide) I80_48 (sT25 hS) (sN25 hS) (by omega) (fun b48 => ?_)
      rw [e25]
      refine zl_ist2 I80_49 ?_
      refine zl_ald0 I80_50 ?_
      refine zr_getr (j := 2) I80_51 F8_26 rfl (sT8 hS) (sR8_2 hS) ?_
      refine zl_ild2 I80_54 ?_
      refine zl_ald0 I80_55 ?_
      refine zr_getr (j := 0) I80_56 F8_12 rfl (sT8 hS) (sR8_0 hS) ?_
      refine zr_getr (j := 3) I80_59 F8_102 rfl (sT9 hS) (sR9_3 hS) ?_
      refine zr_getr (j := 2) I80_62 F8_150 rfl (sT24 hS) (sR24_2 hS) ?_
      refine zl_ild1 I80_65 ?_
      refine zr_iaB hBd (by decide) I80_66 (sT26 hS) (sN26 hS) (by omega) (fun b66 => ?_)
      rw [e26]
      refine zl_ald0 I80_67 ?_
      refine zr_getr (j := 0) I80_68 F8_12 rfl (sT8 hS) (sR8_0 hS) ?_
      refine zr_getr (j := 3) I80_71 F8_102 rfl (sT9 hS) (sR9_3 hS) ?_
      refine zl_ild1 I80_74 ?_
      refine zr_callV I80_75 C8_137 ⟨rfl, rfl⟩ ⟨rfl, Nat.le_of_ble_eq_true rfl⟩ (Or.inl ⟨rfl, sT24 hS⟩) (e_X3_end hS hBd (by omega)) (fun v75 μ75 hv75 => ?_)
      obtain ⟨rfl, rfl⟩ := hv75
      dsimp only [Option.toList, List.cons_append, List.nil_append]
      rw [e26, e27]
      refine zr_callV I80_78 C8_215 ⟨rfl, rfl⟩ ⟨rfl, Nat.le_of_ble_eq_true rfl⟩ (Or.inl ⟨rfl, sT131 hS⟩) (e_X6_add hS hBd (by omega) (by omega) (by omega) (by omega)) (fun v78 μ78 hv78 => ?_)
      obtain ⟨c78, rfl, rfl, hc78⟩ := hv78
      dsimp only [Option.toList, List.cons_append, List.nil_append]
      refine zl_iinc1 I80_81 (by unfold zInR; omega) ?_
      refine zr_goto (t := 9) I80_84 rfl ?_
      have hadd := hc78
      obtain ⟨t9, _, _, _, _, _, _, _, _, hfr2, hBd2⟩ := id hadd
      refine ih _ (by omega) (by omega) _ _ (by omega) ?_ (fun r hr => by rw [hfr2 r hr]; exact hfr r hr) hBd2
      rw [show (i + 1).toNat = i.toNat + 1 by omega]
      unfold zGs
      rw [show ((i.toNat : Nat) : Int) = i by omega, if_neg (by omega)]
      exact zAdd_rep hadd hre (zGs_s c _).1
    · refine zr_bipush I80_32 ?_
      refine zr_goto (t := 49) I80_34 rfl ?_
      refine zl_ist2 I80_49 ?_
      refine zl_ald0 I80_50 ?_
      refine zr_getr (j := 2) I80_51 F8_26 rfl (sT8 hS) (sR8_2 hS) ?_
      refine zl_ild2 I80_54 ?_
      refine zl_ald0 I80_55 ?_
      refine zr_getr (j := 0) I80_56 F8_12 rfl (sT8 hS) (sR8_0 hS) ?_
      refine zr_getr (j := 3) I80_59 F8_102 rfl (sT9 hS) (sR9_3 hS) ?_
      refine zr_getr (j := 2) I80_62 F8_150 rfl (sT24 hS) (sR24_2 hS) ?_
      refine zl_ild1 I80_65 ?_
      refine zr_iald I80_66 (sT26 hS) (sN26 hS) (by omega) ?_
      rw [e26]
      refine zl_ald0 I80_67 ?_
      refine zr_getr (j := 0) I80_68 F8_12 rfl (sT8 hS) (sR8_0 hS) ?_
      refine zr_getr (j := 3) I80_71 F8_102 rfl (sT9 hS) (sR9_3 hS) ?_
      refine zl_ild1 I80_74 ?_
      refine zr_callV I80_75 C8_137 ⟨rfl, rfl⟩ ⟨rfl, Nat.le_of_ble_eq_true rfl⟩ (Or.inl ⟨rfl, sT24 hS⟩) (e_X3_end hS hBd (by omega)) (fun v75 μ75 hv75 => ?_)
      obtain ⟨rfl, rfl⟩ := hv75
      dsimp only [Option.toList, List.cons_append, List.nil_append]
      rw [e26, e27]
      refine zr_callV I80_78 C8_215 ⟨rfl, rfl⟩ ⟨rfl, Nat.le_of_ble_eq_true rfl⟩ (Or.inl ⟨rfl, sT131 hS⟩) (e_X6_add hS hBd (by omega) (by omega) (by omega) (by omega)) (fun v78 μ78 hv78 => ?_)
      obtain ⟨c78, rfl, rfl, hc78⟩ := hv78
      dsimp only [Option.toList, List.cons_append, List.nil_append]
      refine zl_iinc1 I80_81 (by unfold zInR; omega) ?_
      refine zr_goto (t := 9) I80_84 rfl ?_
      have hadd := hc78
      obtain ⟨t9, _, _, _, _, _, _, _, _, hfr2, hBd2⟩ := id hadd
      refine ih _ (by omega) (by omega) _ _ (by omega) ?_ (fun r hr => by rw [hfr2 r hr]; exact hfr r hr) hBd2
      rw [show (i + 1).toNat = i.toNat + 1 by omega]
      unfold zGs
      rw [show ((i.toNat : Nat) : Int) = i by omega, if_pos (by omega)]
      exact zAdd_rep hadd hre (zGs_s c _).1
set_option maxRecDepth 10000 in
set_option maxHeartbeats 2000000 in
theorem e_X8_shareRights {d n sl : Nat} {S : zSh} {c : zC} (hS : zSok S) (hB : zBd c) (hc : 0 ≤ c 24 0 ∧ c 24 0 ≤ 60) (hit : ∀ i, 0 ≤ i → i < c 24 0 → 0 ≤ c 25 i ∧ c 25 i < 16 ∧ 0 ≤ c 26 i ∧ c 26 i ≤ 20000 ∧ 0 ≤ c 27 i ∧ c 27 i ≤ 20000) (hr : 0 ≤ c 15 0 ∧ c 15 0 ≤ 30) (hpl : ∀ r, 0 ≤ r → r < c 15 0 → 0 ≤ c 19 r ∧ c 19 r ≤ 50) : zE (d + 3) 80 0 (zent 80 [zA 8]) [] ((n, sl), (S, c)) (fun r μ' => ∃ c', r = none ∧ μ' = ((n, sl), (S, c')) ∧ ((∀ r, (r < 131 ∨ 136 < r) → c' r = c r) ∧ zBd c' ∧ (∀ (k : Nat) (x : zEn), (zGs c (c 24 0).toNat)[k]? = some x → c' 135 k = zUsl (zTX c) (c 19) (zGs c (c 24 0).toNat) k x) ∧ ∀ r, 0 ≤ r → r < c 15 0 → c' 136 r = zLfl (zTX c) (c 19) (zGs c (c 24 0).toNat) r)) := by
  show zE (d + 3) 80 0 [some (zA 8), none, none] [] ((n, sl), (S, c)) _
  refine zl_ald0 I80_0 ?_
  refine zr_getr (j := 2) I80_1 F8_26 rfl (sT8 hS) (sR8_2 hS) ?_
  refine zr_callV I80_4 C8_223 ⟨rfl, rfl⟩ ⟨rfl, Nat.le_of_ble_eq_true rfl⟩ (Or.inl ⟨rfl, sT131 hS⟩) (e_X6_clear hS hB) (fun v4 μ4 hv4 => ?_)
  obtain ⟨c4, rfl, rfl, hc4⟩ := hv4
  dsimp only [Option.toList, List.cons_append, List.nil_append]
  refine zr_iconst I80_7 ?_
  refine zl_ist1 I80_8 ?_
  exact e_X8_shareRights_l hS hc hit hr hpl 0 (by omega) _ _ (by omega) ⟨hc4.1, fun k x hx => by cases hx⟩ (fun r hr => hc4.2.1 r (by omega)) hc4.2.2
set_option maxRecDepth 10000 in
set_option maxHeartbeats 2000000 in
theorem e_X8_rightsAllow {d n sl : Nat} {S : zSh} {c : zC} (hS : zSok S) (hB : zBd c) (hc : 0 ≤ c 24 0 ∧ c 24 0 ≤ 60) (hit : ∀ i, 0 ≤ i → i < c 24 0 → 0 ≤ c 25 i ∧ c 25 i < 16 ∧ 0 ≤ c 26 i ∧ c 26 i ≤ 20000 ∧ 0 ≤ c 27 i ∧ c 27 i ≤ 20000) (hr : 0 ≤ c 15 0 ∧ c 15 0 ≤ 30) (hpl : ∀ r, 0 ≤ r → r < c 15 0 → 0 ≤ c 19 r ∧ c 19 r ≤ 50) {p s e : Int} (hp : 0 ≤ p ∧ p < 16) (hs : 0 ≤ s ∧ s ≤ 20000) (he : 0 ≤ e ∧ e ≤ 20000) : zE (d + 3) 68 0 (zent 68 [zA 8, zI p, zI s, zI e]) [] ((n, sl), (S, c)) (fun r μ' => ∃ (x : Int) (c' : zC), r = some (zI x) ∧ μ' = ((n, sl), (S, c')) ∧ (zTf (c 11 p = 2 ∨ zOkl (zTX c) (c 19) (zInsL (zGt c p (c 24 0).toNat) (p, (s, e)))) x ∧ (∀ r, (r < 131 ∨ 136 < r) → c' r = c r) ∧ zBd c')) := by
  show zE (d + 3) 68 0 [some (zA 8), some (zI p), some (zI s), some (zI e)] [] ((n, sl), (S, c)) _
  refine zl_ald0 I68_0 ?_
  refine zr_getr (j := 0) I68_1 F8_12 rfl (sT8 hS) (sR8_0 hS) ?_
  refine zr_getr (j := 0) I68_4 F8_48 rfl (sT9 hS) (sR9_0 hS) ?_
  refine zr_getr (j := 1) I68_7 F8_209 rfl (sT10 hS) (sR10_1 hS) ?_
  refine zl_ild1 I68_10 ?_
  refine zr_iaB hB (by decide) I68_11 (sT11 hS) (sN11 hS) (by omega) (fun b11 => ?_)
  refine zr_iconst I68_12 ?_
  refine zr_ic_ne (t := 18) I68_13 rfl (fun h13 => ?_) (fun h13 => ?_)
  · refine zl_ald0 I68_18 ?_
    refine zl_ild1 I68_19 ?_
    refine zr_callV I68_20 C8_212 ⟨rfl, rfl⟩ ⟨rfl, Nat.le_of_ble_eq_true rfl⟩ (Or.inl ⟨rfl, sT8 hS⟩) (e_X8_gatherItemsOf hS hB hc hit (by omega)) (fun v20 μ20 hv20 => ?_)
    obtain ⟨c20, rfl, rfl, hc20⟩ := hv20
    dsimp only [Option.toList, List.cons_append, List.nil_append]
    refine zl_ald0 I68_23 ?_
    have gl := (zGt_s c p (c 24 0).toNat).2
    have gr1 := hc20.1.1
    refine zr_getr (j := 2) I68_24 F8_26 rfl (sT8 hS) (sR8_2 hS) ?_
    refine zl_ild1 I68_27 ?_
    refine zl_ild2 I68_28 ?_
    refine zl_ild3 I68_29 ?_
    refine zr_callV I68_30 C8_215 ⟨rfl, rfl⟩ ⟨rfl, Nat.le_of_ble_eq_true rfl⟩ (Or.inl ⟨rfl, sT131 hS⟩) (e_X6_add hS hc20.2.2 (by omega) (by omega) (by omega) (by omega)) (fun v30 μ30 hv30 => ?_)
    obtain ⟨c30, rfl, rfl, hc30⟩ := hv30
    dsimp only [Option.toList, List.cons_append, List.nil_append]
    refine zl_ald0 I68_33 ?_
    refine zr_getr (j := 2) I68_34 F8_26 rfl (sT8 hS) (sR8_2 hS) ?_
    refine zl_ald0 I68_37 ?_
    refine zr_getr (j := 0) I68_38 F8_12 rfl (sT8 hS) (sR8_0 hS) ?_
    obtain ⟨t8, _, k2, _, _, k5, _, _, _, hfr9, hBd9⟩ := id hc30
    have hf4 : ∀ r, (r < 131 ∨ 134 < r) → c30 r = c r := fun r hr => by rw [hfr9 r hr]; exact hc20.2.1 r hr
    refine zr_getr (j := 1) I68_41 F8_73 rfl (sT9 hS) (sR9_1 hS) ?_
    refine zr_callV I68_44 C8_219 ⟨rfl, rfl⟩ ⟨rfl, Nat.le_of_ble_eq_true rfl⟩ (Or.inl ⟨rfl, sT131 hS⟩) (e_X6_share hS hBd9 (by rw [hf4 15 (by omega)]; exact hr) (by omega) (fun r r1 r2 => by rw [hf4 19 (by omega)]; rw [hf4 15 (by omega)] at r2; exact hpl r r1 r2)) (fun v44 μ44 hv44 => ?_)
    obtain ⟨x44, c44, rfl, rfl, hsh⟩ := hv44
    dsimp only [Option.toList, List.cons_append, List.nil_append]
    refine zr_zret I68_47 rfl (by rcases hsh.1 with h | h <;> omega) ?_
    obtain ⟨gr, gf, gB⟩ := hc20
    obtain ⟨t9, _, _, _, _, _, _, _, _, hfr2, hBd2⟩ := id hc30
    have hf3 : ∀ r, (r < 131 ∨ 134 < r) → c30 r = c r := fun r hr => by rw [hfr2 r hr]; exact gf r hr
    have eT : zTX c30 = zTX c := by
      unfold zTX
      rw [hf3 15 (by omega), hf3 16 (by omega), hf3 17 (by omega), hf3 18 (by omega)]
    have e19 := hf3 19 (by omega)
    have hrep := zAdd_rep hc30 gr (zGt_s c p _).1
    have hal := zAll_l hrep
    rw [eT, e19] at hal
    obtain ⟨x1, x2, x3, x4⟩ := hsh.2
    refine ⟨_, _, rfl, rfl, ?_, fun r hr => by rw [x1 r (by omega) (by omega)]; exact hf3 r (by omega), x2⟩
    rcases hsh.1 with ⟨y1, y2⟩ | ⟨y1, y2⟩
    · exact Or.inl ⟨y1, Or.inr (hal.mp y2)⟩
    · exact Or.inr ⟨y1, fun h => h.elim (fun h => by omega) (fun h => y2 (hal.mpr h))⟩
  · refine zr_iconst I68_16 ?_
    refine zr_zret I68_17 rfl (by decide) ?_
    exact ⟨_, _, rfl, rfl, Or.inl ⟨rfl, Or.inl (by omega)⟩, fun r hr => rfl, hB⟩
