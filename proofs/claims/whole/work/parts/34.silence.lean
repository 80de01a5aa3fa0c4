/-! minutes in the model; silence -/
/-- the longest silence, its beginning, since when it is silent, behind k items (and the end) -/
def zSl (n : Int) (st en : Int → Int) (a b : Int) : Nat → Int × (Int × Int)
  | 0 => (0, (a, a))
  | k + 1 => ((if (zSl n st en a b k).1 < (if (k : Int) < n then min (st k) b else b) - (zSl n st en a b k).2.2 then (if (k : Int) < n then min (st k) b else b) - (zSl n st en a b k).2.2 else (zSl n st en a b k).1),
    ((if (zSl n st en a b k).1 < (if (k : Int) < n then min (st k) b else b) - (zSl n st en a b k).2.2 then (zSl n st en a b k).2.2 else (zSl n st en a b k).2.1),
    (if (k : Int) < n then max (zSl n st en a b k).2.2 (en k) else (zSl n st en a b k).2.2)))
theorem zSl_s (n : Int) (st en : Int → Int) (a b : Int) {i : Int} (h : 0 ≤ i) {x y z u : Int} (hx : (x, (y, z)) = zSl n st en a b i.toNat) (hu : u = if i < n then min (st i) b else b) : zSl n st en a b (i + 1).toNat = (if x < u - z then u - z else x, (if x < u - z then z else y, if i < n then max z (en i) else z)) := by
  rw [show (i + 1).toNat = i.toNat + 1 by omega]
  show (_, (_, _)) = _
  rw [← hx, show ((i.toNat : Nat) : Int) = i by omega, ← hu]
theorem zSl_congr {n : Int} {st en st' en' : Int → Int} {a b : Int} (h : ∀ j, 0 ≤ j → j < n → st j = st' j ∧ en j = en' j) : ∀ k, zSl n st en a b k = zSl n st' en' a b k
  | 0 => rfl
  | k + 1 => by
    unfold zSl
    rw [zSl_congr h k]
    by_cases hk : (k : Int) < n
    · rw [(h k (by omega) hk).1, (h k (by omega) hk).2]
    · simp only [if_neg hk]
def zSlR (r : Int × (Int × Int)) (x : Int) : Prop := (0 < r.1 ∧ x = 10081 * r.1 + r.2.1) ∨ (r.1 ≤ 0 ∧ x = -9)
set_option maxRecDepth 10000 in
set_option maxHeartbeats 2000000 in
theorem e_X9_minutes_l {d n sl : Nat} {S : zSh} {c : zC} (hS : zSok S) (hB : zBd c) (hc : 0 ≤ c 146 3 ∧ c 146 3 ≤ 60) (hp : ∀ i, 0 ≤ i → i < c 146 3 → 0 ≤ c 146 (230 + 4 * i + 0) ∧ c 146 (230 + 4 * i + 0) < 16) {k a b : Int} (ha : 0 ≤ a ∧ a < b ∧ b ≤ 10080) : ∀ i : Int, i ≤ c 146 3 → ∀ y : Int, ∀ w6 : Option zV, ∀ w7 : Option zV, ∀ w8 : Option zV, (0 ≤ i) → (y = if k = 4 then b - a - zSum (fun j => zMin (c 146 (230 + 4 * j + 1)) (c 146 (230 + 4 * j + 1) + c 146 (230 + 4 * j + 2)) a b) i else zSum (fun j => if c 146 (10 + 4 * c 146 (230 + 4 * j + 0)) = k then zMin (c 146 (230 + 4 * j + 1)) (c 146 (230 + 4 * j + 1) + c 146 (230 + 4 * j + 2)) a b else 0) i) → zE (d + 2) 127 36 [some (zA 145), some (zI k), some (zI a), some (zI b), some (zI y), some (zI i), w6, w7, w8] [] ((n, sl), (S, c)) (zRd (if k = 4 then b - a - zSum (fun j => zMin (c 146 (230 + 4 * j + 1)) (c 146 (230 + 4 * j + 1) + c 146 (230 + 4 * j + 2)) a b) (c 146 3) else zSum (fun j => if c 146 (10 + 4 * c 146 (230 + 4 * j + 0)) = k then zMin (c 146 (230 + 4 * j + 1)) (c 146 (230 + 4 * j + 1) + c 146 (230 + 4 * j + 2)) a b else 0) (c 146 3)) ((n, sl), (S, c))) := by
  refine zind _ (fun i ih hN => ?_)
  intro y w6 w7 w8 h0 hy
  have hb0 : ∀ j, 0 ≤ (fun j => zMin (c 146 (230 + 4 * j + 1)) (c 146 (230 + 4 * j + 1) + c 146 (230 + 4 * j + 2)) a b) j ∧ (fun j => zMin (c 146 (230 + 4 * j + 1)) (c 146 (230 + 4 * j + 1) + c 146 (230 + 4 * j + 2)) a b) j ≤ 10080 := fun j => by
    dsimp only
    unfold zMin
    omega
  have hma := zSum_le (f := (fun j => zMin (c 146 (230 + 4 * j + 1)) (c 146 (230 + 4 * j + 1) + c 146 (230 + 4 * j + 2)) a b)) (lo := 0) (hi := 10080) i h0 (fun j _ _ => hb0 j)
  have hmk := zSum_le (f := (fun j => if c 146 (10 + 4 * c 146 (230 + 4 * j + 0)) = k then zMin (c 146 (230 + 4 * j + 1)) (c 146 (230 + 4 * j + 1) + c 146 (230 + 4 * j + 2)) a b else 0)) (lo := 0) (hi := 10080) i h0 (fun j _ _ => by have := hb0 j; (try dsimp only at *); split <;> omega)
  have hbi := hb0 i
  dsimp only at hbi
  refine zl_ild5 I127_36 ?_
  refine zl_ald0 I127_38 ?_
  refine zr_getr (j := 0) I127_39 F9_7 rfl (sT145 hS) (sR145_0 hS) ?_
  refine zr_iconst I127_42 ?_
  refine zr_iaB hB (by decide) I127_43 (sT146 hS) (sN146 hS) (by omega) (fun b43 => ?_)
  refine zr_ic_ge (t := 154) I127_44 rfl (fun h44 => ?_) (fun h44 => ?_)
  · refine zl_ild4 I127_154 ?_
    refine zr_iret I127_156 rfl ?_
    refine ⟨congrArg (fun z => some (zI z)) ?_, rfl⟩
    rw [hy, show i = c 146 3 by omega]
  · have g0 := hB 146 (230 + 4 * i + 0) (by decide)
    have g1 := hB 146 (230 + 4 * i + 1) (by decide)
    have g2 := hB 146 (230 + 4 * i + 2) (by decide)
    have hpi := hp i h0 (by omega)
    refine zl_ald0 I127_47 ?_
    refine zl_ild5 I127_48 ?_
    refine zr_iconst I127_50 ?_
    refine zr_callV I127_51 C9_45 ⟨rfl, rfl⟩ ⟨rfl, Nat.le_of_ble_eq_true rfl⟩ (Or.inl ⟨rfl, sT145 hS⟩) (e_X9_of hS hB (by omega) (by omega)) (fun v51 μ51 hv51 => ?_)
    obtain ⟨rfl, rfl⟩ := hv51
    dsimp only [Option.toList, List.cons_append, List.nil_append]
    refine zl_ild2 I127_54 ?_
    refine zr_ic_le (t := 68) I127_55 rfl (fun h55 => ?_) (fun h55 => ?_)
    · refine zl_ild2 I127_68 ?_
      refine zl_ist6 I127_69 ?_
      refine zl_ald0 I127_71 ?_
      refine zl_ild5 I127_72 ?_
      refine zr_callV I127_74 C9_70 ⟨rfl, rfl⟩ ⟨rfl, Nat.le_of_ble_eq_true rfl⟩ (Or.inl ⟨rfl, sT145 hS⟩) (e_X9_end hS hB (by omega)) (fun v74 μ74 hv74 => ?_)
      obtain ⟨rfl, rfl⟩ := hv74
      dsimp only [Option.toList, List.cons_append, List.nil_append]
      refine zl_ild3 I127_77 ?_
      refine zr_ic_ge (t := 90) I127_78 rfl (fun h78 => ?_) (fun h78 => ?_)
      · refine zl_ild3 I127_90 ?_
        refine zl_ist7 I127_91 ?_
        refine zl_ild7 I127_93 ?_
        refine zl_ild6 I127_95 ?_
        refine zr_ic_le (t := 108) I127_97 rfl (fun h97 => ?_) (fun h97 => ?_)
        · refine zr_iconst I127_108 ?_
          refine zl_ist8 I127_109 ?_
          refine zl_ild4 I127_111 ?_
          refine zl_ild1 I127_113 ?_
          refine zr_iconst I127_114 ?_
          refine zr_ic_ne (t := 124) I127_115 rfl (fun h115 => ?_) (fun h115 => ?_)
          · refine zl_ald0 I127_124 ?_
            refine zl_ald0 I127_125 ?_
            refine zl_ild5 I127_126 ?_
            refine zr_iconst I127_128 ?_
            refine zr_callV I127_129 C9_45 ⟨rfl, rfl⟩ ⟨rfl, Nat.le_of_ble_eq_true rfl⟩ (Or.inl ⟨rfl, sT145 hS⟩) (e_X9_of hS hB (by omega) (by omega)) (fun v129 μ129 hv129 => ?_)
            obtain ⟨rfl, rfl⟩ := hv129
            dsimp only [Option.toList, List.cons_append, List.nil_append]
            refine zr_callV I127_132 C9_59 ⟨rfl, rfl⟩ ⟨rfl, Nat.le_of_ble_eq_true rfl⟩ (Or.inl ⟨rfl, sT145 hS⟩) (e_X9_kind hS hB (by omega)) (fun v132 μ132 hv132 => ?_)
            obtain ⟨rfl, rfl⟩ := hv132
            dsimp only [Option.toList, List.cons_append, List.nil_append]
            refine zl_ild1 I127_135 ?_
            refine zr_ic_ne (t := 144) I127_136 rfl (fun h136 => ?_) (fun h136 => ?_)
            · refine zr_iconst I127_144 ?_
              refine zr_iadd I127_145 (by unfold zInR; unfold zMin at *; (try simp only [hy]); (repeat' split) <;> omega) ?_
              refine zl_ist4 I127_146 ?_
              refine zl_iinc5 I127_148 (by unfold zInR; omega) ?_
              refine zr_goto (t := 36) I127_151 rfl ?_
              refine ih _ (by omega) (by omega) _ _ _ _ (by omega) ?_
              rw [hy]
              have hzz : zMin (c 146 (230 + 4 * i + 1)) (c 146 (230 + 4 * i + 1) + c 146 (230 + 4 * i + 2)) a b = max 0 (min (c 146 (230 + 4 * i + 1) + c 146 (230 + 4 * i + 2)) b - max (c 146 (230 + 4 * i + 1)) a) := rfl
              rw [zSum_s _ h0, zSum_s _ h0, hzz]
              (repeat' split) <;> omega
            · refine zl_ild8 I127_139 ?_
              refine zr_goto (t := 145) I127_141 rfl ?_
              refine zr_iadd I127_145 (by unfold zInR; unfold zMin at *; (try simp only [hy]); (repeat' split) <;> omega) ?_
              refine zl_ist4 I127_146 ?_
              refine zl_iinc5 I127_148 (by unfold zInR; omega) ?_
              refine zr_goto (t := 36) I127_151 rfl ?_
              refine ih _ (by omega) (by omega) _ _ _ _ (by omega) ?_
              rw [hy]
              have hzz : zMin (c 146 (230 + 4 * i + 1)) (c 146 (230 + 4 * i + 1) + c 146 (230 + 4 * i + 2)) a b = max 0 (min (c 146 (230 + 4 * i + 1) + c 146 (230 + 4 * i + 2)) b - max (c 146 (230 + 4 * i + 1)) a) := rfl
              rw [zSum_s _ h0, zSum_s _ h0, hzz]
              (repeat' split) <;> omega
          · refine zl_ild8 I127_118 ?_
            refine zr_ineg I127_120 (by unfold zInR; unfold zMin at *; (try simp only [hy]); (repeat' split) <;> omega) ?_
            refine zr_goto (t := 145) I127_121 rfl ?_
            refine zr_iadd I127_145 (by unfold zInR; unfold zMin at *; (try simp only [hy]); (repeat' split) <;> omega) ?_
            refine zl_ist4 I127_146 ?_
            refine zl_iinc5 I127_148 (by unfold zInR; omega) ?_
            refine zr_goto (t := 36) I127_151 rfl ?_
            refine ih _ (by omega) (by omega) _ _ _ _ (by omega) ?_
            rw [hy]
            have hzz : zMin (c 146 (230 + 4 * i + 1)) (c 146 (230 + 4 * i + 1) + c 146 (230 + 4 * i + 2)) a b = max 0 (min (c 146 (230 + 4 * i + 1) + c 146 (230 + 4 * i + 2)) b - max (c 146 (230 + 4 * i + 1)) a) := rfl
            rw [zSum_s _ h0, zSum_s _ h0, hzz]
            (repeat' split) <;> omega
        · refine zl_ild7 I127_100 ?_
          refine zl_ild6 I127_102 ?_
          refine zr_isub I127_104 (by unfold zInR; unfold zMin at *; (try simp only [hy]); (repeat' split) <;> omega) ?_
          refine zr_goto (t := 109) I127_105 rfl ?_
          refine zl_ist8 I127_109 ?_
          refine zl_ild4 I127_111 ?_
          refine zl_ild1 I127_113 ?_
          refine zr_iconst I127_114 ?_
          refine zr_ic_ne (t := 124) I127_115 rfl (fun h115 => ?_) (fun h115 => ?_)
          · refine zl_ald0 I127_124 ?_
            refine zl_ald0 I127_125 ?_
            refine zl_ild5 I127_126 ?_
            refine zr_iconst I127_128 ?_
            refine zr_callV I127_129 C9_45 ⟨rfl, rfl⟩ ⟨rfl, Nat.le_of_ble_eq_true rfl⟩ (Or.inl ⟨rfl, sT145 hS⟩) (e_X9_of hS hB (by omega) (by omega)) (fun v129 μ129 hv129 => ?_)
            obtain ⟨rfl, rfl⟩ := hv129
            dsimp only [Option.toList, List.cons_append, List.nil_append]
            refine zr_callV I127_132 C9_59 ⟨rfl, rfl⟩ ⟨rfl, Nat.le_of_ble_eq_true rfl⟩ (Or.inl ⟨rfl, sT145 hS⟩) (e_X9_kind hS hB (by omega)) (fun v132 μ132 hv132 => ?_)
            obtain ⟨rfl, rfl⟩ := hv132
            dsimp only [Option.toList, List.cons_append, List.nil_append]
            refine zl_ild1 I127_135 ?_
            refine zr_ic_ne (t := 144) I127_136 rfl (fun h136 => ?_) (fun h136 => ?_)
            · refine zr_iconst I127_144 ?_
              refine zr_iadd I127_145 (by unfold zInR; unfold zMin at *; (try simp only [hy]); (repeat' split) <;> omega) ?_
              refine zl_ist4 I127_146 ?_
              refine zl_iinc5 I127_148 (by unfold zInR; omega) ?_
              refine zr_goto (t := 36) I127_151 rfl ?_
              refine ih _ (by omega) (by omega) _ _ _ _ (by omega) ?_
              rw [hy]
              have hzz : zMin (c 146 (230 + 4 * i + 1)) (c 146 (230 + 4 * i + 1) + c 146 (230 + 4 * i + 2)) a b = max 0 (min (c 146 (230 + 4 * i + 1) + c 146 (230 + 4 * i + 2)) b - max (c 146 (230 + 4 * i + 1)) a) := rfl
              rw [zSum_s _ h0, zSum_s _ h0, hzz]
              (repeat' split) <;> omega
            · refine zl_ild8 I127_139 ?_
              refine zr_goto (t := 145) I127_141 rfl ?_
              refine zr_iadd I127_145 (by unfold zInR; unfold zMin at *; (try simp only [hy]); (repeat' split) <;> omega) ?_
              refine zl_ist4 I127_146 ?_
              refine zl_iinc5 I127_148 (by unfold zInR; omega) ?_
              refine zr_goto (t := 36) I127_151 rfl ?_
              refine ih _ (by omega) (by omega) _ _ _ _ (by omega) ?_
              rw [hy]
              have hzz : zMin (c 146 (230 + 4 * i + 1)) (c 146 (230 + 4 * i + 1) + c 146 (230 + 4 * i + 2)) a b = max 0 (min (c 146 (230 + 4 * i + 1) + c 146 (230 + 4 * i + 2)) b - max (c 146 (230 + 4 * i + 1)) a) := rfl
              rw [zSum_s _ h0, zSum_s _ h0, hzz]
              (repeat' split) <;> omega
          · refine zl_ild8 I127_118 ?_
            refine zr_ineg I127_120 (by unfold zInR; unfold zMin at *; (try simp only [hy]); (repeat' split) <;> omega) ?_
            refine zr_goto (t := 145) I127_121 rfl ?_
            refine zr_iadd I127_145 (by unfold zInR; unfold zMin at *; (try simp only [hy]); (repeat' split) <;> omega) ?_
            refine zl_ist4 I127_146 ?_
            refine zl_iinc5 I127_148 (by unfold zInR; omega) ?_
            refine zr_goto (t := 36) I127_151 rfl ?_
            refine ih _ (by omega) (by omega) _ _ _ _ (by omega) ?_
            rw [hy]
            have hzz : zMin (c 146 (230 + 4 * i + 1)) (c 146 (230 + 4 * i + 1) + c 146 (230 + 4 * i + 2)) a b = max 0 (min (c 146 (230 + 4 * i + 1) + c 146 (230 + 4 * i + 2)) b - max (c 146 (230 + 4 * i + 1)) a) := rfl
            rw [zSum_s _ h0, zSum_s _ h0, hzz]
            (repeat' split) <;> omega
      · refine zl_ald0 I127_81 ?_
        refine zl_ild5 I127_82 ?_
        refine zr_callV I127_84 C9_70 ⟨rfl, rfl⟩ ⟨rfl, Nat.le_of_ble_eq_true rfl⟩ (Or.inl ⟨rfl, sT145 hS⟩) (e_X9_end hS hB (by omega)) (fun v84 μ84 hv84 => ?_)
        obtain ⟨rfl, rfl⟩ := hv84
        dsimp only [Option.toList, List.cons_append, List.nil_append]
        refine zr_goto (t := 91) I127_87 rfl ?_
        refine zl_ist7 I127_91 ?_
        refine zl_ild7 I127_93 ?_
        refine zl_ild6 I127_95 ?_
        refine zr_ic_le (t := 108) I127_97 rfl (fun h97 => ?_) (fun h97 => ?_)
        · refine zr_iconst I127_108 ?_
          refine zl_ist8 I127_109 ?_
          refine zl_ild4 I127_111 ?_
          refine zl_ild1 I127_113 ?_
          refine zr_iconst I127_114 ?_
          refine zr_ic_ne (t := 124) I127_115 rfl (fun h115 => ?_) (fun h115 => ?_)
          · refine zl_ald0 I127_124 ?_
            refine zl_ald0 I127_125 ?_
            refine zl_ild5 I127_126 ?_
            refine zr_iconst I127_128 ?_
            refine zr_callV I127_129 C9_45 ⟨rfl, rfl⟩ ⟨rfl, Nat.le_of_ble_eq_true rfl⟩ (Or.inl ⟨rfl, sT145 hS⟩) (e_X9_of hS hB (by omega) (by omega)) (fun v129 μ129 hv129 => ?_)
            obtain ⟨rfl, rfl⟩ := hv129
            dsimp only [Option.toList, List.cons_append, List.nil_append]
            refine zr_callV I127_132 C9_59 ⟨rfl, rfl⟩ ⟨rfl, Nat.le_of_ble_eq_true rfl⟩ (Or.inl ⟨rfl, sT145 hS⟩) (e_X9_kind hS hB (by omega)) (fun v132 μ132 hv132 => ?_)
            obtain ⟨rfl, rfl⟩ := hv132
            dsimp only [Option.toList, List.cons_append, List.nil_append]
            refine zl_ild1 I127_135 ?_
            refine zr_ic_ne (t := 144) I127_136 rfl (fun h136 => ?_) (fun h136 => ?_)
            · refine zr_iconst I127_144 ?_
              refine zr_iadd I127_145 (by unfold zInR; unfold zMin at *; (try simp only [hy]); (repeat' split) <;> omega) ?_
              refine zl_ist4 I127_146 ?_
              refine zl_iinc5 I127_148 (by unfold zInR; omega) ?_
              refine zr_goto (t := 36) I127_151 rfl ?_
              refine ih _ (by omega) (by omega) _ _ _ _ (by omega) ?_
              rw [hy]
              have hzz : zMin (c 146 (230 + 4 * i + 1)) (c 146 (230 + 4 * i + 1) + c 146 (230 + 4 * i + 2)) a b = max 0 (min (c 146 (230 + 4 * i + 1) + c 146 (230 + 4 * i + 2)) b - max (c 146 (230 + 4 * i + 1)) a) := rfl
              rw [zSum_s _ h0, zSum_s _ h0, hzz]
              (repeat' split) <;> omega
            · refine zl_ild8 I127_139 ?_
              refine zr_goto (t := 145) I127_141 rfl ?_
              refine zr_iadd I127_145 (by unfold zInR; unfold zMin at *; (try simp only [hy]); (repeat' split) <;> omega) ?_
              refine zl_ist4 I127_146 ?_
              refine zl_iinc5 I127_148 (by unfold zInR; omega) ?_
              refine zr_goto (t := 36) I127_151 rfl ?_
              refine ih _ (by omega) (by omega) _ _ _ _ (by omega) ?_
              rw [hy]
              have hzz : zMin (c 146 (230 + 4 * i + 1)) (c 146 (230 + 4 * i + 1) + c 146 (230 + 4 * i + 2)) a b = max 0 (min (c 146 (230 + 4 * i + 1) + c 146 (230 + 4 * i + 2)) b - max (c 146 (230 + 4 * i + 1)) a) := rfl
              rw [zSum_s _ h0, zSum_s _ h0, hzz]
              (repeat' split) <;> omega
          · refine zl_ild8 I127_118 ?_
            refine zr_ineg I127_120 (by unfold zInR; unfold zMin at *; (try simp only [hy]); (repeat' split) <;> omega) ?_
            refine zr_goto (t := 145) I127_121 rfl ?_
            refine zr_iadd I127_145 (by unfold zInR; unfold zMin at *; (try simp only [hy]); (repeat' split) <;> omega) ?_
            refine zl_ist4 I127_146 ?_
            refine zl_iinc5 I127_148 (by unfold zInR; omega) ?_
            refine zr_goto (t := 36) I127_151 rfl ?_
            refine ih _ (by omega) (by omega) _ _ _ _ (by omega) ?_
            rw [hy]
            have hzz : zMin (c 146 (230 + 4 * i + 1)) (c 146 (230 + 4 * i + 1) + c 146 (230 + 4 * i + 2)) a b = max 0 (min (c 146 (230 + 4 * i + 1) + c 146 (230 + 4 * i + 2)) b - max (c 146 (230 + 4 * i + 1)) a) := rfl
            rw [zSum_s _ h0, zSum_s _ h0, hzz]
            (repeat' split) <;> omega
        · refine zl_ild7 I127_100 ?_
          refine zl_ild6 I127_102 ?_
          refine zr_isub I127_104 (by unfold zInR; unfold zMin at *; (try simp only [hy]); (repeat' split) <;> omega) ?_
          refine zr_goto (t := 109) I127_105 rfl ?_
          refine zl_ist8 I127_109 ?_
          refine zl_ild4 I127_111 ?_
          refine zl_ild1 I127_113 ?_
          refine zr_iconst I127_114 ?_
          refine zr_ic_ne (t := 124) I127_115 rfl (fun h115 => ?_) (fun h115 => ?_)
          · refine zl_ald0 I127_124 ?_
            refine zl_ald0 I127_125 ?_
            refine zl_ild5 I127_126 ?_
            refine zr_iconst I127_128 ?_
            refine zr_callV I127_129 C9_45 ⟨rfl, rfl⟩ ⟨rfl, Nat.le_of_ble_eq_true rfl⟩ (Or.inl ⟨rfl, sT145 hS⟩) (e_X9_of hS hB (by omega) (by omega)) (fun v129 μ129 hv129 => ?_)
            obtain ⟨rfl, rfl⟩ := hv129
            dsimp only [Option.toList, List.cons_append, List.nil_append]
            refine zr_callV I127_132 C9_59 ⟨rfl, rfl⟩ ⟨rfl, Nat.le_of_ble_eq_true rfl⟩ (Or.inl ⟨rfl, sT145 hS⟩) (e_X9_kind hS hB (by omega)) (fun v132 μ132 hv132 => ?_)
            obtain ⟨rfl, rfl⟩ := hv132
            dsimp only [Option.toList, List.cons_append, List.nil_append]
            refine zl_ild1 I127_135 ?_
            refine zr_ic_ne (t := 144) I127_136 rfl (fun h136 => ?_) (fun h136 => ?_)
            · refine zr_iconst I127_144 ?_
              refine zr_iadd I127_145 (by unfold zInR; unfold zMin at *; (try simp only [hy]); (repeat' split) <;> omega) ?_
              refine zl_ist4 I127_146 ?_
              refine zl_iinc5 I127_148 (by unfold zInR; omega) ?_
              refine zr_goto (t := 36) I127_151 rfl ?_
              refine ih _ (by omega) (by omega) _ _ _ _ (by omega) ?_
              rw [hy]
              have hzz : zMin (c 146 (230 + 4 * i + 1)) (c 146 (230 + 4 * i + 1) + c 146 (230 + 4 * i + 2)) a b = max 0 (min (c 146 (230 + 4 * i + 1) + c 146 (230 + 4 * i + 2)) b - max (c 146 (230 + 4 * i + 1)) a) := rfl
              rw [zSum_s _ h0, zSum_s _ h0, hzz]
              (repeat' split) <;> omega
            · refine zl_ild8 I127_139 ?_
              refine zr_goto (t := 145) I127_141 rfl ?_
              refine zr_iadd I127_145 (by unfold zInR; unfold zMin at *; (try simp only [hy]); (repeat' split) <;> omega) ?_
              refine zl_ist4 I127_146 ?_
              refine zl_iinc5 I127_148 (by unfold zInR; omega) ?_
              refine zr_goto (t := 36) I127_151 rfl ?_
              refine ih _ (by omega) (by omega) _ _ _ _ (by omega) ?_
              rw [hy]
              have hzz : zMin (c 146 (230 + 4 * i + 1)) (c 146 (230 + 4 * i + 1) + c 146 (230 + 4 * i + 2)) a b = max 0 (min (c 146 (230 + 4 * i + 1) + c 146 (230 + 4 * i + 2)) b - max (c 146 (230 + 4 * i + 1)) a) := rfl
              rw [zSum_s _ h0, zSum_s _ h0, hzz]
              (repeat' split) <;> omega
          · refine zl_ild8 I127_118 ?_
            refine zr_ineg I127_120 (by unfold zInR; unfold zMin at *; (try simp only [hy]); (repeat' split) <;> omega) ?_
            refine zr_goto (t := 145) I127_121 rfl ?_
            refine zr_iadd I127_145 (by unfold zInR; unfold zMin at *; (try simp only [hy]); (repeat' split) <;> omega) ?_
            refine zl_ist4 I127_146 ?_
            refine zl_iinc5 I127_148 (by unfold zInR; omega) ?_
            refine zr_goto (t := 36) I127_151 rfl ?_
            refine ih _ (by omega) (by omega) _ _ _ _ (by omega) ?_
            rw [hy]
            have hzz : zMin (c 146 (230 + 4 * i + 1)) (c 146 (230 + 4 * i + 1) + c 146 (230 + 4 * i + 2)) a b = max 0 (min (c 146 (230 + 4 * i + 1) + c 146 (230 + 4 * i + 2)) b - max (c 146 (230 + 4 * i + 1)) a) := rfl
            rw [zSum_s _ h0, zSum_s _ h0, hzz]
            (repeat' split) <;> omega
    · refine zl_ald0 I127_58 ?_
      refine zl_ild5 I127_59 ?_
      refine zr_iconst I127_61 ?_
      refine zr_callV I127_62 C9_45 ⟨rfl, rfl⟩ ⟨rfl, Nat.le_of_ble_eq_true rfl⟩ (Or.inl ⟨rfl, sT145 hS⟩) (e_X9_of hS hB (by omega) (by omega)) (fun v62 μ62 hv62 => ?_)
      obtain ⟨rfl, rfl⟩ := hv62
      dsimp only [Option.toList, List.cons_append, List.nil_append]
      refine zr_goto (t := 69) I127_65 rfl ?_
      refine zl_ist6 I127_69 ?_
      refine zl_ald0 I127_71 ?_
      refine zl_ild5 I127_72 ?_
      refine zr_callV I127_74 C9_70 ⟨rfl, rfl⟩ ⟨rfl, Nat.le_of_ble_eq_true rfl⟩ (Or.inl ⟨rfl, sT145 hS⟩) (e_X9_end hS hB (by omega)) (fun v74 μ74 hv74 => ?_)
      obtain ⟨rfl, rfl⟩ := hv74
      dsimp only [Option.toList, List.cons_append, List.nil_append]
      refine zl_ild3 I127_77 ?_
      refine zr_ic_ge (t := 90) I127_78 rfl (fun h78 => ?_) (fun h78 => ?_)
      · refine zl_ild3 I127_90 ?_
        refine zl_ist7 I127_91 ?_
        refine zl_ild7 I127_93 ?_
        refine zl_ild6 I127_95 ?_
        refine zr_ic_le (t := 108) I127_97 rfl (fun h97 => ?_) (fun h97 => ?_)
        · refine zr_iconst I127_108 ?_
          refine zl_ist8 I127_109 ?_
          refine zl_ild4 I127_111 ?_
          refine zl_ild1 I127_113 ?_
          refine zr_iconst I127_114 ?_
          refine zr_ic_ne (t := 124) I127_115 rfl (fun h115 => ?_) (fun h115 => ?_)
          · refine zl_ald0 I127_124 ?_
            refine zl_ald0 I127_125 ?_
            refine zl_ild5 I127_126 ?_
            refine zr_iconst I127_128 ?_
            refine zr_callV I127_129 C9_45 ⟨rfl, rfl⟩ ⟨rfl, Nat.le_of_ble_eq_true rfl⟩ (Or.inl ⟨rfl, sT145 hS⟩) (e_X9_of hS hB (by omega) (by omega)) (fun v129 μ129 hv129 => ?_)
            obtain ⟨rfl, rfl⟩ := hv129
            dsimp only [Option.toList, List.cons_append, List.nil_append]
            refine zr_callV I127_132 C9_59 ⟨rfl, rfl⟩ ⟨rfl, Nat.le_of_ble_eq_true rfl⟩ (Or.inl ⟨rfl, sT145 hS⟩) (e_X9_kind hS hB (by omega)) (fun v132 μ132 hv132 => ?_)
            obtain ⟨rfl, rfl⟩ := hv132
            dsimp only [Option.toList, List.cons_append, List.nil_append]
            refine zl_ild1 I127_135 ?_
            refine zr_ic_ne (t := 144) I127_136 rfl (fun h136 => ?_) (fun h136 => ?_)
            · refine zr_iconst I127_144 ?_
              refine zr_iadd I127_145 (by unfold zInR; unfold zMin at *; (try simp only [hy]); (repeat' split) <;> omega) ?_
              refine zl_ist4 I127_146 ?_
              refine zl_iinc5 I127_148 (by unfold zInR; omega) ?_
              refine zr_goto (t := 36) I127_151 rfl ?_
              refine ih _ (by omega) (by omega) _ _ _ _ (by omega) ?_
              rw [hy]
              have hzz : zMin (c 146 (230 + 4 * i + 1)) (c 146 (230 + 4 * i + 1) + c 146 (230 + 4 * i + 2)) a b = max 0 (min (c 146 (230 + 4 * i + 1) + c 146 (230 + 4 * i + 2)) b - max (c 146 (230 + 4 * i + 1)) a) := rfl
              rw [zSum_s _ h0, zSum_s _ h0, hzz]
              (repeat' split) <;> omega
            · refine zl_ild8 I127_139 ?_
              refine zr_goto (t := 145) I127_141 rfl ?_
              refine zr_iadd I127_145 (by unfold zInR; unfold zMin at *; (try simp only [hy]); (repeat' split) <;> omega) ?_
              refine zl_ist4 I127_146 ?_
              refine zl_iinc5 I127_148 (by unfold zInR; omega) ?_
              refine zr_goto (t := 36) I127_151 rfl ?_
              refine ih _ (by omega) (by omega) _ _ _ _ (by omega) ?_
              rw [hy]
              have hzz : zMin (c 146 (230 + 4 * i + 1)) (c 146 (230 + 4 * i + 1) + c 146 (230 + 4 * i + 2)) a b = max 0 (min (c 146 (230 + 4 * i + 1) + c 146 (230 + 4 * i + 2)) b - max (c 146 (230 + 4 * i + 1)) a) := rfl
              rw [zSum_s _ h0, zSum_s _ h0, hzz]
              (repeat' split) <;> omega
          · refine zl_ild8 I127_118 ?_
            refine zr_ineg I127_120 (by unfold zInR; unfold zMin at *; (try simp only [hy]); (repeat' split) <;> omega) ?_
            refine zr_goto (t := 145) I127_121 rfl ?_
            refine zr_iadd I127_145 (by unfold zInR; unfold zMin at *; (try simp only [hy]); (repeat' split) <;> omega) ?_
            refine zl_ist4 I127_146 ?_
            refine zl_iinc5 I127_148 (by unfold zInR; omega) ?_
            refine zr_goto (t := 36) I127_151 rfl ?_
            refine ih _ (by omega) (by omega) _ _ _ _ (by omega) ?_
            rw [hy]
            have hzz : zMin (c 146 (230 + 4 * i + 1)) (c 146 (230 + 4 * i + 1) + c 146 (230 + 4 * i + 2)) a b = max 0 (min (c 146 (230 + 4 * i + 1) + c 146 (230 + 4 * i + 2)) b - max (c 146 (230 + 4 * i + 1)) a) := rfl
            rw [zSum_s _ h0, zSum_s _ h0, hzz]
            (repeat' split) <;> omega
        · refine zl_ild7 I127_100 ?_
          refine zl_ild6 I127_102 ?_
          refine zr_isub I127_104 (by unfold zInR; unfold zMin at *; (try simp only [hy]); (repeat' split) <;> omega) ?_
          refine zr_goto (t := 109) I127_105 rfl ?_
          refine zl_ist8 I127_109 ?_
          refine zl_ild4 I127_111 ?_
          refine zl_ild1 I127_113 ?_
          refine zr_iconst I127_114 ?_
          refine zr_ic_ne (t := 124) I127_115 rfl (fun h115 => ?_) (fun h115 => ?_)
          · refine zl_ald0 I127_124 ?_
            refine zl_ald0 I127_125 ?_
            refine zl_ild5 I127_126 ?_
            refine zr_iconst I127_128 ?_
            refine zr_callV I127_129 C9_45 ⟨rfl, rfl⟩ ⟨rfl, Nat.le_of_ble_eq_true rfl⟩ (Or.inl ⟨rfl, sT145 hS⟩) (e_X9_of hS hB (by omega) (by omega)) (fun v129 μ129 hv129 => ?_)
            obtain ⟨rfl, rfl⟩ := hv129
            dsimp only [Option.toList, List.cons_append, List.nil_append]
            refine zr_callV I127_132 C9_59 ⟨rfl, rfl⟩ ⟨rfl, Nat.le_of_ble_eq_true rfl⟩ (Or.inl ⟨rfl, sT145 hS⟩) (e_X9_kind hS hB (by omega)) (fun v132 μ132 hv132 => ?_)
            obtain ⟨rfl, rfl⟩ := hv132
            dsimp only [Option.toList, List.cons_append, List.nil_append]
            refine zl_ild1 I127_135 ?_
            refine zr_ic_ne (t := 144) I127_136 rfl (fun h136 => ?_) (fun h136 => ?_)
            · refine zr_iconst I127_144 ?_
              refine zr_iadd I127_145 (by unfold zInR; unfold zMin at *; (try simp only [hy]); (repeat' split) <;> omega) ?_
              refine zl_ist4 I127_146 ?_
              refine zl_iinc5 I127_148 (by unfold zInR; omega) ?_
              refine zr_goto (t := 36) I127_151 rfl ?_
              refine ih _ (by omega) (by omega) _ _ _ _ (by omega) ?_
              rw [hy]
              have hzz : zMin (c 146 (230 + 4 * i + 1)) (c 146 (230 + 4 * i + 1) + c 146 (230 + 4 * i + 2)) a b = max 0 (min (c 146 (230 + 4 * i + 1) + c 146 (230 + 4 * i + 2)) b - max (c 146 (230 + 4 * i + 1)) a) := rfl
              rw [zSum_s _ h0, zSum_s _ h0, hzz]
              (repeat' split) <;> omega
            · refine zl_ild8 I127_139 ?_
              refine zr_goto (t := 145) I127_141 rfl ?_
              refine zr_iadd I127_145 (by unfold zInR; unfold zMin at *; (try simp only [hy]); (repeat' split) <;> omega) ?_
              refine zl_ist4 I127_146 ?_
              refine zl_iinc5 I127_148 (by unfold zInR; omega) ?_
              refine zr_goto (t := 36) I127_151 rfl ?_
              refine ih _ (by omega) (by omega) _ _ _ _ (by omega) ?_
              rw [hy]
              have hzz : zMin (c 146 (230 + 4 * i + 1)) (c 146 (230 + 4 * i + 1) + c 146 (230 + 4 * i + 2)) a b = max 0 (min (c 146 (230 + 4 * i + 1) + c 146 (230 + 4 * i + 2)) b - max (c 146 (230 + 4 * i + 1)) a) := rfl
              rw [zSum_s _ h0, zSum_s _ h0, hzz]
              (repeat' split) <;> omega
          · refine zl_ild8 I127_118 ?_
            refine zr_ineg I127_120 (by unfold zInR; unfold zMin at *; (try simp only [hy]); (repeat' split) <;> omega) ?_
            refine zr_goto (t := 145) I127_121 rfl ?_
            refine zr_iadd I127_145 (by unfold zInR; unfold zMin at *; (try simp only [hy]); (repeat' split) <;> omega) ?_
            refine zl_ist4 I127_146 ?_
            refine zl_iinc5 I127_148 (by unfold zInR; omega) ?_
            refine zr_goto (t := 36) I127_151 rfl ?_
            refine ih _ (by omega) (by omega) _ _ _ _ (by omega) ?_
            rw [hy]
            have hzz : zMin (c 146 (230 + 4 * i + 1)) (c 146 (230 + 4 * i + 1) + c 146 (230 + 4 * i + 2)) a b = max 0 (min (c 146 (230 + 4 * i + 1) + c 146 (230 + 4 * i + 2)) b - max (c 146 (230 + 4 * i + 1)) a) := rfl
            rw [zSum_s _ h0, zSum_s _ h0, hzz]
            (repeat' split) <;> omega
      · refine zl_ald0 I127_81 ?_
        refine zl_ild5 I127_82 ?_
        refine zr_callV I127_84 C9_70 ⟨rfl, rfl⟩ ⟨rfl, Nat.le_of_ble_eq_true rfl⟩ (Or.inl ⟨rfl, sT145 hS⟩) (e_X9_end hS hB (by omega)) (fun v84 μ84 hv84 => ?_)
        obtain ⟨rfl, rfl⟩ := hv84
        dsimp only [Option.toList, List.cons_append, List.nil_append]
        refine zr_goto (t := 91) I127_87 rfl ?_
        refine zl_ist7 I127_91 ?_
        refine zl_ild7 I127_93 ?_
        refine zl_ild6 I127_95 ?_
        refine zr_ic_le (t := 108) I127_97 rfl (fun h97 => ?_) (fun h97 => ?_)
        · refine zr_iconst I127_108 ?_
          refine zl_ist8 I127_109 ?_
          refine zl_ild4 I127_111 ?_
          refine zl_ild1 I127_113 ?_
          refine zr_iconst I127_114 ?_
          refine zr_ic_ne (t := 124) I127_115 rfl (fun h115 => ?_) (fun h115 => ?_)
          · refine zl_ald0 I127_124 ?_
            refine zl_ald0 I127_125 ?_
            refine zl_ild5 I127_126 ?_
            refine zr_iconst I127_128 ?_
            refine zr_callV I127_129 C9_45 ⟨rfl, rfl⟩ ⟨rfl, Nat.le_of_ble_eq_true rfl⟩ (Or.inl ⟨rfl, sT145 hS⟩) (e_X9_of hS hB (by omega) (by omega)) (fun v129 μ129 hv129 => ?_)
            obtain ⟨rfl, rfl⟩ := hv129
            dsimp only [Option.toList, List.cons_append, List.nil_append]
            refine zr_callV I127_132 C9_59 ⟨rfl, rfl⟩ ⟨rfl, Nat.le_of_ble_eq_true rfl⟩ (Or.inl ⟨rfl, sT145 hS⟩) (e_X9_kind hS hB (by omega)) (fun v132 μ132 hv132 => ?_)
            obtain ⟨rfl, rfl⟩ := hv132
            dsimp only [Option.toList, List.cons_append, List.nil_append]
            refine zl_ild1 I127_135 ?_
            refine zr_ic_ne (t := 144) I127_136 rfl (fun h136 => ?_) (fun h136 => ?_)
            · refine zr_iconst I127_144 ?_
              refine zr_iadd I127_145 (by unfold zInR; unfold zMin at *; (try simp only [hy]); (repeat' split) <;> omega) ?_
              refine zl_ist4 I127_146 ?_
              refine zl_iinc5 I127_148 (by unfold zInR; omega) ?_
              refine zr_goto (t := 36) I127_151 rfl ?_
              refine ih _ (by omega) (by omega) _ _ _ _ (by omega) ?_
              rw [hy]
              have hzz : zMin (c 146 (230 + 4 * i + 1)) (c 146 (230 + 4 * i + 1) + c 146 (230 + 4 * i + 2)) a b = max 0 (min (c 146 (230 + 4 * i + 1) + c 146 (230 + 4 * i + 2)) b - max (c 146 (230 + 4 * i + 1)) a) := rfl
              rw [zSum_s _ h0, zSum_s _ h0, hzz]
              (repeat' split) <;> omega
            · refine zl_ild8 I127_139 ?_
              refine zr_goto (t := 145) I127_141 rfl ?_
              refine zr_iadd I127_145 (by unfold zInR; unfold zMin at *; (try simp only [hy]); (repeat' split) <;> omega) ?_
              refine zl_ist4 I127_146 ?_
              refine zl_iinc5 I127_148 (by unfold zInR; omega) ?_
              refine zr_goto (t := 36) I127_151 rfl ?_
              refine ih _ (by omega) (by omega) _ _ _ _ (by omega) ?_
              rw [hy]
              have hzz : zMin (c 146 (230 + 4 * i + 1)) (c 146 (230 + 4 * i + 1) + c 146 (230 + 4 * i + 2)) a b = max 0 (min (c 146 (230 + 4 * i + 1) + c 146 (230 + 4 * i + 2)) b - max (c 146 (230 + 4 * i + 1)) a) := rfl
              rw [zSum_s _ h0, zSum_s _ h0, hzz]
              (repeat' split) <;> omega
          · refine zl_ild8 I127_118 ?_
            refine zr_ineg I127_120 (by unfold zInR; unfold zMin at *; (try simp only [hy]); (repeat' split) <;> omega) ?_
            refine zr_goto (t := 145) I127_121 rfl ?_
            refine zr_iadd I127_145 (by unfold zInR; unfold zMin at *; (try simp only [hy]); (repeat' split) <;> omega) ?_
            refine zl_ist4 I127_146 ?_
            refine zl_iinc5 I127_148 (by unfold zInR; omega) ?_
            refine zr_goto (t := 36) I127_151 rfl ?_
            refine ih _ (by omega) (by omega) _ _ _ _ (by omega) ?_
            rw [hy]
            have hzz : zMin (c 146 (230 + 4 * i + 1)) (c 146 (230 + 4 * i + 1) + c 146 (230 + 4 * i + 2)) a b = max 0 (min (c 146 (230 + 4 * i + 1) + c 146 (230 + 4 * i + 2)) b - max (c 146 (230 + 4 * i + 1)) a) := rfl
            rw [zSum_s _ h0, zSum_s _ h0, hzz]
            (repeat' split) <;> omega
        · refine zl_ild7 I127_100 ?_
          refine zl_ild6 I127_102 ?_
          refine zr_isub I127_104 (by unfold zInR; unfold zMin at *; (try simp only [hy]); (repeat' split) <;> omega) ?_
          refine zr_goto (t := 109) I127_105 rfl ?_
          refine zl_ist8 I127_109 ?_
          refine zl_ild4 I127_111 ?_
          refine zl_ild1 I127_113 ?_
          refine zr_iconst I127_114 ?_
          refine zr_ic_ne (t := 124) I127_115 rfl (fun h115 => ?_) (fun h115 => ?_)
          · refine zl_ald0 I127_124 ?_
            refine zl_ald0 I127_125 ?_
            refine zl_ild5 I127_126 ?_
            refine zr_iconst I127_128 ?_
            refine zr_callV I127_129 C9_45 ⟨rfl, rfl⟩ ⟨rfl, Nat.le_of_ble_eq_true rfl⟩ (Or.inl ⟨rfl, sT145 hS⟩) (e_X9_of hS hB (by omega) (by omega)) (fun v129 μ129 hv129 => ?_)
            obtain ⟨rfl, rfl⟩ := hv129
            dsimp only [Option.toList, List.cons_append, List.nil_append]
            refine zr_callV I127_132 C9_59 ⟨rfl, rfl⟩ ⟨rfl, Nat.le_of_ble_eq_true rfl⟩ (Or.inl ⟨rfl, sT145 hS⟩) (e_X9_kind hS hB (by omega)) (fun v132 μ132 hv132 => ?_)
            obtain ⟨rfl, rfl⟩ := hv132
            dsimp only [Option.toList, List.cons_append, List.nil_append]
            refine zl_ild1 I127_135 ?_
            refine zr_ic_ne (t := 144) I127_136 rfl (fun h136 => ?_) (fun h136 => ?_)
            · refine zr_iconst I127_144 ?_
              refine zr_iadd I127_145 (by unfold zInR; unfold zMin at *; (try simp only [hy]); (repeat' split) <;> omega) ?_
              refine zl_ist4 I127_146 ?_
              refine zl_iinc5 I127_148 (by unfold zInR; omega) ?_
              refine zr_goto (t := 36) I127_151 rfl ?_
              refine ih _ (by omega) (by omega) _ _ _ _ (by omega) ?_
              rw [hy]
              have hzz : zMin (c 146 (230 + 4 * i + 1)) (c 146 (230 + 4 * i + 1) + c 146 (230 + 4 * i + 2)) a b = max 0 (min (c 146 (230 + 4 * i + 1) + c 146 (230 + 4 * i + 2)) b - max (c 146 (230 + 4 * i + 1)) a) := rfl
              rw [zSum_s _ h0, zSum_s _ h0, hzz]
              (repeat' split) <;> omega
            · refine zl_ild8 I127_139 ?_
              refine zr_goto (t := 145) I127_141 rfl ?_
              refine zr_iadd I127_145 (by unfold zInR; unfold zMin at *; (try simp only [hy]); (repeat' split) <;> omega) ?_
              refine zl_ist4 I127_146 ?_
              refine zl_iinc5 I127_148 (by unfold zInR; omega) ?_
              refine zr_goto (t := 36) I127_151 rfl ?_
              refine ih _ (by omega) (by omega) _ _ _ _ (by omega) ?_
              rw [hy]
              have hzz : zMin (c 146 (230 + 4 * i + 1)) (c 146 (230 + 4 * i + 1) + c 146 (230 + 4 * i + 2)) a b = max 0 (min (c 146 (230 + 4 * i + 1) + c 146 (230 + 4 * i + 2)) b - max (c 146 (230 + 4 * i + 1)) a) := rfl
              rw [zSum_s _ h0, zSum_s _ h0, hzz]
              (repeat' split) <;> omega
          · refine zl_ild8 I127_118 ?_
            refine zr_ineg I127_120 (by unfold zInR; unfold zMin at *; (try simp only [hy]); (repeat' split) <;> omega) ?_
            refine zr_goto (t := 145) I127_121 rfl ?_
            refine zr_iadd I127_145 (by unfold zInR; unfold zMin at *; (try simp only [hy]); (repeat' split) <;> omega) ?_
            refine zl_ist4 I127_146 ?_
            refine zl_iinc5 I127_148 (by unfold zInR; omega) ?_
            refine zr_goto (t := 36) I127_151 rfl ?_
            refine ih _ (by omega) (by omega) _ _ _ _ (by omega) ?_
            rw [hy]
            have hzz : zMin (c 146 (230 + 4 * i + 1)) (c 146 (230 + 4 * i + 1) + c 146 (230 + 4 * i + 2)) a b = max 0 (min (c 146 (230 + 4 * i + 1) + c 146 (230 + 4 * i + 2)) b - max (c 146 (230 + 4 * i + 1)) a) := rfl
            rw [zSum_s _ h0, zSum_s _ h0, hzz]
            (repeat' split) <;> omega
set_option maxRecDepth 10000 in
set_option maxHeartbeats 2000000 in
theorem e_X9_minutes {d n sl : Nat} {S : zSh} {c : zC} (hS : zSok S) (hB : zBd c) (hc : 0 ≤ c 146 3 ∧ c 146 3 ≤ 60) (hp : ∀ i, 0 ≤ i → i < c 146 3 → 0 ≤ c 146 (230 + 4 * i + 0) ∧ c 146 (230 + 4 * i + 0) < 16) {k a b : Int} : zE (d + 2) 127 0 (zent 127 [zA 145, zI k, zI a, zI b]) [] ((n, sl), (S, c)) (fun r μ' => ((¬ (0 ≤ k ∧ k ≤ 4 ∧ 0 ≤ a ∧ a < b ∧ b ≤ 10080) ∧ zRd (-1) ((n, sl), (S, c)) r μ') ∨ ((0 ≤ k ∧ k ≤ 4 ∧ 0 ≤ a ∧ a < b ∧ b ≤ 10080) ∧ zRd (if k = 4 then b - a - zSum (fun j => zMin (c 146 (230 + 4 * j + 1)) (c 146 (230 + 4 * j + 1) + c 146 (230 + 4 * j + 2)) a b) (c 146 3) else zSum (fun j => if c 146 (10 + 4 * c 146 (230 + 4 * j + 0)) = k then zMin (c 146 (230 + 4 * j + 1)) (c 146 (230 + 4 * j + 1) + c 146 (230 + 4 * j + 2)) a b else 0) (c 146 3)) ((n, sl), (S, c)) r μ'))) := by
  show zE (d + 2) 127 0 [some (zA 145), some (zI k), some (zI a), some (zI b), none, none, none, none, none] [] ((n, sl), (S, c)) _
  refine zl_ild1 I127_0 ?_
  refine zr_iconst I127_1 ?_
  refine zr_iconst I127_2 ?_
  refine zr_callS I127_3 C9_41 ⟨rfl, rfl⟩ ⟨by simp, rfl, Nat.le_of_ble_eq_true rfl⟩ (e_X9_in ) (fun v3 μ3 hv3 => ?_)
  obtain ⟨x3, rfl, hx3, rfl⟩ := hv3
  dsimp only [Option.toList, List.cons_append, List.nil_append]
  unfold zTf at hx3
  refine zr_if_eq (t := 17) I127_6 rfl (fun h6 => ?_) (fun h6 => ?_)
  · refine zr_iconst I127_17 ?_
    refine zr_iret I127_18 rfl ?_
    exact Or.inl ⟨by omega, rfl, rfl⟩
  · refine zl_ild2 I127_9 ?_
    refine zl_ild3 I127_10 ?_
    refine zr_callS I127_11 C9_132 ⟨rfl, rfl⟩ ⟨by simp, rfl, Nat.le_of_ble_eq_true rfl⟩ (e_X9_isSpan ) (fun v11 μ11 hv11 => ?_)
    obtain ⟨x11, rfl, hx11, rfl⟩ := hv11
    dsimp only [Option.toList, List.cons_append, List.nil_append]
    unfold zTf at hx11
    refine zr_if_ne (t := 19) I127_14 rfl (fun h14 => ?_) (fun h14 => ?_)
    · refine zl_ild1 I127_19 ?_
      refine zr_iconst I127_20 ?_
      refine zr_ic_ne (t := 30) I127_21 rfl (fun h21 => ?_) (fun h21 => ?_)
      · refine zr_iconst I127_30 ?_
        refine zl_ist4 I127_31 ?_
        refine zr_iconst I127_33 ?_
        refine zl_ist5 I127_34 ?_
        refine zE.mono (e_X9_minutes_l hS hB hc hp (by omega) 0 (by omega) _ _ _ _ (by omega) ?_) (fun r μ' h => Or.inr ⟨by omega, h⟩)
        split <;> simp only [zSum_0] <;> omega
      · refine zl_ild3 I127_24 ?_
        refine zl_ild2 I127_25 ?_
        refine zr_isub I127_26 (by unfold zInR; omega) ?_
        refine zr_goto (t := 31) I127_27 rfl ?_
        refine zl_ist4 I127_31 ?_
        refine zr_iconst I127_33 ?_
        refine zl_ist5 I127_34 ?_
        refine zE.mono (e_X9_minutes_l hS hB hc hp (by omega) 0 (by omega) _ _ _ _ (by omega) ?_) (fun r μ' h => Or.inr ⟨by omega, h⟩)
        split <;> simp only [zSum_0] <;> omega
    · refine zr_iconst I127_17 ?_
      refine zr_iret I127_18 rfl ?_
      exact Or.inl ⟨by omega, rfl, rfl⟩
set_option maxRecDepth 10000 in
set_option maxHeartbeats 2000000 in
theorem e_X8_silence_l {d n sl : Nat} {S : zSh} {c : zC} (hS : zSok S) (hB : zBd c) (hc : 0 ≤ c 24 0 ∧ c 24 0 ≤ 60) {a b : Int} (ha : 0 ≤ a ∧ a < b ∧ b ≤ 10080) : ∀ i : Int, i ≤ c 24 0 + 1 → ∀ x : Int, ∀ y : Int, ∀ z : Int, ∀ w7 : Option zV, (0 ≤ i) → ((x, (y, z)) = zSl (c 24 0) (c 26) (fun j => c 26 j + c 27 j) a b i.toNat) → (0 ≤ x ∧ x ≤ 10080) → (0 ≤ y ∧ y ≤ 10080) → (a ≤ z ∧ z ≤ 200000) → zE (d + 2) 56 24 [some (zA 8), some (zI a), some (zI b), some (zI x), some (zI y), some (zI z), some (zI i), w7] [] ((n, sl), (S, c)) (zRp (zSlR (zSl (c 24 0) (c 26) (fun j => c 26 j + c 27 j) a b (c 24 0 + 1).toNat)) ((n, sl), (S, c))) := by
  refine zind _ (fun i ih hN => ?_)
  intro x y z w7 h0 hx hx1 hy1 hz1
  have g1 := hB 26 i (by decide)
  have g2 := hB 27 i (by decide)
  refine zl_ild6 I56_24 ?_
  refine zl_ald0 I56_26 ?_
  refine zr_getr (j := 0) I56_27 F8_12 rfl (sT8 hS) (sR8_0 hS) ?_
  refine zr_getr (j := 3) I56_30 F8_102 rfl (sT9 hS) (sR9_3 hS) ?_
  refine zr_giB (j := 0) hB (by decide) I56_33 F8_112 rfl (sT24 hS) (fun b33 => ?_)
  refine zr_ic_gt (t := 136) I56_36 rfl (fun h36 => ?_) (fun h36 => ?_)
  · refine zl_ild3 I56_136 ?_
    refine zr_if_ne (t := 145) I56_137 rfl (fun h137 => ?_) (fun h137 => ?_)
    · refine zr_sipush I56_145 ?_
      refine zl_ild3 I56_148 ?_
      refine zr_imul I56_149 (by unfold zInR; omega) ?_
      refine zl_ild4 I56_150 ?_
      refine zr_iadd I56_152 (by unfold zInR; omega) ?_
      refine zr_iret I56_153 rfl ?_
      have hxx : zSl (c 24 0) (c 26) (fun j => c 26 j + c 27 j) a b (c 24 0 + 1).toNat = (x, (y, z)) := by rw [show c 24 0 + 1 = i by omega]; exact hx.symm
      refine ⟨_, rfl, ?_, rfl⟩
      rw [hxx]
      unfold zSlR
      dsimp only
      omega
    · refine zr_bipush I56_140 ?_
      refine zr_goto (t := 153) I56_142 rfl ?_
      refine zr_iret I56_153 rfl ?_
      have hxx : zSl (c 24 0) (c 26) (fun j => c 26 j + c 27 j) a b (c 24 0 + 1).toNat = (x, (y, z)) := by rw [show c 24 0 + 1 = i by omega]; exact hx.symm
      refine ⟨_, rfl, ?_, rfl⟩
      rw [hxx]
      unfold zSlR
      dsimp only
      omega
  · refine zl_ild6 I56_39 ?_
    refine zl_ald0 I56_41 ?_
    refine zr_getr (j := 0) I56_42 F8_12 rfl (sT8 hS) (sR8_0 hS) ?_
    refine zr_getr (j := 3) I56_45 F8_102 rfl (sT9 hS) (sR9_3 hS) ?_
    refine zr_giB (j := 0) hB (by decide) I56_48 F8_112 rfl (sT24 hS) (fun b48 => ?_)
    refine zr_ic_ge (t := 74) I56_51 rfl (fun h51 => ?_) (fun h51 => ?_)
    · refine zl_ild2 I56_74 ?_
      refine zl_ist7 I56_75 ?_
      refine zl_ild7 I56_77 ?_
      refine zl_ild5 I56_79 ?_
      refine zr_isub I56_81 (by unfold zInR; omega) ?_
      refine zl_ild3 I56_82 ?_
      refine zr_ic_le (t := 96) I56_83 rfl (fun h83 => ?_) (fun h83 => ?_)
      · refine zl_ild6 I56_96 ?_
        refine zl_ald0 I56_98 ?_
        refine zr_getr (j := 0) I56_99 F8_12 rfl (sT8 hS) (sR8_0 hS) ?_
        refine zr_getr (j := 3) I56_102 F8_102 rfl (sT9 hS) (sR9_3 hS) ?_
        refine zr_giB (j := 0) hB (by decide) I56_105 F8_112 rfl (sT24 hS) (fun b105 => ?_)
        refine zr_ic_ge (t := 130) I56_108 rfl (fun h108 => ?_) (fun h108 => ?_)
        · refine zl_iinc6 I56_130 (by unfold zInR; omega) ?_
          refine zr_goto (t := 24) I56_133 rfl ?_
          have hst := zSl_s (c 24 0) (c 26) (fun j => c 26 j + c 27 j) a b h0 (x := x) (y := y) (z := z) hx (u := if i < c 24 0 then min ((c 26) i) b else b) rfl
          (try dsimp only at hst)
          refine ih _ (by omega) (by omega) _ _ _ _ (by omega) ?_ (by first | omega | (split <;> omega)) (by first | omega | (split <;> omega)) (by first | omega | (split <;> omega))
          rw [hst]
          refine Prod.ext ?_ (Prod.ext ?_ ?_) <;> dsimp only <;> (repeat' split) <;> omega
        · refine zl_ild5 I56_111 ?_
          refine zl_ald0 I56_113 ?_
          refine zr_getr (j := 0) I56_114 F8_12 rfl (sT8 hS) (sR8_0 hS) ?_
          refine zr_getr (j := 3) I56_117 F8_102 rfl (sT9 hS) (sR9_3 hS) ?_
          refine zl_ild6 I56_120 ?_
          refine zr_callV I56_122 C8_137 ⟨rfl, rfl⟩ ⟨rfl, Nat.le_of_ble_eq_true rfl⟩ (Or.inl ⟨rfl, sT24 hS⟩) (e_X3_end hS hB (by omega)) (fun v122 μ122 hv122 => ?_)
          obtain ⟨rfl, rfl⟩ := hv122
          dsimp only [Option.toList, List.cons_append, List.nil_append]
          refine zr_max I56_125 C8_176 (Nat.le_of_ble_eq_true rfl) ?_
          refine zl_ist5 I56_128 ?_
          refine zl_iinc6 I56_130 (by unfold zInR; omega) ?_
          refine zr_goto (t := 24) I56_133 rfl ?_
          have hst := zSl_s (c 24 0) (c 26) (fun j => c 26 j + c 27 j) a b h0 (x := x) (y := y) (z := z) hx (u := if i < c 24 0 then min ((c 26) i) b else b) rfl
          (try dsimp only at hst)
          refine ih _ (by omega) (by omega) _ _ _ _ (by omega) ?_ (by first | omega | (split <;> omega)) (by first | omega | (split <;> omega)) (by first | omega | (split <;> omega))
          rw [hst]
          refine Prod.ext ?_ (Prod.ext ?_ ?_) <;> dsimp only <;> (repeat' split) <;> omega
      · refine zl_ild7 I56_86 ?_
        refine zl_ild5 I56_88 ?_
        refine zr_isub I56_90 (by unfold zInR; omega) ?_
        refine zl_ist3 I56_91 ?_
        refine zl_ild5 I56_92 ?_
        refine zl_ist4 I56_94 ?_
        refine zl_ild6 I56_96 ?_
        refine zl_ald0 I56_98 ?_
        refine zr_getr (j := 0) I56_99 F8_12 rfl (sT8 hS) (sR8_0 hS) ?_
        refine zr_getr (j := 3) I56_102 F8_102 rfl (sT9 hS) (sR9_3 hS) ?_
        refine zr_giB (j := 0) hB (by decide) I56_105 F8_112 rfl (sT24 hS) (fun b105 => ?_)
        refine zr_ic_ge (t := 130) I56_108 rfl (fun h108 => ?_) (fun h108 => ?_)
        · refine zl_iinc6 I56_130 (by unfold zInR; omega) ?_
          refine zr_goto (t := 24) I56_133 rfl ?_
          have hst := zSl_s (c 24 0) (c 26) (fun j => c 26 j + c 27 j) a b h0 (x := x) (y := y) (z := z) hx (u := if i < c 24 0 then min ((c 26) i) b else b) rfl
          (try dsimp only at hst)
          refine ih _ (by omega) (by omega) _ _ _ _ (by omega) ?_ (by first | omega | (split <;> omega)) (by first | omega | (split <;> omega)) (by first | omega | (split <;> omega))
          rw [hst]
          refine Prod.ext ?_ (Prod.ext ?_ ?_) <;> dsimp only <;> (repeat' split) <;> omega
        · refine zl_ild5 I56_111 ?_
          refine zl_ald0 I56_113 ?_
          refine zr_getr (j := 0) I56_114 F8_12 rfl (sT8 hS) (sR8_0 hS) ?_
          refine zr_getr (j := 3) I56_117 F8_102 rfl (sT9 hS) (sR9_3 hS) ?_
          refine zl_ild6 I56_120 ?_
          refine zr_callV I56_122 C8_137 ⟨rfl, rfl⟩ ⟨rfl, Nat.le_of_ble_eq_true rfl⟩ (Or.inl ⟨rfl, sT24 hS⟩) (e_X3_end hS hB (by omega)) (fun v122 μ122 hv122 => ?_)
          obtain ⟨rfl, rfl⟩ := hv122
          dsimp only [Option.toList, List.cons_append, List.nil_append]
          refine zr_max I56_125 C8_176 (Nat.le_of_ble_eq_true rfl) ?_
          refine zl_ist5 I56_128 ?_
          refine zl_iinc6 I56_130 (by unfold zInR; omega) ?_
          refine zr_goto (t := 24) I56_133 rfl ?_
          have hst := zSl_s (c 24 0) (c 26) (fun j => c 26 j + c 27 j) a b h0 (x := x) (y := y) (z := z) hx (u := if i < c 24 0 then min ((c 26) i) b else b) rfl
          (try dsimp only at hst)
          refine ih _ (by omega) (by omega) _ _ _ _ (by omega) ?_ (by first | omega | (split <;> omega)) (by first | omega | (split <;> omega)) (by first | omega | (split <;> omega))
          rw [hst]
          refine Prod.ext ?_ (Prod.ext ?_ ?_) <;> dsimp only <;> (repeat' split) <;> omega
    · refine zl_ald0 I56_54 ?_
      refine zr_getr (j := 0) I56_55 F8_12 rfl (sT8 hS) (sR8_0 hS) ?_
      refine zr_getr (j := 3) I56_58 F8_102 rfl (sT9 hS) (sR9_3 hS) ?_
      refine zr_getr (j := 2) I56_61 F8_150 rfl (sT24 hS) (sR24_2 hS) ?_
      refine zl_ild6 I56_64 ?_
      refine zr_iaB hB (by decide) I56_66 (sT26 hS) (sN26 hS) (by omega) (fun b66 => ?_)
      refine zl_ild2 I56_67 ?_
      refine zr_min I56_68 C8_171 (Nat.le_of_ble_eq_true rfl) ?_
      refine zr_goto (t := 75) I56_71 rfl ?_
      refine zl_ist7 I56_75 ?_
      refine zl_ild7 I56_77 ?_
      refine zl_ild5 I56_79 ?_
      refine zr_isub I56_81 (by unfold zInR; omega) ?_
      refine zl_ild3 I56_82 ?_
      refine zr_ic_le (t := 96) I56_83 rfl (fun h83 => ?_) (fun h83 => ?_)
      · refine zl_ild6 I56_96 ?_
        refine zl_ald0 I56_98 ?_
        refine zr_getr (j := 0) I56_99 F8_12 rfl (sT8 hS) (sR8_0 hS) ?_
        refine zr_getr (j := 3) I56_102 F8_102 rfl (sT9 hS) (sR9_3 hS) ?_
        refine zr_giB (j := 0) hB (by decide) I56_105 F8_112 rfl (sT24 hS) (fun b105 => ?_)
        refine zr_ic_ge (t := 130) I56_108 rfl (fun h108 => ?_) (fun h108 => ?_)
        · refine zl_iinc6 I56_130 (by unfold zInR; omega) ?_
          refine zr_goto (t := 24) I56_133 rfl ?_
          have hst := zSl_s (c 24 0) (c 26) (fun j => c 26 j + c 27 j) a b h0 (x := x) (y := y) (z := z) hx (u := if i < c 24 0 then min ((c 26) i) b else b) rfl
          (try dsimp only at hst)
          refine ih _ (by omega) (by omega) _ _ _ _ (by omega) ?_ (by first | omega | (split <;> omega)) (by first | omega | (split <;> omega)) (by first | omega | (split <;> omega))
          rw [hst]
          refine Prod.ext ?_ (Prod.ext ?_ ?_) <;> dsimp only <;> (repeat' split) <;> omega
        · refine zl_ild5 I56_111 ?_
          refine zl_ald0 I56_113 ?_
          refine zr_getr (j := 0) I56_114 F8_12 rfl (sT8 hS) (sR8_0 hS) ?_
          refine zr_getr (j := 3) I56_117 F8_102 rfl (sT9 hS) (sR9_3 hS) ?_
          refine zl_ild6 I56_120 ?_
          refine zr_callV I56_122 C8_137 ⟨rfl, rfl⟩ ⟨rfl, Nat.le_of_ble_eq_true rfl⟩ (Or.inl ⟨rfl, sT24 hS⟩) (e_X3_end hS hB (by omega)) (fun v122 μ122 hv122 => ?_)
          obtain ⟨rfl, rfl⟩ := hv122
          dsimp only [Option.toList, List.cons_append, List.nil_append]
          refine zr_max I56_125 C8_176 (Nat.le_of_ble_eq_true rfl) ?_
          refine zl_ist5 I56_128 ?_
          refine zl_iinc6 I56_130 (by unfold zInR; omega) ?_
          refine zr_goto (t := 24) I56_133 rfl ?_
          have hst := zSl_s (c 24 0) (c 26) (fun j => c 26 j + c 27 j) a b h0 (x := x) (y := y) (z := z) hx (u := if i < c 24 0 then min ((c 26) i) b else b) rfl
          (try dsimp only at hst)
          refine ih _ (by omega) (by omega) _ _ _ _ (by omega) ?_ (by first | omega | (split <;> omega)) (by first | omega | (split <;> omega)) (by first | omega | (split <;> omega))
          rw [hst]
          refine Prod.ext ?_ (Prod.ext ?_ ?_) <;> dsimp only <;> (repeat' split) <;> omega
      · refine zl_ild7 I56_86 ?_
        refine zl_ild5 I56_88 ?_
        refine zr_isub I56_90 (by unfold zInR; omega) ?_
        refine zl_ist3 I56_91 ?_
        refine zl_ild5 I56_92 ?_
        refine zl_ist4 I56_94 ?_
        refine zl_ild6 I56_96 ?_
        refine zl_ald0 I56_98 ?_
        refine zr_getr (j := 0) I56_99 F8_12 rfl (sT8 hS) (sR8_0 hS) ?_
        refine zr_getr (j := 3) I56_102 F8_102 rfl (sT9 hS) (sR9_3 hS) ?_
        refine zr_giB (j := 0) hB (by decide) I56_105 F8_112 rfl (sT24 hS) (fun b105 => ?_)
        refine zr_ic_ge (t := 130) I56_108 rfl (fun h108 => ?_) (fun h108 => ?_)
        · refine zl_iinc6 I56_130 (by unfold zInR; omega) ?_
          refine zr_goto (t := 24) I56_133 rfl ?_
          have hst := zSl_s (c 24 0) (c 26) (fun j => c 26 j + c 27 j) a b h0 (x := x) (y := y) (z := z) hx (u := if i < c 24 0 then min ((c 26) i) b else b) rfl
          (try dsimp only at hst)
          refine ih _ (by omega) (by omega) _ _ _ _ (by omega) ?_ (by first | omega | (split <;> omega)) (by first | omega | (split <;> omega)) (by first | omega | (split <;> omega))
          rw [hst]
          refine Prod.ext ?_ (Prod.ext ?_ ?_) <;> dsimp only <;> (repeat' split) <;> omega
        · refine zl_ild5 I56_111 ?_
          refine zl_ald0 I56_113 ?_
          refine zr_getr (j := 0) I56_114 F8_12 rfl (sT8 hS) (sR8_0 hS) ?_
          refine zr_getr (j := 3) I56_117 F8_102 rfl (sT9 hS) (sR9_3 hS) ?_
          refine zl_ild6 I56_120 ?_
          refine zr_callV I56_122 C8_137 ⟨rfl, rfl⟩ ⟨rfl, Nat.le_of_ble_eq_true rfl⟩ (Or.inl ⟨rfl, sT24 hS⟩) (e_X3_end hS hB (by omega)) (fun v122 μ122 hv122 => ?_)
          obtain ⟨rfl, rfl⟩ := hv122
          dsimp only [Option.toList, List.cons_append, List.nil_append]
          refine zr_max I56_125 C8_176 (Nat.le_of_ble_eq_true rfl) ?_
          refine zl_ist5 I56_128 ?_
          refine zl_iinc6 I56_130 (by unfold zInR; omega) ?_
          refine zr_goto (t := 24) I56_133 rfl ?_
          have hst := zSl_s (c 24 0) (c 26) (fun j => c 26 j + c 27 j) a b h0 (x := x) (y := y) (z := z) hx (u := if i < c 24 0 then min ((c 26) i) b else b) rfl
          (try dsimp only at hst)
          refine ih _ (by omega) (by omega) _ _ _ _ (by omega) ?_ (by first | omega | (split <;> omega)) (by first | omega | (split <;> omega)) (by first | omega | (split <;> omega))
          rw [hst]
          refine Prod.ext ?_ (Prod.ext ?_ ?_) <;> dsimp only <;> (repeat' split) <;> omega
set_option maxRecDepth 10000 in
set_option maxHeartbeats 2000000 in
theorem e_X8_silence {d n sl : Nat} {S : zSh} {c : zC} (hS : zSok S) (hB : zBd c) (hc : 0 ≤ c 24 0 ∧ c 24 0 ≤ 60) {a b : Int} : zE (d + 2) 56 0 (zent 56 [zA 8, zI a, zI b]) [] ((n, sl), (S, c)) (fun r μ' => ((¬ (0 ≤ a ∧ a < b ∧ b ≤ 10080) ∧ zRd (-1) ((n, sl), (S, c)) r μ') ∨ ((0 ≤ a ∧ a < b ∧ b ≤ 10080) ∧ zRp (zSlR (zSl (c 24 0) (c 26) (fun j => c 26 j + c 27 j) a b (c 24 0 + 1).toNat)) ((n, sl), (S, c)) r μ'))) := by
  show zE (d + 2) 56 0 [some (zA 8), some (zI a), some (zI b), none, none, none, none, none] [] ((n, sl), (S, c)) _
  refine zl_ild1 I56_0 ?_
  refine zl_ild2 I56_1 ?_
  refine zr_sipush I56_2 ?_
  refine zr_callS I56_5 C8_70 ⟨rfl, rfl⟩ ⟨by simp, rfl, Nat.le_of_ble_eq_true rfl⟩ (e_X8_isInterval ) (fun v5 μ5 hv5 => ?_)
  obtain ⟨x5, rfl, hx5, rfl⟩ := hv5
  dsimp only [Option.toList, List.cons_append, List.nil_append]
  unfold zTf at hx5
  refine zr_if_ne (t := 13) I56_8 rfl (fun h8 => ?_) (fun h8 => ?_)
  · refine zr_iconst I56_13 ?_
    refine zl_ist3 I56_14 ?_
    refine zl_ild1 I56_15 ?_
    refine zl_ist4 I56_16 ?_
    refine zl_ild1 I56_18 ?_
    refine zl_ist5 I56_19 ?_
    refine zr_iconst I56_21 ?_
    refine zl_ist6 I56_22 ?_
    exact zE.mono (e_X8_silence_l hS hB hc (by omega) 0 (by omega) _ _ _ _ (by omega) rfl (by omega) (by omega) (by omega)) (fun r μ' h => Or.inr ⟨by omega, h⟩)
  · refine zr_iconst I56_11 ?_
    refine zr_iret I56_12 rfl ?_
    exact Or.inl ⟨by omega, rfl, rfl⟩
set_option maxRecDepth 10000 in
set_option maxHeartbeats 2000000 in
theorem e_X9_silence_l {d n sl : Nat} {S : zSh} {c : zC} (hS : zSok S) (hB : zBd c) (hc : 0 ≤ c 146 3 ∧ c 146 3 ≤ 60) {a b : Int} (ha : 0 ≤ a ∧ a < b ∧ b ≤ 10080) : ∀ i : Int, i ≤ c 146 3 + 1 → ∀ x : Int, ∀ y : Int, ∀ z : Int, ∀ w7 : Option zV, (0 ≤ i) → ((x, (y, z)) = zSl (c 146 3) (fun j => c 146 (230 + 4 * j + 1)) (fun j => c 146 (230 + 4 * j + 1) + c 146 (230 + 4 * j + 2)) a b i.toNat) → (0 ≤ x ∧ x ≤ 10080) → (0 ≤ y ∧ y ≤ 10080) → (a ≤ z ∧ z ≤ 200000) → zE (d + 2) 128 21 [some (zA 145), some (zI a), some (zI b), some (zI x), some (zI y), some (zI z), some (zI i), w7] [] ((n, sl), (S, c)) (zRp (zSlR (zSl (c 146 3) (fun j => c 146 (230 + 4 * j + 1)) (fun j => c 146 (230 + 4 * j + 1) + c 146 (230 + 4 * j + 2)) a b (c 146 3 + 1).toNat)) ((n, sl), (S, c))) := by
  refine zind _ (fun i ih hN => ?_)
  intro x y z w7 h0 hx hx1 hy1 hz1
  have g0 := hB 146 (230 + 4 * i + 0) (by decide)
  have g1 := hB 146 (230 + 4 * i + 1) (by decide)
  have g2 := hB 146 (230 + 4 * i + 2) (by decide)
  refine zl_ild6 I128_21 ?_
  refine zl_ald0 I128_23 ?_
  refine zr_getr (j := 0) I128_24 F9_7 rfl (sT145 hS) (sR145_0 hS) ?_
  refine zr_iconst I128_27 ?_
  refine zr_iaB hB (by decide) I128_28 (sT146 hS) (sN146 hS) (by omega) (fun b28 => ?_)
  refine zr_ic_gt (t := 127) I128_29 rfl (fun h29 => ?_) (fun h29 => ?_)
  · refine zl_ild3 I128_127 ?_
    refine zr_if_le (t := 142) I128_128 rfl (fun h128 => ?_) (fun h128 => ?_)
    · refine zr_bipush I128_142 ?_
      refine zr_iret I128_144 rfl ?_
      have hxx : zSl (c 146 3) (fun j => c 146 (230 + 4 * j + 1)) (fun j => c 146 (230 + 4 * j + 1) + c 146 (230 + 4 * j + 2)) a b (c 146 3 + 1).toNat = (x, (y, z)) := by rw [show c 146 3 + 1 = i by omega]; exact hx.symm
      refine ⟨_, rfl, ?_, rfl⟩
      rw [hxx]
      unfold zSlR
      dsimp only
      omega
    · refine zr_sipush I128_131 ?_
      refine zl_ild3 I128_134 ?_
      refine zr_imul I128_135 (by unfold zInR; omega) ?_
      refine zl_ild4 I128_136 ?_
      refine zr_iadd I128_138 (by unfold zInR; omega) ?_
      refine zr_goto (t := 144) I128_139 rfl ?_
      refine zr_iret I128_144 rfl ?_
      have hxx : zSl (c 146 3) (fun j => c 146 (230 + 4 * j + 1)) (fun j => c 146 (230 + 4 * j + 1) + c 146 (230 + 4 * j + 2)) a b (c 146 3 + 1).toNat = (x, (y, z)) := by rw [show c 146 3 + 1 = i by omega]; exact hx.symm
      refine ⟨_, rfl, ?_, rfl⟩
      rw [hxx]
      unfold zSlR
      dsimp only
      omega
  · refine zl_ild6 I128_32 ?_
    refine zl_ald0 I128_34 ?_
    refine zr_getr (j := 0) I128_35 F9_7 rfl (sT145 hS) (sR145_0 hS) ?_
    refine zr_iconst I128_38 ?_
    refine zr_iaB hB (by decide) I128_39 (sT146 hS) (sN146 hS) (by omega) (fun b39 => ?_)
    refine zr_ic_ge (t := 64) I128_40 rfl (fun h40 => ?_) (fun h40 => ?_)
    · refine zl_ild2 I128_64 ?_
      refine zl_ist7 I128_65 ?_
      refine zl_ild7 I128_67 ?_
      refine zl_ild5 I128_69 ?_
      refine zr_isub I128_71 (by unfold zInR; omega) ?_
      refine zl_ild3 I128_72 ?_
      refine zr_ic_le (t := 86) I128_73 rfl (fun h73 => ?_) (fun h73 => ?_)
      · refine zl_ild6 I128_86 ?_
        refine zl_ald0 I128_88 ?_
        refine zr_getr (j := 0) I128_89 F9_7 rfl (sT145 hS) (sR145_0 hS) ?_
        refine zr_iconst I128_92 ?_
        refine zr_iaB hB (by decide) I128_93 (sT146 hS) (sN146 hS) (by omega) (fun b93 => ?_)
        refine zr_ic_ge (t := 117) I128_94 rfl (fun h94 => ?_) (fun h94 => ?_)
        · refine zl_ild5 I128_117 ?_
          refine zl_ist5 I128_119 ?_
          refine zl_iinc6 I128_121 (by unfold zInR; omega) ?_
          refine zr_goto (t := 21) I128_124 rfl ?_
          have hst := zSl_s (c 146 3) (fun j => c 146 (230 + 4 * j + 1)) (fun j => c 146 (230 + 4 * j + 1) + c 146 (230 + 4 * j + 2)) a b h0 (x := x) (y := y) (z := z) hx (u := if i < c 146 3 then min ((fun j => c 146 (230 + 4 * j + 1)) i) b else b) rfl
          (try dsimp only at hst)
          refine ih _ (by omega) (by omega) _ _ _ _ (by omega) ?_ (by first | omega | (split <;> omega)) (by first | omega | (split <;> omega)) (by first | omega | (split <;> omega))
          rw [hst]
          refine Prod.ext ?_ (Prod.ext ?_ ?_) <;> dsimp only <;> (repeat' split) <;> omega
        · refine zl_ald0 I128_97 ?_
          refine zl_ild6 I128_98 ?_
          refine zr_callV I128_100 C9_70 ⟨rfl, rfl⟩ ⟨rfl, Nat.le_of_ble_eq_true rfl⟩ (Or.inl ⟨rfl, sT145 hS⟩) (e_X9_end hS hB (by omega)) (fun v100 μ100 hv100 => ?_)
          obtain ⟨rfl, rfl⟩ := hv100
          dsimp only [Option.toList, List.cons_append, List.nil_append]
          refine zl_ild5 I128_103 ?_
          refine zr_ic_le (t := 117) I128_105 rfl (fun h105 => ?_) (fun h105 => ?_)
          · refine zl_ild5 I128_117 ?_
            refine zl_ist5 I128_119 ?_
            refine zl_iinc6 I128_121 (by unfold zInR; omega) ?_
            refine zr_goto (t := 21) I128_124 rfl ?_
            have hst := zSl_s (c 146 3) (fun j => c 146 (230 + 4 * j + 1)) (fun j => c 146 (230 + 4 * j + 1) + c 146 (230 + 4 * j + 2)) a b h0 (x := x) (y := y) (z := z) hx (u := if i < c 146 3 then min ((fun j => c 146 (230 + 4 * j + 1)) i) b else b) rfl
            (try dsimp only at hst)
            refine ih _ (by omega) (by omega) _ _ _ _ (by omega) ?_ (by first | omega | (split <;> omega)) (by first | omega | (split <;> omega)) (by first | omega | (split <;> omega))
            rw [hst]
            refine Prod.ext ?_ (Prod.ext ?_ ?_) <;> dsimp only <;> (repeat' split) <;> omega
          · refine zl_ald0 I128_108 ?_
            refine zl_ild6 I128_109 ?_
            refine zr_callV I128_111 C9_70 ⟨rfl, rfl⟩ ⟨rfl, Nat.le_of_ble_eq_true rfl⟩ (Or.inl ⟨rfl, sT145 hS⟩) (e_X9_end hS hB (by omega)) (fun v111 μ111 hv111 => ?_)
            obtain ⟨rfl, rfl⟩ := hv111
            dsimp only [Option.toList, List.cons_append, List.nil_append]
            refine zr_goto (t := 119) I128_114 rfl ?_
            refine zl_ist5 I128_119 ?_
            refine zl_iinc6 I128_121 (by unfold zInR; omega) ?_
            refine zr_goto (t := 21) I128_124 rfl ?_
            have hst := zSl_s (c 146 3) (fun j => c 146 (230 + 4 * j + 1)) (fun j => c 146 (230 + 4 * j + 1) + c 146 (230 + 4 * j + 2)) a b h0 (x := x) (y := y) (z := z) hx (u := if i < c 146 3 then min ((fun j => c 146 (230 + 4 * j + 1)) i) b else b) rfl
            (try dsimp only at hst)
            refine ih _ (by omega) (by omega) _ _ _ _ (by omega) ?_ (by first | omega | (split <;> omega)) (by first | omega | (split <;> omega)) (by first | omega | (split <;> omega))
            rw [hst]
            refine Prod.ext ?_ (Prod.ext ?_ ?_) <;> dsimp only <;> (repeat' split) <;> omega
      · refine zl_ild7 I128_76 ?_
        refine zl_ild5 I128_78 ?_
        refine zr_isub I128_80 (by unfold zInR; omega) ?_
        refine zl_ist3 I128_81 ?_
        refine zl_ild5 I128_82 ?_
        refine zl_ist4 I128_84 ?_
        refine zl_ild6 I128_86 ?_
        refine zl_ald0 I128_88 ?_
        refine zr_getr (j := 0) I128_89 F9_7 rfl (sT145 hS) (sR145_0 hS) ?_
        refine zr_iconst I128_92 ?_
        refine zr_iaB hB (by decide) I128_93 (sT146 hS) (sN146 hS) (by omega) (fun b93 => ?_)
        refine zr_ic_ge (t := 117) I128_94 rfl (fun h94 => ?_) (fun h94 => ?_)
        · refine zl_ild5 I128_117 ?_
          refine zl_ist5 I128_119 ?_
          refine zl_iinc6 I128_121 (by unfold zInR; omega) ?_
          refine zr_goto (t := 21) I128_124 rfl ?_
          have hst := zSl_s (c 146 3) (fun j => c 146 (230 + 4 * j + 1)) (fun j => c 146 (230 + 4 * j + 1) + c 146 (230 + 4 * j + 2)) a b h0 (x := x) (y := y) (z := z) hx (u := if i < c 146 3 then min ((fun j => c 146 (230 + 4 * j + 1)) i) b else b) rfl
          (try dsimp only at hst)
          refine ih _ (by omega) (by omega) _ _ _ _ (by omega) ?_ (by first | omega | (split <;> omega)) (by first | omega | (split <;> omega)) (by first | omega | (split <;> omega))
          rw [hst]
          refine Prod.ext ?_ (Prod.ext ?_ ?_) <;> dsimp only <;> (repeat' split) <;> omega
        · refine zl_ald0 I128_97 ?_
          refine zl_ild6 I128_98 ?_
          refine zr_callV I128_100 C9_70 ⟨rfl, rfl⟩ ⟨rfl, Nat.le_of_ble_eq_true rfl⟩ (Or.inl ⟨rfl, sT145 hS⟩) (e_X9_end hS hB (by omega)) (fun v100 μ100 hv100 => ?_)
          obtain ⟨rfl, rfl⟩ := hv100
          dsimp only [Option.toList, List.cons_append, List.nil_append]
          refine zl_ild5 I128_103 ?_
          refine zr_ic_le (t := 117) I128_105 rfl (fun h105 => ?_) (fun h105 => ?_)
          · refine zl_ild5 I128_117 ?_
            refine zl_ist5 I128_119 ?_
            refine zl_iinc6 I128_121 (by unfold zInR; omega) ?_
            refine zr_goto (t := 21) I128_124 rfl ?_
            have hst := zSl_s (c 146 3) (fun j => c 146 (230 + 4 * j + 1)) (fun j => c 146 (230 + 4 * j + 1) + c 146 (230 + 4 * j + 2)) a b h0 (x := x) (y := y) (z := z) hx (u := if i < c 146 3 then min ((fun j => c 146 (230 + 4 * j + 1)) i) b else b) rfl
            (try dsimp only at hst)
            refine ih _ (by omega) (by omega) _ _ _ _ (by omega) ?_ (by first | omega | (split <;> omega)) (by first | omega | (split <;> omega)) (by first | omega | (split <;> omega))
            rw [hst]
            refine Prod.ext ?_ (Prod.ext ?_ ?_) <;> dsimp only <;> (repeat' split) <;> omega
          · refine zl_ald0 I128_108 ?_
            refine zl_ild6 I128_109 ?_
            refine zr_callV I128_111 C9_70 ⟨rfl, rfl⟩ ⟨rfl, Nat.le_of_ble_eq_true rfl⟩ (Or.inl ⟨rfl, sT145 hS⟩) (e_X9_end hS hB (by omega)) (fun v111 μ111 hv111 => ?_)
            obtain ⟨rfl, rfl⟩ := hv111
            dsimp only [Option.toList, List.cons_append, List.nil_append]
            refine zr_goto (t := 119) I128_114 rfl ?_
            refine zl_ist5 I128_119 ?_
            refine zl_iinc6 I128_121 (by unfold zInR; omega) ?_
            refine zr_goto (t := 21) I128_124 rfl ?_
            have hst := zSl_s (c 146 3) (fun j => c 146 (230 + 4 * j + 1)) (fun j => c 146 (230 + 4 * j + 1) + c 146 (230 + 4 * j + 2)) a b h0 (x := x) (y := y) (z := z) hx (u := if i < c 146 3 then min ((fun j => c 146 (230 + 4 * j + 1)) i) b else b) rfl
            (try dsimp only at hst)
            refine ih _ (by omega) (by omega) _ _ _ _ (by omega) ?_ (by first | omega | (split <;> omega)) (by first | omega | (split <;> omega)) (by first | omega | (split <;> omega))
            rw [hst]
            refine Prod.ext ?_ (Prod.ext ?_ ?_) <;> dsimp only <;> (repeat' split) <;> omega
    · refine zl_ald0 I128_43 ?_
      refine zl_ild6 I128_44 ?_
      refine zr_iconst I128_46 ?_
      refine zr_callV I128_47 C9_45 ⟨rfl, rfl⟩ ⟨rfl, Nat.le_of_ble_eq_true rfl⟩ (Or.inl ⟨rfl, sT145 hS⟩) (e_X9_of hS hB (by omega) (by omega)) (fun v47 μ47 hv47 => ?_)
      obtain ⟨rfl, rfl⟩ := hv47
      dsimp only [Option.toList, List.cons_append, List.nil_append]
      refine zl_ild2 I128_50 ?_
      refine zr_ic_ge (t := 64) I128_51 rfl (fun h51 => ?_) (fun h51 => ?_)
      · refine zl_ild2 I128_64 ?_
        refine zl_ist7 I128_65 ?_
        refine zl_ild7 I128_67 ?_
        refine zl_ild5 I128_69 ?_
        refine zr_isub I128_71 (by unfold zInR; omega) ?_
        refine zl_ild3 I128_72 ?_
        refine zr_ic_le (t := 86) I128_73 rfl (fun h73 => ?_) (fun h73 => ?_)
        · refine zl_ild6 I128_86 ?_
          refine zl_ald0 I128_88 ?_
          refine zr_getr (j := 0) I128_89 F9_7 rfl (sT145 hS) (sR145_0 hS) ?_
          refine zr_iconst I128_92 ?_
          refine zr_iaB hB (by decide) I128_93 (sT146 hS) (sN146 hS) (by omega) (fun b93 => ?_)
          refine zr_ic_ge (t := 117) I128_94 rfl (fun h94 => ?_) (fun h94 => ?_)
          · refine zl_ild5 I128_117 ?_
            refine zl_ist5 I128_119 ?_
            refine zl_iinc6 I128_121 (by unfold zInR; omega) ?_
            refine zr_goto (t := 21) I128_124 rfl ?_
            have hst := zSl_s (c 146 3) (fun j => c 146 (230 + 4 * j + 1)) (fun j => c 146 (230 + 4 * j + 1) + c 146 (230 + 4 * j + 2)) a b h0 (x := x) (y := y) (z := z) hx (u := if i < c 146 3 then min ((fun j => c 146 (230 + 4 * j + 1)) i) b else b) rfl
            (try dsimp only at hst)
            refine ih _ (by omega) (by omega) _ _ _ _ (by omega) ?_ (by first | omega | (split <;> omega)) (by first | omega | (split <;> omega)) (by first | omega | (split <;> omega))
            rw [hst]
            refine Prod.ext ?_ (Prod.ext ?_ ?_) <;> dsimp only <;> (repeat' split) <;> omega
          · refine zl_ald0 I128_97 ?_
            refine zl_ild6 I128_98 ?_
            refine zr_callV I128_100 C9_70 ⟨rfl, rfl⟩ ⟨rfl, Nat.le_of_ble_eq_true rfl⟩ (Or.inl ⟨rfl, sT145 hS⟩) (e_X9_end hS hB (by omega)) (fun v100 μ100 hv100 => ?_)
            obtain ⟨rfl, rfl⟩ := hv100
            dsimp only [Option.toList, List.cons_append, List.nil_append]
            refine zl_ild5 I128_103 ?_
            refine zr_ic_le (t := 117) I128_105 rfl (fun h105 => ?_) (fun h105 => ?_)
            · refine zl_ild5 I128_117 ?_
              refine zl_ist5 I128_119 ?_
              refine zl_iinc6 I128_121 (by unfold zInR; omega) ?_
              refine zr_goto (t := 21) I128_124 rfl ?_
              have hst := zSl_s (c 146 3) (fun j => c 146 (230 + 4 * j + 1)) (fun j => c 146 (230 + 4 * j + 1) + c 146 (230 + 4 * j + 2)) a b h0 (x := x) (y := y) (z := z) hx (u := if i < c 146 3 then min ((fun j => c 146 (230 + 4 * j + 1)) i) b else b) rfl
              (try dsimp only at hst)
              refine ih _ (by omega) (by omega) _ _ _ _ (by omega) ?_ (by first | omega | (split <;> omega)) (by first | omega | (split <;> omega)) (by first | omega | (split <;> omega))
              rw [hst]
              refine Prod.ext ?_ (Prod.ext ?_ ?_) <;> dsimp only <;> (repeat' split) <;> omega
            · refine zl_ald0 I128_108 ?_
              refine zl_ild6 I128_109 ?_
              refine zr_callV I128_111 C9_70 ⟨rfl, rfl⟩ ⟨rfl, Nat.le_of_ble_eq_true rfl⟩ (Or.inl ⟨rfl, sT145 hS⟩) (e_X9_end hS hB (by omega)) (fun v111 μ111 hv111 => ?_)
              obtain ⟨rfl, rfl⟩ := hv111
              dsimp only [Option.toList, List.cons_append, List.nil_append]
              refine zr_goto (t := 119) I128_114 rfl ?_
              refine zl_ist5 I128_119 ?_
              refine zl_iinc6 I128_121 (by unfold zInR; omega) ?_
              refine zr_goto (t := 21) I128_124 rfl ?_
              have hst := zSl_s (c 146 3) (fun j => c 146 (230 + 4 * j + 1)) (fun j => c 146 (230 + 4 * j + 1) + c 146 (230 + 4 * j + 2)) a b h0 (x := x) (y := y) (z := z) hx (u := if i < c 146 3 then min ((fun j => c 146 (230 + 4 * j + 1)) i) b else b) rfl
              (try dsimp only at hst)
              refine ih _ (by omega) (by omega) _ _ _ _ (by omega) ?_ (by first | omega | (split <;> omega)) (by first | omega | (split <;> omega)) (by first | omega | (split <;> omega))
              rw [hst]
              refine Prod.ext ?_ (Prod.ext ?_ ?_) <;> dsimp only <;> (repeat' split) <;> omega
        · refine zl_ild7 I128_76 ?_
          refine zl_ild5 I128_78 ?_
          refine zr_isub I128_80 (by unfold zInR; omega) ?_
          refine zl_ist3 I128_81 ?_
          refine zl_ild5 I128_82 ?_
          refine zl_ist4 I128_84 ?_
          refine zl_ild6 I128_86 ?_
          refine zl_ald0 I128_88 ?_
          refine zr_getr (j := 0) I128_89 F9_7 rfl (sT145 hS) (sR145_0 hS) ?_
          refine zr_iconst I128_92 ?_
          refine zr_iaB hB (by decide) I128_93 (sT146 hS) (sN146 hS) (by omega) (fun b93 => ?_)
          refine zr_ic_ge (t := 117) I128_94 rfl (fun h94 => ?_) (fun h94 => ?_)
          · refine zl_ild5 I128_117 ?_
            refine zl_ist5 I128_119 ?_
            refine zl_iinc6 I128_121 (by unfold zInR; omega) ?_
            refine zr_goto (t := 21) I128_124 rfl ?_
            have hst := zSl_s (c 146 3) (fun j => c 146 (230 + 4 * j + 1)) (fun j => c 146 (230 + 4 * j + 1) + c 146 (230 + 4 * j + 2)) a b h0 (x := x) (y := y) (z := z) hx (u := if i < c 146 3 then min ((fun j => c 146 (230 + 4 * j + 1)) i) b else b) rfl
            (try dsimp only at hst)
            refine ih _ (by omega) (by omega) _ _ _ _ (by omega) ?_ (by first | omega | (split <;> omega)) (by first | omega | (split <;> omega)) (by first | omega | (split <;> omega))
            rw [hst]
            refine Prod.ext ?_ (Prod.ext ?_ ?_) <;> dsimp only <;> (repeat' split) <;> omega
          · refine zl_ald0 I128_97 ?_
            refine zl_ild6 I128_98 ?_
            refine zr_callV I128_100 C9_70 ⟨rfl, rfl⟩ ⟨rfl, Nat.le_of_ble_eq_true rfl⟩ (Or.inl ⟨rfl, sT145 hS⟩) (e_X9_end hS hB (by omega)) (fun v100 μ100 hv100 => ?_)
            obtain ⟨rfl, rfl⟩ := hv100
            dsimp only [Option.toList, List.cons_append, List.nil_append]
            refine zl_ild5 I128_103 ?_
            refine zr_ic_le (t := 117) I128_105 rfl (fun h105 => ?_) (fun h105 => ?_)
            · refine zl_ild5 I128_117 ?_
              refine zl_ist5 I128_119 ?_
              refine zl_iinc6 I128_121 (by unfold zInR; omega) ?_
              refine zr_goto (t := 21) I128_124 rfl ?_
              have hst := zSl_s (c 146 3) (fun j => c 146 (230 + 4 * j + 1)) (fun j => c 146 (230 + 4 * j + 1) + c 146 (230 + 4 * j + 2)) a b h0 (x := x) (y := y) (z := z) hx (u := if i < c 146 3 then min ((fun j => c 146 (230 + 4 * j + 1)) i) b else b) rfl
              (try dsimp only at hst)
              refine ih _ (by omega) (by omega) _ _ _ _ (by omega) ?_ (by first | omega | (split <;> omega)) (by first | omega | (split <;> omega)) (by first | omega | (split <;> omega))
              rw [hst]
              refine Prod.ext ?_ (Prod.ext ?_ ?_) <;> dsimp only <;> (repeat' split) <;> omega
            · refine zl_ald0 I128_108 ?_
              refine zl_ild6 I128_109 ?_
              refine zr_callV I128_111 C9_70 ⟨rfl, rfl⟩ ⟨rfl, Nat.le_of_ble_eq_true rfl⟩ (Or.inl ⟨rfl, sT145 hS⟩) (e_X9_end hS hB (by omega)) (fun v111 μ111 hv111 => ?_)
              obtain ⟨rfl, rfl⟩ := hv111
              dsimp only [Option.toList, List.cons_append, List.nil_append]
              refine zr_goto (t := 119) I128_114 rfl ?_
              refine zl_ist5 I128_119 ?_
              refine zl_iinc6 I128_121 (by unfold zInR; omega) ?_
              refine zr_goto (t := 21) I128_124 rfl ?_
              have hst := zSl_s (c 146 3) (fun j => c 146 (230 + 4 * j + 1)) (fun j => c 146 (230 + 4 * j + 1) + c 146 (230 + 4 * j + 2)) a b h0 (x := x) (y := y) (z := z) hx (u := if i < c 146 3 then min ((fun j => c 146 (230 + 4 * j + 1)) i) b else b) rfl
              (try dsimp only at hst)
              refine ih _ (by omega) (by omega) _ _ _ _ (by omega) ?_ (by first | omega | (split <;> omega)) (by first | omega | (split <;> omega)) (by first | omega | (split <;> omega))
              rw [hst]
              refine Prod.ext ?_ (Prod.ext ?_ ?_) <;> dsimp only <;> (repeat' split) <;> omega
      · refine zl_ald0 I128_54 ?_
        refine zl_ild6 I128_55 ?_
        refine zr_iconst I128_57 ?_
        refine zr_callV I128_58 C9_45 ⟨rfl, rfl⟩ ⟨rfl, Nat.le_of_ble_eq_true rfl⟩ (Or.inl ⟨rfl, sT145 hS⟩) (e_X9_of hS hB (by omega) (by omega)) (fun v58 μ58 hv58 => ?_)
        obtain ⟨rfl, rfl⟩ := hv58
        dsimp only [Option.toList, List.cons_append, List.nil_append]
        refine zr_goto (t := 65) I128_61 rfl ?_
        refine zl_ist7 I128_65 ?_
        refine zl_ild7 I128_67 ?_
        refine zl_ild5 I128_69 ?_
        refine zr_isub I128_71 (by unfold zInR; omega) ?_
        refine zl_ild3 I128_72 ?_
        refine zr_ic_le (t := 86) I128_73 rfl (fun h73 => ?_) (fun h73 => ?_)
        · refine zl_ild6 I128_86 ?_
          refine zl_ald0 I128_88 ?_
          refine zr_getr (j := 0) I128_89 F9_7 rfl (sT145 hS) (sR145_0 hS) ?_
          refine zr_iconst I128_92 ?_
          refine zr_iaB hB (by decide) I128_93 (sT146 hS) (sN146 hS) (by omega) (fun b93 => ?_)
          refine zr_ic_ge (t := 117) I128_94 rfl (fun h94 => ?_) (fun h94 => ?_)
          · refine zl_ild5 I128_117 ?_
            refine zl_ist5 I128_119 ?_
            refine zl_iinc6 I128_121 (by unfold zInR; omega) ?_
            refine zr_goto (t := 21) I128_124 rfl ?_
            have hst := zSl_s (c 146 3) (fun j => c 146 (230 + 4 * j + 1)) (fun j => c 146 (230 + 4 * j + 1) + c 146 (230 + 4 * j + 2)) a b h0 (x := x) (y := y) (z := z) hx (u := if i < c 146 3 then min ((fun j => c 146 (230 + 4 * j + 1)) i) b else b) rfl
            (try dsimp only at hst)
            refine ih _ (by omega) (by omega) _ _ _ _ (by omega) ?_ (by first | omega | (split <;> omega)) (by first | omega | (split <;> omega)) (by first | omega | (split <;> omega))
            rw [hst]
            refine Prod.ext ?_ (Prod.ext ?_ ?_) <;> dsimp only <;> (repeat' split) <;> omega
          · refine zl_ald0 I128_97 ?_
            refine zl_ild6 I128_98 ?_
            refine zr_callV I128_100 C9_70 ⟨rfl, rfl⟩ ⟨rfl, Nat.le_of_ble_eq_true rfl⟩ (Or.inl ⟨rfl, sT145 hS⟩) (e_X9_end hS hB (by omega)) (fun v100 μ100 hv100 => ?_)
            obtain ⟨rfl, rfl⟩ := hv100
            dsimp only [Option.toList, List.cons_append, List.nil_append]
            refine zl_ild5 I128_103 ?_
            refine zr_ic_le (t := 117) I128_105 rfl (fun h105 => ?_) (fun h105 => ?_)
            · refine zl_ild5 I128_117 ?_
              refine zl_ist5 I128_119 ?_
              refine zl_iinc6 I128_121 (by unfold zInR; omega) ?_
              refine zr_goto (t := 21) I128_124 rfl ?_
              have hst := zSl_s (c 146 3) (fun j => c 146 (230 + 4 * j + 1)) (fun j => c 146 (230 + 4 * j + 1) + c 146 (230 + 4 * j + 2)) a b h0 (x := x) (y := y) (z := z) hx (u := if i < c 146 3 then min ((fun j => c 146 (230 + 4 * j + 1)) i) b else b) rfl
              (try dsimp only at hst)
              refine ih _ (by omega) (by omega) _ _ _ _ (by omega) ?_ (by first | omega | (split <;> omega)) (by first | omega | (split <;> omega)) (by first | omega | (split <;> omega))
              rw [hst]
              refine Prod.ext ?_ (Prod.ext ?_ ?_) <;> dsimp only <;> (repeat' split) <;> omega
            · refine zl_ald0 I128_108 ?_
              refine zl_ild6 I128_109 ?_
              refine zr_callV I128_111 C9_70 ⟨rfl, rfl⟩ ⟨rfl, Nat.le_of_ble_eq_true rfl⟩ (Or.inl ⟨rfl, sT145 hS⟩) (e_X9_end hS hB (by omega)) (fun v111 μ111 hv111 => ?_)
              obtain ⟨rfl, rfl⟩ := hv111
              dsimp only [Option.toList, List.cons_append, List.nil_append]
              refine zr_goto (t := 119) I128_114 rfl ?_
              refine zl_ist5 I128_119 ?_
              refine zl_iinc6 I128_121 (by unfold zInR; omega) ?_
              refine zr_goto (t := 21) I128_124 rfl ?_
              have hst := zSl_s (c 146 3) (fun j => c 146 (230 + 4 * j + 1)) (fun j => c 146 (230 + 4 * j + 1) + c 146 (230 + 4 * j + 2)) a b h0 (x := x) (y := y) (z := z) hx (u := if i < c 146 3 then min ((fun j => c 146 (230 + 4 * j + 1)) i) b else b) rfl
              (try dsimp only at hst)
              refine ih _ (by omega) (by omega) _ _ _ _ (by omega) ?_ (by first | omega | (split <;> omega)) (by first | omega | (split <;> omega)) (by first | omega | (split <;> omega))
              rw [hst]
              refine Prod.ext ?_ (Prod.ext ?_ ?_) <;> dsimp only <;> (repeat' split) <;> omega
        · refine zl_ild7 I128_76 ?_
          refine zl_ild5 I128_78 ?_
          refine zr_isub I128_80 (by unfold zInR; omega) ?_
          refine zl_ist3 I128_81 ?_
          refine zl_ild5 I128_82 ?_
          refine zl_ist4 I128_84 ?_
          refine zl_ild6 I128_86 ?_
          refine zl_ald0 I128_88 ?_
          refine zr_getr (j := 0) I128_89 F9_7 rfl (sT145 hS) (sR145_0 hS) ?_
          refine zr_iconst I128_92 ?_
          refine zr_iaB hB (by decide) I128_93 (sT146 hS) (sN146 hS) (by omega) (fun b93 => ?_)
          refine zr_ic_ge (t := 117) I128_94 rfl (fun h94 => ?_) (fun h94 => ?_)
          · refine zl_ild5 I128_117 ?_
            refine zl_ist5 I128_119 ?_
            refine zl_iinc6 I128_121 (by unfold zInR; omega) ?_
            refine zr_goto (t := 21) I128_124 rfl ?_
            have hst := zSl_s (c 146 3) (fun j => c 146 (230 + 4 * j + 1)) (fun j => c 146 (230 + 4 * j + 1) + c 146 (230 + 4 * j + 2)) a b h0 (x := x) (y := y) (z := z) hx (u := if i < c 146 3 then min ((fun j => c 146 (230 + 4 * j + 1)) i) b else b) rfl
            (try dsimp only at hst)
            refine ih _ (by omega) (by omega) _ _ _ _ (by omega) ?_ (by first | omega | (split <;> omega)) (by first | omega | (split <;> omega)) (by first | omega | (split <;> omega))
            rw [hst]
            refine Prod.ext ?_ (Prod.ext ?_ ?_) <;> dsimp only <;> (repeat' split) <;> omega
          · refine zl_ald0 I128_97 ?_
            refine zl_ild6 I128_98 ?_
            refine zr_callV I128_100 C9_70 ⟨rfl, rfl⟩ ⟨rfl, Nat.le_of_ble_eq_true rfl⟩ (Or.inl ⟨rfl, sT145 hS⟩) (e_X9_end hS hB (by omega)) (fun v100 μ100 hv100 => ?_)
            obtain ⟨rfl, rfl⟩ := hv100
            dsimp only [Option.toList, List.cons_append, List.nil_append]
            refine zl_ild5 I128_103 ?_
            refine zr_ic_le (t := 117) I128_105 rfl (fun h105 => ?_) (fun h105 => ?_)
            · refine zl_ild5 I128_117 ?_
              refine zl_ist5 I128_119 ?_
              refine zl_iinc6 I128_121 (by unfold zInR; omega) ?_
              refine zr_goto (t := 21) I128_124 rfl ?_
              have hst := zSl_s (c 146 3) (fun j => c 146 (230 + 4 * j + 1)) (fun j => c 146 (230 + 4 * j + 1) + c 146 (230 + 4 * j + 2)) a b h0 (x := x) (y := y) (z := z) hx (u := if i < c 146 3 then min ((fun j => c 146 (230 + 4 * j + 1)) i) b else b) rfl
              (try dsimp only at hst)
              refine ih _ (by omega) (by omega) _ _ _ _ (by omega) ?_ (by first | omega | (split <;> omega)) (by first | omega | (split <;> omega)) (by first | omega | (split <;> omega))
              rw [hst]
              refine Prod.ext ?_ (Prod.ext ?_ ?_) <;> dsimp only <;> (repeat' split) <;> omega
            · refine zl_ald0 I128_108 ?_
              refine zl_ild6 I128_109 ?_
              refine zr_callV I128_111 C9_70 ⟨rfl, rfl⟩ ⟨rfl, Nat.le_of_ble_eq_true rfl⟩ (Or.inl ⟨rfl, sT145 hS⟩) (e_X9_end hS hB (by omega)) (fun v111 μ111 hv111 => ?_)
              obtain ⟨rfl, rfl⟩ := hv111
              dsimp only [Option.toList, List.cons_append, List.nil_append]
              refine zr_goto (t := 119) I128_114 rfl ?_
              refine zl_ist5 I128_119 ?_
              refine zl_iinc6 I128_121 (by unfold zInR; omega) ?_
              refine zr_goto (t := 21) I128_124 rfl ?_
              have hst := zSl_s (c 146 3) (fun j => c 146 (230 + 4 * j + 1)) (fun j => c 146 (230 + 4 * j + 1) + c 146 (230 + 4 * j + 2)) a b h0 (x := x) (y := y) (z := z) hx (u := if i < c 146 3 then min ((fun j => c 146 (230 + 4 * j + 1)) i) b else b) rfl
              (try dsimp only at hst)
              refine ih _ (by omega) (by omega) _ _ _ _ (by omega) ?_ (by first | omega | (split <;> omega)) (by first | omega | (split <;> omega)) (by first | omega | (split <;> omega))
              rw [hst]
              refine Prod.ext ?_ (Prod.ext ?_ ?_) <;> dsimp only <;> (repeat' split) <;> omega
set_option maxRecDepth 10000 in
set_option maxHeartbeats 2000000 in
theorem e_X9_silence {d n sl : Nat} {S : zSh} {c : zC} (hS : zSok S) (hB : zBd c) (hc : 0 ≤ c 146 3 ∧ c 146 3 ≤ 60) {a b : Int} : zE (d + 2) 128 0 (zent 128 [zA 145, zI a, zI b]) [] ((n, sl), (S, c)) (fun r μ' => ((¬ (0 ≤ a ∧ a < b ∧ b ≤ 10080) ∧ zRd (-1) ((n, sl), (S, c)) r μ') ∨ ((0 ≤ a ∧ a < b ∧ b ≤ 10080) ∧ zRp (zSlR (zSl (c 146 3) (fun j => c 146 (230 + 4 * j + 1)) (fun j => c 146 (230 + 4 * j + 1) + c 146 (230 + 4 * j + 2)) a b (c 146 3 + 1).toNat)) ((n, sl), (S, c)) r μ'))) := by
  show zE (d + 2) 128 0 [some (zA 145), some (zI a), some (zI b), none, none, none, none, none] [] ((n, sl), (S, c)) _
  refine zl_ild1 I128_0 ?_
  refine zl_ild2 I128_1 ?_
  refine zr_callS I128_2 C9_132 ⟨rfl, rfl⟩ ⟨by simp, rfl, Nat.le_of_ble_eq_true rfl⟩ (e_X9_isSpan ) (fun v2 μ2 hv2 => ?_)
  obtain ⟨x2, rfl, hx2, rfl⟩ := hv2
  dsimp only [Option.toList, List.cons_append, List.nil_append]
  unfold zTf at hx2
  refine zr_if_ne (t := 10) I128_5 rfl (fun h5 => ?_) (fun h5 => ?_)
  · refine zr_iconst I128_10 ?_
    refine zl_ist3 I128_11 ?_
    refine zl_ild1 I128_12 ?_
    refine zl_ist4 I128_13 ?_
    refine zl_ild1 I128_15 ?_
    refine zl_ist5 I128_16 ?_
    refine zr_iconst I128_18 ?_
    refine zl_ist6 I128_19 ?_
    exact zE.mono (e_X9_silence_l hS hB hc (by omega) 0 (by omega) _ _ _ _ (by omega) rfl (by omega) (by omega) (by omega)) (fun r μ' h => Or.inr ⟨by omega, h⟩)
  · refine zr_iconst I128_8 ?_
    refine zr_iret I128_9 rfl ?_
    exact Or.inl ⟨by omega, rfl, rfl⟩
