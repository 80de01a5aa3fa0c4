/-! minutes in the model; silence -/
/-- the longest silence, its beginning, since when it is silent, behind k items (and the end) -/
def zSl (n : Int) (st en : Int → Int) (a b : Int) : Nat → Int × (Int × Int)
  | 0 => (0, (a, a))
  | k + 1 => ((if (zSl n st en a b k).1 < (if (k : Int) < n then min (st k) b else b) - (zSl n st en a b k).2.2 then (if (k : Int) < n then min (st k) b else b) - (zSl n st en a b k).2.2 else (zSl n st en a b k).1),
    ((if (zSl n st en a b k).1 < (if (k : Int) < n then min (st k) b else b) - (zSl n st en a b k).2.2 then (zSl n st en a b k).2.2 else (zSl n st en a b k).2.1),
    (if (k : Int) < n then max (zSl n st en a b k).2.2 (en k) else (zSl n st en a b k).2.2)))
theorem zSl_s (n : Int) (st en : Int → Int) (a b : Int) {i : Int} (h : 0 ≤ i) {x y z u : Int} (hx : (x, (y, z)) = zSl n st en a b i.toNat) (hu : u = if i < n then min (st i) b else b) : zSl n st en a b (i + 1).toNat = (if x < u - z then u - z else x, (if x < u - z then z else y, if i < n then max z (en i) else z)) := by
  rw [show (i + 1).toNat = i.toNat + 1 by omega]
  show (_, (_, _)) = _
  rw [← hx, show ((i.toNat : Nat) : Int) = i by omega, ← hu]
theorem zSl_congr {n : Int} {st en st' en' : Int → Int} {a b : Int} (h : ∀ j, 0 ≤ j → j < n → st j = st' j ∧ en j = en' j) : ∀ k, zSl n st en a b k = zSl n st' en' a b k
  | 0 => rfl
  | k + 1 => by
    unfold zSl
    rw [zSl_congr h k]
    by_cases hk : (k : Int) < n
    · rw [(h k (by omega) hk).1, (h k (by omega) hk).2]
    · simp only [if_neg hk]
def zSlR (r : Int × (Int × Int)) (x : Int) : Prop := (0 < r.1 ∧ x = 10081 * r.1 + r.2.1) ∨ (r.1 ≤ 0 ∧ x = -9)
set_option maxRecDepth 10000 in
set_option maxHeartbeats 2000000 in
theorem e_X8_silence_l {d n sl : Nat} {S : zSh} {c : zC} (hS : zSok S) (hB : zBd c) (hc : 0 ≤ c 24 0 ∧ c 24 0 ≤ 60) {a b : Int} (ha : 0 ≤ a ∧ a < b ∧ b ≤ 10080) : ∀ i : Int, i ≤ c 24 0 + 1 → ∀ x : Int, ∀ y : Int, ∀ z : Int, ∀ w7 : Option zV, (0 ≤ i) → ((x, (y, z)) = zSl (c 24 0) (c 26) (fun j => c 26 j + c 27 j) a b i.toNat) → (0 ≤ x ∧ x ≤ 10080) → (0 ≤ y ∧ y ≤ 10080) → (a ≤ z ∧ z ≤ 200000) → zE (d + 2) 56 24 [some (zA 8), some (zI a), some (zI b), some (zI x), some (zI y), some (zI z), some (zI i), w7] [] ((n, sl), (S, c)) (zRp (zSlR (zSl (c 24 0) (c 26) (fun j => c 26 j + c 27 j) a b (c 24 0 + 1).toNat)) ((n, sl), (S, c))) := by
  refine zind _ (fun i ih hN => ?_)
  intro x y z w7 h0 hx hx1 hy1 hz1
  have g1 := hB 26 i (by decide)
  have g2 := hB 27 i (by decide)
  refine zl_ild6 I56_24 ?_
  refine zl_ald0 I56_26 ?_
  refine zr_getr (j := 0) I56_27 F8_12 rfl (sT8 hS) (sR8_0 hS) ?_
  refine zr_getr (j := 3) I56_30 F8_102 rfl (sT9 hS) (sR9_3 hS) ?_
  refine zr_giB (j := 0) hB (by decide) I56_33 F8_112 rfl (sT24 hS) (fun b33 => ?_)
  refine zr_ic_gt (t := 136) I56_36 rfl (fun h36 => ?_) (fun h36 => ?_)
  · refine zl_ild3 I56_136 ?_
    refine zr_if_ne (t := 145) I56_137 rfl (fun h137 => ?_) (fun h137 => ?_)
    · refine zr_sipush I56_145 ?_
      refine zl_ild3 I56_148 ?_
      refine zr_imul I56_149 (by unfold zInR; omega) ?_
      refine zl_ild4 I56_150 ?_
      refine zr_iadd I56_152 (by unfold zInR; omega) ?_
      refine zr_iret I56_153 rfl ?_
      have hxx : zSl (c 24 0) (c 26) (fun j => c 26 j + c 27 j) a b (c 24 0 + 1).toNat = (x, (y, z)) := by rw [show c 24 0 + 1 = i by omega]; exact hx.symm
      refine ⟨_, rfl, ?_, rfl⟩
      rw [hxx]
      unfold zSlR
      dsimp only
      omega
    · refine zr_bipush I56_140 ?_
      refine zr_goto (t := 153) I56_142 rfl ?_
      refine zr_iret I56_153 rfl ?_
      have hxx : zSl (c 24 0) (c 26) (fun j => c 26 j + c 27 j) a b (c 24 0 + 1).toNat = (x, (y, z)) := by rw [show c 24 0 + 1 = i by omega]; exact hx.symm
      refine ⟨_, rfl, ?_, rfl⟩
      rw [hxx]
      unfold zSlR
      dsimp only
      omega
  · refine zl_ild6 I56_39 ?_
    refine zl_ald0 I56_41 ?_
    refine zr_getr (j := 0) I56_42 F8_12 rfl (sT8 hS) (sR8_0 hS) ?_
    refine zr_getr (j := 3) I56_45 F8_102 rfl (sT9 hS) (sR9_3 hS) ?_
    refine zr_giB (j := 0) hB (by decide) I56_48 F8_112 rfl (sT24 hS) (fun b48 => ?_)
    refine zr_ic_ge (t := 74) I56_51 rfl (fun h51 => ?_) (fun h51 => ?_)
    · refine zl_ild2 I56_74 ?_
      refine zl_ist7 I56_75 ?_
      refine zl_ild7 I56_77 ?_
      refine zl_ild5 I56_79 ?_
      refine zr_isub I56_81 (by unfold zInR; omega) ?_
      refine zl_ild3 I56_82 ?_
      refine zr_ic_le (t := 96) I56_83 rfl (fun h83 => ?_) (fun h83 => ?_)
      · refine zl_ild6 I56_96 ?_
        refine zl_ald0 I56_98 ?_
        refine zr_getr (j := 0) I56_99 F8_12 rfl (sT8 hS) (sR8_0 hS) ?_
        refine zr_getr (j := 3) I56_102 F8_102 rfl (sT9 hS) (sR9_3 hS) ?_
        refine zr_giB (j := 0) hB (by decide) I56_105 F8_112 rfl (sT24 hS) (fun b105 => ?_)
        refine zr_ic_ge (t := 130) I56_108 rfl (fun h108 => ?_) (fun h108 => ?_)
        · refine zl_iinc6 I56_130 (by unfold zInR; omega) ?_
          refine zr_goto (t := 24) I56_133 rfl ?_
          have hst := zSl_s (c 24 0) (c 26) (fun j => c 26 j + c 27 j) a b h0 (x := x) (y := y) (z := z) hx (u := if i < c 24 0 then min ((c 26) i) b else b) rfl
          (try dsimp only at hst)
          refine ih _ (by omega) (by omega) _ _ _ _ (by omega) ?_ (by first | omega | (split <;> omega)) (by first | omega | (split <;> omega)) (by first | omega | (split <;> omega))
          rw [hst]
          refine Prod.ext ?_ (Prod.ext ?_ ?_) <;> dsimp only <;> (repeat' split) <;> omega
        · refine zl_ild5 I56_111 ?_
          refine zl_ald0 I56_113 ?_
          refine zr_getr (j := 0) I56_114 F8_12 rfl (sT8 hS) (sR8_0 hS) ?_
          refine zr_getr (j := 3) I56_117 F8_102 rfl (sT9 hS) (sR9_3 hS) ?_
          refine zl_ild6 I56_120 ?_
          refine zr_callV I56_122 C8_137 ⟨rfl, rfl⟩ ⟨rfl, Nat.le_of_ble_eq_true rfl⟩ (Or.inl ⟨rfl, sT24 hS⟩) (e_X3_end hS hB (by omega)) (fun v122 μ122 hv122 => ?_)
          obtain ⟨rfl, rfl⟩ := hv122
          dsimp only [Option.toList, List.cons_append, List.nil_append]
          refine zr_max I56_125 C8_176 (Nat.le_of_ble_eq_true rfl) ?_
          refine zl_ist5 I56_128 ?_
          refine zl_iinc6 I56_130 (by unfold zInR; omega) ?_
          refine zr_goto (t := 24) I56_133 rfl ?_
          have hst := zSl_s (c 24 0) (c 26) (fun j => c 26 j + c 27 j) a b h0 (x := x) (y := y) (z := z) hx (u := if i < c 24 0 then min ((c 26) i) b else b) rfl
          (try dsimp only at hst)
          refine ih _ (by omega) (by omega) _ _ _ _ (by omega) ?_ (by first | omega | (split <;> omega)) (by first | omega | (split <;> omega)) (by first | omega | (split <;> omega))
          rw [hst]
          refine Prod.ext ?_ (Prod.ext ?_ ?_) <;> dsimp only <;> (repeat' split) <;> omega
      · refine zl_ild7 I56_86 ?_
        refine zl_ild5 I56_88 ?_
        refine zr_isub I56_90 (by unfold zInR; omega) ?_
        refine zl_ist3 I56_91 ?_
        refine zl_ild5 I56_92 ?_
        refine zl_ist4 I56_94 ?_
        refine zl_ild6 I56_96 ?_
        refine zl_ald0 I56_98 ?_
        refine zr_getr (j := 0) I56_99 F8_12 rfl (sT8 hS) (sR8_0 hS) ?_
        refine zr_getr (j := 3) I56_102 F8_102 rfl (sT9 hS) (sR9_3 hS) ?_
        refine zr_giB (j := 0) hB (by decide) I56_105 F8_112 rfl (sT24 hS) (fun b105 => ?_)
        refine zr_ic_ge (t := 130) I56_108 rfl (fun h108 => ?_) (fun h108 => ?_)
        · refine zl_iinc6 I56_130 (by unfold zInR; omega) ?_
          refine zr_goto (t := 24) I56_133 rfl ?_
          have hst := zSl_s (c 24 0) (c 26) (fun j => c 26 j + c 27 j) a b h0 (x := x) (y := y) (z := z) hx (u := if i < c 24 0 then min ((c 26) i) b else b) rfl
          (try dsimp only at hst)
          refine ih _ (by omega) (by omega) _ _ _ _ (by omega) ?_ (by first | omega | (split <;> omega)) (by first | omega | (split <;> omega)) (by first | omega | (split <;> omega))
          rw [hst]
          refine Prod.ext ?_ (Prod.ext ?_ ?_) <;> dsimp only <;> (repeat' split) <;> omega
        · refine zl_ild5 I56_111 ?_
          refine zl_ald0 I56_113 ?_
          refine zr_getr (j := 0) I56_114 F8_12 rfl (sT8 hS) (sR8_0 hS) ?_
          refine zr_getr (j := 3) I56_117 F8_102 rfl (sT9 hS) (sR9_3 hS) ?_
          refine zl_ild6 I56_120 ?_
          refine zr_callV I56_122 C8_137 ⟨rfl, rfl⟩ ⟨rfl, Nat.le_of_ble_eq_true rfl⟩ (Or.inl ⟨rfl, sT24 hS⟩) (e_X3_end hS hB (by omega)) (fun v122 μ122 hv122 => ?_)
          obtain ⟨rfl, rfl⟩ := hv122
          dsimp only [Option.toList, List.cons_append, List.nil_append]
          refine zr_max I56_125 C8_176 (Nat.le_of_ble_eq_true rfl) ?_
          refine zl_ist5 I56_128 ?_
          refine zl_iinc6 I56_130 (by unfold zInR; omega) ?_
          refine zr_goto (t := 24) I56_133 rfl ?_
          have hst := zSl_s (c 24 0) (c 26) (fun j => c 26 j + c 27 j) a b h0 (x := x) (y := y) (z := z) hx (u := if i < c 24 0 then min ((c 26) i) b else b) rfl
          (try dsimp only at hst)
          refine ih _ (by omega) (by omega) _ _ _ _ (by omega) ?_ (by first | omega | (split <;> omega)) (by first | omega | (split <;> omega)) (by first | omega | (split <;> omega))
          rw [hst]
          refine Prod.ext ?_ (Prod.ext ?_ ?_) <;> dsimp only <;> (repeat' split) <;> omega
    · refine zl_ald0 I56_54 ?_
      refine zr_getr (j := 0) I56_55 F8_12 rfl (sT8 hS) (sR8_0 hS) ?_
      refine zr_getr (j := 3) I56_58 F8_102 rfl (sT9 hS) (sR9_3 hS) ?_
      refine zr_getr (j := 2) I56_61 F8_150 rfl (sT24 hS) (sR24_2 hS) ?_
      refine zl_ild6 I56_64 ?_
      refine zr_iaB hB (by decide) I56_66 (sT26 hS) (sN26 hS) (by omega) (fun b66 => ?_)
      refine zl_ild2 I56_67 ?_
      refine zr_min I56_68 C8_171 (Nat.le_of_ble_eq_true rfl) ?_
      refine zr_goto (t := 75) I56_71 rfl ?_
      refine zl_ist7 I56_75 ?_
      refine zl_ild7 I56_77 ?_
      refine zl_ild5 I56_79 ?_
      refine zr_isub I56_81 (by unfold zInR; omega) ?_
      refine zl_ild3 I56_82 ?_
      refine zr_ic_le (t := 96) I56_83 rfl (fun h83 => ?_) (fun h83 => ?_)
      · refine zl_ild6 I56_96 ?_
        refine zl_ald0 I56_98 ?_
        refine zr_getr (j := 0) I56_99 F8_12 rfl (sT8 hS) (sR8_0 hS) ?_
        refine zr_getr (j := 3) I56_102 F8_102 rfl (sT9 hS) (sR9_3 hS) ?_
        refine zr_giB (j := 0) hB (by decide) I56_105 F8_112 rfl (sT24 hS) (fun b105 => ?_)
        refine zr_ic_ge (t := 130) I56_108 rfl (fun h108 => ?_) (fun h108 => ?_)
        · refine zl_iinc6 I56_130 (by unfold zInR; omega) ?_
          refine zr_goto (t := 24) I56_133 rfl ?_
          have hst := zSl_s (c 24 0) (c 26) (fun j => c 26 j + c 27 j) a b h0 (x := x) (y := y) (z := z) hx (u := if i < c 24 0 then min ((c 26) i) b else b) rfl
          (try dsimp only at hst)
          refine ih _ (by omega) (by omega) _ _ _ _ (by omega) ?_ (by first | omega | (split <;> omega)) (by first | omega | (split <;> omega)) (by first | omega | (split <;> omega))
          rw [hst]
          refine Prod.ext ?_ (Prod.ext ?_ ?_) <;> dsimp only <;> (repeat' split) <;> omega
        · refine zl_ild5 I56_111 ?_
          refine zl_ald0 I56_113 ?_
          refine zr_getr (j := 0) I56_114 F8_12 rfl (sT8 hS) (sR8_0 hS) ?_
          refine zr_getr (j := 3) I56_117 F8_102 rfl (sT9 hS) (sR9_3 hS) ?_
          refine zl_ild6 I56_120 ?_
          refine zr_callV I56_122 C8_137 ⟨rfl, rfl⟩ ⟨rfl, Nat.le_of_ble_eq_true rfl⟩ (Or.inl ⟨rfl, sT24 hS⟩) (e_X3_end hS hB (by omega)) (fun v122 μ122 hv122 => ?_)
          obtain ⟨rfl, rfl⟩ := hv122
          dsimp only [Option.toList, List.cons_append, List.nil_append]
          refine zr_max I56_125 C8_176 (Nat.le_of_ble_eq_true rfl) ?_
          refine zl_ist5 I56_128 ?_
          refine zl_iinc6 I56_130 (by unfold zInR; omega) ?_
          refine zr_goto (t := 24) I56_133 rfl ?_
          have hst := zSl_s (c 24 0) (c 26) (fun j => c 26 j + c 27 j) a b h0 (x := x) (y := y) (z := z) hx (u := if i < c 24 0 then min ((c 26) i) b else b) rfl
          (try dsimp only at hst)
          refine ih _ (by omega) (by omega) _ _ _ _ (by omega) ?_ (by first | omega | (split <;> omega)) (by first | omega | (split <;> omega)) (by first | omega | (split <;> omega))
          rw [hst]
          refine Prod.ext ?_ (Prod.ext ?_ ?_) <;> dsimp only <;> (repeat' split) <;> omega
      · refine zl_ild7 I56_86 ?_
        refine zl_ild5 I56_88 ?_
        refine zr_isub I56_90 (by unfold zInR; omega) ?_
        refine zl_ist3 I56_91 ?_
        refine zl_ild5 I56_92 ?_
        refine zl_ist4 I56_94 ?_
        refine zl_ild6 I56_96 ?_
        refine zl_ald0 I56_98 ?_
        refine zr_getr (j := 0) I56_99 F8_12 rfl (sT8 hS) (sR8_0 hS) ?_
        refine zr_getr (j := 3) I56_102 F8_102 rfl (sT9 hS) (sR9_3 hS) ?_
        refine zr_giB (j := 0) hB (by decide) I56_105 F8_112 rfl (sT24 hS) (fun b105 => ?_)
        refine zr_ic_ge (t := 130) I56_108 rfl (fun h108 => ?_) (fun h108 => ?_)
        · refine zl_iinc6 I56_130 (by unfold zInR; omega) ?_
          refine zr_goto (t := 24) I56_133 rfl ?_
          have hst := zSl_s (c 24 0) (c 26) (fun j => c 26 j + c 27 j) a b h0 (x := x) (y := y) (z := z) hx (u := if i < c 24 0 then min ((c 26) i) b else b) rfl
          (try dsimp only at hst)
          refine ih _ (by omega) (by omega) _ _ _ _ (by omega) ?_ (by first | omega | (split <;> omega)) (by first | omega | (split <;> omega)) (by first | omega | (split <;> omega))
          rw [hst]
          refine Prod.ext ?_ (Prod.ext ?_ ?_) <;> dsimp only <;> (repeat' split) <;> omega
        · refine zl_ild5 I56_111 ?_
          refine zl_ald0 I56_113 ?_
          refine zr_getr (j := 0) I56_114 F8_12 rfl (sT8 hS) (sR8_0 hS) ?_
          refine zr_getr (j := 3) I56_117 F8_102 rfl (sT9 hS) (sR9_3 hS) ?_
          refine zl_ild6 I56_120 ?_
          refine zr_callV I56_122 C8_137 ⟨rfl, rfl⟩ ⟨rfl, Nat.le_of_ble_eq_true rfl⟩ (Or.inl ⟨rfl, sT24 hS⟩) (e_X3_end hS hB (by omega)) (fun v122 μ122 hv122 => ?_)
          obtain ⟨rfl, rfl⟩ := hv122
          dsimp only [Option.toList, List.cons_append, List.nil_append]
          refine zr_max I56_125 C8_176 (Nat.le_of_ble_eq_true rfl) ?_
          refine zl_ist5 I56_128 ?_
          refine zl_iinc6 I56_130 (by unfold zInR; omega) ?_
          refine zr_goto (t := 24) I56_133 rfl ?_
          have hst := zSl_s (c 24 0) (c 26) (fun j => c 26 j + c 27 j) a b h0 (x := x) (y := y) (z := z) hx (u := if i < c 24 0 then min ((c 26) i) b else b) rfl
          (try dsimp only at hst)
          refine ih _ (by omega) (by omega) _ _ _ _ (by omega) ?_ (by first | omega | (split <;> omega)) (by first | omega | (split <;> omega)) (by first | omega | (split <;> omega))
          rw [hst]
          refine Prod.ext ?_ (Prod.ext ?_ ?_) <;> dsimp only <;> (repeat' split) <;> omega
set_option maxRecDepth 10000 in
set_option maxHeartbeats 2000000 in
theorem e_X8_silence {d n sl : Nat} {S : zSh} {c : zC} (hS : zSok S) (hB : zBd c) (hc : 0 ≤ c 24 0 ∧ c 24 0 ≤ 60) {a b : Int} : zE (d + 2) 56 0 (zent 56 [zA 8, zI a, zI b]) [] ((n, sl), (S, c)) (fun r μ' => ((¬ (0 ≤ a ∧ a < b ∧ b ≤ 10080) ∧ zRd (-1) ((n, sl), (S, c)) r μ') ∨ ((0 ≤ a ∧ a < b ∧ b ≤ 10080) ∧ zRp (zSlR (zSl (c 24 0) (c 26) (fun j => c 26 j + c 27 j) a b (c 24 0 + 1).toNat)) ((n, sl), (S, c)) r μ'))) := by
  show zE (d + 2) 56 0 [some (zA 8), some (zI a), some (zI b), none, none, none, none, none] [] ((n, sl), (S, c)) _
  refine zl_ild1 I56_0 ?_
  refine zl_ild2 I56_1 ?_
  refine zr_sipush I56_2 ?_
  refine zr_callS I56_5 C8_70 ⟨rfl, rfl⟩ ⟨by simp, rfl, Nat.le_of_ble_eq_true rfl⟩ (e_X8_isInterval ) (fun v5 μ5 hv5 => ?_)
  obtain ⟨x5, rfl, hx5, rfl⟩ := hv5
  dsimp only [Option.toList, List.cons_append, List.nil_append]
  unfold zTf at hx5
  refine zr_if_ne (t := 13) I56_8 rfl (fun h8 => ?_) (fun h8 => ?_)
  · refine zr_iconst I56_13 ?_
    refine zl_ist3 I56_14 ?_
    refine zl_ild1 I56_15 ?_
    refine zl_ist4 I56_16 ?_
    refine zl_ild1 I56_18 ?_
    refine zl_ist5 I56_19 ?_
    refine zr_iconst I56_21 ?_
    refine zl_ist6 I56_22 ?_
    exact zE.mono (e_X8_silence_l hS hB hc (by omega) 0 (by omega) _ _ _ _ (by omega) rfl (by omega) (by omega) (by omega)) (fun r μ' h => Or.inr ⟨by omega, h⟩)
  · refine zr_iconst I56_11 ?_
    refine zr_iret I56_12 rfl ?_
    exact Or.inl ⟨by omega, rfl, rfl⟩
