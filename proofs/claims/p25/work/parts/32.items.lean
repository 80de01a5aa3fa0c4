/-! sums over an index; items -/
def zS (f : Int → Int) : Nat → Int
  | 0 => 0
  | k + 1 => zS f k + f k
def zSum (f : Int → Int) (n : Int) : Int := zS f n.toNat
theorem zSum_0 (f : Int → Int) : zSum f 0 = 0 := rfl
theorem zSum_s (f : Int → Int) {i : Int} (h : 0 ≤ i) : zSum f (i + 1) = zSum f i + f i := by
  unfold zSum
  rw [show (i + 1).toNat = i.toNat + 1 by omega]
  show zS f i.toNat + f (i.toNat : Int) = _
  rw [show ((i.toNat : Nat) : Int) = i by omega]
theorem zSum_le {f : Int → Int} {lo hi : Int} (n : Int) (hn : 0 ≤ n) (h : ∀ j, 0 ≤ j → j < n → lo ≤ f j ∧ f j ≤ hi) : lo * n ≤ zSum f n ∧ zSum f n ≤ hi * n := by
  have key : ∀ k : Nat, (k : Int) ≤ n → lo * k ≤ zS f k ∧ zS f k ≤ hi * k := by
    intro k
    induction k with
    | zero => intro _; simp [zS]
    | succ k ih =>
      intro hk
      have h1 := ih (by omega)
      have h2 := h k (by omega) (by omega)
      have e1 : lo * ((k + 1 : Nat) : Int) = lo * k + lo := by rw [show ((k + 1 : Nat) : Int) = (k : Int) + 1 by omega, Int.mul_add, Int.mul_one]
      have e2 : hi * ((k + 1 : Nat) : Int) = hi * k + hi := by rw [show ((k + 1 : Nat) : Int) = (k : Int) + 1 by omega, Int.mul_add, Int.mul_one]
      rw [e1, e2]
      show lo * k + lo ≤ zS f k + f k ∧ zS f k + f k ≤ hi * k + hi
      omega
  have h1 := key n.toNat (by omega)
  rw [show ((n.toNat : Nat) : Int) = n by omega] at h1
  exact h1
theorem zSum_congr {f g : Int → Int} {n : Int} (h : ∀ j, 0 ≤ j → j < n → f j = g j) : zSum f n = zSum g n := by
  have key : ∀ k : Nat, (k : Int) ≤ n → zS f k = zS g k := by
    intro k
    induction k with
    | zero => intro _; rfl
    | succ k ih =>
      intro hk
      show zS f k + f k = zS g k + g k
      rw [ih (by omega), h k (by omega) (by omega)]
  by_cases hn : 0 ≤ n
  · exact key n.toNat (by omega)
  · unfold zSum
    rw [show n.toNat = 0 by omega]
    rfl
def zMin (s e a b : Int) : Int := max 0 (min e b - max s a)
set_option maxRecDepth 10000 in
set_option maxHeartbeats 2000000 in
theorem e_X3_minutesIn {d n sl : Nat} {S : zSh} {c : zC} (hS : zSok S) (hB : zBd c) {i a b : Int} (hi : 0 ≤ i ∧ i < 60) (ha : -100000 ≤ a ∧ a ≤ 100000) (hb : -100000 ≤ b ∧ b ≤ 100000) : zE (d + 1) 18 0 (zent 18 [zA 24, zI i, zI a, zI b]) [] ((n, sl), (S, c)) (zRd (zMin (c 26 i) (c 26 i + c 27 i) a b) ((n, sl), (S, c))) := by
  show zE (d + 1) 18 0 [some (zA 24), some (zI i), some (zI a), some (zI b)] [] ((n, sl), (S, c)) _
  refine zr_iconst I18_0 ?_
  refine zl_ald0 I18_1 ?_
  refine zl_ild1 I18_2 ?_
  refine zr_callV I18_3 C3_28 ⟨rfl, rfl⟩ ⟨rfl, Nat.le_of_ble_eq_true rfl⟩ (Or.inl ⟨rfl, sT24 hS⟩) (e_X3_end hS hB (by omega)) (fun v3 μ3 hv3 => ?_)
  obtain ⟨rfl, rfl⟩ := hv3
  dsimp only [Option.toList, List.cons_append, List.nil_append]
  refine zl_ild3 I18_6 ?_
  refine zr_min I18_7 C3_32 (Nat.le_of_ble_eq_true rfl) ?_
  refine zl_ald0 I18_10 ?_
  refine zr_getr (j := 2) I18_11 F3_15 rfl (sT24 hS) (sR24_2 hS) ?_
  refine zl_ild1 I18_14 ?_
  refine zr_iaB hB (by decide) I18_15 (sT26 hS) (sN26 hS) (by omega) (fun b15 => ?_)
  refine zl_ild2 I18_16 ?_
  refine zr_max I18_17 C3_38 (Nat.le_of_ble_eq_true rfl) ?_
  refine zr_isub I18_20 (by have g1 := hB 26 i (by decide); have g2 := hB 27 i (by decide); unfold zInR; (repeat' split) <;> omega) ?_
  refine zr_max I18_21 C3_38 (Nat.le_of_ble_eq_true rfl) ?_
  refine zr_iret I18_24 rfl ?_
  refine ⟨congrArg (fun z => some (zI z)) ?_, rfl⟩
  unfold zMin
  repeat' split
  all_goals omega
set_option maxRecDepth 10000 in
set_option maxHeartbeats 2000000 in
theorem e_X3_minutesOf_l {d n sl : Nat} {S : zSh} {c : zC} (hS : zSok S) (hB : zBd c) (hc : 0 ≤ c 24 0 ∧ c 24 0 ≤ 60) {p : Int} : ∀ i : Int, i ≤ c 24 0 → ∀ m : Int, (0 ≤ i) → (m = zSum (fun j => if c 25 j = p then c 27 j else 0) i) → zE (d + 0) 19 4 [some (zA 24), some (zI p), some (zI m), some (zI i)] [] ((n, sl), (S, c)) (zRd (zSum (fun j => if c 25 j = p then c 27 j else 0) (c 24 0)) ((n, sl), (S, c))) := by
  refine zind _ (fun i ih hN => ?_)
  intro m h0 hm
  have hmb := zSum_le (f := (fun j => if c 25 j = p then c 27 j else 0)) (lo := -100000) (hi := 100000) i h0 (fun j _ _ => by have := hB 27 j (by decide); (try dsimp only); split <;> omega)
  refine zl_ild3 I19_4 ?_
  refine zl_ald0 I19_5 ?_
  refine zr_giB (j := 0) hB (by decide) I19_6 F3_24 rfl (sT24 hS) (fun b6 => ?_)
  refine zr_ic_ge (t := 37) I19_9 rfl (fun h9 => ?_) (fun h9 => ?_)
  · refine zl_ild2 I19_37 ?_
    refine zr_iret I19_38 rfl ?_
    exact ⟨by rw [hm, show i = c 24 0 by omega], rfl⟩
  · refine zl_ald0 I19_12 ?_
    refine zr_getr (j := 1) I19_13 F3_9 rfl (sT24 hS) (sR24_1 hS) ?_
    refine zl_ild3 I19_16 ?_
    refine zr_iaB hB (by decide) I19_17 (sT25 hS) (sN25 hS) (by omega) (fun b17 => ?_)
    refine zl_ild1 I19_18 ?_
    refine zr_ic_ne (t := 31) I19_19 rfl (fun h19 => ?_) (fun h19 => ?_)
    · refine zl_iinc3 I19_31 (by unfold zInR; omega) ?_
      refine zr_goto (t := 4) I19_34 rfl ?_
      refine ih _ (by omega) (by omega) _ (by omega) ?_
      rw [zSum_s _ h0, hm]
      first | rw [if_pos (by omega)] | (rw [if_neg (by omega)]; omega)
    · refine zl_ild2 I19_22 ?_
      refine zl_ald0 I19_23 ?_
      refine zr_getr (j := 3) I19_24 F3_18 rfl (sT24 hS) (sR24_3 hS) ?_
      refine zl_ild3 I19_27 ?_
      refine zr_iaB hB (by decide) I19_28 (sT27 hS) (sN27 hS) (by omega) (fun b28 => ?_)
      refine zr_iadd I19_29 (by unfold zInR; omega) ?_
      refine zl_ist2 I19_30 ?_
      refine zl_iinc3 I19_31 (by unfold zInR; omega) ?_
      refine zr_goto (t := 4) I19_34 rfl ?_
      refine ih _ (by omega) (by omega) _ (by omega) ?_
      rw [zSum_s _ h0, hm]
      first | rw [if_pos (by omega)] | (rw [if_neg (by omega)]; omega)
set_option maxRecDepth 10000 in
set_option maxHeartbeats 2000000 in
theorem e_X3_minutesOf {d n sl : Nat} {S : zSh} {c : zC} (hS : zSok S) (hB : zBd c) (hc : 0 ≤ c 24 0 ∧ c 24 0 ≤ 60) {p : Int} : zE (d + 0) 19 0 (zent 19 [zA 24, zI p]) [] ((n, sl), (S, c)) (zRd (zSum (fun j => if c 25 j = p then c 27 j else 0) (c 24 0)) ((n, sl), (S, c))) := by
  show zE (d + 0) 19 0 [some (zA 24), some (zI p), none, none] [] ((n, sl), (S, c)) _
  refine zr_iconst I19_0 ?_
  refine zl_ist2 I19_1 ?_
  refine zr_iconst I19_2 ?_
  refine zl_ist3 I19_3 ?_
  exact e_X3_minutesOf_l hS hB hc 0 (by omega) 0 (by omega) rfl
set_option maxRecDepth 10000 in
set_option maxHeartbeats 2000000 in
theorem e_X3_indexFor_l {d n sl : Nat} {S : zSh} {c : zC} (hS : zSok S) (hB : zBd c) (hc : 0 ≤ c 24 0 ∧ c 24 0 ≤ 60) {t : Int} : ∀ i : Int, i ≤ c 24 0 → ∀ m : Int, (0 ≤ i) → (m = zSum (fun j => if c 26 j < t then 1 else 0) i) → zE (d + 0) 20 4 [some (zA 24), some (zI t), some (zI m), some (zI i)] [] ((n, sl), (S, c)) (zRd (zSum (fun j => if c 26 j < t then 1 else 0) (c 24 0)) ((n, sl), (S, c))) := by
  refine zind _ (fun i ih hN => ?_)
  intro m h0 hm
  have hmb := zSum_le (f := (fun j => if c 26 j < t then 1 else 0)) (lo := 0) (hi := 1) i h0 (fun j _ _ => by (try dsimp only); split <;> omega)
  refine zl_ild3 I20_4 ?_
  refine zl_ald0 I20_5 ?_
  refine zr_giB (j := 0) hB (by decide) I20_6 F3_24 rfl (sT24 hS) (fun b6 => ?_)
  refine zr_ic_ge (t := 31) I20_9 rfl (fun h9 => ?_) (fun h9 => ?_)
  · refine zl_ild2 I20_31 ?_
    refine zr_iret I20_32 rfl ?_
    exact ⟨by rw [hm, show i = c 24 0 by omega], rfl⟩
  · refine zl_ald0 I20_12 ?_
    refine zr_getr (j := 2) I20_13 F3_15 rfl (sT24 hS) (sR24_2 hS) ?_
    refine zl_ild3 I20_16 ?_
    refine zr_iaB hB (by decide) I20_17 (sT26 hS) (sN26 hS) (by omega) (fun b17 => ?_)
    refine zl_ild1 I20_18 ?_
    refine zr_ic_ge (t := 25) I20_19 rfl (fun h19 => ?_) (fun h19 => ?_)
    · refine zl_iinc3 I20_25 (by unfold zInR; omega) ?_
      refine zr_goto (t := 4) I20_28 rfl ?_
      refine ih _ (by omega) (by omega) _ (by omega) ?_
      rw [zSum_s _ h0, hm]
      first | rw [if_pos (by omega)] | (rw [if_neg (by omega)]; omega)
    · refine zl_iinc2 I20_22 (by unfold zInR; omega) ?_
      refine zl_iinc3 I20_25 (by unfold zInR; omega) ?_
      refine zr_goto (t := 4) I20_28 rfl ?_
      refine ih _ (by omega) (by omega) _ (by omega) ?_
      rw [zSum_s _ h0, hm]
      first | rw [if_pos (by omega)] | (rw [if_neg (by omega)]; omega)
set_option maxRecDepth 10000 in
set_option maxHeartbeats 2000000 in
theorem e_X3_indexFor {d n sl : Nat} {S : zSh} {c : zC} (hS : zSok S) (hB : zBd c) (hc : 0 ≤ c 24 0 ∧ c 24 0 ≤ 60) {t : Int} : zE (d + 0) 20 0 (zent 20 [zA 24, zI t]) [] ((n, sl), (S, c)) (zRd (zSum (fun j => if c 26 j < t then 1 else 0) (c 24 0)) ((n, sl), (S, c))) := by
  show zE (d + 0) 20 0 [some (zA 24), some (zI t), none, none] [] ((n, sl), (S, c)) _
  refine zr_iconst I20_0 ?_
  refine zl_ist2 I20_1 ?_
  refine zr_iconst I20_2 ?_
  refine zl_ist3 I20_3 ?_
  exact e_X3_indexFor_l hS hB hc 0 (by omega) 0 (by omega) rfl
/-- the first of n with f x = t, or -9 -/
def zFind (n : Int) (f : Int → Int) (t : Int) (x : Int) : Prop := (0 ≤ x ∧ x < n ∧ f x = t ∧ ∀ j, 0 ≤ j → j < x → f j ≠ t) ∨ (x = -9 ∧ ∀ j, 0 ≤ j → j < n → f j ≠ t)
set_option maxRecDepth 10000 in
set_option maxHeartbeats 2000000 in
theorem e_X3_beginningAt_l {d n sl : Nat} {S : zSh} {c : zC} (hS : zSok S) (hB : zBd c) (hc : 0 ≤ c 24 0 ∧ c 24 0 ≤ 60) {t : Int} : ∀ i : Int, i ≤ c 24 0 → (0 ≤ i) → (∀ j, 0 ≤ j → j < i → (c 26) j ≠ t) → zE (d + 0) 16 2 [some (zA 24), some (zI t), some (zI i)] [] ((n, sl), (S, c)) (zRp (zFind (c 24 0) (c 26) t) ((n, sl), (S, c))) := by
  refine zind _ (fun i ih hN => ?_)
  intro h0 hp
  refine zl_ild2 I16_2 ?_
  refine zl_ald0 I16_3 ?_
  refine zr_giB (j := 0) hB (by decide) I16_4 F3_24 rfl (sT24 hS) (fun b4 => ?_)
  refine zr_ic_ge (t := 28) I16_7 rfl (fun h7 => ?_) (fun h7 => ?_)
  · refine zr_bipush I16_28 ?_
    refine zr_iret I16_30 rfl ?_
    exact ⟨_, rfl, Or.inr ⟨rfl, fun j h1 h2 => hp j h1 (by omega)⟩, rfl⟩
  · refine zl_ald0 I16_10 ?_
    refine zr_getr (j := 2) I16_11 F3_15 rfl (sT24 hS) (sR24_2 hS) ?_
    refine zl_ild2 I16_14 ?_
    refine zr_iaB hB (by decide) I16_15 (sT26 hS) (sN26 hS) (by omega) (fun b15 => ?_)
    refine zl_ild1 I16_16 ?_
    refine zr_ic_ne (t := 22) I16_17 rfl (fun h17 => ?_) (fun h17 => ?_)
    · refine zl_iinc2 I16_22 (by unfold zInR; omega) ?_
      refine zr_goto (t := 2) I16_25 rfl ?_
      refine ih _ (by omega) (by omega) (by omega) (fun j hj1 hj2 => ?_)
      by_cases e : j = i
      · subst e; first | (dsimp only; omega) | omega
      · exact hp j hj1 (by omega)
    · refine zl_ild2 I16_20 ?_
      refine zr_iret I16_21 rfl ?_
      exact ⟨_, rfl, Or.inl ⟨h0, by omega, by first | omega | (dsimp only; omega), hp⟩, rfl⟩
set_option maxRecDepth 10000 in
set_option maxHeartbeats 2000000 in
theorem e_X3_beginningAt {d n sl : Nat} {S : zSh} {c : zC} (hS : zSok S) (hB : zBd c) (hc : 0 ≤ c 24 0 ∧ c 24 0 ≤ 60) {t : Int} : zE (d + 0) 16 0 (zent 16 [zA 24, zI t]) [] ((n, sl), (S, c)) (zRp (zFind (c 24 0) (c 26) t) ((n, sl), (S, c))) := by
  show zE (d + 0) 16 0 [some (zA 24), some (zI t), none] [] ((n, sl), (S, c)) _
  refine zr_iconst I16_0 ?_
  refine zl_ist2 I16_1 ?_
  exact e_X3_beginningAt_l hS hB hc 0 (by omega) (by omega) (fun j h1 h2 => absurd h1 (by omega))
set_option maxRecDepth 10000 in
set_option maxHeartbeats 2000000 in
theorem e_X3_endingAt_l {d n sl : Nat} {S : zSh} {c : zC} (hS : zSok S) (hB : zBd c) (hc : 0 ≤ c 24 0 ∧ c 24 0 ≤ 60) {t : Int} : ∀ i : Int, i ≤ c 24 0 → (0 ≤ i) → (∀ j, 0 ≤ j → j < i → (fun j => c 26 j + c 27 j) j ≠ t) → zE (d + 1) 17 2 [some (zA 24), some (zI t), some (zI i)] [] ((n, sl), (S, c)) (zRp (zFind (c 24 0) (fun j => c 26 j + c 27 j) t) ((n, sl), (S, c))) := by
  refine zind _ (fun i ih hN => ?_)
  intro h0 hp
  refine zl_ild2 I17_2 ?_
  refine zl_ald0 I17_3 ?_
  refine zr_giB (j := 0) hB (by decide) I17_4 F3_24 rfl (sT24 hS) (fun b4 => ?_)
  refine zr_ic_ge (t := 27) I17_7 rfl (fun h7 => ?_) (fun h7 => ?_)
  · refine zr_bipush I17_27 ?_
    refine zr_iret I17_29 rfl ?_
    exact ⟨_, rfl, Or.inr ⟨rfl, fun j h1 h2 => hp j h1 (by omega)⟩, rfl⟩
  · refine zl_ald0 I17_10 ?_
    refine zl_ild2 I17_11 ?_
    refine zr_callV I17_12 C3_28 ⟨rfl, rfl⟩ ⟨rfl, Nat.le_of_ble_eq_true rfl⟩ (Or.inl ⟨rfl, sT24 hS⟩) (e_X3_end hS hB (by omega)) (fun v12 μ12 hv12 => ?_)
    obtain ⟨rfl, rfl⟩ := hv12
    dsimp only [Option.toList, List.cons_append, List.nil_append]
    refine zl_ild1 I17_15 ?_
    refine zr_ic_ne (t := 21) I17_16 rfl (fun h16 => ?_) (fun h16 => ?_)
    · refine zl_iinc2 I17_21 (by unfold zInR; omega) ?_
      refine zr_goto (t := 2) I17_24 rfl ?_
      refine ih _ (by omega) (by omega) (by omega) (fun j hj1 hj2 => ?_)
      by_cases e : j = i
      · subst e; first | (dsimp only; omega) | omega
      · exact hp j hj1 (by omega)
    · refine zl_ild2 I17_19 ?_
      refine zr_iret I17_20 rfl ?_
      exact ⟨_, rfl, Or.inl ⟨h0, by omega, by first | omega | (dsimp only; omega), hp⟩, rfl⟩
set_option maxRecDepth 10000 in
set_option maxHeartbeats 2000000 in
theorem e_X3_endingAt {d n sl : Nat} {S : zSh} {c : zC} (hS : zSok S) (hB : zBd c) (hc : 0 ≤ c 24 0 ∧ c 24 0 ≤ 60) {t : Int} : zE (d + 1) 17 0 (zent 17 [zA 24, zI t]) [] ((n, sl), (S, c)) (zRp (zFind (c 24 0) (fun j => c 26 j + c 27 j) t) ((n, sl), (S, c))) := by
  show zE (d + 1) 17 0 [some (zA 24), some (zI t), none] [] ((n, sl), (S, c)) _
  refine zr_iconst I17_0 ?_
  refine zl_ist2 I17_1 ?_
  exact e_X3_endingAt_l hS hB hc 0 (by omega) (by omega) (fun j h1 h2 => absurd h1 (by omega))
