/-! the constructors -/
def zrl (l : List (Option Nat)) : Int → Option Nat := fun k => if 0 ≤ k then (l[k.toNat]?).join else none
theorem zrl_0 (m : Nat) : (fun _ => none : Int → Option Nat) = zrl (List.replicate m none) := by
  funext k
  unfold zrl
  split
  · rw [List.getElem?_replicate]
    split <;> rfl
  · rfl
theorem zrup_l {l : List (Option Nat)} {i : Nat} {v : Option Nat} (h : i < l.length) : zrup (zrl l) (i : Int) v = zrl (l.set i v) := by
  funext k
  unfold zrup zrl
  by_cases e : k = (i : Int)
  · rw [if_pos e, if_pos (by omega), show k.toNat = i by omega, List.getElem?_set_self h]
    rfl
  · rw [if_neg e]
    by_cases e2 : 0 ≤ k
    · rw [if_pos e2, if_pos e2, List.getElem?_set_ne (by omega)]
    · rw [if_neg e2, if_neg e2]
abbrev zSc : Type := Nat × (Int × (Int → Option Nat))
/-- q is being made: its references are l, W the cells made from n0 on, empty as yet -/
def zCb (S0 : zSh) (c0 : zC) (n0 q tag : Nat) (z : Int) (S : zSh) (c : zC) (n : Nat) (l : List (Option Nat)) (W : List zSc) : Prop := (n = n0 + W.length ∧ q < n0) ∧ (∀ r, r < n0 → r ≠ q → S r = S0 r) ∧ S q = (tag, (z, zrl l)) ∧ (∀ (i : Nat) (s : zSc), W[i]? = some s → S (n0 + i) = s) ∧ (∀ r, r < n0 → c r = c0 r) ∧ (∀ r k, n0 ≤ r → (r < n ∨ c0 r k = 0) → c r k = 0)
section ZK
variable {S0 S S2 : zSh} {c0 c c2 : zC} {n0 q tag n n2 ci : Nat} {z x : Int} {l lc : List (Option Nat)} {W Wc : List zSc}
theorem zCb_t (h : zCb S0 c0 n0 q tag z S c n l W) {X : zSc} : (zsup S n X q).1 = tag := by
  have h1 := h.1
  rw [zsup_ne (by omega), h.2.2.1]
theorem zCb_up {S1 : zSh} {c1 : zC} {n1 : Nat} {W1 : List zSc} {j v : Nat} (h1 : n1 = n0 + W1.length ∧ q < n0) (h2 : ∀ r, r < n0 → r ≠ q → S1 r = S0 r) (h3 : S1 q = (tag, (z, zrl l))) (h4 : ∀ (i : Nat) (s : zSc), W1[i]? = some s → S1 (n0 + i) = s) (h5 : ∀ r, r < n0 → c1 r = c0 r) (h6 : ∀ r k, n0 ≤ r → (r < n1 ∨ c0 r k = 0) → c1 r k = 0) (hj : j < l.length) : zCb S0 c0 n0 q tag z (zsup S1 q ((S1 q).1, ((S1 q).2.1, zrup (S1 q).2.2 (j : Int) (some v)))) c1 n1 (l.set j (some v)) W1 := by
  refine ⟨h1, fun r r1 r2 => by rw [zsup_ne r2]; exact h2 r r1 r2, ?_, fun i s hi => by rw [zsup_ne (by omega)]; exact h4 i s hi, h5, h6⟩
  rw [zsup_eq, h3]
  dsimp only
  rw [zrup_l hj]
theorem zCb_arr {j : Nat} {X : zSc} {S1 : zSh} (h : zCb S0 c0 n0 q tag z S c n l W) (e1 : S1 = zsup S n X) (hj : j < l.length) : zCb S0 c0 n0 q tag z (zsup S1 q ((S1 q).1, ((S1 q).2.1, zrup (S1 q).2.2 (j : Int) (some n)))) (zfr c n) (n + 1) (l.set j (some n)) (W ++ [X]) := by
  obtain ⟨h1, h2, h3, h4, h5, h6⟩ := h
  subst e1
  refine zCb_up ⟨by rw [List.length_append]; simp only [List.length_cons, List.length_nil]; omega, h1.2⟩ (fun r r1 r2 => by rw [zsup_ne (by omega)]; exact h2 r r1 r2) (by rw [zsup_ne (by omega)]; exact h3) (fun i s hi => ?_) (fun r hr => by rw [zfr_ne (by omega)]; exact h5 r hr) (fun r k r1 r2 => ?_) hj
  · by_cases e : i < W.length
    · rw [List.getElem?_append_left e] at hi
      rw [zsup_ne (by omega)]
      exact h4 i s hi
    · rw [List.getElem?_append_right (by omega)] at hi
      have hlt := (List.getElem?_eq_some_iff.mp hi).1
      simp only [List.length_cons, List.length_nil] at hlt
      rw [show i - W.length = 0 by omega] at hi
      injection hi with hi
      rw [show n0 + i = n by omega, zsup_eq]
      exact hi
  · by_cases e : r = n
    · rw [e, zfr_eq]
    · rw [zfr_ne e]
      exact h6 r k r1 (r2.imp (fun h9 => by omega) id)
/-- what a new object's constructor finds -/
theorem zCb_new {S1 : zSh} {m : Nat} (e1 : S1 = zsup S n (ci, (0, fun _ => none))) : zCb S1 c (n + 1) n ci 0 S1 c (n + 1) (List.replicate m none) [] := by
  subst e1
  exact ⟨⟨rfl, by omega⟩, fun r _ _ => rfl, by rw [zsup_eq, zrl_0 m], fun i s hi => by simp at hi, fun r _ => rfl, fun r k r1 r2 => r2.elim (fun h9 => absurd r1 (by omega)) id⟩
theorem zCb_join (h : zCb S0 c0 n0 q tag z S c n l W) {S1 : zSh} {X : zSc} (e1 : S1 = zsup S n X) (h2 : zCb S1 (zfr c n) (n + 1) n ci 0 S2 c2 n2 lc Wc) : (n2 = n0 + (W ++ (ci, ((0 : Int), zrl lc)) :: Wc).length ∧ q < n0) ∧ (∀ r, r < n → S2 r = S r) ∧ (∀ (i : Nat) (s : zSc), (W ++ (ci, ((0 : Int), zrl lc)) :: Wc)[i]? = some s → S2 (n0 + i) = s) ∧ (∀ r, r < n0 → c2 r = c0 r) ∧ (∀ r k, n0 ≤ r → (r < n2 ∨ c0 r k = 0) → c2 r k = 0) := by
  obtain ⟨h1, h2a, h3, h4, h5, h6⟩ := h
  obtain ⟨k1, k2, k3, k4, k5, k6⟩ := h2
  subst e1
  have kf : ∀ r, r < n → S2 r = S r := fun r hr => by rw [k2 r (by omega) (by omega), zsup_ne (by omega)]
  have kc : ∀ r, r < n → c2 r = c r := fun r hr => by rw [k5 r (by omega), zfr_ne (by omega)]
  refine ⟨⟨by rw [List.length_append, List.length_cons]; omega, h1.2⟩, kf, fun i s hi => ?_, fun r hr => by rw [kc r (by omega)]; exact h5 r hr, fun r k r1 r2 => ?_⟩
  · by_cases e : i < W.length
    · rw [List.getElem?_append_left e] at hi
      rw [kf _ (by omega)]
      exact h4 i s hi
    · rw [List.getElem?_append_right (by omega)] at hi
      by_cases e2 : i = W.length
      · rw [show i - W.length = 0 by omega] at hi
        injection hi with hi
        rw [show n0 + i = n by omega, k3]
        exact hi
      · rw [show i - W.length = (i - W.length - 1) + 1 by omega, List.getElem?_cons_succ] at hi
        have h9 := k4 _ s hi
        rw [show n + 1 + (i - W.length - 1) = n0 + i by omega] at h9
        exact h9
  · by_cases e : r < n
    · rw [kc r e]
      exact h6 r k r1 (Or.inl e)
    · by_cases e2 : r = n
      · rw [e2, k5 n (by omega), zfr_eq]
      · refine k6 r k (by omega) (r2.imp id (fun h9 => ?_))
        rw [zfr_ne e2]
        exact h6 r k r1 (Or.inr h9)
theorem zCb_obj {j : Nat} {S1 : zSh} {X : zSc} (h : zCb S0 c0 n0 q tag z S c n l W) (e1 : S1 = zsup S n X) (h2 : zCb S1 (zfr c n) (n + 1) n ci 0 S2 c2 n2 lc Wc) (hj : j < l.length) : zCb S0 c0 n0 q tag z (zsup S2 q ((S2 q).1, ((S2 q).2.1, zrup (S2 q).2.2 (j : Int) (some n)))) c2 n2 (l.set j (some n)) (W ++ (ci, ((0 : Int), zrl lc)) :: Wc) := by
  obtain ⟨g1, g2, g3, g4, g5⟩ := zCb_join h e1 h2
  have h1 := h.1
  exact zCb_up g1 (fun r r1 r2 => by rw [g2 r (by omega)]; exact h.2.1 r r1 r2) (by rw [g2 q (by omega)]; exact h.2.2.1) g3 g4 g5 hj
theorem zCb_t2 {S1 : zSh} {X : zSc} (h : zCb S0 c0 n0 q tag z S c n l W) (e1 : S1 = zsup S n X) (h2 : zCb S1 (zfr c n) (n + 1) n ci 0 S2 c2 n2 lc Wc) : (S2 q).1 = tag := by
  have h1 := h.1
  rw [(zCb_join h e1 h2).2.1 q (by omega), h.2.2.1]
/-- a state is put into the row of states, the first cell made -/
theorem zCb_ast {i : Nat} {S1 : zSh} {X : zSc} {ls : List (Option Nat)} {t : Nat} {zz : Int} (h : zCb S0 c0 n0 q tag z S c n l ((t, (zz, zrl ls)) :: W)) (e1 : S1 = zsup S n X) (h2 : zCb S1 (zfr c n) (n + 1) n ci 0 S2 c2 n2 lc Wc) (hi : i < ls.length) : zCb S0 c0 n0 q tag z (zsup S2 n0 ((S2 n0).1, ((S2 n0).2.1, zrup (S2 n0).2.2 (i : Int) (some n)))) c2 n2 l ((t, (zz, zrl (ls.set i (some n)))) :: (W ++ (ci, ((0 : Int), zrl lc)) :: Wc)) := by
  obtain ⟨g1, g2, g3, g4, g5⟩ := zCb_join h e1 h2
  have h1 := h.1
  simp only [List.length_cons] at h1
  have h9 := g3 0 (t, (zz, zrl ls)) rfl
  refine ⟨⟨by simp only [List.length_cons, List.length_append] at g1 ⊢; omega, h1.2⟩, fun r r1 r2 => by rw [zsup_ne (by omega), g2 r (by omega)]; exact h.2.1 r r1 r2, by rw [zsup_ne (by omega), g2 q (by omega)]; exact h.2.2.1, fun i' s hs => ?_, g4, g5⟩
  cases i' with
  | zero =>
    injection hs with hs
    rw [← hs, Nat.add_zero, zsup_eq]
    rw [Nat.add_zero] at h9
    rw [h9]
    dsimp only
    rw [zrup_l hi]
  | succ i' =>
    rw [zsup_ne (by omega)]
    exact g3 (i' + 1) s hs
theorem zCb_ast_t {S1 : zSh} {X : zSc} {ls : List (Option Nat)} {t : Nat} {zz : Int} (h : zCb S0 c0 n0 q tag z S c n l ((t, (zz, zrl ls)) :: W)) (e1 : S1 = zsup S n X) (h2 : zCb S1 (zfr c n) (n + 1) n ci 0 S2 c2 n2 lc Wc) : (S2 n0).1 = t ∧ (S2 n0).2.1 = zz ∧ (S2 n).1 = ci := by
  obtain ⟨g1, g2, g3, g4, g5⟩ := zCb_join h e1 h2
  have h9 := g3 0 _ rfl
  rw [Nat.add_zero] at h9
  rw [h9, h2.2.2.1]
  exact ⟨rfl, rfl, rfl⟩
theorem zup_id {q : Nat} {k v : Int} (h : c q k = v) : zup c q k v = c := by
  funext r j
  unfold zup
  split
  · rename_i h9
    rw [h9.1, h9.2, h]
  · rfl
theorem zk_pa {d M pc sl i j : Nat} {L : zLs} {st : List zV} {Q : Option zV → zMem → Prop} {X : zSc} (h : zCb S0 c0 n0 q tag z S c n l W) (hd : decode (zB M) pc = .ok (.putfield i, 3)) {fn : Nat} (hF : zFld (zK M) i = some (tag, j, true, fn)) (hi : fn = 0 ∨ (fn = 1 ∧ (zY M).name = "<init>")) (hj : j < l.length) (kk : ∀ S' c', zCb S0 c0 n0 q tag z S' c' (n + 1) (l.set j (some n)) (W ++ [X]) → zE d M (pc + 3) L st ((n + 1, sl), (S', c')) Q) : zE d M pc L (zA n :: zA q :: st) ((n + 1, sl), (zsup S n X, zfr c n)) Q :=
  zr_putr (j := (j : Int)) hd hF rfl (zCb_t h) hi (kk _ _ (zCb_arr h rfl hj))
theorem zk_po {d M pc sl i j : Nat} {L : zLs} {st : List zV} {Q : Option zV → zMem → Prop} {X : zSc} (h : zCb S0 c0 n0 q tag z S c n l W) (h2 : zCb (zsup S n X) (zfr c n) (n + 1) n ci 0 S2 c2 n2 lc Wc) (hd : decode (zB M) pc = .ok (.putfield i, 3)) (hF : zFld (zK M) i = some (tag, j, true, 1)) (hi : (zY M).name = "<init>") (hj : j < l.length) (kk : ∀ S' c', zCb S0 c0 n0 q tag z S' c' n2 (l.set j (some n)) (W ++ (ci, ((0 : Int), zrl lc)) :: Wc) → zE d M (pc + 3) L st ((n2, sl), (S', c')) Q) : zE d M pc L (zA n :: zA q :: st) ((n2, sl), (S2, c2)) Q :=
  zr_putr (j := (j : Int)) hd hF rfl (zCb_t2 h rfl h2) (Or.inr ⟨rfl, hi⟩) (kk _ _ (zCb_obj h rfl h2 hj))
theorem zk_as {d M pc sl i : Nat} {L : zLs} {st : List zV} {Q : Option zV → zMem → Prop} {X : zSc} {ls : List (Option Nat)} (h : zCb S0 c0 n0 q tag z S c n l ((22, (5, zrl ls)) :: W)) (h2 : zCb (zsup S n X) (zfr c n) (n + 1) n 8 0 S2 c2 n2 lc Wc) (hd : decode (zB M) pc = .ok (.aastore, 1)) (hj : i < ls.length) (hi5 : i < 5) (kk : ∀ S' c', zCb S0 c0 n0 q tag z S' c' n2 l ((22, (5, zrl (ls.set i (some n)))) :: (W ++ (8, ((0 : Int), zrl lc)) :: Wc)) → zE d M (pc + 1) L st ((n2, sl), (S', c')) Q) : zE d M pc L (zA n :: zI (i : Int) :: zA n0 :: st) ((n2, sl), (S2, c2)) Q := by
  obtain ⟨t1, t2, t3⟩ := zCb_ast_t h rfl h2
  exact zr_aast hd t1 t2 t3 (by omega) (kk _ _ (zCb_ast h rfl h2 hj))
end ZK
def zAr (x : Int) : zSc := (20, (x, fun _ => none))
set_option maxRecDepth 10000 in
set_option maxHeartbeats 2000000 in
theorem k_X4_init {d n sl : Nat} {S : zSh} {c : zC} {q : Nat} (hK : zCb S c n q 5 0 S c n [none, none, none, none, none] []) : zE (d + 1) 25 0 (zent 25 [zA q]) [] ((n, sl), (S, c)) (fun r μ' => ∃ (n' sl' : Nat) (S' : zSh) (c' : zC), r = none ∧ μ' = ((n', sl'), (S', c')) ∧ sl' = sl + 64 ∧ zCb S c n q 5 0 S' c' n' [none, some (n + 0), some (n + 1), some (n + 2), some (n + 3)] [zAr 16, zAr 16, zAr 16, zAr 16]) := by
  show zE (d + 1) 25 0 [some (zA q)] [] ((n, sl), (S, c)) _
  refine zl_ald0 I25_0 ?_
  refine zr_oinit I25_1 C4_3 (Nat.le_of_ble_eq_true rfl) ?_
  refine zl_ald0 I25_4 ?_
  refine zr_bipush I25_5 ?_
  refine zr_newi I25_7 (by decide) ?_
  refine zk_pa (j := 1) hK I25_9 F4_9 (Or.inr ⟨rfl, rfl⟩) (Nat.le_of_ble_eq_true rfl) (fun S9 c9 hK => ?_)
  refine zl_ald0 I25_12 ?_
  refine zr_bipush I25_13 ?_
  refine zr_newi I25_15 (by decide) ?_
  refine zk_pa (j := 2) hK I25_17 F4_15 (Or.inr ⟨rfl, rfl⟩) (Nat.le_of_ble_eq_true rfl) (fun S9 c9 hK => ?_)
  refine zl_ald0 I25_20 ?_
  refine zr_bipush I25_21 ?_
  refine zr_newi I25_23 (by decide) ?_
  refine zk_pa (j := 3) hK I25_25 F4_18 (Or.inr ⟨rfl, rfl⟩) (Nat.le_of_ble_eq_true rfl) (fun S9 c9 hK => ?_)
  refine zl_ald0 I25_28 ?_
  refine zr_bipush I25_29 ?_
  refine zr_newi I25_31 (by decide) ?_
  refine zk_pa (j := 4) hK I25_33 F4_21 (Or.inr ⟨rfl, rfl⟩) (Nat.le_of_ble_eq_true rfl) (fun S9 c9 hK => ?_)
  refine zr_vret I25_36 rfl ?_
  refine ⟨_, _, _, _, rfl, rfl, by omega, ?_⟩
  exact hK
set_option maxRecDepth 10000 in
set_option maxHeartbeats 2000000 in
theorem k_X5_init {d n sl : Nat} {S : zSh} {c : zC} {q : Nat} (hK : zCb S c n q 6 0 S c n [none, none, none, none, none] []) : zE (d + 1) 28 0 (zent 28 [zA q]) [] ((n, sl), (S, c)) (fun r μ' => ∃ (n' sl' : Nat) (S' : zSh) (c' : zC), r = none ∧ μ' = ((n', sl'), (S', c')) ∧ sl' = sl + 120 ∧ zCb S c n q 6 0 S' c' n' [none, some (n + 0), some (n + 1), some (n + 2), some (n + 3)] [zAr 30, zAr 30, zAr 30, zAr 30]) := by
  show zE (d + 1) 28 0 [some (zA q)] [] ((n, sl), (S, c)) _
  refine zl_ald0 I28_0 ?_
  refine zr_oinit I28_1 C5_3 (Nat.le_of_ble_eq_true rfl) ?_
  refine zl_ald0 I28_4 ?_
  refine zr_bipush I28_5 ?_
  refine zr_newi I28_7 (by decide) ?_
  refine zk_pa (j := 1) hK I28_9 F5_9 (Or.inr ⟨rfl, rfl⟩) (Nat.le_of_ble_eq_true rfl) (fun S9 c9 hK => ?_)
  refine zl_ald0 I28_12 ?_
  refine zr_bipush I28_13 ?_
  refine zr_newi I28_15 (by decide) ?_
  refine zk_pa (j := 2) hK I28_17 F5_15 (Or.inr ⟨rfl, rfl⟩) (Nat.le_of_ble_eq_true rfl) (fun S9 c9 hK => ?_)
  refine zl_ald0 I28_20 ?_
  refine zr_bipush I28_21 ?_
  refine zr_newi I28_23 (by decide) ?_
  refine zk_pa (j := 3) hK I28_25 F5_18 (Or.inr ⟨rfl, rfl⟩) (Nat.le_of_ble_eq_true rfl) (fun S9 c9 hK => ?_)
  refine zl_ald0 I28_28 ?_
  refine zr_bipush I28_29 ?_
  refine zr_newi I28_31 (by decide) ?_
  refine zk_pa (j := 4) hK I28_33 F5_21 (Or.inr ⟨rfl, rfl⟩) (Nat.le_of_ble_eq_true rfl) (fun S9 c9 hK => ?_)
  refine zr_vret I28_36 rfl ?_
  refine ⟨_, _, _, _, rfl, rfl, by omega, ?_⟩
  exact hK
set_option maxRecDepth 10000 in
set_option maxHeartbeats 2000000 in
theorem k_X0_init {d n sl : Nat} {S : zSh} {c : zC} {q : Nat} (hK : zCb S c n q 1 0 S c n [none, none, none, none] []) : zE (d + 1) 0 0 (zent 0 [zA q]) [] ((n, sl), (S, c)) (fun r μ' => ∃ (n' sl' : Nat) (S' : zSh) (c' : zC), r = none ∧ μ' = ((n', sl'), (S', c')) ∧ sl' = sl + 30 ∧ zCb S c n q 1 0 S' c' n' [none, some (n + 0), some (n + 1), some (n + 2)] [zAr 10, zAr 10, zAr 10]) := by
  show zE (d + 1) 0 0 [some (zA q)] [] ((n, sl), (S, c)) _
  refine zl_ald0 I0_0 ?_
  refine zr_oinit I0_1 C0_3 (Nat.le_of_ble_eq_true rfl) ?_
  refine zl_ald0 I0_4 ?_
  refine zr_bipush I0_5 ?_
  refine zr_newi I0_7 (by decide) ?_
  refine zk_pa (j := 1) hK I0_9 F0_9 (Or.inr ⟨rfl, rfl⟩) (Nat.le_of_ble_eq_true rfl) (fun S9 c9 hK => ?_)
  refine zl_ald0 I0_12 ?_
  refine zr_bipush I0_13 ?_
  refine zr_newi I0_15 (by decide) ?_
  refine zk_pa (j := 2) hK I0_17 F0_15 (Or.inr ⟨rfl, rfl⟩) (Nat.le_of_ble_eq_true rfl) (fun S9 c9 hK => ?_)
  refine zl_ald0 I0_20 ?_
  refine zr_bipush I0_21 ?_
  refine zr_newi I0_23 (by decide) ?_
  refine zk_pa (j := 3) hK I0_25 F0_18 (Or.inr ⟨rfl, rfl⟩) (Nat.le_of_ble_eq_true rfl) (fun S9 c9 hK => ?_)
  refine zr_vret I0_28 rfl ?_
  refine ⟨_, _, _, _, rfl, rfl, by omega, ?_⟩
  exact hK
set_option maxRecDepth 10000 in
set_option maxHeartbeats 2000000 in
theorem k_X3_init {d n sl : Nat} {S : zSh} {c : zC} {q : Nat} (hK : zCb S c n q 4 0 S c n [none, none, none, none, none] []) : zE (d + 1) 13 0 (zent 13 [zA q]) [] ((n, sl), (S, c)) (fun r μ' => ∃ (n' sl' : Nat) (S' : zSh) (c' : zC), r = none ∧ μ' = ((n', sl'), (S', c')) ∧ sl' = sl + 240 ∧ zCb S c n q 4 0 S' c' n' [none, some (n + 0), some (n + 1), some (n + 2), some (n + 3)] [zAr 60, zAr 60, zAr 60, zAr 60]) := by
  show zE (d + 1) 13 0 [some (zA q)] [] ((n, sl), (S, c)) _
  refine zl_ald0 I13_0 ?_
  refine zr_oinit I13_1 C3_3 (Nat.le_of_ble_eq_true rfl) ?_
  refine zl_ald0 I13_4 ?_
  refine zr_bipush I13_5 ?_
  refine zr_newi I13_7 (by decide) ?_
  refine zk_pa (j := 1) hK I13_9 F3_9 (Or.inr ⟨rfl, rfl⟩) (Nat.le_of_ble_eq_true rfl) (fun S9 c9 hK => ?_)
  refine zl_ald0 I13_12 ?_
  refine zr_bipush I13_13 ?_
  refine zr_newi I13_15 (by decide) ?_
  refine zk_pa (j := 2) hK I13_17 F3_15 (Or.inr ⟨rfl, rfl⟩) (Nat.le_of_ble_eq_true rfl) (fun S9 c9 hK => ?_)
  refine zl_ald0 I13_20 ?_
  refine zr_bipush I13_21 ?_
  refine zr_newi I13_23 (by decide) ?_
  refine zk_pa (j := 3) hK I13_25 F3_18 (Or.inr ⟨rfl, rfl⟩) (Nat.le_of_ble_eq_true rfl) (fun S9 c9 hK => ?_)
  refine zl_ald0 I13_28 ?_
  refine zr_bipush I13_29 ?_
  refine zr_newi I13_31 (by decide) ?_
  refine zk_pa (j := 4) hK I13_33 F3_21 (Or.inr ⟨rfl, rfl⟩) (Nat.le_of_ble_eq_true rfl) (fun S9 c9 hK => ?_)
  refine zr_vret I13_36 rfl ?_
  refine ⟨_, _, _, _, rfl, rfl, by omega, ?_⟩
  exact hK
set_option maxRecDepth 10000 in
set_option maxHeartbeats 2000000 in
theorem k_X6_init {d n sl : Nat} {S : zSh} {c : zC} {q : Nat} (hK : zCb S c n q 7 0 S c n [none, none, none, none, none, none] []) : zE (d + 1) 32 0 (zent 32 [zA q]) [] ((n, sl), (S, c)) (fun r μ' => ∃ (n' sl' : Nat) (S' : zSh) (c' : zC), r = none ∧ μ' = ((n', sl'), (S', c')) ∧ sl' = sl + 274 ∧ zCb S c n q 7 0 S' c' n' [none, some (n + 0), some (n + 1), some (n + 2), some (n + 3), some (n + 4)] [zAr 61, zAr 61, zAr 61, zAr 61, zAr 30]) := by
  show zE (d + 1) 32 0 [some (zA q)] [] ((n, sl), (S, c)) _
  refine zl_ald0 I32_0 ?_
  refine zr_oinit I32_1 C6_3 (Nat.le_of_ble_eq_true rfl) ?_
  refine zl_ald0 I32_4 ?_
  refine zr_bipush I32_5 ?_
  refine zr_newi I32_7 (by decide) ?_
  refine zk_pa (j := 1) hK I32_9 F6_11 (Or.inr ⟨rfl, rfl⟩) (Nat.le_of_ble_eq_true rfl) (fun S9 c9 hK => ?_)
  refine zl_ald0 I32_12 ?_
  refine zr_bipush I32_13 ?_
  refine zr_newi I32_15 (by decide) ?_
  refine zk_pa (j := 2) hK I32_17 F6_15 (Or.inr ⟨rfl, rfl⟩) (Nat.le_of_ble_eq_true rfl) (fun S9 c9 hK => ?_)
  refine zl_ald0 I32_20 ?_
  refine zr_bipush I32_21 ?_
  refine zr_newi I32_23 (by decide) ?_
  refine zk_pa (j := 3) hK I32_25 F6_18 (Or.inr ⟨rfl, rfl⟩) (Nat.le_of_ble_eq_true rfl) (fun S9 c9 hK => ?_)
  refine zl_ald0 I32_28 ?_
  refine zr_bipush I32_29 ?_
  refine zr_newi I32_31 (by decide) ?_
  refine zk_pa (j := 4) hK I32_33 F6_21 (Or.inr ⟨rfl, rfl⟩) (Nat.le_of_ble_eq_true rfl) (fun S9 c9 hK => ?_)
  refine zl_ald0 I32_36 ?_
  refine zr_bipush I32_37 ?_
  refine zr_newi I32_39 (by decide) ?_
  refine zk_pa (j := 5) hK I32_41 F6_24 (Or.inr ⟨rfl, rfl⟩) (Nat.le_of_ble_eq_true rfl) (fun S9 c9 hK => ?_)
  refine zr_vret I32_44 rfl ?_
  refine ⟨_, _, _, _, rfl, rfl, by omega, ?_⟩
  exact hK
set_option maxRecDepth 10000 in
set_option maxHeartbeats 2000000 in
theorem k_X1_init {d n sl : Nat} {S : zSh} {c : zC} {q : Nat} (hK : zCb S c n q 2 0 S c n [none, none, none, none, none, none, none, none] []) : zE (d + 1) 4 0 (zent 4 [zA q]) [] ((n, sl), (S, c)) (fun r μ' => ∃ (n' sl' : Nat) (S' : zSh) (c' : zC), r = none ∧ μ' = ((n', sl'), (S', c')) ∧ sl' = sl + 1200 ∧ zCb S c n q 2 0 S' c' n' [some (n + 0), none, none, none, some (n + 1), some (n + 2), some (n + 3), some (n + 4)] [zAr 240, zAr 240, zAr 240, zAr 240, zAr 240]) := by
  show zE (d + 1) 4 0 [some (zA q)] [] ((n, sl), (S, c)) _
  refine zl_ald0 I4_0 ?_
  refine zr_oinit I4_1 C1_3 (Nat.le_of_ble_eq_true rfl) ?_
  refine zl_ald0 I4_4 ?_
  refine zr_sipush I4_5 ?_
  refine zr_newi I4_8 (by decide) ?_
  refine zk_pa (j := 0) hK I4_10 F1_9 (Or.inr ⟨rfl, rfl⟩) (Nat.le_of_ble_eq_true rfl) (fun S9 c9 hK => ?_)
  refine zl_ald0 I4_13 ?_
  refine zr_sipush I4_14 ?_
  refine zr_newi I4_17 (by decide) ?_
  refine zk_pa (j := 4) hK I4_19 F1_15 (Or.inr ⟨rfl, rfl⟩) (Nat.le_of_ble_eq_true rfl) (fun S9 c9 hK => ?_)
  refine zl_ald0 I4_22 ?_
  refine zr_sipush I4_23 ?_
  refine zr_newi I4_26 (by decide) ?_
  refine zk_pa (j := 5) hK I4_28 F1_18 (Or.inr ⟨rfl, rfl⟩) (Nat.le_of_ble_eq_true rfl) (fun S9 c9 hK => ?_)
  refine zl_ald0 I4_31 ?_
  refine zr_sipush I4_32 ?_
  refine zr_newi I4_35 (by decide) ?_
  refine zk_pa (j := 6) hK I4_37 F1_21 (Or.inr ⟨rfl, rfl⟩) (Nat.le_of_ble_eq_true rfl) (fun S9 c9 hK => ?_)
  refine zl_ald0 I4_40 ?_
  refine zr_sipush I4_41 ?_
  refine zr_newi I4_44 (by decide) ?_
  refine zk_pa (j := 7) hK I4_46 F1_24 (Or.inr ⟨rfl, rfl⟩) (Nat.le_of_ble_eq_true rfl) (fun S9 c9 hK => ?_)
  refine zr_vret I4_49 rfl ?_
  refine ⟨_, _, _, _, rfl, rfl, by omega, ?_⟩
  exact hK
def zWk (b : Nat) : List zSc := [(5, (0, zrl [none, some (b + 1 + 0), some (b + 1 + 1), some (b + 1 + 2), some (b + 1 + 3)])), zAr 16, zAr 16, zAr 16, zAr 16, (6, (0, zrl [none, some (b + 6 + 0), some (b + 6 + 1), some (b + 6 + 2), some (b + 6 + 3)])), zAr 30, zAr 30, zAr 30, zAr 30, (1, (0, zrl [none, some (b + 11 + 0), some (b + 11 + 1), some (b + 11 + 2)])), zAr 10, zAr 10, zAr 10, (4, (0, zrl [none, some (b + 15 + 0), some (b + 15 + 1), some (b + 15 + 2), some (b + 15 + 3)])), zAr 60, zAr 60, zAr 60, zAr 60]
def zWl (b : Nat) : List (Option Nat) := [some b, some (b + 5), some (b + 10), some (b + 14)]
set_option maxRecDepth 10000 in
set_option maxHeartbeats 2000000 in
theorem k_X7_init {d n sl : Nat} {S : zSh} {c : zC} {q : Nat} (hK : zCb S c n q 8 0 S c n [none, none, none, none] []) : zE (d + 2) 37 0 (zent 37 [zA q]) [] ((n, sl), (S, c)) (fun r μ' => ∃ (n' sl' : Nat) (S' : zSh) (c' : zC), r = none ∧ μ' = ((n', sl'), (S', c')) ∧ sl' = sl + 473 ∧ zCb S c n q 8 0 S' c' n' (zWl n) (zWk n)) := by
  show zE (d + 2) 37 0 [some (zA q)] [] ((n, sl), (S, c)) _
  refine zl_ald0 I37_0 ?_
  refine zr_oinit I37_1 C7_1 (Nat.le_of_ble_eq_true rfl) ?_
  refine zl_ald0 I37_4 ?_
  refine zr_new (ci := 5) I37_5 N7_7 ?_
  refine zr_dup I37_8 ?_
  refine zr_callI I37_9 C7_9 ⟨rfl, rfl⟩ ⟨rfl, Nat.le_of_ble_eq_true rfl⟩ (by first | exact Or.inl rfl | exact Or.inr (Or.inl rfl)) (k_X4_init (d := d) (zCb_new (m := 5) rfl)) (fun v μ hv => ?_)
  obtain ⟨n0, s0, S0, c0, rfl, rfl, e0, k0⟩ := hv
  dsimp only [Option.toList, List.cons_append, List.nil_append]
  refine zk_po (j := 0) hK k0 I37_12 F7_10 rfl (Nat.le_of_ble_eq_true rfl) (fun S9 c9 hK => ?_)
  have m0 := hK.1.1
  simp only [List.length_append, List.length_cons, List.length_nil] at m0
  have z0 : n0 = n + 5 := by omega
  subst z0
  refine zl_ald0 I37_15 ?_
  refine zr_new (ci := 6) I37_16 N7_16 ?_
  refine zr_dup I37_19 ?_
  refine zr_callI I37_20 C7_18 ⟨rfl, rfl⟩ ⟨rfl, Nat.le_of_ble_eq_true rfl⟩ (by first | exact Or.inl rfl | exact Or.inr (Or.inl rfl)) (k_X5_init (d := d) (zCb_new (m := 5) rfl)) (fun v μ hv => ?_)
  obtain ⟨n1, s1, S1, c1, rfl, rfl, e1, k1⟩ := hv
  dsimp only [Option.toList, List.cons_append, List.nil_append]
  refine zk_po (j := 1) hK k1 I37_23 F7_19 rfl (Nat.le_of_ble_eq_true rfl) (fun S9 c9 hK => ?_)
  have m1 := hK.1.1
  simp only [List.length_append, List.length_cons, List.length_nil] at m1
  have z1 : n1 = n + 10 := by omega
  subst z1
  refine zl_ald0 I37_26 ?_
  refine zr_new (ci := 1) I37_27 N7_23 ?_
  refine zr_dup I37_30 ?_
  refine zr_callI I37_31 C7_25 ⟨rfl, rfl⟩ ⟨rfl, Nat.le_of_ble_eq_true rfl⟩ (by first | exact Or.inl rfl | exact Or.inr (Or.inl rfl)) (k_X0_init (d := d) (zCb_new (m := 4) rfl)) (fun v μ hv => ?_)
  obtain ⟨n2, s2, S2, c2, rfl, rfl, e2, k2⟩ := hv
  dsimp only [Option.toList, List.cons_append, List.nil_append]
  refine zk_po (j := 2) hK k2 I37_34 F7_26 rfl (Nat.le_of_ble_eq_true rfl) (fun S9 c9 hK => ?_)
  have m2 := hK.1.1
  simp only [List.length_append, List.length_cons, List.length_nil] at m2
  have z2 : n2 = n + 14 := by omega
  subst z2
  refine zl_ald0 I37_37 ?_
  refine zr_new (ci := 4) I37_38 N7_30 ?_
  refine zr_dup I37_41 ?_
  refine zr_callI I37_42 C7_32 ⟨rfl, rfl⟩ ⟨rfl, Nat.le_of_ble_eq_true rfl⟩ (by first | exact Or.inl rfl | exact Or.inr (Or.inl rfl)) (k_X3_init (d := d) (zCb_new (m := 5) rfl)) (fun v μ hv => ?_)
  obtain ⟨n3, s3, S3, c3, rfl, rfl, e3, k3⟩ := hv
  dsimp only [Option.toList, List.cons_append, List.nil_append]
  refine zk_po (j := 3) hK k3 I37_45 F7_33 rfl (Nat.le_of_ble_eq_true rfl) (fun S9 c9 hK => ?_)
  have m3 := hK.1.1
  simp only [List.length_append, List.length_cons, List.length_nil] at m3
  refine zr_vret I37_48 rfl ?_
  refine ⟨_, _, _, _, rfl, rfl, ?_, ?_⟩
  · have f5 : znf 5 = 5 := rfl
    have f6 : znf 6 = 5 := rfl
    have f1 : znf 1 = 4 := rfl
    have f4 : znf 4 = 5 := rfl
    omega
  · exact hK
set_option maxRecDepth 10000 in
set_option maxHeartbeats 4000000 in
theorem k_X2_init {d n sl : Nat} {S : zSh} {c : zC} {q : Nat} (hK : zCb S c n q 3 0 S c n [none, none, none] []) : zE (d + 3) 10 0 (zent 10 [zA q]) [] ((n, sl), (S, c)) (fun r μ' => ∃ (n' sl' : Nat) (S' : zSh) (c' : zC), r = none ∧ μ' = ((n', sl'), (S', c')) ∧ sl' = sl + 2390 ∧ zCb S c n q 3 0 S' c' n' [none, none, some n] ((22, (5, zrl [some (n + 1), some (n + 21), some (n + 41), some (n + 61), some (n + 81)])) :: (((8, (0, zrl (zWl (n + 1 + 1)))) :: zWk (n + 1 + 1)) ++ ((8, (0, zrl (zWl (n + 21 + 1)))) :: zWk (n + 21 + 1)) ++ ((8, (0, zrl (zWl (n + 41 + 1)))) :: zWk (n + 41 + 1)) ++ ((8, (0, zrl (zWl (n + 61 + 1)))) :: zWk (n + 61 + 1)) ++ ((8, (0, zrl (zWl (n + 81 + 1)))) :: zWk (n + 81 + 1))))) := by
  show zE (d + 3) 10 0 [some (zA q), none] [] ((n, sl), (S, c)) _
  refine zl_ald0 I10_0 ?_
  refine zr_oinit I10_1 C2_3 (Nat.le_of_ble_eq_true rfl) ?_
  refine zl_ald0 I10_4 ?_
  refine zr_iconst I10_5 ?_
  refine zr_newq I10_6 N2_9 (by decide) ?_
  refine zk_pa (j := 2) hK I10_9 F2_11 (Or.inr ⟨rfl, rfl⟩) (Nat.le_of_ble_eq_true rfl) (fun S9 c9 hK => ?_)
  rw [zrl_0 5] at hK
  refine zr_iconst I10_12 ?_
  refine zl_ist1 I10_13 ?_
  refine zl_ild1 I10_14 ?_
  refine zr_iconst I10_15 ?_
  refine zr_ic_ge (t := 38) I10_16 rfl (fun h16 => absurd h16 (by omega)) (fun _ => ?_)
  refine zl_ald0 I10_19 ?_
  refine zr_getr (j := 2) I10_20 F2_11 rfl (by rw [hK.2.2.1]) (by rw [hK.2.2.1]; rfl) ?_
  refine zl_ild1 I10_23 ?_
  refine zr_new (ci := 8) I10_24 N2_9 ?_
  refine zr_dup I10_27 ?_
  refine zr_callI I10_28 C2_17 ⟨rfl, rfl⟩ ⟨rfl, Nat.le_of_ble_eq_true rfl⟩ (by first | exact Or.inl rfl | exact Or.inr (Or.inl rfl)) (k_X7_init (d := d) (zCb_new (m := 4) rfl)) (fun v μ hv => ?_)
  obtain ⟨n0, s0, S0, c0, rfl, rfl, e0, k0⟩ := hv
  dsimp only [Option.toList, List.cons_append, List.nil_append]
  refine zk_as (i := 0) hK k0 I10_31 (Nat.le_of_ble_eq_true rfl) (by decide) (fun S9 c9 hK => ?_)
  have m0 := hK.1.1
  have z0 : n0 = n + 21 := by
    rw [m0]
    rfl
  subst z0
  refine zl_iinc1 I10_32 (by unfold zInR; omega) ?_
  refine zr_goto (t := 14) I10_35 rfl ?_
  refine zl_ild1 I10_14 ?_
  refine zr_iconst I10_15 ?_
  refine zr_ic_ge (t := 38) I10_16 rfl (fun h16 => absurd h16 (by omega)) (fun _ => ?_)
  refine zl_ald0 I10_19 ?_
  refine zr_getr (j := 2) I10_20 F2_11 rfl (by rw [hK.2.2.1]) (by rw [hK.2.2.1]; rfl) ?_
  refine zl_ild1 I10_23 ?_
  refine zr_new (ci := 8) I10_24 N2_9 ?_
  refine zr_dup I10_27 ?_
  refine zr_callI I10_28 C2_17 ⟨rfl, rfl⟩ ⟨rfl, Nat.le_of_ble_eq_true rfl⟩ (by first | exact Or.inl rfl | exact Or.inr (Or.inl rfl)) (k_X7_init (d := d) (zCb_new (m := 4) rfl)) (fun v μ hv => ?_)
  obtain ⟨n1, s1, S1, c1, rfl, rfl, e1, k1⟩ := hv
  dsimp only [Option.toList, List.cons_append, List.nil_append]
  refine zk_as (i := 1) hK k1 I10_31 (Nat.le_of_ble_eq_true rfl) (by decide) (fun S9 c9 hK => ?_)
  have m1 := hK.1.1
  have z1 : n1 = n + 41 := by
    rw [m1]
    rfl
  subst z1
  refine zl_iinc1 I10_32 (by unfold zInR; omega) ?_
  refine zr_goto (t := 14) I10_35 rfl ?_
  refine zl_ild1 I10_14 ?_
  refine zr_iconst I10_15 ?_
  refine zr_ic_ge (t := 38) I10_16 rfl (fun h16 => absurd h16 (by omega)) (fun _ => ?_)
  refine zl_ald0 I10_19 ?_
  refine zr_getr (j := 2) I10_20 F2_11 rfl (by rw [hK.2.2.1]) (by rw [hK.2.2.1]; rfl) ?_
  refine zl_ild1 I10_23 ?_
  refine zr_new (ci := 8) I10_24 N2_9 ?_
  refine zr_dup I10_27 ?_
  refine zr_callI I10_28 C2_17 ⟨rfl, rfl⟩ ⟨rfl, Nat.le_of_ble_eq_true rfl⟩ (by first | exact Or.inl rfl | exact Or.inr (Or.inl rfl)) (k_X7_init (d := d) (zCb_new (m := 4) rfl)) (fun v μ hv => ?_)
  obtain ⟨n2, s2, S2, c2, rfl, rfl, e2, k2⟩ := hv
  dsimp only [Option.toList, List.cons_append, List.nil_append]
  refine zk_as (i := 2) hK k2 I10_31 (Nat.le_of_ble_eq_true rfl) (by decide) (fun S9 c9 hK => ?_)
  have m2 := hK.1.1
  have z2 : n2 = n + 61 := by
    rw [m2]
    rfl
  subst z2
  refine zl_iinc1 I10_32 (by unfold zInR; omega) ?_
  refine zr_goto (t := 14) I10_35 rfl ?_
  refine zl_ild1 I10_14 ?_
  refine zr_iconst I10_15 ?_
  refine zr_ic_ge (t := 38) I10_16 rfl (fun h16 => absurd h16 (by omega)) (fun _ => ?_)
  refine zl_ald0 I10_19 ?_
  refine zr_getr (j := 2) I10_20 F2_11 rfl (by rw [hK.2.2.1]) (by rw [hK.2.2.1]; rfl) ?_
  refine zl_ild1 I10_23 ?_
  refine zr_new (ci := 8) I10_24 N2_9 ?_
  refine zr_dup I10_27 ?_
  refine zr_callI I10_28 C2_17 ⟨rfl, rfl⟩ ⟨rfl, Nat.le_of_ble_eq_true rfl⟩ (by first | exact Or.inl rfl | exact Or.inr (Or.inl rfl)) (k_X7_init (d := d) (zCb_new (m := 4) rfl)) (fun v μ hv => ?_)
  obtain ⟨n3, s3, S3, c3, rfl, rfl, e3, k3⟩ := hv
  dsimp only [Option.toList, List.cons_append, List.nil_append]
  refine zk_as (i := 3) hK k3 I10_31 (Nat.le_of_ble_eq_true rfl) (by decide) (fun S9 c9 hK => ?_)
  have m3 := hK.1.1
  have z3 : n3 = n + 81 := by
    rw [m3]
    rfl
  subst z3
  refine zl_iinc1 I10_32 (by unfold zInR; omega) ?_
  refine zr_goto (t := 14) I10_35 rfl ?_
  refine zl_ild1 I10_14 ?_
  refine zr_iconst I10_15 ?_
  refine zr_ic_ge (t := 38) I10_16 rfl (fun h16 => absurd h16 (by omega)) (fun _ => ?_)
  refine zl_ald0 I10_19 ?_
  refine zr_getr (j := 2) I10_20 F2_11 rfl (by rw [hK.2.2.1]) (by rw [hK.2.2.1]; rfl) ?_
  refine zl_ild1 I10_23 ?_
  refine zr_new (ci := 8) I10_24 N2_9 ?_
  refine zr_dup I10_27 ?_
  refine zr_callI I10_28 C2_17 ⟨rfl, rfl⟩ ⟨rfl, Nat.le_of_ble_eq_true rfl⟩ (by first | exact Or.inl rfl | exact Or.inr (Or.inl rfl)) (k_X7_init (d := d) (zCb_new (m := 4) rfl)) (fun v μ hv => ?_)
  obtain ⟨n4, s4, S4, c4, rfl, rfl, e4, k4⟩ := hv
  dsimp only [Option.toList, List.cons_append, List.nil_append]
  refine zk_as (i := 4) hK k4 I10_31 (Nat.le_of_ble_eq_true rfl) (by decide) (fun S9 c9 hK => ?_)
  have m4 := hK.1.1
  have z4 : n4 = n + 101 := by
    rw [m4]
    rfl
  subst z4
  refine zl_iinc1 I10_32 (by unfold zInR; omega) ?_
  refine zr_goto (t := 14) I10_35 rfl ?_
  refine zl_ild1 I10_14 ?_
  refine zr_iconst I10_15 ?_
  refine zr_ic_ge (t := 38) I10_16 rfl (fun _ => ?_) (fun h16 => absurd h16 (by omega))
  refine zr_vret I10_38 rfl ?_
  refine ⟨_, _, _, _, rfl, rfl, ?_, ?_⟩
  · have f8 : znf 8 = 4 := rfl
    omega
  · exact hK
set_option maxRecDepth 10000 in
theorem k_J5_init {d n sl : Nat} {S : zSh} {c : zC} {q : Nat} (hK : zCb S c n q 0 0 S c n [none, none, none, none] []) (hz : c q 1 = 0) : zE (d + 1) 146 0 (zent 146 [zA q, zI 16]) [] ((n, sl), (S, c)) (fun r μ' => ∃ (n' sl' : Nat) (S' : zSh) (c' : zC), r = none ∧ μ' = ((n', sl'), (S', c')) ∧ sl' = sl + 16 ∧ zCb S c n q 0 0 S' c' n' [some n, none, none, none] [(21, (16, fun _ => none))]) := by
  show zE (d + 1) 146 0 [some (zA q), some (zI 16)] [] ((n, sl), (S, c)) _
  refine zl_ald0 I146_0 ?_
  refine zr_oinit I146_1 C12_3 (Nat.le_of_ble_eq_true rfl) ?_
  refine zr_next I146_4 rfl ?_
  refine zr_if_eq (t := 25) I146_7 rfl (fun h => absurd h (by decide)) (fun _ => ?_)
  refine zl_ald0 I146_10 ?_
  refine zl_ild1 I146_11 ?_
  refine zr_newb I146_12 (by decide) ?_
  refine zk_pa (j := 0) hK I146_14 F12_15 (Or.inl rfl) (Nat.le_of_ble_eq_true rfl) (fun S9 c9 hK => ?_)
  refine zl_ald0 I146_17 ?_
  refine zr_iconst I146_18 ?_
  refine zr_puti (j := 1) I146_19 F12_22 rfl (by rw [hK.2.2.1]) ⟨rfl, fun _ _ => Or.inl rfl⟩ ?_
  rw [zup_id (by rw [hK.2.2.2.2.1 q hK.1.2]; exact hz)]
  refine zr_goto (t := 38) I146_22 rfl ?_
  refine zr_vret I146_38 rfl ?_
  exact ⟨_, _, _, _, rfl, rfl, by omega, hK⟩
theorem k_J4_init {d n sl : Nat} {S : zSh} {c : zC} {q : Nat} (hK : zCb S c n q 0 0 S c n [none, none, none, none] []) (hz : c q 1 = 0) : zE (d + 2) 139 0 (zent 139 [zA q]) [] ((n, sl), (S, c)) (fun r μ' => ∃ (n' sl' : Nat) (S' : zSh) (c' : zC), r = none ∧ μ' = ((n', sl'), (S', c')) ∧ sl' = sl + 16 ∧ zCb S c n q 0 0 S' c' n' [some n, none, none, none] [(21, (16, fun _ => none))]) := by
  show zE (d + 2) 139 0 [some (zA q)] [] ((n, sl), (S, c)) _
  refine zl_ald0 I139_0 ?_
  refine zr_bipush I139_1 ?_
  refine zr_callI I139_3 C11_1 ⟨rfl, rfl⟩ ⟨rfl, Nat.le_of_ble_eq_true rfl⟩ (by first | exact Or.inl rfl | exact Or.inr (Or.inl rfl)) (k_J5_init (d := d) hK hz) (fun v μ hv => ?_)
  obtain ⟨n1, s1, S1, c1, rfl, rfl, e1, k1⟩ := hv
  refine zr_vret I139_6 rfl ?_
  exact ⟨_, _, _, _, rfl, rfl, e1, k1⟩
set_option maxRecDepth 10000 in
set_option maxHeartbeats 4000000 in
theorem k_X8_init {d sl : Nat} {S : zSh} {c : zC} (hK : zCb S c 9 8 9 0 S c 9 [none, none, none, none, none] []) : zE (d + 4) 39 0 (zent 39 [zA 8]) [] ((9, sl), (S, c)) (fun r μ' => ∃ (n' sl' : Nat) (S' : zSh) (c' : zC), r = none ∧ μ' = ((n', sl'), (S', c')) ∧ sl' ≤ sl + 10000 ∧ zCb S c 9 8 9 0 S' c' n' [some 9, some 29, some 131, some 137, some 143] (((8, (0, zrl (zWl 10))) :: zWk 10) ++ ((3, (0, zrl [none, none, some 30])) :: ((22, (5, zrl [some 31, some 51, some 71, some 91, some 111])) :: (((8, (0, zrl (zWl (32)))) :: zWk (32)) ++ ((8, (0, zrl (zWl (52)))) :: zWk (52)) ++ ((8, (0, zrl (zWl (72)))) :: zWk (72)) ++ ((8, (0, zrl (zWl (92)))) :: zWk (92)) ++ ((8, (0, zrl (zWl (112)))) :: zWk (112))))) ++ ((7, (0, zrl [none, some 132, some 133, some 134, some 135, some 136])) :: [zAr 61, zAr 61, zAr 61, zAr 61, zAr 30]) ++ ((2, (0, zrl [some 138, none, none, none, some 139, some 140, some 141, some 142])) :: [zAr 240, zAr 240, zAr 240, zAr 240, zAr 240]) ++ ((0, (0, zrl [some 144, none, none, none])) :: [(21, (16, fun _ => none))]))) := by
  show zE (d + 4) 39 0 [some (zA 8)] [] ((9, sl), (S, c)) _
  refine zl_ald0 I39_0 ?_
  refine zr_oinit I39_1 C8_3 (Nat.le_of_ble_eq_true rfl) ?_
  refine zl_ald0 I39_4 ?_
  refine zr_new (ci := 8) I39_5 N8_9 ?_
  refine zr_dup I39_8 ?_
  refine zr_callI I39_9 C8_11 ⟨rfl, rfl⟩ ⟨rfl, Nat.le_of_ble_eq_true rfl⟩ (by first | exact Or.inl rfl | exact Or.inr (Or.inl rfl)) (k_X7_init (d := d + 1) (zCb_new (m := 4) rfl)) (fun v μ hv => ?_)
  obtain ⟨n0, s0, S0, c0, rfl, rfl, e0, k0⟩ := hv
  dsimp only [Option.toList, List.cons_append, List.nil_append]
  refine zk_po (j := 0) hK k0 I39_12 F8_12 rfl (Nat.le_of_ble_eq_true rfl) (fun S9 c9 hK => ?_)
  have m0 := hK.1.1
  have z0 : n0 = 29 := by
    rw [m0]
    rfl
  subst z0
  refine zl_ald0 I39_15 ?_
  refine zr_new (ci := 3) I39_16 N8_16 ?_
  refine zr_dup I39_19 ?_
  refine zr_callI I39_20 C8_18 ⟨rfl, rfl⟩ ⟨rfl, Nat.le_of_ble_eq_true rfl⟩ (by first | exact Or.inl rfl | exact Or.inr (Or.inl rfl)) (k_X2_init (d := d) (zCb_new (m := 3) rfl)) (fun v μ hv => ?_)
  obtain ⟨n1, s1, S1, c1, rfl, rfl, e1, k1⟩ := hv
  dsimp only [Option.toList, List.cons_append, List.nil_append]
  refine zk_po (j := 1) hK k1 I39_23 F8_19 rfl (Nat.le_of_ble_eq_true rfl) (fun S9 c9 hK => ?_)
  have m1 := hK.1.1
  have z1 : n1 = 131 := by
    rw [m1]
    rfl
  subst z1
  refine zl_ald0 I39_26 ?_
  refine zr_new (ci := 7) I39_27 N8_23 ?_
  refine zr_dup I39_30 ?_
  refine zr_callI I39_31 C8_25 ⟨rfl, rfl⟩ ⟨rfl, Nat.le_of_ble_eq_true rfl⟩ (by first | exact Or.inl rfl | exact Or.inr (Or.inl rfl)) (k_X6_init (d := d + 2) (zCb_new (m := 6) rfl)) (fun v μ hv => ?_)
  obtain ⟨n2, s2, S2, c2, rfl, rfl, e2, k2⟩ := hv
  dsimp only [Option.toList, List.cons_append, List.nil_append]
  refine zk_po (j := 2) hK k2 I39_34 F8_26 rfl (Nat.le_of_ble_eq_true rfl) (fun S9 c9 hK => ?_)
  have m2 := hK.1.1
  have z2 : n2 = 137 := by
    rw [m2]
    rfl
  subst z2
  refine zl_ald0 I39_37 ?_
  refine zr_new (ci := 2) I39_38 N8_30 ?_
  refine zr_dup I39_41 ?_
  refine zr_callI I39_42 C8_32 ⟨rfl, rfl⟩ ⟨rfl, Nat.le_of_ble_eq_true rfl⟩ (by first | exact Or.inl rfl | exact Or.inr (Or.inl rfl)) (k_X1_init (d := d + 2) (zCb_new (m := 8) rfl)) (fun v μ hv => ?_)
  obtain ⟨n3, s3, S3, c3, rfl, rfl, e3, k3⟩ := hv
  dsimp only [Option.toList, List.cons_append, List.nil_append]
  refine zk_po (j := 3) hK k3 I39_45 F8_33 rfl (Nat.le_of_ble_eq_true rfl) (fun S9 c9 hK => ?_)
  have m3 := hK.1.1
  have z3 : n3 = 143 := by
    rw [m3]
    rfl
  subst z3
  refine zl_ald0 I39_48 ?_
  refine zr_new (ci := 0) I39_49 N8_37 ?_
  refine zr_dup I39_52 ?_
  refine zr_callI I39_53 C8_39 ⟨rfl, rfl⟩ ⟨rfl, Nat.le_of_ble_eq_true rfl⟩ (by first | exact Or.inl rfl | exact Or.inr (Or.inl rfl)) (k_J4_init (d := d + 1) (zCb_new (m := 4) rfl) zfr_eq) (fun v μ hv => ?_)
  obtain ⟨n4, s4, S4, c4, rfl, rfl, e4, k4⟩ := hv
  dsimp only [Option.toList, List.cons_append, List.nil_append]
  refine zk_po (j := 4) hK k4 I39_56 F8_40 rfl (Nat.le_of_ble_eq_true rfl) (fun S9 c9 hK => ?_)
  have m4 := hK.1.1
  have z4 : n4 = 145 := by
    rw [m4]
    rfl
  subst z4
  refine zr_vret I39_59 rfl ?_
  refine ⟨_, _, _, _, rfl, rfl, ?_, ?_⟩
  · have f8 : znf 8 = 4 := rfl
    have f3 : znf 3 = 3 := rfl
    have f7 : znf 7 = 6 := rfl
    have f2 : znf 2 = 8 := rfl
    have f0 : znf 0 = 4 := rfl
    omega
  · exact hK
