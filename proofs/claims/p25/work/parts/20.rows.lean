/-! running the interpreter, a row an instruction -/
def zE (d M pc : Nat) (L : zLs) (st : List zV) (μ : zMem) (Q : Option zV → zMem → Prop) : Prop := ∃ (f : Nat) (r : Option zV) (μ' : zMem), zgo f d M pc L st μ = some (r, μ') ∧ Q r μ'
theorem zgo_up : ∀ (f d M pc : Nat) (L : zLs) (st : List zV) (μ : zMem) (x : Option zV × zMem), zgo f d M pc L st μ = some x → zgo (f + 1) d M pc L st μ = some x
  | 0, _, _, _, _, _, _, _, h => by cases h
  | f + 1, d, M, pc, L, st, μ, x, h => by
    unfold zgo at h ⊢
    split
    · rename_i op len hd
      rw [hd] at h
      dsimp only at h
      split
      · rename_i hn
        rw [hn] at h
        exact zgo_up f _ _ _ _ _ _ _ h
      · rename_i hn
        rw [hn] at h
        dsimp only at h
        split
        · rename_i hi
          rw [hi] at h
          dsimp only at h
          cases d with
          | zero => cases h
          | succ d =>
            dsimp only at h ⊢
            split at h
            · rename_i v μ1 hc
              rw [zgo_up f _ _ _ _ _ _ _ hc]
              exact zgo_up f _ _ _ _ _ _ _ h
            · cases h
        · rename_i hi
          rw [hi] at h
          exact h
    · rename_i hd
      rw [hd] at h
      exact h
theorem zgo_le {f g d M pc : Nat} {L : zLs} {st : List zV} {μ : zMem} {x : Option zV × zMem} (hg : f ≤ g) (h : zgo f d M pc L st μ = some x) : zgo g d M pc L st μ = some x := by
  induction hg with
  | refl => exact h
  | step _ ih => exact zgo_up _ _ _ _ _ _ _ _ ih
section ZR
variable {d M pc len : Nat} {L L' : zLs} {st st' : List zV} {μ μ' : zMem} {Q Q' : Option zV → zMem → Prop} {op : Instr} {pc' : Nat}
theorem zE.mono (h : zE d M pc L st μ Q) (hq : ∀ r μ', Q r μ' → Q' r μ') : zE d M pc L st μ Q' := by
  obtain ⟨f, r, μ', h1, h2⟩ := h
  exact ⟨f, r, μ', h1, hq _ _ h2⟩
theorem zr_next (hd : decode (zB M) pc = .ok (op, len)) (hn : znext d M pc L st μ op len = some (pc', L', st', μ')) (k : zE d M pc' L' st' μ' Q) : zE d M pc L st μ Q := by
  obtain ⟨f, r, μ2, h1, h2⟩ := k
  refine ⟨f + 1, r, μ2, ?_, h2⟩
  unfold zgo
  rw [hd]
  dsimp only
  rw [hn]
  exact h1
theorem zr_call {M1 : Nat} {as rest : List zV} (hd : decode (zB M) pc = .ok (op, len)) (hn : znext (d + 1) M pc L st μ op len = none) (hi : zinv M st μ op len = some (M1, as, rest)) (hc : zE d M1 0 (zent M1 as) [] μ Q') (k : ∀ v μ1, Q' v μ1 → zE (d + 1) M (pc + 3) L (v.toList ++ rest) μ1 Q) : zE (d + 1) M pc L st μ Q := by
  obtain ⟨f, v, μ1, h1, h2⟩ := hc
  obtain ⟨g, r, μ2, h3, h4⟩ := k v μ1 h2
  refine ⟨f + g + 1, r, μ2, ?_, h4⟩
  unfold zgo
  rw [hd]
  dsimp only
  rw [hn]
  dsimp only
  rw [hi]
  dsimp only
  rw [zgo_le (by omega) h1]
  exact zgo_le (by omega) h3
theorem zr_ret {v : Option zV} (hd : decode (zB M) pc = .ok (op, len)) (hn : znext d M pc L st μ op len = none) (hi : zinv M st μ op len = none) (hr : zret M st op len = some v) (hq : Q v μ) : zE d M pc L st μ Q := by
  refine ⟨1, v, μ, ?_, hq⟩
  unfold zgo
  rw [hd]
  dsimp only
  rw [hn]
  dsimp only
  rw [hi]
  dsimp only
  rw [hr]
theorem zr_iconst {i : Int} (hd : decode (zB M) pc = .ok (.iconst i, 1)) (k : zE d M (pc + 1) L (zI i :: st) μ Q) (h : -1 ≤ i ∧ i ≤ 5 := by decide) : zE d M pc L st μ Q := zr_next hd (by show (if -1 ≤ i ∧ i ≤ 5 then some (pc + 1, L, zI i :: st, μ) else none) = _; rw [if_pos h]) k
theorem zr_bipush {i : Int} (hd : decode (zB M) pc = .ok (.bipush i, 2)) (k : zE d M (pc + 2) L (zI i :: st) μ Q) (h : -128 ≤ i ∧ i < 128 := by decide) : zE d M pc L st μ Q := zr_next hd (by show (if -128 ≤ i ∧ i < 128 then some (pc + 2, L, zI i :: st, μ) else none) = _; rw [if_pos h]) k
theorem zr_sipush {i : Int} (hd : decode (zB M) pc = .ok (.sipush i, 3)) (k : zE d M (pc + 3) L (zI i :: st) μ Q) (h : -32768 ≤ i ∧ i < 32768 := by decide) : zE d M pc L st μ Q := zr_next hd (by show (if -32768 ≤ i ∧ i < 32768 then some (pc + 3, L, zI i :: st, μ) else none) = _; rw [if_pos h]) k
theorem zr_iadd {x y : Int} (hd : decode (zB M) pc = .ok (.iadd, 1)) (h : zInR (x + y)) (k : zE d M (pc + 1) L (zI (x + y) :: st) μ Q) : zE d M pc L (zI y :: zI x :: st) μ Q := zr_next hd (by show some (pc + 1, L, zI (zwr (x + y)) :: st, μ) = _; rw [zwr_id h]) k
theorem zr_isub {x y : Int} (hd : decode (zB M) pc = .ok (.isub, 1)) (h : zInR (x - y)) (k : zE d M (pc + 1) L (zI (x - y) :: st) μ Q) : zE d M pc L (zI y :: zI x :: st) μ Q := zr_next hd (by show some (pc + 1, L, zI (zwr (x - y)) :: st, μ) = _; rw [zwr_id h]) k
theorem zr_imul {x y : Int} (hd : decode (zB M) pc = .ok (.imul, 1)) (h : zInR (x * y)) (k : zE d M (pc + 1) L (zI (x * y) :: st) μ Q) : zE d M pc L (zI y :: zI x :: st) μ Q := zr_next hd (by show some (pc + 1, L, zI (zwr (x * y)) :: st, μ) = _; rw [zwr_id h]) k
theorem zr_ineg {x : Int} (hd : decode (zB M) pc = .ok (.ineg, 1)) (h : zInR (-x)) (k : zE d M (pc + 1) L (zI (-x) :: st) μ Q) : zE d M pc L (zI x :: st) μ Q := zr_next hd (by show some (pc + 1, L, zI (zwr (-x)) :: st, μ) = _; rw [zwr_id h]) k
theorem zr_idiv {x y : Int} (hd : decode (zB M) pc = .ok (.idiv, 1)) (h : 0 ≤ x ∧ 0 < y ∧ x < 2147483648) (k : zE d M (pc + 1) L (zI (x / y) :: st) μ Q) : zE d M pc L (zI y :: zI x :: st) μ Q := zr_next hd (by
  show (if y ≠ 0 then some (pc + 1, L, zI (zwr (x.tdiv y)) :: st, μ) else none) = _
  have h1 : 0 ≤ x / y := Int.ediv_nonneg h.1 (by omega)
  have h2 : x / y ≤ x := Int.ediv_le_self y h.1
  rw [if_pos (by omega), Int.tdiv_eq_ediv_of_nonneg h.1, zwr_id (by unfold zInR; omega)]) k
theorem zr_irem {x y : Int} (hd : decode (zB M) pc = .ok (.irem, 1)) (h : 0 ≤ x ∧ 0 < y ∧ x < 2147483648) (k : zE d M (pc + 1) L (zI (x % y) :: st) μ Q) : zE d M pc L (zI y :: zI x :: st) μ Q := zr_next hd (by
  show (if y ≠ 0 then some (pc + 1, L, zI (zwr (x - x.tdiv y * y)) :: st, μ) else none) = _
  have h1 : 0 ≤ x % y := Int.emod_nonneg x (by omega)
  have h2 : x % y = x - x / y * y := by rw [Int.emod_def, Int.mul_comm]
  have h3 : 0 ≤ x / y * y := Int.mul_nonneg (Int.ediv_nonneg h.1 (by omega)) (by omega)
  rw [if_pos (by omega), Int.tdiv_eq_ediv_of_nonneg h.1, ← h2, zwr_id (by unfold zInR; omega)]) k
theorem zr_i2l {x : Int} (hd : decode (zB M) pc = .ok (.i2l, 1)) (k : zE d M (pc + 1) L (zJ x :: st) μ Q) : zE d M pc L (zI x :: st) μ Q := zr_next hd rfl k
theorem zr_ladd {x y : Int} (hd : decode (zB M) pc = .ok (.ladd, 1)) (k : zE d M (pc + 1) L (zJ (zwl (x + y)) :: st) μ Q) : zE d M pc L (zJ y :: zJ x :: st) μ Q := zr_next hd rfl k
theorem zr_lmul {x y : Int} (hd : decode (zB M) pc = .ok (.lmul, 1)) (k : zE d M (pc + 1) L (zJ (zwl (x * y)) :: st) μ Q) : zE d M pc L (zJ y :: zJ x :: st) μ Q := zr_next hd rfl k
theorem zr_lcmp {x y : Int} (hd : decode (zB M) pc = .ok (.lcmp, 1)) (k : zE d M (pc + 1) L (zI (if x = y then 0 else if x < y then -1 else 1) :: st) μ Q) : zE d M pc L (zJ y :: zJ x :: st) μ Q := zr_next hd rfl k
theorem zr_dup {v : zV} (hd : decode (zB M) pc = .ok (.dup, 1)) (k : zE d M (pc + 1) L (v :: v :: st) μ Q) (h : zcat v = 1 := by rfl) : zE d M pc L (v :: st) μ Q := zr_next hd (by show (if zcat v = 1 then some (pc + 1, L, v :: v :: st, μ) else none) = _; rw [if_pos h]) k
theorem zr_dup2 {v u : zV} (hd : decode (zB M) pc = .ok (.dup2, 1)) (k : zE d M (pc + 1) L (v :: u :: v :: u :: st) μ Q) (h : zcat v = 1 ∧ zcat u = 1 := by exact ⟨rfl, rfl⟩) : zE d M pc L (v :: u :: st) μ Q := zr_next hd (by show (if zcat v = 1 ∧ zcat u = 1 then some (pc + 1, L, v :: u :: v :: u :: st, μ) else none) = _; rw [if_pos h]) k
theorem zr_dup_x1 {v u : zV} (hd : decode (zB M) pc = .ok (.dup_x1, 1)) (k : zE d M (pc + 1) L (v :: u :: v :: st) μ Q) (h : zcat v = 1 ∧ zcat u = 1 := by exact ⟨rfl, rfl⟩) : zE d M pc L (v :: u :: st) μ Q := zr_next hd (by show (if zcat v = 1 ∧ zcat u = 1 then some (pc + 1, L, v :: u :: v :: st, μ) else none) = _; rw [if_pos h]) k
theorem zr_pop {v : zV} (hd : decode (zB M) pc = .ok (.pop, 1)) (k : zE d M (pc + 1) L st μ Q) (h : zcat v = 1 := by rfl) : zE d M pc L (v :: st) μ Q := zr_next hd (by show (if zcat v = 1 then some (pc + 1, L, st, μ) else none) = _; rw [if_pos h]) k
theorem zjmp_of {pc t : Nat} {off : Int} (h : (pc : Int) + off = (t : Int)) : zjmp pc off = some t := by
  unfold zjmp
  rw [h, if_pos (by omega)]
  rfl
theorem zr_goto {off : Int} {t : Nat} (hd : decode (zB M) pc = .ok (.goto off, 3)) (ht : (pc : Int) + off = (t : Int)) (k : zE d M t L st μ Q) : zE d M pc L st μ Q := zr_next hd (by show (match zjmp pc off with | some t => some (t, L, st, μ) | none => none) = _; rw [zjmp_of ht]) k
theorem zr_icmp {cd : ClassFile.Cond} {off x y : Int} {t : Nat} (hd : decode (zB M) pc = .ok (.if_icmp cd off, 3)) (ht : (pc : Int) + off = (t : Int)) (kt : zcb cd x y = true → zE d M t L st μ Q) (kf : zcb cd x y = false → zE d M (pc + 3) L st μ Q) : zE d M pc L (zI y :: zI x :: st) μ Q := by
  have hn : znext d M pc L (zI y :: zI x :: st) μ (.if_icmp cd off) 3 = some (if zcb cd x y = true then t else pc + 3, L, st, μ) := by
    show (match zI y :: zI x :: st, zjmp pc off with | .inl y :: .inl x :: r, some t => some (if zcb cd x y = true then t else pc + 3, L, r, μ) | _, _ => none) = _
    rw [zjmp_of ht]
  cases h : zcb cd x y
  · rw [h] at hn
    exact zr_next hd hn (kf h)
  · rw [h] at hn
    exact zr_next hd hn (kt h)
theorem zr_ifc {cd : ClassFile.Cond} {off x : Int} {t : Nat} (hd : decode (zB M) pc = .ok (.ifCond cd off, 3)) (ht : (pc : Int) + off = (t : Int)) (kt : zcb cd x 0 = true → zE d M t L st μ Q) (kf : zcb cd x 0 = false → zE d M (pc + 3) L st μ Q) : zE d M pc L (zI x :: st) μ Q := by
  have hn : znext d M pc L (zI x :: st) μ (.ifCond cd off) 3 = some (if zcb cd x 0 = true then t else pc + 3, L, st, μ) := by
    show (match zI x :: st, zjmp pc off with | .inl x :: r, some t => some (if zcb cd x 0 = true then t else pc + 3, L, r, μ) | _, _ => none) = _
    rw [zjmp_of ht]
  cases h : zcb cd x 0
  · rw [h] at hn
    exact zr_next hd hn (kf h)
  · rw [h] at hn
    exact zr_next hd hn (kt h)
theorem zr_ifnonnull {off : Int} {t v : Nat} (hd : decode (zB M) pc = .ok (.ifnonnull off, 3)) (ht : (pc : Int) + off = (t : Int)) (k : zE d M t L st μ Q) : zE d M pc L (zA v :: st) μ Q := zr_next hd (by show (match zA v :: st, zjmp pc off with | .inr (.inr (some _)) :: r, some t => some (t, L, r, μ) | _, _ => none) = _; rw [zjmp_of ht]) k
end ZR
section ZRM
variable {d M pc len n sl : Nat} {L L' : zLs} {st st' : List zV} {S : zSh} {c : zC} {Q Q' : Option zV → zMem → Prop} {pc' : Nat}
theorem zr_getr {i ci k fn q v : Nat} {j : Int} (hd : decode (zB M) pc = .ok (.getfield i, 3)) (hF : zFld (zK M) i = some (ci, k, true, fn)) (hj : (k : Int) = j) (ht : (S q).1 = ci) (hv : (S q).2.2 j = some v) (kk : zE d M (pc + 3) L (zA v :: st) ((n, sl), (S, c)) Q) : zE d M pc L (zA q :: st) ((n, sl), (S, c)) Q := by
  refine zr_next hd ?_ kk
  subst hj
  unfold znext
  simp only [hF, ht, hv, if_true]
theorem zr_geti {i ci k fn q : Nat} {j : Int} (hd : decode (zB M) pc = .ok (.getfield i, 3)) (hF : zFld (zK M) i = some (ci, k, false, fn)) (hj : (k : Int) = j) (ht : (S q).1 = ci) (kk : zE d M (pc + 3) L (zI (c q j) :: st) ((n, sl), (S, c)) Q) : zE d M pc L (zA q :: st) ((n, sl), (S, c)) Q := by
  refine zr_next hd ?_ kk
  subst hj
  unfold znext
  simp only [hF, ht, if_true]
theorem zr_puti {i ci k fn q : Nat} {j x : Int} (hd : decode (zB M) pc = .ok (.putfield i, 3)) (hF : zFld (zK M) i = some (ci, k, false, fn)) (hj : (k : Int) = j) (ht : (S q).1 = ci) (hf : fn = 0 ∧ (ci = 0 → (k = 1 ∨ k = 2) → (x = 0 ∨ x = 1))) (kk : zE d M (pc + 3) L st ((n, sl), (S, zup c q j x)) Q) : zE d M pc L (zI x :: zA q :: st) ((n, sl), (S, c)) Q := by
  refine zr_next hd ?_ kk
  subst hj
  unfold znext
  simp only [hF, ht]
  rw [if_pos ⟨trivial, hf⟩]
theorem zr_putr {i ci k fn q v : Nat} {j : Int} (hd : decode (zB M) pc = .ok (.putfield i, 3)) (hF : zFld (zK M) i = some (ci, k, true, fn)) (hj : (k : Int) = j) (ht : (S q).1 = ci) (hf : fn = 0 ∨ (fn = 1 ∧ (zY M).name = "<init>")) (kk : zE d M (pc + 3) L st ((n, sl), (zsup S q ((S q).1, ((S q).2.1, zrup (S q).2.2 j (some v))), c)) Q) : zE d M pc L (zA v :: zA q :: st) ((n, sl), (S, c)) Q := by
  refine zr_next hd ?_ kk
  subst hj
  unfold znext
  simp only [hF, ht]
  rw [if_pos ⟨trivial, hf⟩]
theorem zr_iald {q : Nat} {i N : Int} (hd : decode (zB M) pc = .ok (.iaload, 1)) (ht : (S q).1 = 20) (hN : (S q).2.1 = N) (hb : 0 ≤ i ∧ i < N) (kk : zE d M (pc + 1) L (zI (c q i) :: st) ((n, sl), (S, c)) Q) : zE d M pc L (zI i :: zA q :: st) ((n, sl), (S, c)) Q :=
  zr_next hd (by show (if ((S q).1 = 20 ∨ (S q).1 = 30) ∧ 0 ≤ i ∧ i < (S q).2.1 then some (pc + 1, L, zI (c q i) :: st, ((n, sl), (S, c))) else none) = _; rw [if_pos ⟨Or.inl ht, hb.1, by rw [hN]; exact hb.2⟩]) kk
theorem zr_iald0 {q : Nat} {i N : Int} (hd : decode (zB M) pc = .ok (.iaload, 1)) (ht : (S q).1 = 30) (hN : (S q).2.1 = N) (hb : 0 ≤ i ∧ i < N) (kk : zE d M (pc + 1) L (zI (c q i) :: st) ((n, sl), (S, c)) Q) : zE d M pc L (zI i :: zA q :: st) ((n, sl), (S, c)) Q :=
  zr_next hd (by show (if ((S q).1 = 20 ∨ (S q).1 = 30) ∧ 0 ≤ i ∧ i < (S q).2.1 then some (pc + 1, L, zI (c q i) :: st, ((n, sl), (S, c))) else none) = _; rw [if_pos ⟨Or.inr ht, hb.1, by rw [hN]; exact hb.2⟩]) kk
theorem zr_iast {q : Nat} {i N x : Int} (hd : decode (zB M) pc = .ok (.iastore, 1)) (ht : (S q).1 = 20) (hN : (S q).2.1 = N) (hb : 0 ≤ i ∧ i < N) (kk : zE d M (pc + 1) L st ((n, sl), (S, zup c q i x)) Q) : zE d M pc L (zI x :: zI i :: zA q :: st) ((n, sl), (S, c)) Q :=
  zr_next hd (by show (if (S q).1 = 20 ∧ 0 ≤ i ∧ i < (S q).2.1 then some (pc + 1, L, st, ((n, sl), (S, zup c q i x))) else none) = _; rw [if_pos ⟨ht, hb.1, by rw [hN]; exact hb.2⟩]) kk
theorem zr_alen {q : Nat} {N : Int} (hd : decode (zB M) pc = .ok (.arraylength, 1)) (ht : (S q).1 = 20 ∨ (S q).1 = 21 ∨ (S q).1 = 30 ∨ (S q).1 = 31) (hN : (S q).2.1 = N) (kk : zE d M (pc + 1) L (zI N :: st) ((n, sl), (S, c)) Q) : zE d M pc L (zA q :: st) ((n, sl), (S, c)) Q :=
  zr_next hd (by show (if _ then some (pc + 1, L, zI (S q).2.1 :: st, ((n, sl), (S, c))) else none) = _; rw [if_pos ht, hN]) kk
theorem zr_acopy {i M1 n1 a b : Nat} {sp dp k Na Nb : Int} (hd : decode (zB M) pc = .ok (.invokestatic i, 3)) (hC : zCall (zK M) i = some (7, M1, n1)) (hta : (S a).1 = 20) (htb : (S b).1 = 20) (hNa : (S a).2.1 = Na) (hNb : (S b).2.1 = Nb) (hb : 0 ≤ sp ∧ 0 ≤ dp ∧ 0 ≤ k ∧ sp + k ≤ Na ∧ dp + k ≤ Nb) (hst : (st.map zcat).sum ≤ 8) (kk : zE (d + 1) M (pc + 3) L st ((n, sl), (S, zcpy c a sp b dp k)) Q) : zE (d + 1) M pc L (zI k :: zI dp :: zA b :: zI sp :: zA a :: st) ((n, sl), (S, c)) Q := by
  refine zr_next hd ?_ kk
  unfold znext
  simp only [hC]
  rw [if_pos]
  exact ⟨by omega, hst, Or.inl ⟨hta, htb⟩, hb.1, hb.2.1, hb.2.2.1, by rw [hNa]; exact hb.2.2.2.1, by rw [hNb]; exact hb.2.2.2.2⟩
end ZRM
section ZRC
variable {d M pc len : Nat} {L L' : zLs} {st st' : List zV} {μ : zMem} {Q Q' : Option zV → zMem → Prop} {pc' : Nat}
theorem zr_min {i M1 n1 : Nat} {x y : Int} (hd : decode (zB M) pc = .ok (.invokestatic i, 3)) (hC : zCall (zK M) i = some (8, M1, n1)) (hst : (st.map zcat).sum ≤ 8) (kk : zE (d + 1) M (pc + 3) L (zI (if y < x then y else x) :: st) μ Q) : zE (d + 1) M pc L (zI y :: zI x :: st) μ Q := by
  refine zr_next hd ?_ kk
  unfold znext
  simp only [hC]
  rw [if_pos ⟨by omega, hst⟩]
theorem zr_max {i M1 n1 : Nat} {x y : Int} (hd : decode (zB M) pc = .ok (.invokestatic i, 3)) (hC : zCall (zK M) i = some (9, M1, n1)) (hst : (st.map zcat).sum ≤ 8) (kk : zE (d + 1) M (pc + 3) L (zI (if x < y then y else x) :: st) μ Q) : zE (d + 1) M pc L (zI y :: zI x :: st) μ Q := by
  refine zr_next hd ?_ kk
  unfold znext
  simp only [hC]
  rw [if_pos ⟨by omega, hst⟩]
theorem zr_callS {i M1 k : Nat} {as rest : List zV} (hd : decode (zB M) pc = .ok (.invokestatic i, 3)) (hC : zCall (zK M) i = some (0, M1, k)) (hs : st.take k = as ∧ st.drop k = rest) (hk : k ≤ st.length ∧ as.all zone = true ∧ (rest.map zcat).sum ≤ 8) (hc : zE d M1 0 (zent M1 as.reverse) [] μ Q') (kk : ∀ v μ1, Q' v μ1 → zE (d + 1) M (pc + 3) L (v.toList ++ rest) μ1 Q) : zE (d + 1) M pc L st μ Q := by
  obtain ⟨rfl, rfl⟩ := hs
  refine zr_call hd ?_ ?_ hc kk
  · unfold znext
    split <;> try rfl
    all_goals (first | (injections; done) | skip)
    all_goals
      injections
      subst_vars
      rw [hC]
      split <;> first | rfl | (rename_i h2; injection h2 with h3; injection h3 with h4; cases h4) | skip
  · unfold zinv
    simp only [hC]
    rw [if_pos hk]
theorem zr_callV {i M1 k q kd : Nat} {as rest : List zV} (hd : decode (zB M) pc = .ok (.invokevirtual i, 3)) (hC : zCall (zK M) i = some (kd, M1, k)) (hs : st.take k = as ∧ st.drop k = zA q :: rest) (hk : as.all zone = true ∧ (rest.map zcat).sum ≤ 8) (ht : kd = 1 ∧ (μ.2.1 q).1 = zTag (zK M1) ∨ kd = 2 ∧ (μ.2.1 q).1 = 0) (hc : zE d M1 0 (zent M1 (zA q :: as.reverse)) [] μ Q') (kk : ∀ v μ1, Q' v μ1 → zE (d + 1) M (pc + 3) L (v.toList ++ rest) μ1 Q) : zE (d + 1) M pc L st μ Q := by
  obtain ⟨rfl, h2⟩ := hs
  refine zr_call hd rfl ?_ hc kk
  unfold zinv
  simp only [hC]
  have h3 : k < st.length := by
    refine Nat.lt_of_not_le fun h => ?_
    rw [List.drop_eq_nil_of_le h] at h2
    cases h2
  have h4 : st.drop (k + 1) = rest := by rw [← List.drop_drop, h2]; rfl
  rw [if_pos ⟨h3, hk.1, by rw [h4]; exact hk.2⟩, h2]
  dsimp only
  rw [if_pos ht]
end ZRC
