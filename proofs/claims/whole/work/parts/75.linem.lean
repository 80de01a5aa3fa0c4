/-! rows of bytes and texts; the model's line -/
theorem zF_15_9 : zFld 15 9 = none := by decide +kernel
theorem zF_15_15 : zFld 15 15 = none := by decide +kernel
section ZT
variable {d M pc n sl : Nat} {L : zLs} {st : List zV} {S : zSh} {c : zC} {μ : zMem} {Q : Option zV → zMem → Prop} {x : Int}
theorem zr_bald {q : Nat} {i N : Int} (hd : decode (zB M) pc = .ok (.baload, 1)) (ht : (S q).1 = 21 ∨ (S q).1 = 31) (hN : (S q).2.1 = N) (hb : 0 ≤ i ∧ i < N) (kk : zE d M (pc + 1) L (zI (c q i) :: st) ((n, sl), (S, c)) Q) : zE d M pc L (zI i :: zA q :: st) ((n, sl), (S, c)) Q :=
  zr_next hd (by show (if ((S q).1 = 21 ∨ (S q).1 = 31) ∧ 0 ≤ i ∧ i < (S q).2.1 then some (pc + 1, L, zI (c q i) :: st, ((n, sl), (S, c))) else none) = _; rw [if_pos ⟨ht, hb.1, by rw [hN]; exact hb.2⟩]) kk
theorem zr_bast {q : Nat} {i N : Int} (hd : decode (zB M) pc = .ok (.bastore, 1)) (ht : (S q).1 = 21) (hN : (S q).2.1 = N) (hb : 0 ≤ i ∧ i < N) (hx : -128 ≤ x ∧ x < 128) (kk : zE d M (pc + 1) L st ((n, sl), (S, zup c q i x)) Q) : zE d M pc L (zI x :: zI i :: zA q :: st) ((n, sl), (S, c)) Q :=
  zr_next hd (by show (if (S q).1 = 21 ∧ 0 ≤ i ∧ i < (S q).2.1 ∧ -128 ≤ x ∧ x < 128 then some (pc + 1, L, st, ((n, sl), (S, zup c q i x))) else none) = _; rw [if_pos ⟨ht, hb.1, by rw [hN]; exact hb.2, hx.1, hx.2⟩]) kk
theorem zr_bcopy {i M1 n1 a b : Nat} {sp dp k Na Nb : Int} (hd : decode (zB M) pc = .ok (.invokestatic i, 3)) (hC : zCall (zK M) i = some (7, M1, n1)) (hta : (S a).1 = 21 ∨ (S a).1 = 31) (htb : (S b).1 = 21) (hNa : (S a).2.1 = Na) (hNb : (S b).2.1 = Nb) (hb : 0 ≤ sp ∧ 0 ≤ dp ∧ 0 ≤ k ∧ sp + k ≤ Na ∧ dp + k ≤ Nb) (hst : (st.map zcat).sum ≤ 8) (kk : zE (d + 1) M (pc + 3) L st ((n, sl), (S, zcpy c a sp b dp k)) Q) : zE (d + 1) M pc L (zI k :: zI dp :: zA b :: zI sp :: zA a :: st) ((n, sl), (S, c)) Q := by
  refine zr_next hd ?_ kk
  unfold znext
  simp only [hC]
  rw [if_pos]
  exact ⟨by omega, hst, Or.inr ⟨hta, htb⟩, hb.1, hb.2.1, hb.2.2.1, by rw [hNa]; exact hb.2.2.2.1, by rw [hNb]; exact hb.2.2.2.2⟩
theorem zr_idivN {y : Int} (hd : decode (zB M) pc = .ok (.idiv, 1)) (h : x ≤ 0 ∧ 0 < y ∧ -2147483648 < x) (k : zE d M (pc + 1) L (zI (-((-x) / y)) :: st) μ Q) : zE d M pc L (zI y :: zI x :: st) μ Q := zr_next hd (by
  show (if y ≠ 0 then some (pc + 1, L, zI (zwr (x.tdiv y)) :: st, μ) else none) = _
  have h1 : 0 ≤ (-x) / y := Int.ediv_nonneg (by omega) (by omega)
  have h2 : (-x) / y ≤ -x := Int.ediv_le_self y (by omega)
  have h3 : x.tdiv y = -((-x) / y) := by
    rw [← Int.tdiv_eq_ediv_of_nonneg (show 0 ≤ -x by omega), Int.neg_tdiv, Int.neg_neg]
  rw [if_pos (by omega), h3, zwr_id (by unfold zInR; omega)]) k
theorem zr_shl (hd : decode (zB M) pc = .ok (.ishl, 1)) (k : zE d M (pc + 1) L (zI x :: st) μ Q) : zE d M pc L (zI 0 :: zI x :: st) μ Q := zr_next hd (by show (if (0 : Int) = 0 then some (pc + 1, L, zI x :: st, μ) else none) = _; rw [if_pos rfl]) k
theorem zr_shr (hd : decode (zB M) pc = .ok (.ishr, 1)) (k : zE d M (pc + 1) L (zI x :: st) μ Q) : zE d M pc L (zI 0 :: zI x :: st) μ Q := zr_next hd (by show (if (0 : Int) = 0 then some (pc + 1, L, zI x :: st, μ) else none) = _; rw [if_pos rfl]) k
theorem zr_and255 (hd : decode (zB M) pc = .ok (.iand, 1)) (h : 0 ≤ x ∧ x < 256) (k : zE d M (pc + 1) L (zI x :: st) μ Q) : zE d M pc L (zI 255 :: zI x :: st) μ Q := zr_next hd (by show (if (255 : Int) = 31 then some (pc + 1, L, zI (x % 32) :: st, μ) else if (255 : Int) = 255 then some (pc + 1, L, zI (x % 256) :: st, μ) else none) = _; rw [if_neg (by decide), if_pos rfl, show x % 256 = x by omega]) k
theorem zr_i2b (hd : decode (zB M) pc = .ok (.i2b, 1)) (h : -128 ≤ x ∧ x < 128) (k : zE d M (pc + 1) L (zI x :: st) μ Q) : zE d M pc L (zI x :: st) μ Q := zr_next hd (by show some (pc + 1, L, zI ((x + 128) % 256 - 128) :: st, μ) = _; rw [show (x + 128) % 256 - 128 = x by omega]) k
theorem zr_i2c (hd : decode (zB M) pc = .ok (.i2c, 1)) (h : 0 ≤ x ∧ x < 65536) (k : zE d M (pc + 1) L (zI x :: st) μ Q) : zE d M pc L (zI x :: st) μ Q := zr_next hd (by show some (pc + 1, L, zI (x % 65536) :: st, μ) = _; rw [show x % 65536 = x by omega]) k
theorem zr_gstr {q v : Nat} (hd : decode (zB M) pc = .ok (.getfield 9, 3)) (hM : zK M = 15) (hF : zFld 15 9 = none) (ht : (S q).1 = 11) (hv : (S q).2.2 0 = some v) (kk : zE d M (pc + 3) L (zA v :: st) ((n, sl), (S, c)) Q) : zE d M pc L (zA q :: st) ((n, sl), (S, c)) Q := by
  refine zr_next hd ?_ kk
  unfold znext
  simp only [hM, hF, ht, hv]
  rfl
theorem zr_gstc {q : Nat} (hd : decode (zB M) pc = .ok (.getfield 15, 3)) (hM : zK M = 15) (hF : zFld 15 15 = none) (ht : (S q).1 = 11) (kk : zE d M (pc + 3) L (zI 0 :: st) ((n, sl), (S, c)) Q) : zE d M pc L (zA q :: st) ((n, sl), (S, c)) Q := by
  refine zr_next hd ?_ kk
  unfold znext
  simp only [hM, hF, ht]
  rfl
end ZT
/-- the line of an item -/
def zLn (s l p f : Int) : List Int := [48 + s / 1440] ++ [32] ++ [48 + s % 1440 / 60 / 10] ++ [48 + s % 1440 / 60 % 10] ++ [58] ++ [48 + s % 60 / 10] ++ [48 + s % 60 % 10] ++ [32] ++ [43] ++ zDg l ++ [32] ++ [80] ++ zDg p ++ (if f = 1 then [33] else [])
def zLnR (l : List Int) (k x : Int) : Prop := (k < l.length ∧ l[k.toNat]? = some x) ∨ ((l.length : Int) ≤ k ∧ x = -9)
theorem zDg_len (x : Int) : 1 ≤ (zDg x).length ∧ (zDg x).length ≤ 5 := by
  unfold zDg
  simp only [List.length_append, List.length_cons, List.length_nil]
  repeat' split
  all_goals simp
set_option maxRecDepth 10000 in
set_option maxHeartbeats 2000000 in
theorem e_X9_line {d n sl : Nat} {S : zSh} {c : zC} (hS : zSok S) (hB : zBd c) (hc : 0 ≤ c 146 3 ∧ c 146 3 ≤ 60) (hit : ∀ i, 0 ≤ i → i < c 146 3 → 0 ≤ c 146 (230 + 4 * i + 0) ∧ c 146 (230 + 4 * i + 0) < 16 ∧ 0 ≤ c 146 (230 + 4 * i + 1) ∧ 0 ≤ c 146 (230 + 4 * i + 2) ∧ c 146 (230 + 4 * i + 1) + c 146 (230 + 4 * i + 2) ≤ 10080) {it k : Int} : zE (d + 2) 135 0 (zent 135 [zA 145, zI it, zI k]) [] ((n, sl), (S, c)) (fun r μ' => ∃ (x : Int) (c' : zC), r = some (zI x) ∧ μ' = ((n, sl), (S, c')) ∧ ((¬ ((0 ≤ it ∧ it < c 146 3) ∧ 0 ≤ k) ∧ x = -1 ∧ c' = c) ∨ (((0 ≤ it ∧ it < c 146 3) ∧ 0 ≤ k) ∧ zLnR (zLn (c 146 (230 + 4 * it + 1)) (c 146 (230 + 4 * it + 2)) (c 146 (230 + 4 * it + 0)) (c 146 (230 + 4 * it + 3))) k x ∧ (∀ r, (r < 145 ∨ 154 < r ∨ r = 146 ∨ r = 147) → c' r = c r) ∧ (∀ k, k ≠ 11 → c' 145 k = c 145 k) ∧ zBd c'))) := by
  show zE (d + 2) 135 0 [some (zA 145), some (zI it), some (zI k), none] [] ((n, sl), (S, c)) _
  refine zl_ald0 I135_0 ?_
  refine zl_ild1 I135_1 ?_
  refine zr_callV I135_2 C9_100 ⟨rfl, rfl⟩ ⟨rfl, Nat.le_of_ble_eq_true rfl⟩ (Or.inl ⟨rfl, sT145 hS⟩) (e_X9_isItem hS hB) (fun v2 μ2 hv2 => ?_)
  obtain ⟨x2, rfl, hx2, rfl⟩ := hv2
  dsimp only [Option.toList, List.cons_append, List.nil_append]
  unfold zTf at hx2
  refine zr_if_eq (t := 12) I135_5 rfl (fun h5 => ?_) (fun h5 => ?_)
  · refine zr_iconst I135_12 ?_
    refine zr_iret I135_13 rfl ?_
    exact ⟨_, _, rfl, rfl, Or.inl ⟨by omega, rfl, rfl⟩⟩
  · refine zl_ild2 I135_8 ?_
    refine zr_if_ge (t := 14) I135_9 rfl (fun h9 => ?_) (fun h9 => ?_)
    · have hit0 := hit it (by omega) (by omega)
      refine zl_ald0 I135_14 ?_
      refine zl_ild1 I135_15 ?_
      refine zr_iconst I135_16 ?_
      refine zr_callV I135_17 C9_45 ⟨rfl, rfl⟩ ⟨rfl, Nat.le_of_ble_eq_true rfl⟩ (Or.inl ⟨rfl, sT145 hS⟩) (e_X9_of hS hB (i := it) (k := 1) (by omega) (by omega)) (fun v17 μ17 hv17 => ?_)
      obtain ⟨rfl, rfl⟩ := hv17
      dsimp only [Option.toList, List.cons_append, List.nil_append]
      refine zl_ist3 I135_20 ?_
      refine zl_ald0 I135_21 ?_
      refine zr_iconst I135_22 ?_
      refine zr_puti (j := 11) I135_23 F9_138 rfl (sT145 hS) ⟨rfl, fun h => absurd h (by decide)⟩ ?_
      have t0 : zTxt (zup c 145 11 0) [] := ⟨zup_same, fun k x h => by cases h⟩
      have f0 : zF11 c (zup c 145 11 0) := ⟨fun r _ h => zup_ne h, fun k h => zup_k h⟩
      have b0 : zBd (zup c 145 11 0) := zBd_up hB (by decide)
      have v0 : (zup c 145 11 0) 146 = c 146 := f0.1 146 (by decide) (by decide)
      refine zl_ald0 I135_26 ?_
      refine zr_bipush I135_27 ?_
      refine zl_ild3 I135_29 ?_
      refine zr_sipush I135_30 ?_
      refine zr_idiv I135_33 (by omega) ?_
      refine zr_iadd I135_34 (by unfold zInR; omega) ?_
      refine zr_callV I135_35 C9_141 ⟨rfl, rfl⟩ ⟨rfl, Nat.le_of_ble_eq_true rfl⟩ (Or.inl ⟨rfl, sT145 hS⟩) (e_X9_signs hS b0 t0 (by simp only [List.length_append, List.length_cons, List.length_nil]; (try have hd9 := zDg_len (c 146 (230 + 4 * it + 2))); (try have hd8 := zDg_len (c 146 (230 + 4 * it + 0))); omega) (by omega)) (fun v35 μ35 hv35 => ?_)
      obtain ⟨c35, rfl, rfl, t35, g35, b35⟩ := hv35
      have f35 := f0.tr g35
      have v35 : c35 146 = c 146 := f35.1 146 (by decide) (by decide)
      dsimp only [Option.toList, List.cons_append, List.nil_append]
      refine zl_ald0 I135_38 ?_
      refine zr_bipush I135_39 ?_
      refine zr_callV I135_41 C9_141 ⟨rfl, rfl⟩ ⟨rfl, Nat.le_of_ble_eq_true rfl⟩ (Or.inl ⟨rfl, sT145 hS⟩) (e_X9_signs hS b35 t35 (by simp only [List.length_append, List.length_cons, List.length_nil]; (try have hd9 := zDg_len (c 146 (230 + 4 * it + 2))); (try have hd8 := zDg_len (c 146 (230 + 4 * it + 0))); omega) (by omega)) (fun v41 μ41 hv41 => ?_)
      obtain ⟨c41, rfl, rfl, t41, g41, b41⟩ := hv41
      have f41 := f35.tr g41
      have v41 : c41 146 = c 146 := f41.1 146 (by decide) (by decide)
      dsimp only [Option.toList, List.cons_append, List.nil_append]
      refine zl_ald0 I135_44 ?_
      refine zl_ild3 I135_45 ?_
      refine zr_sipush I135_46 ?_
      refine zr_irem I135_49 (by omega) ?_
      refine zr_bipush I135_50 ?_
      refine zr_idiv I135_52 (by omega) ?_
      refine zr_callV I135_53 C9_143 ⟨rfl, rfl⟩ ⟨rfl, Nat.le_of_ble_eq_true rfl⟩ (Or.inl ⟨rfl, sT145 hS⟩) (e_X9_two hS b41 t41 (by simp only [List.length_append, List.length_cons, List.length_nil]; (try have hd9 := zDg_len (c 146 (230 + 4 * it + 2))); (try have hd8 := zDg_len (c 146 (230 + 4 * it + 0))); omega) (by omega)) (fun v53 μ53 hv53 => ?_)
      obtain ⟨c53, rfl, rfl, t53, g53, b53⟩ := hv53
      have f53 := f41.tr g53
      have v53 : c53 146 = c 146 := f53.1 146 (by decide) (by decide)
      dsimp only [Option.toList, List.cons_append, List.nil_append]
      refine zl_ald0 I135_56 ?_
      refine zr_bipush I135_57 ?_
      refine zr_callV I135_59 C9_141 ⟨rfl, rfl⟩ ⟨rfl, Nat.le_of_ble_eq_true rfl⟩ (Or.inl ⟨rfl, sT145 hS⟩) (e_X9_signs hS b53 t53 (by simp only [List.length_append, List.length_cons, List.length_nil]; (try have hd9 := zDg_len (c 146 (230 + 4 * it + 2))); (try have hd8 := zDg_len (c 146 (230 + 4 * it + 0))); omega) (by omega)) (fun v59 μ59 hv59 => ?_)
      obtain ⟨c59, rfl, rfl, t59, g59, b59⟩ := hv59
      have f59 := f53.tr g59
      have v59 : c59 146 = c 146 := f59.1 146 (by decide) (by decide)
      dsimp only [Option.toList, List.cons_append, List.nil_append]
      refine zl_ald0 I135_62 ?_
      refine zl_ild3 I135_63 ?_
      refine zr_bipush I135_64 ?_
      refine zr_irem I135_66 (by omega) ?_
      refine zr_callV I135_67 C9_143 ⟨rfl, rfl⟩ ⟨rfl, Nat.le_of_ble_eq_true rfl⟩ (Or.inl ⟨rfl, sT145 hS⟩) (e_X9_two hS b59 t59 (by simp only [List.length_append, List.length_cons, List.length_nil]; (try have hd9 := zDg_len (c 146 (230 + 4 * it + 2))); (try have hd8 := zDg_len (c 146 (230 + 4 * it + 0))); omega) (by omega)) (fun v67 μ67 hv67 => ?_)
      obtain ⟨c67, rfl, rfl, t67, g67, b67⟩ := hv67
      have f67 := f59.tr g67
      have v67 : c67 146 = c 146 := f67.1 146 (by decide) (by decide)
      dsimp only [Option.toList, List.cons_append, List.nil_append]
      refine zl_ald0 I135_70 ?_
      refine zr_bipush I135_71 ?_
      refine zr_callV I135_73 C9_141 ⟨rfl, rfl⟩ ⟨rfl, Nat.le_of_ble_eq_true rfl⟩ (Or.inl ⟨rfl, sT145 hS⟩) (e_X9_signs hS b67 t67 (by simp only [List.length_append, List.length_cons, List.length_nil]; (try have hd9 := zDg_len (c 146 (230 + 4 * it + 2))); (try have hd8 := zDg_len (c 146 (230 + 4 * it + 0))); omega) (by omega)) (fun v73 μ73 hv73 => ?_)
      obtain ⟨c73, rfl, rfl, t73, g73, b73⟩ := hv73
      have f73 := f67.tr g73
      have v73 : c73 146 = c 146 := f73.1 146 (by decide) (by decide)
      dsimp only [Option.toList, List.cons_append, List.nil_append]
      refine zl_ald0 I135_76 ?_
      refine zr_bipush I135_77 ?_
      refine zr_callV I135_79 C9_141 ⟨rfl, rfl⟩ ⟨rfl, Nat.le_of_ble_eq_true rfl⟩ (Or.inl ⟨rfl, sT145 hS⟩) (e_X9_signs hS b73 t73 (by simp only [List.length_append, List.length_cons, List.length_nil]; (try have hd9 := zDg_len (c 146 (230 + 4 * it + 2))); (try have hd8 := zDg_len (c 146 (230 + 4 * it + 0))); omega) (by omega)) (fun v79 μ79 hv79 => ?_)
      obtain ⟨c79, rfl, rfl, t79, g79, b79⟩ := hv79
      have f79 := f73.tr g79
      have v79 : c79 146 = c 146 := f79.1 146 (by decide) (by decide)
      dsimp only [Option.toList, List.cons_append, List.nil_append]
      refine zl_ald0 I135_82 ?_
      refine zl_ald0 I135_83 ?_
      refine zl_ild1 I135_84 ?_
      refine zr_iconst I135_85 ?_
      refine zr_callV I135_86 C9_45 ⟨rfl, rfl⟩ ⟨rfl, Nat.le_of_ble_eq_true rfl⟩ (Or.inl ⟨rfl, sT145 hS⟩) (e_X9_of hS b79 (i := it) (k := 2) (by omega) (by omega)) (fun v86 μ86 hv86 => ?_)
      obtain ⟨rfl, rfl⟩ := hv86
      dsimp only [Option.toList, List.cons_append, List.nil_append]
      rw [v79]
      refine zr_callV I135_89 C9_146 ⟨rfl, rfl⟩ ⟨rfl, Nat.le_of_ble_eq_true rfl⟩ (Or.inl ⟨rfl, sT145 hS⟩) (e_X9_number hS b79 t79 (by simp only [List.length_append, List.length_cons, List.length_nil]; (try have hd9 := zDg_len (c 146 (230 + 4 * it + 2))); (try have hd8 := zDg_len (c 146 (230 + 4 * it + 0))); omega) (by omega)) (fun v89 μ89 hv89 => ?_)
      obtain ⟨c89, rfl, rfl, t89, g89, b89⟩ := hv89
      have f89 := f79.tr g89
      have v89 : c89 146 = c 146 := f89.1 146 (by decide) (by decide)
      dsimp only [Option.toList, List.cons_append, List.nil_append]
      refine zl_ald0 I135_92 ?_
      refine zr_bipush I135_93 ?_
      refine zr_callV I135_95 C9_141 ⟨rfl, rfl⟩ ⟨rfl, Nat.le_of_ble_eq_true rfl⟩ (Or.inl ⟨rfl, sT145 hS⟩) (e_X9_signs hS b89 t89 (by simp only [List.length_append, List.length_cons, List.length_nil]; (try have hd9 := zDg_len (c 146 (230 + 4 * it + 2))); (try have hd8 := zDg_len (c 146 (230 + 4 * it + 0))); omega) (by omega)) (fun v95 μ95 hv95 => ?_)
      obtain ⟨c95, rfl, rfl, t95, g95, b95⟩ := hv95
      have f95 := f89.tr g95
      have v95 : c95 146 = c 146 := f95.1 146 (by decide) (by decide)
      dsimp only [Option.toList, List.cons_append, List.nil_append]
      refine zl_ald0 I135_98 ?_
      refine zr_bipush I135_99 ?_
      refine zr_callV I135_101 C9_141 ⟨rfl, rfl⟩ ⟨rfl, Nat.le_of_ble_eq_true rfl⟩ (Or.inl ⟨rfl, sT145 hS⟩) (e_X9_signs hS b95 t95 (by simp only [List.length_append, List.length_cons, List.length_nil]; (try have hd9 := zDg_len (c 146 (230 + 4 * it + 2))); (try have hd8 := zDg_len (c 146 (230 + 4 * it + 0))); omega) (by omega)) (fun v101 μ101 hv101 => ?_)
      obtain ⟨c101, rfl, rfl, t101, g101, b101⟩ := hv101
      have f101 := f95.tr g101
      have v101 : c101 146 = c 146 := f101.1 146 (by decide) (by decide)
      dsimp only [Option.toList, List.cons_append, List.nil_append]
      refine zl_ald0 I135_104 ?_
      refine zl_ald0 I135_105 ?_
      refine zl_ild1 I135_106 ?_
      refine zr_iconst I135_107 ?_
      refine zr_callV I135_108 C9_45 ⟨rfl, rfl⟩ ⟨rfl, Nat.le_of_ble_eq_true rfl⟩ (Or.inl ⟨rfl, sT145 hS⟩) (e_X9_of hS b101 (i := it) (k := 0) (by omega) (by omega)) (fun v108 μ108 hv108 => ?_)
      obtain ⟨rfl, rfl⟩ := hv108
      dsimp only [Option.toList, List.cons_append, List.nil_append]
      rw [v101]
      refine zr_callV I135_111 C9_146 ⟨rfl, rfl⟩ ⟨rfl, Nat.le_of_ble_eq_true rfl⟩ (Or.inl ⟨rfl, sT145 hS⟩) (e_X9_number hS b101 t101 (by simp only [List.length_append, List.length_cons, List.length_nil]; (try have hd9 := zDg_len (c 146 (230 + 4 * it + 2))); (try have hd8 := zDg_len (c 146 (230 + 4 * it + 0))); omega) (by omega)) (fun v111 μ111 hv111 => ?_)
      obtain ⟨c111, rfl, rfl, t111, g111, b111⟩ := hv111
      have f111 := f101.tr g111
      have v111 : c111 146 = c 146 := f111.1 146 (by decide) (by decide)
      dsimp only [Option.toList, List.cons_append, List.nil_append]
      refine zl_ald0 I135_114 ?_
      refine zl_ild1 I135_115 ?_
      refine zr_iconst I135_116 ?_
      refine zr_callV I135_117 C9_45 ⟨rfl, rfl⟩ ⟨rfl, Nat.le_of_ble_eq_true rfl⟩ (Or.inl ⟨rfl, sT145 hS⟩) (e_X9_of hS b111 (i := it) (k := 3) (by omega) (by omega)) (fun v117 μ117 hv117 => ?_)
      obtain ⟨rfl, rfl⟩ := hv117
      dsimp only [Option.toList, List.cons_append, List.nil_append]
      rw [v111]
      refine zr_iconst I135_120 ?_
      refine zr_ic_ne (t := 130) I135_121 rfl (fun h121 => ?_) (fun h121 => ?_)
      · refine zl_ild2 I135_130 ?_
        refine zl_ald0 I135_131 ?_
        refine zr_giB (j := 11) b111 (by decide) I135_132 F9_138 rfl (sT145 hS) (fun b132 => ?_)
        refine zr_ic_ge (t := 147) I135_135 rfl (fun h135 => ?_) (fun h135 => ?_)
        · have k0 := t111.1
          rw [k0] at h135
          refine zr_bipush I135_147 ?_
          refine zr_iret I135_149 rfl ?_
          have e9 : zLn (c 146 (230 + 4 * it + 1)) (c 146 (230 + 4 * it + 2)) (c 146 (230 + 4 * it + 0)) (c 146 (230 + 4 * it + 3)) = [] ++ [48 + c 146 (230 + 4 * it + 1) / 1440] ++ [32] ++ [48 + c 146 (230 + 4 * it + 1) % 1440 / 60 / 10] ++ [48 + c 146 (230 + 4 * it + 1) % 1440 / 60 % 10] ++ [58] ++ [48 + c 146 (230 + 4 * it + 1) % 60 / 10] ++ [48 + c 146 (230 + 4 * it + 1) % 60 % 10] ++ [32] ++ [43] ++ zDg (c 146 (230 + 4 * it + 2)) ++ [32] ++ [80] ++ zDg (c 146 (230 + 4 * it + 0)) := by
            unfold zLn
            rw [if_neg h121, List.append_nil]
            rfl
          refine ⟨_, _, rfl, rfl, Or.inr ⟨by omega, Or.inr ⟨?_, rfl⟩, fun r hr => f111.1 r (by omega) (by omega), fun k hk => f111.2 k hk, b111⟩⟩
          rw [e9]
          omega
        · have k0 := t111.1
          have hk9 := h135
          rw [k0] at hk9
          have hk8 : k < 40 := by
            simp only [List.length_append, List.length_cons, List.length_nil] at hk9
            have hd9 := zDg_len (c 146 (230 + 4 * it + 2))
            have hd8 := zDg_len (c 146 (230 + 4 * it + 0))
            omega
          refine zl_ald0 I135_138 ?_
          refine zr_getr (j := 10) I135_139 F9_34 rfl (sT145 hS) (sR145_10 hS) ?_
          refine zl_ild2 I135_142 ?_
          refine zr_iaB b111 (by decide) I135_143 (sT154 hS) (sN154 hS) (by omega) (fun b143 => ?_)
          refine zr_goto (t := 149) I135_144 rfl ?_
          refine zr_iret I135_149 rfl ?_
          have e9 : zLn (c 146 (230 + 4 * it + 1)) (c 146 (230 + 4 * it + 2)) (c 146 (230 + 4 * it + 0)) (c 146 (230 + 4 * it + 3)) = [] ++ [48 + c 146 (230 + 4 * it + 1) / 1440] ++ [32] ++ [48 + c 146 (230 + 4 * it + 1) % 1440 / 60 / 10] ++ [48 + c 146 (230 + 4 * it + 1) % 1440 / 60 % 10] ++ [58] ++ [48 + c 146 (230 + 4 * it + 1) % 60 / 10] ++ [48 + c 146 (230 + 4 * it + 1) % 60 % 10] ++ [32] ++ [43] ++ zDg (c 146 (230 + 4 * it + 2)) ++ [32] ++ [80] ++ zDg (c 146 (230 + 4 * it + 0)) := by
            unfold zLn
            rw [if_neg h121, List.append_nil]
            rfl
          refine ⟨_, _, rfl, rfl, Or.inr ⟨by omega, Or.inl ⟨?_, ?_⟩, fun r hr => f111.1 r (by omega) (by omega), fun k hk => f111.2 k hk, b111⟩⟩
          · rw [e9]
            exact hk9
          · rw [e9]
            have hlt : k.toNat < ([] ++ [48 + c 146 (230 + 4 * it + 1) / 1440] ++ [32] ++ [48 + c 146 (230 + 4 * it + 1) % 1440 / 60 / 10] ++ [48 + c 146 (230 + 4 * it + 1) % 1440 / 60 % 10] ++ [58] ++ [48 + c 146 (230 + 4 * it + 1) % 60 / 10] ++ [48 + c 146 (230 + 4 * it + 1) % 60 % 10] ++ [32] ++ [43] ++ zDg (c 146 (230 + 4 * it + 2)) ++ [32] ++ [80] ++ zDg (c 146 (230 + 4 * it + 0))).length := by omega
            have hx := List.getElem?_eq_getElem hlt
            rw [hx]
            have h8 := t111.2 _ _ hx
            rw [show ((k.toNat : Nat) : Int) = k by omega] at h8
            exact congrArg some h8.symm
      · refine zl_ald0 I135_124 ?_
        refine zr_bipush I135_125 ?_
        refine zr_callV I135_127 C9_141 ⟨rfl, rfl⟩ ⟨rfl, Nat.le_of_ble_eq_true rfl⟩ (Or.inl ⟨rfl, sT145 hS⟩) (e_X9_signs hS b111 t111 (by simp only [List.length_append, List.length_cons, List.length_nil]; (try have hd9 := zDg_len (c 146 (230 + 4 * it + 2))); (try have hd8 := zDg_len (c 146 (230 + 4 * it + 0))); omega) (by omega)) (fun v127 μ127 hv127 => ?_)
        obtain ⟨c127, rfl, rfl, t127, g127, b127⟩ := hv127
        have f127 := f111.tr g127
        have v127 : c127 146 = c 146 := f127.1 146 (by decide) (by decide)
        dsimp only [Option.toList, List.cons_append, List.nil_append]
        refine zl_ild2 I135_130 ?_
        refine zl_ald0 I135_131 ?_
        refine zr_giB (j := 11) b127 (by decide) I135_132 F9_138 rfl (sT145 hS) (fun b132 => ?_)
        refine zr_ic_ge (t := 147) I135_135 rfl (fun h135 => ?_) (fun h135 => ?_)
        · have k0 := t127.1
          rw [k0] at h135
          refine zr_bipush I135_147 ?_
          refine zr_iret I135_149 rfl ?_
          have e9 : zLn (c 146 (230 + 4 * it + 1)) (c 146 (230 + 4 * it + 2)) (c 146 (230 + 4 * it + 0)) (c 146 (230 + 4 * it + 3)) = [] ++ [48 + c 146 (230 + 4 * it + 1) / 1440] ++ [32] ++ [48 + c 146 (230 + 4 * it + 1) % 1440 / 60 / 10] ++ [48 + c 146 (230 + 4 * it + 1) % 1440 / 60 % 10] ++ [58] ++ [48 + c 146 (230 + 4 * it + 1) % 60 / 10] ++ [48 + c 146 (230 + 4 * it + 1) % 60 % 10] ++ [32] ++ [43] ++ zDg (c 146 (230 + 4 * it + 2)) ++ [32] ++ [80] ++ zDg (c 146 (230 + 4 * it + 0)) ++ [33] := by
            unfold zLn
            rw [if_pos h121]
            rfl
          refine ⟨_, _, rfl, rfl, Or.inr ⟨by omega, Or.inr ⟨?_, rfl⟩, fun r hr => f127.1 r (by omega) (by omega), fun k hk => f127.2 k hk, b127⟩⟩
          rw [e9]
          omega
        · have k0 := t127.1
          have hk9 := h135
          rw [k0] at hk9
          have hk8 : k < 40 := by
            simp only [List.length_append, List.length_cons, List.length_nil] at hk9
            have hd9 := zDg_len (c 146 (230 + 4 * it + 2))
            have hd8 := zDg_len (c 146 (230 + 4 * it + 0))
            omega
          refine zl_ald0 I135_138 ?_
          refine zr_getr (j := 10) I135_139 F9_34 rfl (sT145 hS) (sR145_10 hS) ?_
          refine zl_ild2 I135_142 ?_
          refine zr_iaB b127 (by decide) I135_143 (sT154 hS) (sN154 hS) (by omega) (fun b143 => ?_)
          refine zr_goto (t := 149) I135_144 rfl ?_
          refine zr_iret I135_149 rfl ?_
          have e9 : zLn (c 146 (230 + 4 * it + 1)) (c 146 (230 + 4 * it + 2)) (c 146 (230 + 4 * it + 0)) (c 146 (230 + 4 * it + 3)) = [] ++ [48 + c 146 (230 + 4 * it + 1) / 1440] ++ [32] ++ [48 + c 146 (230 + 4 * it + 1) % 1440 / 60 / 10] ++ [48 + c 146 (230 + 4 * it + 1) % 1440 / 60 % 10] ++ [58] ++ [48 + c 146 (230 + 4 * it + 1) % 60 / 10] ++ [48 + c 146 (230 + 4 * it + 1) % 60 % 10] ++ [32] ++ [43] ++ zDg (c 146 (230 + 4 * it + 2)) ++ [32] ++ [80] ++ zDg (c 146 (230 + 4 * it + 0)) ++ [33] := by
            unfold zLn
            rw [if_pos h121]
            rfl
          refine ⟨_, _, rfl, rfl, Or.inr ⟨by omega, Or.inl ⟨?_, ?_⟩, fun r hr => f127.1 r (by omega) (by omega), fun k hk => f127.2 k hk, b127⟩⟩
          · rw [e9]
            exact hk9
          · rw [e9]
            have hlt : k.toNat < ([] ++ [48 + c 146 (230 + 4 * it + 1) / 1440] ++ [32] ++ [48 + c 146 (230 + 4 * it + 1) % 1440 / 60 / 10] ++ [48 + c 146 (230 + 4 * it + 1) % 1440 / 60 % 10] ++ [58] ++ [48 + c 146 (230 + 4 * it + 1) % 60 / 10] ++ [48 + c 146 (230 + 4 * it + 1) % 60 % 10] ++ [32] ++ [43] ++ zDg (c 146 (230 + 4 * it + 2)) ++ [32] ++ [80] ++ zDg (c 146 (230 + 4 * it + 0)) ++ [33]).length := by omega
            have hx := List.getElem?_eq_getElem hlt
            rw [hx]
            have h8 := t127.2 _ _ hx
            rw [show ((k.toNat : Nat) : Int) = k by omega] at h8
            exact congrArg some h8.symm
    · refine zr_iconst I135_12 ?_
      refine zr_iret I135_13 rfl ?_
      exact ⟨_, _, rfl, rfl, Or.inl ⟨by omega, rfl, rfl⟩⟩
