/-! one instruction of the interpreter is one of the machine, second half -/
theorem zldcwS {p : Program} {l : Launch} {e : Env} {R : Room} {s : State} {m : MethodId} {args : Array Value} {below : List Frame} {meth : Method} {c : Code} {Q : State → Prop} {H : Heap} {locs : List Loc} {cells slots : Nat} {cc : ByteArray} {pc : Nat} {ls : Array Slot} {rest : List Value} (hexec : p.tables.exec = Jvm.exec) (hb : c.code = cc) {own tx : String} {index q : Nat} (hown : s.vm.findClass own = some m.cls) (hZ : vk_R own index tx q s) (hdg : decode cc pc = .ok (.ldc_w index, 3))
    (k : W p l e R s m args below meth c H locs cells slots Q (F0 m (pc + 3) ls (.ref q :: rest))) : W p l e R s m args below meth c H locs cells slots Q (F0 m pc ls rest) := by
  subst hb
  intro T hT X
  obtain ⟨t, a1, b1⟩ := k T hT X
  refine ⟨t, ?_, b1⟩
  obtain ⟨kk, cf, i, a', hk, hcf, hcp, -, hr, hev'⟩ := Cond.stringRef_spec hown hZ.1
  cases hZ.2.symm.trans hev'
  obtain ⟨k', hk', he⟩ := X.warmed.alike.2.2 _ _ hk
  have hr' : k'.resolved[index]? = some (some (.string q)) := by
    rcases X.warmed.entry hk hk' index with h | ⟨h, -⟩
    · rw [h]; exact hr
    · rw [hr] at h; cases h
  jvm_step X.here [hexec, hdg, ldc_w.wp_string (e := e) (s := T) (f := F0 m pc ls rest) X.here.top hk' (by rw [he]; exact hcf) hcp hr']
  exact a1
theorem zlv_memg {tv : zV → Value} {L : zLs} {i : Nat} {v : zV} (hi : zgetl L i = some v) : (i, tv v) ∈ zlv tv 0 L := by
  refine (zlv_mem L 0 i (tv v)).mpr ⟨i, v, by omega, ?_, rfl⟩
  unfold zgetl at hi
  cases h2 : L[i]? with
  | none => rw [h2] at hi; cases hi
  | some w => rw [h2] at hi; simp at hi; rw [hi]
theorem z_lcmp {x y : Int} (hx : -9223372036854775808 ≤ x ∧ x < 9223372036854775808) (hy : -9223372036854775808 ≤ y ∧ y < 9223372036854775808) : lg_cmp (Int64.ofInt x) (Int64.ofInt y) = Int32.ofInt (if x = y then 0 else if x < y then -1 else 1) := by
  have e1 : Int64.ofInt x < Int64.ofInt y ↔ x < y := by rw [Int64.lt_iff_toInt_lt, ztl, ztl, zwl_id hx, zwl_id hy]
  have e2 : Int64.ofInt x = Int64.ofInt y ↔ x = y := by rw [← Int64.toInt_inj, ztl, ztl, zwl_id hx, zwl_id hy]
  have e3 : Int64.ofInt y < Int64.ofInt x ↔ y < x := by rw [Int64.lt_iff_toInt_lt, ztl, ztl, zwl_id hx, zwl_id hy]
  unfold lg_cmp
  by_cases h1 : y < x
  · rw [if_pos (e3.mpr h1), if_neg (show ¬ x = y by omega), if_neg (show ¬ x < y by omega)]
    rfl
  · rw [if_neg (fun h => h1 (e3.mp h))]
    by_cases h2 : x = y
    · rw [if_pos (e2.mpr h2), if_pos h2]
      rfl
    · rw [if_neg (fun h => h2 (e2.mp h)), if_neg h2, if_pos (show x < y by omega)]
      rfl
theorem z_cmpin (x y : Int) : zInR (if x = y then 0 else if x < y then -1 else 1) := by
  unfold zInR
  split
  · omega
  · split <;> omega
theorem zjmp2 {cd : ClassFile.Cond} {x y : Int} {t u : Nat} {P : Nat → Prop} (h : P (if zcb cd x y = true then t else u)) : (zcb cd x y = true → P t) ∧ (zcb cd x y = false → P u) := by
  cases hc : zcb cd x y <;> simp [hc] at h ⊢ <;> exact h
def zsok : Bool :=
  decide (ztbl[662]? = some (.constant (zcn 12) 39 2147483647)) &&
  decide (ztbl[658]? = some (.constant (zcn 18) 200 2147483639)) &&
  decide (ztbl[526]? = some (.constantLong (zcn 8) 202 73)) &&
  decide (ztbl[527]? = some (.constantLong (zcn 8) 204 31)) &&
  decide (ztbl[531]? = some (.constant (zcn 10) 7 763049417)) &&
  decide (ztbl[535]? = some (.constant (zcn 10) 8 2147483647)) &&
  decide (ztbl[280]? = some (.fieldLink (zcn 12) 18 "java/lang/String" "COMPACT_STRINGS" "Z")) &&
  decide (ztbl[809]? = some (.fieldLink (zcn 15) 38 "java/lang/String" "COMPACT_STRINGS" "Z")) &&
  decide (ztbl[706]? = some (.fieldLink (zcn 13) 83 "java/lang/Integer" "DigitOnes" "[B")) &&
  decide (ztbl[708]? = some (.fieldLink (zcn 13) 87 "java/lang/Integer" "DigitTens" "[B")) &&
  decide (ztbl[722]? = some (.fieldLink (zcn 15) 1053 "jdk/internal/util/Preconditions" "SIOOBE_FORMATTER" "Ljava/util/function/BiFunction;")) &&
  decide (ztbl[877]? = some (.fieldLink (zcn 15) 9 "java/lang/String" "value" "[B")) &&
  decide (ztbl[878]? = some (.fieldLink (zcn 15) 15 "java/lang/String" "coder" "B")) &&
  decide (ztbl[864]? = some (.constant (zcn 10) 90 101616480))
theorem zsok_ok : zsok = true := by decide +kernel
theorem zsw : (.constant (zcn 12) 39 2147483647 : Cond) ∈ zgw ∧ (.constant (zcn 18) 200 2147483639 : Cond) ∈ zgw ∧ (.constantLong (zcn 8) 202 73 : Cond) ∈ zgw ∧ (.constantLong (zcn 8) 204 31 : Cond) ∈ zgw ∧ (.constant (zcn 10) 7 763049417 : Cond) ∈ zgw ∧ (.constant (zcn 10) 8 2147483647 : Cond) ∈ zgw ∧ (.fieldLink (zcn 12) 18 "java/lang/String" "COMPACT_STRINGS" "Z" : Cond) ∈ zgw ∧ (.fieldLink (zcn 15) 38 "java/lang/String" "COMPACT_STRINGS" "Z" : Cond) ∈ zgw ∧ (.fieldLink (zcn 13) 83 "java/lang/Integer" "DigitOnes" "[B" : Cond) ∈ zgw ∧ (.fieldLink (zcn 13) 87 "java/lang/Integer" "DigitTens" "[B" : Cond) ∈ zgw ∧ (.fieldLink (zcn 15) 1053 "jdk/internal/util/Preconditions" "SIOOBE_FORMATTER" "Ljava/util/function/BiFunction;" : Cond) ∈ zgw ∧ (.fieldLink (zcn 15) 9 "java/lang/String" "value" "[B" : Cond) ∈ zgw ∧ (.fieldLink (zcn 15) 15 "java/lang/String" "coder" "B" : Cond) ∈ zgw ∧ (.constant (zcn 10) 90 101616480 : Cond) ∈ zgw := by
  have h := zsok_ok
  unfold zsok at h
  simp only [Bool.and_eq_true, decide_eq_true_eq] at h
  obtain ⟨⟨⟨⟨⟨⟨⟨⟨⟨⟨⟨⟨⟨g0, g1⟩, g2⟩, g3⟩, g4⟩, g5⟩, g6⟩, g7⟩, g8⟩, g9⟩, g10⟩, g11⟩, g12⟩, g13⟩ := h
  exact ⟨zgw_mem g0 rfl, zgw_mem g1 rfl, zgw_mem g2 rfl, zgw_mem g3 rfl, zgw_mem g4 rfl, zgw_mem g5 rfl, zgw_mem g6 rfl, zgw_mem g7 rfl, zgw_mem g8 rfl, zgw_mem g9 rfl, zgw_mem g10 rfl, zgw_mem g11 rfl, zgw_mem g12 rfl, zgw_mem g13 rfl⟩
section ZS
variable {p : Program} {l : Launch} {e : Env} {R : Room} {s : State} {m : MethodId} {args : Array Value} {below : List Frame} {meth : Method} {c : Code} {Q : State → Prop} {lo : Nat} {roa : Nat → Nat} {sio : Value} {D : va_G} {rS : zSh} {rC : zC} {d M a1 a2 b1 b2 : Nat} {pc len : Nat} {L : zLs} {st : List zV} {μ : zMem} {q : zst}
set_option maxHeartbeats 1000000 in
theorem zs_iinc {i : Nat} {n : Int} (C : zCtx p R s m args meth c lo roa sio D rS rC d M) (hd : decode (zB M) pc = .ok (.iinc i n, len)) (hn : znext d M pc L st μ (.iinc i n) len = some q) (k : zGo p l e R s m args below meth c Q lo roa sio D rS rC M a1 a2 b1 b2 q) : zGo p l e R s m args below meth c Q lo roa sio D rS rC M a1 a2 b1 b2 (pc, L, st, μ) := by
  intro H locs ls cells slots h1 h2 h3
  obtain ⟨hdyn, hS, hl, hlen, hwl, hws⟩ := h3
  obtain ⟨hx, hb, hml, hown, hts, hr, hlk, hini, hst, hlo, hfr, hlc⟩ := C
  unfold znext at hn
  split at hn <;> try contradiction
  all_goals
    injections
    subst_vars
    split at hn <;> try contradiction
    split at hn <;> try contradiction
    cases hn
    rename_i x hi hok
    obtain ⟨k0, hk0⟩ := List.getElem?_of_mem (zlv_memg (tv := ztv lo roa sio) hi)
    first
      | exact lv_iinc hx hb hd hl hk0 (z_add x _) (by rw [← hlen]; exact hok.2) rfl (fun ls1 hl1 => k H locs ls1 cells slots h1 h2 ⟨hdyn, hS, zlv_less hl1 (zlv_set hst.2.1 hok.1), by simpa using hlen, zwl_set hwl (zwr_in _), hws⟩)
      | exact lv_iincW hx hb hd hl hk0 (z_add x _) (by rw [← hlen]; exact hok.2) rfl (fun ls1 hl1 => k H locs ls1 cells slots h1 h2 ⟨hdyn, hS, zlv_less hl1 (zlv_set hst.2.1 hok.1), by simpa using hlen, zwl_set hwl (zwr_in _), hws⟩)
set_option maxHeartbeats 1000000 in
theorem zs_iand (C : zCtx p R s m args meth c lo roa sio D rS rC d M) (hd : decode (zB M) pc = .ok (.iand, len)) (hn : znext d M pc L st μ (.iand) len = some q) (k : zGo p l e R s m args below meth c Q lo roa sio D rS rC M a1 a2 b1 b2 q) : zGo p l e R s m args below meth c Q lo roa sio D rS rC M a1 a2 b1 b2 (pc, L, st, μ) := by
  intro H locs ls cells slots h1 h2 h3
  obtain ⟨hdyn, hS, hl, hlen, hwl, hws⟩ := h3
  obtain ⟨hx, hb, hml, hown, hts, hr, hlk, hini, hst, hlo, hfr, hlc⟩ := C
  unfold znext at hn
  split at hn <;> try contradiction
  split at hn <;> try contradiction
  rename_i y x r
  split at hn
  · rename_i hy
    cases hn
    subst hy
    exact lv_iand hx hb hd (by rw [z_and31]; exact k H locs ls cells slots h1 h2 ⟨hdyn, hS, hl, hlen, hwl, zwfc (by unfold zwf zInR; dsimp only; omega) (zwf2 (zwf2 hws))⟩)
  · split at hn
    · rename_i hy
      cases hn
      subst hy
      exact lv_iand hx hb hd (by rw [z_and255]; exact k H locs ls cells slots h1 h2 ⟨hdyn, hS, hl, hlen, hwl, zwfc (by unfold zwf zInR; dsimp only; omega) (zwf2 (zwf2 hws))⟩)
    · cases hn
      exact lv_iand hx hb hd (by rw [← Int32.ofInt_toInt (Int32.ofInt x &&& Int32.ofInt y)]; exact k H locs ls cells slots h1 h2 ⟨hdyn, hS, hl, hlen, hwl, zwfc ⟨Int32.le_toInt _, Int32.toInt_lt _⟩ (zwf2 (zwf2 hws))⟩)
set_option maxHeartbeats 1000000 in
theorem zs_lcmp (C : zCtx p R s m args meth c lo roa sio D rS rC d M) (hd : decode (zB M) pc = .ok (.lcmp, len)) (hn : znext d M pc L st μ (.lcmp) len = some q) (k : zGo p l e R s m args below meth c Q lo roa sio D rS rC M a1 a2 b1 b2 q) : zGo p l e R s m args below meth c Q lo roa sio D rS rC M a1 a2 b1 b2 (pc, L, st, μ) := by
  intro H locs ls cells slots h1 h2 h3
  obtain ⟨hdyn, hS, hl, hlen, hwl, hws⟩ := h3
  obtain ⟨hx, hb, hml, hown, hts, hr, hlk, hini, hst, hlo, hfr, hlc⟩ := C
  unfold znext at hn
  split at hn <;> try contradiction
  split at hn <;> try contradiction
  cases hn
  rename_i y x r
  exact W.lcmp hx hb hd (by rw [z_lcmp (zwf1 (zwf2 hws)) (zwf1 hws)]; exact k H locs ls cells slots h1 h2 ⟨hdyn, hS, hl, hlen, hwl, zwfc (z_cmpin _ _) (zwf2 (zwf2 hws))⟩)
theorem z_in0 : zInR 0 := ⟨by decide, by decide⟩
set_option maxHeartbeats 1000000 in
theorem zs_if_icmp {cd : ClassFile.Cond} {off : Int} (C : zCtx p R s m args meth c lo roa sio D rS rC d M) (hd : decode (zB M) pc = .ok (.if_icmp cd off, len)) (hn : znext d M pc L st μ (.if_icmp cd off) len = some q) (k : zGo p l e R s m args below meth c Q lo roa sio D rS rC M a1 a2 b1 b2 q) : zGo p l e R s m args below meth c Q lo roa sio D rS rC M a1 a2 b1 b2 (pc, L, st, μ) := by
  intro H locs ls cells slots h1 h2 h3
  obtain ⟨hdyn, hS, hl, hlen, hwl, hws⟩ := h3
  obtain ⟨hx, hb, hml, hown, hts, hr, hlk, hini, hst, hlo, hfr, hlc⟩ := C
  unfold znext at hn
  split at hn <;> try contradiction
  injections
  subst_vars
  rename_i cd off
  split at hn <;> try contradiction
  cases hn
  rename_i y x r t ht
  obtain ⟨kt, kf⟩ := zjmp2 (P := fun t => zGo p l e R s m args below meth c Q lo roa sio D rS rC M a1 a2 b1 b2 (t, L, r, μ)) k
  have kT := fun h => kt h H locs ls cells slots h1 h2 ⟨hdyn, hS, hl, hlen, hwl, zwf2 (zwf2 hws)⟩
  have kF := fun h => kf h H locs ls cells slots h1 h2 ⟨hdyn, hS, hl, hlen, hwl, zwf2 (zwf2 hws)⟩
  cases cd
  · exact lv_icmp_eq hx hb hd (zjmp_eq ht) (fun h => kT (decide_eq_true ((z_eq (zwf1 (zwf2 hws)) (zwf1 hws)).mp h))) (fun h => kF (decide_eq_false (fun h9 => h ((z_eq (zwf1 (zwf2 hws)) (zwf1 hws)).mpr h9))))
  · exact lv_icmp_ne hx hb hd (zjmp_eq ht) (fun h => kT (decide_eq_true ((not_congr (z_eq (zwf1 (zwf2 hws)) (zwf1 hws))).mp h))) (fun h => kF (decide_eq_false (fun h9 => h9 (((z_eq (zwf1 (zwf2 hws)) (zwf1 hws))).mp h))))
  · exact lv_icmp_lt hx hb hd (zjmp_eq ht) (fun h => kT (decide_eq_true ((z_lt (zwf1 (zwf2 hws)) (zwf1 hws)).mp h))) (fun h => kF (decide_eq_false (fun h9 => h ((z_lt (zwf1 (zwf2 hws)) (zwf1 hws)).mpr h9))))
  · exact lv_icmp_ge hx hb hd (zjmp_eq ht) (fun h => kT (decide_eq_true ((z_le (zwf1 hws) (zwf1 (zwf2 hws))).mp h))) (fun h => kF (decide_eq_false (fun h9 => h ((z_le (zwf1 hws) (zwf1 (zwf2 hws))).mpr h9))))
  · exact lv_icmp_gt hx hb hd (zjmp_eq ht) (fun h => kT (decide_eq_true ((z_lt (zwf1 hws) (zwf1 (zwf2 hws))).mp h))) (fun h => kF (decide_eq_false (fun h9 => h ((z_lt (zwf1 hws) (zwf1 (zwf2 hws))).mpr h9))))
  · exact lv_icmp_le hx hb hd (zjmp_eq ht) (fun h => kT (decide_eq_true ((z_le (zwf1 (zwf2 hws)) (zwf1 hws)).mp h))) (fun h => kF (decide_eq_false (fun h9 => h ((z_le (zwf1 (zwf2 hws)) (zwf1 hws)).mpr h9))))
set_option maxHeartbeats 1000000 in
theorem zs_ifCond {cd : ClassFile.Cond} {off : Int} (C : zCtx p R s m args meth c lo roa sio D rS rC d M) (hd : decode (zB M) pc = .ok (.ifCond cd off, len)) (hn : znext d M pc L st μ (.ifCond cd off) len = some q) (k : zGo p l e R s m args below meth c Q lo roa sio D rS rC M a1 a2 b1 b2 q) : zGo p l e R s m args below meth c Q lo roa sio D rS rC M a1 a2 b1 b2 (pc, L, st, μ) := by
  intro H locs ls cells slots h1 h2 h3
  obtain ⟨hdyn, hS, hl, hlen, hwl, hws⟩ := h3
  obtain ⟨hx, hb, hml, hown, hts, hr, hlk, hini, hst, hlo, hfr, hlc⟩ := C
  unfold znext at hn
  split at hn <;> try contradiction
  injections
  subst_vars
  rename_i cd off
  split at hn <;> try contradiction
  cases hn
  rename_i x r t ht
  obtain ⟨kt, kf⟩ := zjmp2 (P := fun t => zGo p l e R s m args below meth c Q lo roa sio D rS rC M a1 a2 b1 b2 (t, L, r, μ)) k
  have kT := fun h => kt h H locs ls cells slots h1 h2 ⟨hdyn, hS, hl, hlen, hwl, zwf2 hws⟩
  have kF := fun h => kf h H locs ls cells slots h1 h2 ⟨hdyn, hS, hl, hlen, hwl, zwf2 hws⟩
  cases cd
  · exact lv_if_eq hx hb hd (zjmp_eq ht) (fun h => kT (decide_eq_true ((z_eq (zwf1 hws) (z_in0)).mp h))) (fun h => kF (decide_eq_false (fun h9 => h ((z_eq (zwf1 hws) (z_in0)).mpr h9))))
  · exact lv_if_ne hx hb hd (zjmp_eq ht) (fun h => kT (decide_eq_true ((not_congr (z_eq (zwf1 hws) (z_in0))).mp h))) (fun h => kF (decide_eq_false (fun h9 => h9 (((z_eq (zwf1 hws) (z_in0))).mp h))))
  · exact lv_if_lt hx hb hd (zjmp_eq ht) (fun h => kT (decide_eq_true ((z_lt (zwf1 hws) (z_in0)).mp h))) (fun h => kF (decide_eq_false (fun h9 => h ((z_lt (zwf1 hws) (z_in0)).mpr h9))))
  · exact lv_if_ge hx hb hd (zjmp_eq ht) (fun h => kT (decide_eq_true ((z_le (z_in0) (zwf1 hws)).mp h))) (fun h => kF (decide_eq_false (fun h9 => h ((z_le (z_in0) (zwf1 hws)).mpr h9))))
  · exact lv_if_gt hx hb hd (zjmp_eq ht) (fun h => kT (decide_eq_true ((z_lt (z_in0) (zwf1 hws)).mp h))) (fun h => kF (decide_eq_false (fun h9 => h ((z_lt (z_in0) (zwf1 hws)).mpr h9))))
  · exact lv_if_le hx hb hd (zjmp_eq ht) (fun h => kT (decide_eq_true ((z_le (zwf1 hws) (z_in0)).mp h))) (fun h => kF (decide_eq_false (fun h9 => h ((z_le (zwf1 hws) (z_in0)).mpr h9))))
set_option maxHeartbeats 1000000 in
theorem zs_tableswitch {dflt lo9 hi9 : Int} {offs : Array Int} (C : zCtx p R s m args meth c lo roa sio D rS rC d M) (hd : decode (zB M) pc = .ok (.tableswitch dflt lo9 hi9 offs, len)) (hn : znext d M pc L st μ (.tableswitch dflt lo9 hi9 offs) len = some q) (k : zGo p l e R s m args below meth c Q lo roa sio D rS rC M a1 a2 b1 b2 q) : zGo p l e R s m args below meth c Q lo roa sio D rS rC M a1 a2 b1 b2 (pc, L, st, μ) := by
  intro H locs ls cells slots h1 h2 h3
  obtain ⟨hdyn, hS, hl, hlen, hwl, hws⟩ := h3
  obtain ⟨hx, hb, hml, hown, hts, hr, hlk, hini, hst, hlo, hfr, hlc⟩ := C
  rcases st with _ | ⟨x | v, r⟩
  · cases hn
  · replace hn : (if x < lo9 ∨ hi9 < x then (match zjmp pc dflt with | some t => some (t, L, r, μ) | none => none) else (match offs[(x - lo9).toNat]? with | some off => (match zjmp pc off with | some t => some (t, L, r, μ) | none => none) | none => none)) = some q := hn
    have ex : (Int32.ofInt x).toInt = x := ztx (zwf1 hws)
    split at hn
    · rename_i hc
      split at hn <;> try contradiction
      rename_i t ht
      cases hn
      exact lv_tableOut hx hb hd (by rw [ex]; exact hc) (zjmp_eq ht) (k H locs ls cells slots h1 h2 ⟨hdyn, hS, hl, hlen, hwl, zwf2 hws⟩)
    · rename_i hc
      split at hn <;> try contradiction
      rename_i off ho
      split at hn <;> try contradiction
      rename_i t ht
      cases hn
      exact lv_tableIn hx hb hd (by rw [ex]; omega) (by rw [ex]; omega) (by rw [ex]; exact ho) (zjmp_eq ht) (k H locs ls cells slots h1 h2 ⟨hdyn, hS, hl, hlen, hwl, zwf2 hws⟩)
  · cases hn
set_option maxHeartbeats 1000000 in
theorem zs_ldc {i : Nat} (C : zCtx p R s m args meth c lo roa sio D rS rC d M) (hd : decode (zB M) pc = .ok (.ldc i, len)) (hn : znext d M pc L st μ (.ldc i) len = some q) (k : zGo p l e R s m args below meth c Q lo roa sio D rS rC M a1 a2 b1 b2 q) : zGo p l e R s m args below meth c Q lo roa sio D rS rC M a1 a2 b1 b2 (pc, L, st, μ) := by
  intro H locs ls cells slots h1 h2 h3
  obtain ⟨hdyn, hS, hl, hlen, hwl, hws⟩ := h3
  obtain ⟨hx, hb, hml, hown, hts, hr, hlk, hini, hst, hlo, hfr, hlc⟩ := C
  unfold znext at hn
  split at hn <;> try contradiction
  injections
  subst_vars
  split at hn <;> try contradiction
  cases hn
  rename_i x hx0
  unfold zldc at hx0
  split at hx0 <;> try contradiction
  all_goals
    rename_i e1
    cases hx0
  · exact lv_ldc hx hb (by rw [e1] at hown; exact hown) (hts _ zsw.1) hd (k H locs ls cells slots h1 h2 ⟨hdyn, hS, hl, hlen, hwl, zwfc (by exact ⟨by decide, by decide⟩) hws⟩)
  · exact lv_ldc hx hb (by rw [e1] at hown; exact hown) (hts _ zsw.2.1) hd (k H locs ls cells slots h1 h2 ⟨hdyn, hS, hl, hlen, hwl, zwfc (by exact ⟨by decide, by decide⟩) hws⟩)
  · exact lv_ldc hx hb (by rw [e1] at hown; exact hown) (hts _ zsw.2.2.2.2.1) hd (k H locs ls cells slots h1 h2 ⟨hdyn, hS, hl, hlen, hwl, zwfc (by exact ⟨by decide, by decide⟩) hws⟩)
  · exact lv_ldc hx hb (by rw [e1] at hown; exact hown) (hts _ zsw.2.2.2.2.2.1) hd (k H locs ls cells slots h1 h2 ⟨hdyn, hS, hl, hlen, hwl, zwfc (by exact ⟨by decide, by decide⟩) hws⟩)
  · exact lv_ldc hx hb (by rw [e1] at hown; exact hown) (hts _ zsw.2.2.2.2.2.2.2.2.2.2.2.2.2) hd (k H locs ls cells slots h1 h2 ⟨hdyn, hS, hl, hlen, hwl, zwfc (by exact ⟨by decide, by decide⟩) hws⟩)
set_option maxHeartbeats 1000000 in
theorem zs_ldc_w {i : Nat} (C : zCtx p R s m args meth c lo roa sio D rS rC d M) (hd : decode (zB M) pc = .ok (.ldc_w i, len)) (hn : znext d M pc L st μ (.ldc_w i) len = some q) (k : zGo p l e R s m args below meth c Q lo roa sio D rS rC M a1 a2 b1 b2 q) : zGo p l e R s m args below meth c Q lo roa sio D rS rC M a1 a2 b1 b2 (pc, L, st, μ) := by
  intro H locs ls cells slots h1 h2 h3
  obtain ⟨hdyn, hS, hl, hlen, hwl, hws⟩ := h3
  obtain ⟨hx, hb, hml, hown, hts, hr, hlk, hini, hst, hlo, hfr, hlc⟩ := C
  unfold znext at hn
  split at hn <;> try contradiction
  injections
  subst_vars
  split at hn <;> try contradiction
  cases hn
  rename_i x hx0
  unfold zldc at hx0
  split at hx0 <;> try contradiction
  all_goals
    rename_i e1
    cases hx0
  · exact zldcwS hx hb (by rw [e1] at hown; exact hown) hst.2.2.2.1 hd (k H locs ls cells slots h1 h2 ⟨hdyn, hS, hl, hlen, hwl, zwfc trivial hws⟩)
  · exact zldcwS hx hb (by rw [e1] at hown; exact hown) hst.2.2.2.2.1 hd (k H locs ls cells slots h1 h2 ⟨hdyn, hS, hl, hlen, hwl, zwfc trivial hws⟩)
set_option maxHeartbeats 1000000 in
theorem zs_ldc2_w {i : Nat} (C : zCtx p R s m args meth c lo roa sio D rS rC d M) (hd : decode (zB M) pc = .ok (.ldc2_w i, len)) (hn : znext d M pc L st μ (.ldc2_w i) len = some q) (k : zGo p l e R s m args below meth c Q lo roa sio D rS rC M a1 a2 b1 b2 q) : zGo p l e R s m args below meth c Q lo roa sio D rS rC M a1 a2 b1 b2 (pc, L, st, μ) := by
  intro H locs ls cells slots h1 h2 h3
  obtain ⟨hdyn, hS, hl, hlen, hwl, hws⟩ := h3
  obtain ⟨hx, hb, hml, hown, hts, hr, hlk, hini, hst, hlo, hfr, hlc⟩ := C
  unfold znext at hn
  split at hn <;> try contradiction
  injections
  subst_vars
  split at hn <;> try contradiction
  cases hn
  rename_i x hx0
  unfold zldc at hx0
  split at hx0 <;> try contradiction
  all_goals
    rename_i e1
    cases hx0
  · exact lv_ldc2 hx hb (by rw [e1] at hown; exact hown) (hts _ zsw.2.2.1) hd (k H locs ls cells slots h1 h2 ⟨hdyn, hS, hl, hlen, hwl, zwfc (by exact ⟨by decide, by decide⟩) hws⟩)
  · exact lv_ldc2 hx hb (by rw [e1] at hown; exact hown) (hts _ zsw.2.2.2.1) hd (k H locs ls cells slots h1 h2 ⟨hdyn, hS, hl, hlen, hwl, zwfc (by exact ⟨by decide, by decide⟩) hws⟩)
set_option maxHeartbeats 1000000 in
theorem zs_getstatic {i : Nat} (C : zCtx p R s m args meth c lo roa sio D rS rC d M) (hd : decode (zB M) pc = .ok (.getstatic i, len)) (hn : znext d M pc L st μ (.getstatic i) len = some q) (k : zGo p l e R s m args below meth c Q lo roa sio D rS rC M a1 a2 b1 b2 q) : zGo p l e R s m args below meth c Q lo roa sio D rS rC M a1 a2 b1 b2 (pc, L, st, μ) := by
  intro H locs ls cells slots h1 h2 h3
  obtain ⟨hdyn, hS, hl, hlen, hwl, hws⟩ := h3
  obtain ⟨hx, hb, hml, hown, hts, hr, hlk, hini, hst, hlo, hfr, hlc⟩ := C
  unfold znext at hn
  split at hn <;> try contradiction
  injections
  subst_vars
  split at hn <;> try contradiction
  cases hn
  rename_i v hv
  unfold zstt at hv
  split at hv <;> try contradiction
  all_goals
    rename_i e1
    cases hv
  · exact va_gets hx hb hst.2.2.1.2.1 hS (by rw [e1] at hown; exact hown) (hts _ zsw.2.2.2.2.2.2.1) (fun _ h => h) hd (k H locs ls cells slots h1 h2 ⟨hdyn, hS, hl, hlen, hwl, zwfc (by exact ⟨by decide, by decide⟩) hws⟩)
  · exact va_gets hx hb hst.2.2.1.2.1 hS (by rw [e1] at hown; exact hown) (hts _ zsw.2.2.2.2.2.2.2.1) (fun _ h => h) hd (k H locs ls cells slots h1 h2 ⟨hdyn, hS, hl, hlen, hwl, zwfc (by exact ⟨by decide, by decide⟩) hws⟩)
  · exact va_gets hx hb hst.2.2.1.2.2.1 hS (by rw [e1] at hown; exact hown) (hts _ zsw.2.2.2.2.2.2.2.2.1) (fun _ h => h) hd (k H locs ls cells slots h1 h2 ⟨hdyn, hS, hl, hlen, hwl, zwfc (by exact trivial) hws⟩)
  · exact va_gets hx hb hst.2.2.1.2.2.2.1 hS (by rw [e1] at hown; exact hown) (hts _ zsw.2.2.2.2.2.2.2.2.2.1) (fun _ h => h) hd (k H locs ls cells slots h1 h2 ⟨hdyn, hS, hl, hlen, hwl, zwfc (by exact trivial) hws⟩)
  · exact va_gets hx hb hst.2.2.1.2.2.2.2 hS (by rw [e1] at hown; exact hown) (hts _ zsw.2.2.2.2.2.2.2.2.2.2.1) (fun _ h => h) hd (k H locs ls cells slots h1 h2 ⟨hdyn, hS, hl, hlen, hwl, zwfc (by exact trivial) hws⟩)
end ZS
