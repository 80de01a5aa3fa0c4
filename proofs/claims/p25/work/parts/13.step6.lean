/-! one instruction of the interpreter is one of the machine: new cells, the library's own calls -/
theorem zCall_ok {own idx kd M' n : Nat} (h : zCall own idx = some (kd, M', n)) : ∃ ps : List Nat, zokc ((own, idx), (kd, M', n), ps) = true := by
  unfold zCall at h
  rw [Option.map_eq_some_iff] at h
  obtain ⟨e, h1, h2⟩ := h
  obtain ⟨hm, he⟩ := zfind h1
  have h3 := List.all_eq_true.mp zcalls_ok e hm
  refine ⟨e.2.2, ?_⟩
  rw [← h2, ← he]
  exact h3
theorem zCall_m {own idx kd M' n : Nat} (h : zCall own idx = some (kd, M', n)) : ∀ w ∈ zwords kd own idx (zY M'), w ∈ ztbl := by
  obtain ⟨ps, h1⟩ := zCall_ok h
  unfold zokc at h1
  simp only [Bool.and_eq_true, decide_eq_true_eq] at h1
  obtain ⟨⟨h2, -⟩, -⟩ := h1
  intro w hw
  have h3 : some w ∈ (zwords kd own idx (zY M')).map some := List.mem_map.mpr ⟨w, hw, rfl⟩
  rw [h2] at h3
  obtain ⟨i, -, hi⟩ := List.mem_map.mp h3
  exact List.mem_of_getElem? hi
theorem zCall_g {own idx kd M' n : Nat} (h : zCall own idx = some (kd, M', n)) (hk : kd ≠ 4) : ∀ w ∈ zwords kd own idx (zY M'), w ∈ zgw := by
  obtain ⟨ps, h1⟩ := zCall_ok h
  unfold zokc at h1
  simp only [Bool.and_eq_true] at h1
  obtain ⟨⟨-, h2⟩, -⟩ := h1
  rw [if_neg hk] at h2
  intro w hw
  exact List.mem_filter.mpr ⟨zCall_m h w hw, List.all_eq_true.mp h2 w hw⟩
theorem zCall_g4 {own idx M' n : Nat} (h : zCall own idx = some (4, M', n)) : ∀ w ∈ (zwords 4 own idx (zY M')).drop 1, w ∈ zgw := by
  obtain ⟨ps, h1⟩ := zCall_ok h
  unfold zokc at h1
  simp only [Bool.and_eq_true] at h1
  obtain ⟨⟨-, h2⟩, -⟩ := h1
  rw [if_pos trivial] at h2
  intro w hw
  exact List.mem_filter.mpr ⟨zCall_m h w (List.mem_of_mem_drop hw), List.all_eq_true.mp h2 w hw⟩
theorem zCall_s {own idx kd M' n : Nat} (h : zCall own idx = some (kd, M', n)) (hk : kd < 6) : (zY M').cls ≠ "java/lang/invoke/MethodHandle" ∧ (zY M').cls ≠ "java/lang/invoke/VarHandle" ∧ (parseMethodDescriptor (zY M').desc).map (fun d => d.parameters.length) = some n ∧ (kd = 3 ∨ kd = 4 → (zY M').name = "<init>" ∧ zR M' = none) ∧ (kd = 5 → (zY M').name ≠ "<init>") := by
  obtain ⟨ps, h1⟩ := zCall_ok h
  unfold zokc at h1
  simp only [Bool.and_eq_true, Bool.or_eq_true, decide_eq_true_eq, Bool.not_eq_true', Bool.or_eq_false_iff, beq_eq_false_iff_ne, ne_eq] at h1
  obtain ⟨-, h2⟩ := h1
  have h3 := h2.resolve_left (by omega)
  obtain ⟨⟨⟨⟨g1, g2⟩, g3⟩, g4⟩, g5⟩ := h3
  exact ⟨g1, g2, g3, fun e => g4.resolve_left (by omega), fun e => g5.resolve_left (by omega)⟩
theorem zdef_ok : ∀ ci, ci < 11 → ∀ k, k < znf ci → defaultValue (zty ci k) = (if zrf ci k = true then .null else .int 0) := by decide +kernel
theorem zarrw : Cond.arrayClass .int ∈ zgw ∧ Cond.arrayClass .byte ∈ zgw := ⟨zgw_mem (i := 94) rfl rfl, zgw_mem (i := 302) rfl rfl⟩
theorem znfw : nativeFrameWords "java/lang/System" "arraycopy" 5 ≤ 20 := by decide
section ZC
variable {p : Program} {l : Launch} {e : Env} {R : Room} {s : State} {m : MethodId} {args : Array Value} {below : List Frame} {meth : Method} {c : Code} {Q : State → Prop} {H : Heap} {locs : List Loc} {cells slots : Nat} {cc : ByteArray} {pc : Nat} {ls : Array Slot} {rest : List Value}
theorem zcopy_row (hx : p.tables.exec = Jvm.exec) (hb : c.code = cc) (hml : c.maxLocals = ls.size) {own : String} {index : Nat} (hown : s.vm.findClass own = some m.cls) (hlink : (Cond.methodLink own index arraycopyName).before args s = true) (hnat : (Cond.native arraycopyName).before args s = true) (hstat : (Cond.static arraycopyName).before args s = true) (hini : (Cond.initialized "java/lang/System").before args s = true)
    {a b n0 n1 : Nat} {c1 : ClassId} {f g : Nat → Int32} {ty : FieldType} (hprim : refKind ty = false) (ha : zarr s H a ty n0 (fun j => .int (f j))) (hbH : H[b]? = some (arrV c1 n1 (fun j => .int (g j)))) (hbT : ArrOfT s c1 ty)
    {sp dp n : Int32} (h1 : ¬ sp < 0) (h2 : ¬ dp < 0) (h3 : ¬ n < 0) (h4 : sp.toNatClampNeg + n.toNatClampNeg ≤ n0) (h5 : dp.toNatClampNeg + n.toNatClampNeg ≤ n1) (hfit : ∀ i, i < n.toNatClampNeg → fits ty (.int (f (sp.toNatClampNeg + i))) = true)
    (hframes : 1 ≤ R.frames) (hlocals : (rest.map fun v => v.category).sum + (nativeFrameWords "java/lang/System" "arraycopy" 5 + 11) ≤ R.locals) (hdg : decode cc pc = .ok (.invokestatic index, 3))
    (kk : ∀ (H1 : Heap) (locs1 : List Loc), H1[b]? = some (arrV c1 n1 (fun j => .int (va_cpy f g sp.toNatClampNeg dp.toNatClampNeg n.toNatClampNeg j))) → H1.size = H.size → (∀ q, q ≠ b → H1[q]? = H[q]?) → (∀ lc ∈ locs1, lc ∈ locs ∨ lc.base = b) → W p l e R s m args below meth c H1 locs1 cells slots Q (F0 m (pc + 3) ls rest)) : W p l e R s m args below meth c H locs cells slots Q (F0 m pc ls (.int n :: .int dp :: .ref b :: .int sp :: .ref a :: rest)) := by
  have nn : ∀ z : Int32, ¬ z < 0 → z.toInt = (z.toNatClampNeg : Int) := by
    intro z hz
    have hz0 : (0 : Int) ≤ z.toInt := by
      have := Int32.not_lt.mp hz
      simpa using Int32.le_iff_toInt_le.mp this
    show z.toInt = ((z.toInt.toNat : Nat) : Int)
    omega
  intro T hT X
  obtain ⟨cell, c1', c2, c3, c4, c5, c6⟩ := ha
  obtain ⟨s0, k0, hk0, cm0, hkk0⟩ := c2
  obtain ⟨s1, k1, hk1, cm1, hkk1⟩ := hbT n1 (fun j => .int (g j))
  obtain ⟨vm', X', step⟩ := X.arraycopy hx hown hlink hnat hstat hini (src := a) (dst := b) (cs := cell) (cd := arrV c1 n1 (fun j => .int (g j))) (srcPos := sp) (destPos := dp) (n := n) (by rw [hT]; exact c1') (by rw [hT]; exact hbH)
    s0 s1 c3 (fun h => by cases h) hk0 hk1 hkk0 hkk1 (by simp [hprim]) h1 h2 h3
    (by rw [nn sp h1, nn n h3]; omega)
    (by rw [nn dp h2, nn n h3, arrV_size]; omega)
    (fun vm₁ _ i hi => by
      have e : cell.slots.getD (sp.toNatClampNeg + i) .null = .int (f (sp.toNatClampNeg + i)) := by
        rw [Array.getD_eq_getD_getElem?, c6 _ (by omega)]
        rfl
      refine ⟨?_, ?_⟩
      · rw [e]
        exact hfit i hi
      · rw [e]
        exact trivial)
    (g := F0 m pc ls (.int n :: .int dp :: .ref b :: .int sp :: .ref a :: rest)) rfl (by rw [hml]) (rest := rest) rfl (by rw [hb]; exact hdg) hframes (by show 2 * 0 + _ + _ ≤ _; omega)
  have e1 : copied cell (arrV c1 n1 (fun j => .int (g j))) sp dp n = arrV c1 n1 (fun j => .int (va_cpy f g sp.toNatClampNeg dp.toNatClampNeg n.toNatClampNeg j)) := va_copiedX (fun z => .int z) cell c1 f g c6 h4
  rw [e1] at X' step
  have hl : b < H.size := (Array.getElem?_eq_some_iff.mp hbH).1
  have hheap : ((T.setVm vm').setCell b (arrV c1 n1 (fun j => .int (va_cpy f g sp.toNatClampNeg dp.toNatClampNeg n.toNatClampNeg j)))).heap = H.setIfInBounds b (arrV c1 n1 (fun j => .int (va_cpy f g sp.toNatClampNeg dp.toNatClampNeg n.toNatClampNeg j))) := by rw [← hT]; rfl
  obtain ⟨t, y1, y2⟩ := kk _ _ (by simp [Array.getElem?_setIfInBounds, hl]) (by simp) (fun q hq => by simp [Array.getElem?_setIfInBounds, Ne.symm hq]) (fun lc hlc => by
      rcases List.mem_append.mp hlc with h | h
      · exact Or.inl h
      · obtain ⟨z, -, hz⟩ := List.mem_map.mp h
        exact Or.inr (by rw [← hz])) _ hheap X'
  exact ⟨t, step t y1, y2⟩
end ZC
section ZS
variable {p : Program} {l : Launch} {e : Env} {R : Room} {s : State} {m : MethodId} {args : Array Value} {below : List Frame} {meth : Method} {c : Code} {Q : State → Prop} {lo : Nat} {roa : Nat → Nat} {sio : Value} {D : va_G} {rS : zSh} {rC : zC} {d M a1 a2 b1 b2 : Nat} {pc len : Nat} {L : zLs} {st : List zV} {μ : zMem} {q : zst}
set_option maxHeartbeats 1000000 in
theorem zs_new {i : Nat} (C : zCtx p R s m args meth c lo roa sio D rS rC d M) (hd : decode (zB M) pc = .ok (.new i, len)) (hn : znext d M pc L st μ (.new i) len = some q) (hrm : q.2.2.2.1.1 + b1 ≤ R.cells + a1 ∧ q.2.2.2.1.2 + b2 ≤ R.slots + a2) (k : zGo p l e R s m args below meth c Q lo roa sio D rS rC M a1 a2 b1 b2 q) : zGo p l e R s m args below meth c Q lo roa sio D rS rC M a1 a2 b1 b2 (pc, L, st, μ) := by
  intro H locs ls cells slots h1 h2 h3
  dsimp only at h1 h2 h3 ⊢
  obtain ⟨hdyn, hS, hl, hlen, hwl, hws⟩ := h3
  obtain ⟨hx, hb, hml, hown, hts, hr, hlk, hini, hst, hlo, hfr, hlc⟩ := C
  unfold znext at hn
  split at hn <;> try contradiction
  injections
  subst_vars
  rename_i i
  split at hn <;> try contradiction
  rename_i ci hN
  cases hn
  dsimp only at hrm
  obtain ⟨Cn, T, N, hc, w1, w2, w3⟩ := zNew_ok hN
  obtain ⟨hci, hNn, hin, hnm, hty⟩ := zty_ok ci Cn T N hc
  have hKn := hst.1.1 ci _ hc
  subst hNn
  have eA : zad lo roa μ.1.1 = H.size := by rw [zaddr hdyn.2.1]; have := hdyn.1; have := hdyn.2.1; omega
  refine W.newcK hx hb hown (hts _ w1) (hts _ w2) (hts _ w3) rfl hd (by omega) (by omega) hKn.2.1 rfl fun H1 kC hkC e1 z1 o1 => ?_
  have h0 := k H1 locs ls (cells + 1) (slots + znf ci) (by dsimp only; omega) (by dsimp only; omega) ⟨zdyn_push hdyn (by
      refine ⟨fun _ => ?_, fun h => ?_, fun h => ?_, fun h => ?_, ?_⟩
      · simp only [zsup_q]
        have hb0 := u_born (zty ci) hts hin hKn hkC e1 hty
        rw [show lo + (μ.1.1 - 8) = H.size by have := hdyn.1; have := hdyn.2.1; omega]
        refine hb0.to (fun j hj => ?_)
        rw [zdef_ok ci hci j hj]
        unfold zfv
        simp only [zsup_q]
        cases zrf ci j
        · rw [if_neg (by decide), if_neg (by decide)]
          unfold zfr
          rw [if_pos rfl]
          rfl
        · rw [if_pos rfl, if_pos rfl]
          rfl
      · simp only [zsup_q] at h; omega
      · simp only [zsup_q] at h; omega
      · simp only [zsup_q] at h; omega
      · simp only [zsup_q]; omega) z1 o1, ⟨Nat.le_trans hS.1 (by omega), fun x y1 y2 => (o1 x (Nat.lt_of_lt_of_le y1 hS.1)).trans (hS.2.1 x y1 y2), hS.2.2⟩, hl, hlen, hwl, zwfc trivial hws⟩
  simp only [List.map_cons, ztv, eA] at h0
  exact h0
set_option maxHeartbeats 1000000 in
theorem zs_newarray_i (C : zCtx p R s m args meth c lo roa sio D rS rC d M) (hd : decode (zB M) pc = .ok (.newarray .int, len)) (hn : znext d M pc L st μ (.newarray .int) len = some q) (hrm : q.2.2.2.1.1 + b1 ≤ R.cells + a1 ∧ q.2.2.2.1.2 + b2 ≤ R.slots + a2) (k : zGo p l e R s m args below meth c Q lo roa sio D rS rC M a1 a2 b1 b2 q) : zGo p l e R s m args below meth c Q lo roa sio D rS rC M a1 a2 b1 b2 (pc, L, st, μ) := by
  intro H locs ls cells slots h1 h2 h3
  dsimp only at h1 h2 h3 ⊢
  obtain ⟨hdyn, hS, hl, hlen, hwl, hws⟩ := h3
  obtain ⟨hx, hb, hml, hown, hts, hr, hlk, hini, hst, hlo, hfr, hlc⟩ := C
  unfold znext at hn
  split at hn <;> try contradiction
  split at hn <;> try contradiction
  split at hn <;> try contradiction
  cases hn
  rename_i x r hx0
  dsimp only at hrm
  have hxr := zwf1 hws
  have eA : zad lo roa μ.1.1 = H.size := by rw [zaddr hdyn.2.1]; have := hdyn.1; have := hdyn.2.1; omega
  have hcl := z_cl hxr hx0.1
  refine va_newaK (atype := .int) (N := x.toNat) hx hb (hts _ zarrw.1) (g := F0 m pc ls (.int (Int32.ofInt x) :: r.map (ztv lo roa sio))) rfl hd rfl (fun h => by rw [z_0, z_lt hxr ⟨by decide, by decide⟩] at h; omega) hcl (by show x.toNat * componentBytes .int ≤ _; rw [show componentBytes .int = 4 from rfl]; omega) (by omega) (by omega) rfl fun H1 cA e1 z1 o1 hAr hNm => ?_
  have h0 := k H1 locs ls (cells + 1) (slots + x.toNat) (by dsimp only; omega) (by dsimp only; omega) ⟨zdyn_push hdyn (by
      refine ⟨fun h => ?_, fun h => ?_, fun h => ?_, fun h => ?_, ?_⟩
      · simp only [zsup_q] at h; omega
      · refine ⟨cA, x.toNat, ?_, by omega, ?_, hAr⟩
        · simp only [zsup_q]; omega
        · rw [show lo + (μ.1.1 - 8) = H.size by have := hdyn.1; have := hdyn.2.1; omega, e1]
          congr 2
          funext j
          dsimp only
          unfold zfr
          rw [if_pos rfl]
          rfl
      · simp only [zsup_q] at h; omega
      · simp only [zsup_q] at h; omega
      · simp only [zsup_q]; omega) z1 o1, ⟨Nat.le_trans hS.1 (by omega), fun x y1 y2 => (o1 x (Nat.lt_of_lt_of_le y1 hS.1)).trans (hS.2.1 x y1 y2), hS.2.2⟩, hl, hlen, hwl, zwfc trivial (zwf2 hws)⟩
  simp only [List.map_cons, ztv, eA] at h0
  exact h0
set_option maxHeartbeats 1000000 in
theorem zs_newarray_b (C : zCtx p R s m args meth c lo roa sio D rS rC d M) (hd : decode (zB M) pc = .ok (.newarray .byte, len)) (hn : znext d M pc L st μ (.newarray .byte) len = some q) (hrm : q.2.2.2.1.1 + b1 ≤ R.cells + a1 ∧ q.2.2.2.1.2 + b2 ≤ R.slots + a2) (k : zGo p l e R s m args below meth c Q lo roa sio D rS rC M a1 a2 b1 b2 q) : zGo p l e R s m args below meth c Q lo roa sio D rS rC M a1 a2 b1 b2 (pc, L, st, μ) := by
  intro H locs ls cells slots h1 h2 h3
  dsimp only at h1 h2 h3 ⊢
  obtain ⟨hdyn, hS, hl, hlen, hwl, hws⟩ := h3
  obtain ⟨hx, hb, hml, hown, hts, hr, hlk, hini, hst, hlo, hfr, hlc⟩ := C
  unfold znext at hn
  split at hn <;> try contradiction
  split at hn <;> try contradiction
  split at hn <;> try contradiction
  cases hn
  rename_i x r hx0
  dsimp only at hrm
  have hxr := zwf1 hws
  have eA : zad lo roa μ.1.1 = H.size := by rw [zaddr hdyn.2.1]; have := hdyn.1; have := hdyn.2.1; omega
  have hcl := z_cl hxr hx0.1
  refine va_newaK (atype := .byte) (N := x.toNat) hx hb (hts _ zarrw.2) (g := F0 m pc ls (.int (Int32.ofInt x) :: r.map (ztv lo roa sio))) rfl hd rfl (fun h => by rw [z_0, z_lt hxr ⟨by decide, by decide⟩] at h; omega) hcl (by show x.toNat * componentBytes .byte ≤ _; rw [show componentBytes .byte = 1 from rfl]; omega) (by omega) (by omega) rfl fun H1 cA e1 z1 o1 hAr hNm => ?_
  have h0 := k H1 locs ls (cells + 1) (slots + x.toNat) (by dsimp only; omega) (by dsimp only; omega) ⟨zdyn_push hdyn (by
      refine ⟨fun h => ?_, fun h => ?_, fun h => ?_, fun h => ?_, ?_⟩
      · simp only [zsup_q] at h; omega
      · simp only [zsup_q] at h; omega
      · refine ⟨cA, x.toNat, ?_, by omega, ?_, hAr, fun j hj => by dsimp only; unfold zfr; rw [if_pos rfl]; omega⟩
        · simp only [zsup_q]; omega
        · rw [show lo + (μ.1.1 - 8) = H.size by have := hdyn.1; have := hdyn.2.1; omega, e1]
          congr 2
          funext j
          dsimp only
          unfold zfr
          rw [if_pos rfl]
          rfl
      · simp only [zsup_q] at h; omega
      · simp only [zsup_q]; omega) z1 o1, ⟨Nat.le_trans hS.1 (by omega), fun x y1 y2 => (o1 x (Nat.lt_of_lt_of_le y1 hS.1)).trans (hS.2.1 x y1 y2), hS.2.2⟩, hl, hlen, hwl, zwfc trivial (zwf2 hws)⟩
  simp only [List.map_cons, ztv, eA] at h0
  exact h0
set_option maxHeartbeats 1000000 in
theorem zs_anewarray {i : Nat} (C : zCtx p R s m args meth c lo roa sio D rS rC d M) (hd : decode (zB M) pc = .ok (.anewarray i, len)) (hn : znext d M pc L st μ (.anewarray i) len = some q) (hrm : q.2.2.2.1.1 + b1 ≤ R.cells + a1 ∧ q.2.2.2.1.2 + b2 ≤ R.slots + a2) (k : zGo p l e R s m args below meth c Q lo roa sio D rS rC M a1 a2 b1 b2 q) : zGo p l e R s m args below meth c Q lo roa sio D rS rC M a1 a2 b1 b2 (pc, L, st, μ) := by
  intro H locs ls cells slots h1 h2 h3
  dsimp only at h1 h2 h3 ⊢
  obtain ⟨hdyn, hS, hl, hlen, hwl, hws⟩ := h3
  obtain ⟨hx, hb, hml, hown, hts, hr, hlk, hini, hst, hlo, hfr, hlc⟩ := C
  unfold znext at hn
  split at hn <;> try contradiction
  injections
  subst_vars
  rename_i i
  split at hn <;> try contradiction
  split at hn <;> try contradiction
  cases hn
  rename_i x r hx0
  dsimp only at hrm
  obtain ⟨Cn, T, N, hc, w1, w2, w3⟩ := zNew_ok hx0.2.2
  cases hc
  have hxr := zwf1 hws
  have eA : zad lo roa μ.1.1 = H.size := by rw [zaddr hdyn.2.1]; have := hdyn.1; have := hdyn.2.1; omega
  have hcl := z_cl hxr hx0.1
  refine W.anew hx hb hown (hts _ w1) (va_AO.use hst.2.2.2.2.2.2) (g := F0 m pc ls (.int (Int32.ofInt x) :: r.map (ztv lo roa sio))) rfl hd rfl (fun h => by rw [z_0, z_lt hxr ⟨by decide, by decide⟩] at h; omega) (by rw [hcl]; omega) (by omega) (by rw [hcl]; omega) fun cA kA comp f1 f2 f3 f4 => ?_
  rw [hcl]
  generalize hH1 : H.push ({ cls := cA, slots := Array.replicate x.toNat .null, vm := .none } : Cell) = H1
  have z1 : H1.size = H.size + 1 := by rw [← hH1, Array.size_push]
  have e1 : H1[H.size]? = some (arrV cA x.toNat (fun _ => .null)) := by rw [← hH1, Array.getElem?_push_size, ← arrV_new]
  have o1 : ∀ q : Nat, q < H.size → H1[q]? = H[q]? := fun q hq => by rw [← hH1, Array.getElem?_push, if_neg (Nat.ne_of_lt hq)]
  have hAr : ArrOfT s cA (.object RX7) := fun N z => ⟨(fun k h => by cases h), kA, f2, comp, f3⟩
  have h0 := k H1 locs ls (cells + 1) (slots + x.toNat) (by dsimp only; omega) (by dsimp only; omega) ⟨zdyn_push hdyn (by
      refine ⟨fun h => ?_, fun h => ?_, fun h => ?_, fun h => ?_, ?_⟩
      · simp only [zsup_q] at h; omega
      · simp only [zsup_q] at h; omega
      · simp only [zsup_q] at h; omega
      · refine ⟨cA, x.toNat, ?_, by omega, ?_, hAr, kA, comp, f2, f3, f4, f1⟩
        · simp only [zsup_q]; omega
        · rw [show lo + (μ.1.1 - 8) = H.size by have := hdyn.1; have := hdyn.2.1; omega, e1]
          simp only [zsup_q]
          rfl
      · simp only [zsup_q]; omega) z1 o1, ⟨Nat.le_trans hS.1 (by omega), fun x y1 y2 => (o1 x (Nat.lt_of_lt_of_le y1 hS.1)).trans (hS.2.1 x y1 y2), hS.2.2⟩, hl, hlen, hwl, zwfc trivial (zwf2 hws)⟩
  simp only [List.map_cons, ztv, eA] at h0
  exact h0
set_option maxHeartbeats 1000000 in
theorem zs_invokespecial {i : Nat} (C : zCtx p R s m args meth c lo roa sio D rS rC d M) (hd : decode (zB M) pc = .ok (.invokespecial i, len)) (hn : znext d M pc L st μ (.invokespecial i) len = some q) (k : zGo p l e R s m args below meth c Q lo roa sio D rS rC M a1 a2 b1 b2 q) : zGo p l e R s m args below meth c Q lo roa sio D rS rC M a1 a2 b1 b2 (pc, L, st, μ) := by
  intro H locs ls cells slots h1 h2 h3
  dsimp only at h1 h2 h3 ⊢
  obtain ⟨hdyn, hS, hl, hlen, hwl, hws⟩ := h3
  obtain ⟨hx, hb, hml, hown, hts, hr, hlk, hini, hst, hlo, hfr, hlc⟩ := C
  unfold znext at hn
  split at hn <;> try contradiction
  injections
  subst_vars
  rename_i i
  split at hn <;> try contradiction
  split at hn <;> try contradiction
  cases hn
  rename_i q0 r u1 u2 hC hq
  have hw := zCall_g hC (by decide)
  exact W.objInit (g := F0 m pc ls (.ref (zad lo roa q0) :: r.map (ztv lo roa sio))) hx hb hown (hts _ (hw _ (by simp [zwords]))) (hts _ (hw _ (by simp [zwords]))) (hts _ (hw _ (by simp [zwords]))) rfl (by rw [hml]; exact hl.1) rfl hd (by omega) (by rw [zcats lo roa hst.2.1]; show 2 * 0 + _ + _ ≤ _; omega) (k H locs ls cells slots h1 h2 ⟨hdyn, hS, hl, hlen, hwl, zwf2 hws⟩)
end ZS
