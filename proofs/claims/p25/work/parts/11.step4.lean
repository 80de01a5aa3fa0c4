/-! one instruction of the interpreter is one of the machine: cells -/
theorem zlenR {lo : Nat} {roa : Nat → Nat} {sio : Value} {D : va_G} {rS : zSh} {rC : zC} {μ : zMem} {s : State} {H : Heap} {locs : List Loc} {f : Nat} (hdyn : zdyn lo roa D rS rC μ s H) (hst : zsta lo roa sio rS rC s s.heap) (hS : va_S (fun q => lo ≤ q) s.heap H locs) (ht : (μ.2.1 f).1 = 20 ∨ (μ.2.1 f).1 = 21 ∨ (μ.2.1 f).1 = 30 ∨ (μ.2.1 f).1 = 31) : zInR (μ.2.1 f).2.1 := by
  unfold zInR
  rcases ht with ht | ht | ht | ht
  · obtain ⟨N, e1, e2, e3⟩ := zread_i hdyn hst hS (Or.inl ht)
    omega
  · obtain ⟨N, e1, e2, e3, -⟩ := zread_b hdyn hst hS (Or.inl ht)
    omega
  · obtain ⟨N, e1, e2, e3⟩ := zread_i hdyn hst hS (Or.inr ht)
    omega
  · obtain ⟨N, e1, e2, e3, -⟩ := zread_b hdyn hst hS (Or.inr ht)
    omega
theorem zup_ne {c : zC} {q r : Nat} {k v : Int} (h : r ≠ q) : zup c q k v r = c r := by
  funext k'
  unfold zup
  rw [if_neg (fun h2 => h h2.1)]
theorem zup_q {c : zC} {q : Nat} {k v j : Int} : zup c q k v q j = if j = k then v else c q j := by
  unfold zup
  by_cases h : j = k
  · rw [if_pos ⟨rfl, h⟩, if_pos h]
  · rw [if_neg (fun h2 => h h2.2), if_neg h]
theorem zsup_ne {S : zSh} {q r : Nat} {x : Nat × (Int × (Int → Option Nat))} (h : r ≠ q) : zsup S q x r = S r := by
  unfold zsup
  rw [if_neg h]
theorem zsup_q {S : zSh} {q : Nat} {x : Nat × (Int × (Int → Option Nat))} : zsup S q x q = x := by
  unfold zsup
  rw [if_pos rfl]
theorem zNew_ok {own idx ci : Nat} (h : zNew own idx = some ci) : ∃ (C : String) (T : u_T) (N : Nat), vwClz[ci]? = some (C, T, N) ∧ Cond.classLink (zcn own) idx C ∈ zgw ∧ Cond.instantiable C N ∈ zgw ∧ Cond.initialized C ∈ zgw := by
  unfold zNew at h
  rw [Option.map_eq_some_iff] at h
  obtain ⟨e, h1, h2⟩ := h
  obtain ⟨hm, he⟩ := zfind h1
  have h3 := List.all_eq_true.mp znews_ok e hm
  unfold zokn at h3
  rw [h2, he] at h3
  dsimp only at h3
  split at h3
  · rename_i C T N hc
    simp only [Bool.and_eq_true, decide_eq_true_eq] at h3
    obtain ⟨⟨⟨g1, g2⟩, g3⟩, g4⟩ := h3
    obtain ⟨i0, i1, i2, e1, e2, e3⟩ : ∃ i0 i1 i2, ztbl[i0]? = some (Cond.classLink (zcn own) idx C) ∧ ztbl[i1]? = some (Cond.instantiable C N) ∧ ztbl[i2]? = some (Cond.initialized C) := by
      rcases hl : e.2.2 with _ | ⟨i0, _ | ⟨i1, _ | ⟨i2, _ | ⟨i3, l⟩⟩⟩⟩ <;> rw [hl] at g1 <;> simp at g1
      exact ⟨i0, i1, i2, g1.1.symm, g1.2.1.symm, g1.2.2.symm⟩
    exact ⟨C, T, N, hc, zgw_mem e1 g2, zgw_mem e2 g3, zgw_mem e3 g4⟩
  · cases h3
theorem zcats (lo : Nat) (roa : Nat → Nat) {sio : Value} (hs : sio.category = 1) (r : List zV) : ((r.map (ztv lo roa sio)).map fun v => v.category).sum = (r.map zcat).sum := by
  rw [List.map_map]
  congr 1
  exact List.map_congr_left fun v _ => ztv_cat hs v
theorem zin_n {i : Int} {N n : Nat} (hi : zInR i) (h : 0 ≤ i) (h2 : i < (N : Int)) (h3 : N ≤ n) : ¬ (Int32.ofInt i < 0 ∨ n ≤ (Int32.ofInt i).toNatClampNeg) := by
  have h4 := z_cl hi h
  rw [h4, z_0, z_lt hi ⟨by decide, by decide⟩]
  omega
theorem zsize {N : Nat} (h : N < 2147483648) : Int32.ofNat N = Int32.ofInt (N : Int) := rfl
section ZS
variable {p : Program} {l : Launch} {e : Env} {R : Room} {s : State} {m : MethodId} {args : Array Value} {below : List Frame} {meth : Method} {c : Code} {Q : State → Prop} {lo : Nat} {roa : Nat → Nat} {sio : Value} {D : va_G} {rS : zSh} {rC : zC} {d M a1 a2 b1 b2 : Nat} {pc len : Nat} {L : zLs} {st : List zV} {μ : zMem} {q : zst}
set_option maxHeartbeats 1000000 in
theorem zs_getfield {i : Nat} (C : zCtx p R s m args meth c lo roa sio D rS rC d M) (hd : decode (zB M) pc = .ok (.getfield i, len)) (hn : znext d M pc L st μ (.getfield i) len = some q) (k : zGo p l e R s m args below meth c Q lo roa sio D rS rC M a1 a2 b1 b2 q) : zGo p l e R s m args below meth c Q lo roa sio D rS rC M a1 a2 b1 b2 (pc, L, st, μ) := by
  intro H locs ls cells slots h1 h2 h3
  dsimp only at h1 h2 h3 ⊢
  obtain ⟨hdyn, hS, hl, hlen, hwl, hws⟩ := h3
  obtain ⟨hx, hb, hml, hown, hts, hr, hlk, hini, hst, hlo, hfr, hlc⟩ := C
  unfold znext at hn
  split at hn <;> try contradiction
  injections
  subst_vars
  rename_i i
  split at hn <;> try contradiction
  rename_i f r
  split at hn
  · rename_i ci kf fn hF
    split at hn <;> try contradiction
    rename_i ht
    split at hn <;> try contradiction
    rename_i v hv
    cases hn
    obtain ⟨Cn, T, N, hc, hk, hlink, hrf, -, -⟩ := zFld_ok hF
    obtain ⟨hci, hN, hin, hnm, hty⟩ := zty_ok ci Cn T N hc
    obtain ⟨h8, hqn⟩ := zrange (q := f) hdyn hst.2.2.1 (by omega) (by omega) (by omega) (by omega)
    have hob := (hdyn.2.2.1 f h8 hqn).1 (by omega)
    rw [ht, ← hN] at hob
    have e1 : zfv lo roa μ f kf = .ref (zad lo roa v) := by
      unfold zfv
      rw [ht, if_pos hrf, hv]
      rfl
    have hkk := k H locs ls cells slots h1 h2 ⟨hdyn, hS, hl, hlen, hwl, zwfc trivial (zwf2 hws)⟩
    have h0 := zget_row (rest := r.map (ztv lo roa sio)) (ls := ls) hx hb hts hin hown hst.1 hc hk hob hlink hd (by rw [e1]; exact hkk)
    rw [← zaddr (roa := roa) h8] at h0
    exact h0
  · rename_i ci kf fn hF
    split at hn <;> try contradiction
    rename_i ht
    cases hn
    obtain ⟨Cn, T, N, hc, hk, hlink, hrf, -, -⟩ := zFld_ok hF
    obtain ⟨hci, hN, hin, hnm, hty⟩ := zty_ok ci Cn T N hc
    obtain ⟨h8, hqn⟩ := zrange (q := f) hdyn hst.2.2.1 (by omega) (by omega) (by omega) (by omega)
    have hob := (hdyn.2.2.1 f h8 hqn).1 (by omega)
    rw [ht, ← hN] at hob
    have e1 : zfv lo roa μ f kf = .int (Int32.ofInt (μ.2.2 f (kf : Int))) := by
      unfold zfv
      rw [ht, if_neg (by rw [hrf]; decide)]
    have hkk := k H locs ls cells slots h1 h2 ⟨hdyn, hS, hl, hlen, hwl, zwfc (hdyn.2.2.2.2.1 _ _) (zwf2 hws)⟩
    have h0 := zget_row (rest := r.map (ztv lo roa sio)) (ls := ls) hx hb hts hin hown hst.1 hc hk hob hlink hd (by rw [e1]; exact hkk)
    rw [← zaddr (roa := roa) h8] at h0
    exact h0
  · rename_i hF
    split at hn <;> try contradiction
    rename_i hs
    have hf8 : f < 8 := by
      refine Nat.lt_of_not_le fun h8 => ?_
      by_cases hn9 : f < μ.1.1
      · exact (hdyn.2.2.1 f h8 hn9).2.2.2.2.1 hs.2
      · have := hdyn.2.2.2.1 f (Nat.le_of_not_lt hn9)
        omega
    have eS := (hdyn.2.2.2.2.2 f hf8)
    have hz := (zstaH hst.2.2.1 hS).1 f hf8
    have hs2 : (rS f).1 = 11 := by rw [← eS.1]; exact hs.2
    obtain ⟨hO, hCo, hVa⟩ := hz.2.2.2 hs2
    have ea : zad lo roa f = roa f := by unfold zad; rw [if_pos hf8]
    rw [hs.1] at hown
    split at hn
    · rename_i hi
      subst hi
      split at hn <;> try contradiction
      rename_i v hv
      cases hn
      rw [eS.1] at hv
      obtain ⟨cf, kc, fi, fd, cell, g1, g2, g3, g4, g5, g6⟩ := hVa v hv
      have hkk := k H locs ls cells slots h1 h2 ⟨hdyn, hS, hl, hlen, hwl, zwfc trivial (zwf2 hws)⟩
      have h0 := W.getf (rest := r.map (ztv lo roa sio)) (g := F0 m pc ls (.ref (roa f) :: r.map (ztv lo roa sio))) hx hb hown (hts _ zsw.2.2.2.2.2.2.2.2.2.2.2.1) g1 g2 g3 g4 (v := .ref (zad lo roa v)) g5 rfl rfl hd hkk
      rw [← ea] at h0
      exact h0
    · split at hn <;> try contradiction
      rename_i hi
      subst hi
      cases hn
      obtain ⟨cf, kc, fi, fd, cell, g1, g2, g3, g4, g5, g6⟩ := hCo
      have hkk := k H locs ls cells slots h1 h2 ⟨hdyn, hS, hl, hlen, hwl, zwfc z_in0 (zwf2 hws)⟩
      have h0 := W.getf (rest := r.map (ztv lo roa sio)) (g := F0 m pc ls (.ref (roa f) :: r.map (ztv lo roa sio))) hx hb hown (hts _ zsw.2.2.2.2.2.2.2.2.2.2.2.2.1) g1 g2 g3 g4 (v := .int 0) g5 rfl rfl hd hkk
      rw [← ea] at h0
      exact h0
set_option maxHeartbeats 1000000 in
theorem zs_iaload (C : zCtx p R s m args meth c lo roa sio D rS rC d M) (hd : decode (zB M) pc = .ok (.iaload, len)) (hn : znext d M pc L st μ (.iaload) len = some q) (k : zGo p l e R s m args below meth c Q lo roa sio D rS rC M a1 a2 b1 b2 q) : zGo p l e R s m args below meth c Q lo roa sio D rS rC M a1 a2 b1 b2 (pc, L, st, μ) := by
  intro H locs ls cells slots h1 h2 h3
  dsimp only at h1 h2 h3 ⊢
  obtain ⟨hdyn, hS, hl, hlen, hwl, hws⟩ := h3
  obtain ⟨hx, hb, hml, hown, hts, hr, hlk, hini, hst, hlo, hfr, hlc⟩ := C
  unfold znext at hn
  split at hn <;> try contradiction
  split at hn <;> try contradiction
  split at hn <;> try contradiction
  cases hn
  rename_i i f r ht
  obtain ⟨N, e1, e2, ⟨cell, c1, c2, c3, c4, c5, c6⟩⟩ := zread_i hdyn hst.2.2.1 hS ht.1
  have hi := zwf1 hws
  have hkk := k H locs ls cells slots h1 h2 ⟨hdyn, hS, hl, hlen, hwl, zwfc (hdyn.2.2.2.2.1 _ _) (zwf2 (zwf2 hws))⟩
  have hlt : i.toNat < N := by have := ht.2; omega
  exact W.iald (g := F0 m pc ls (.int (Int32.ofInt i) :: .ref (zad lo roa f) :: r.map (ztv lo roa sio))) hx hb c1 c2 c3 (zin_n hi ht.2.1 (by rw [← e1]; exact ht.2.2) c4) (v := .int (Int32.ofInt (μ.2.2 f i))) (by rw [z_cl hi ht.2.1, c6 _ hlt]; dsimp only; rw [show ((i.toNat : Nat) : Int) = i by omega]) rfl rfl hd hkk
set_option maxHeartbeats 1000000 in
theorem zs_baload (C : zCtx p R s m args meth c lo roa sio D rS rC d M) (hd : decode (zB M) pc = .ok (.baload, len)) (hn : znext d M pc L st μ (.baload) len = some q) (k : zGo p l e R s m args below meth c Q lo roa sio D rS rC M a1 a2 b1 b2 q) : zGo p l e R s m args below meth c Q lo roa sio D rS rC M a1 a2 b1 b2 (pc, L, st, μ) := by
  intro H locs ls cells slots h1 h2 h3
  dsimp only at h1 h2 h3 ⊢
  obtain ⟨hdyn, hS, hl, hlen, hwl, hws⟩ := h3
  obtain ⟨hx, hb, hml, hown, hts, hr, hlk, hini, hst, hlo, hfr, hlc⟩ := C
  unfold znext at hn
  split at hn <;> try contradiction
  split at hn <;> try contradiction
  split at hn <;> try contradiction
  cases hn
  rename_i i f r ht
  obtain ⟨N, e1, e2, ⟨cell, c1, c2, c3, c4, c5, c6⟩, -⟩ := zread_b hdyn hst.2.2.1 hS ht.1
  have hi := zwf1 hws
  have hkk := k H locs ls cells slots h1 h2 ⟨hdyn, hS, hl, hlen, hwl, zwfc (hdyn.2.2.2.2.1 _ _) (zwf2 (zwf2 hws))⟩
  have hlt : i.toNat < N := by have := ht.2; omega
  exact W.bald (g := F0 m pc ls (.int (Int32.ofInt i) :: .ref (zad lo roa f) :: r.map (ztv lo roa sio))) hx hb c1 c2 c3 (zin_n hi ht.2.1 (by rw [← e1]; exact ht.2.2) c4) (v := .int (Int32.ofInt (μ.2.2 f i))) (by rw [z_cl hi ht.2.1, c6 _ hlt]; dsimp only; rw [show ((i.toNat : Nat) : Int) = i by omega]) rfl rfl hd hkk
set_option maxHeartbeats 1000000 in
theorem zs_aaload (C : zCtx p R s m args meth c lo roa sio D rS rC d M) (hd : decode (zB M) pc = .ok (.aaload, len)) (hn : znext d M pc L st μ (.aaload) len = some q) (k : zGo p l e R s m args below meth c Q lo roa sio D rS rC M a1 a2 b1 b2 q) : zGo p l e R s m args below meth c Q lo roa sio D rS rC M a1 a2 b1 b2 (pc, L, st, μ) := by
  intro H locs ls cells slots h1 h2 h3
  dsimp only at h1 h2 h3 ⊢
  obtain ⟨hdyn, hS, hl, hlen, hwl, hws⟩ := h3
  obtain ⟨hx, hb, hml, hown, hts, hr, hlk, hini, hst, hlo, hfr, hlc⟩ := C
  unfold znext at hn
  split at hn <;> try contradiction
  split at hn <;> try contradiction
  split at hn <;> try contradiction
  rename_i i f r ht
  split at hn <;> try contradiction
  rename_i v hv
  cases hn
  obtain ⟨h8, hqn⟩ := zrange (q := f) hdyn hst.2.2.1 (by omega) (by omega) (by omega) (by omega)
  obtain ⟨cA, N, e1, e2, e3, e4, e5⟩ := (hdyn.2.2.1 f h8 hqn).2.2.2.1 ht.1
  have hi := zwf1 hws
  have hlt : i.toNat < N := by have := ht.2; omega
  have hkk := k H locs ls cells slots h1 h2 ⟨hdyn, hS, hl, hlen, hwl, zwfc trivial (zwf2 (zwf2 hws))⟩
  have h0 := W.aald (g := F0 m pc ls (.int (Int32.ofInt i) :: .ref (lo + (f - 8)) :: r.map (ztv lo roa sio))) hx hb e3 (e4 N _) rfl (fun h => by cases h) (zin_n hi ht.2.1 (by rw [← e1]; exact ht.2.2) (by rw [arrV_size]; exact Nat.le_refl _)) (v := .ref (zad lo roa v)) (by rw [z_cl hi ht.2.1, arrV_read _ _ hlt]; (try dsimp only); rw [show ((i.toNat : Nat) : Int) = i by omega, hv]; rfl) rfl rfl hd hkk
  rw [← zaddr (roa := roa) h8] at h0
  exact h0
set_option maxHeartbeats 1000000 in
theorem zs_arraylength (C : zCtx p R s m args meth c lo roa sio D rS rC d M) (hd : decode (zB M) pc = .ok (.arraylength, len)) (hn : znext d M pc L st μ (.arraylength) len = some q) (k : zGo p l e R s m args below meth c Q lo roa sio D rS rC M a1 a2 b1 b2 q) : zGo p l e R s m args below meth c Q lo roa sio D rS rC M a1 a2 b1 b2 (pc, L, st, μ) := by
  intro H locs ls cells slots h1 h2 h3
  dsimp only at h1 h2 h3 ⊢
  obtain ⟨hdyn, hS, hl, hlen, hwl, hws⟩ := h3
  obtain ⟨hx, hb, hml, hown, hts, hr, hlk, hini, hst, hlo, hfr, hlc⟩ := C
  unfold znext at hn
  split at hn <;> try contradiction
  split at hn <;> try contradiction
  split at hn <;> try contradiction
  cases hn
  rename_i f r ht
  have hkk := k H locs ls cells slots h1 h2 ⟨hdyn, hS, hl, hlen, hwl, zwfc (zlenR hdyn hst.2.2.1 hS ht) (zwf2 hws)⟩
  have hA : ∃ (N : Nat) (ty : FieldType) (g : Nat → Value), (μ.2.1 f).2.1 = (N : Int) ∧ zarr s H (zad lo roa f) ty N g := by
    rcases ht with ht | ht | ht | ht
    · obtain ⟨N, e1, e2, e3⟩ := zread_i hdyn hst.2.2.1 hS (Or.inl ht)
      exact ⟨N, _, _, e1, e3⟩
    · obtain ⟨N, e1, e2, e3, -⟩ := zread_b hdyn hst.2.2.1 hS (Or.inl ht)
      exact ⟨N, _, _, e1, e3⟩
    · obtain ⟨N, e1, e2, e3⟩ := zread_i hdyn hst.2.2.1 hS (Or.inr ht)
      exact ⟨N, _, _, e1, e3⟩
    · obtain ⟨N, e1, e2, e3, -⟩ := zread_b hdyn hst.2.2.1 hS (Or.inr ht)
      exact ⟨N, _, _, e1, e3⟩
  obtain ⟨N, ty, g, e1, cell, c1, c2, c3, c4, c5, c6⟩ := hA
  rw [e1] at hkk
  exact W.alen (g := F0 m pc ls (.ref (zad lo roa f) :: r.map (ztv lo roa sio))) (n := Int32.ofInt (N : Int)) hx hb c1 c2 c5 rfl rfl hd hkk
set_option maxHeartbeats 1000000 in
theorem zs_iastore (C : zCtx p R s m args meth c lo roa sio D rS rC d M) (hd : decode (zB M) pc = .ok (.iastore, len)) (hn : znext d M pc L st μ (.iastore) len = some q) (k : zGo p l e R s m args below meth c Q lo roa sio D rS rC M a1 a2 b1 b2 q) : zGo p l e R s m args below meth c Q lo roa sio D rS rC M a1 a2 b1 b2 (pc, L, st, μ) := by
  intro H locs ls cells slots h1 h2 h3
  dsimp only at h1 h2 h3 ⊢
  obtain ⟨hdyn, hS, hl, hlen, hwl, hws⟩ := h3
  obtain ⟨hx, hb, hml, hown, hts, hr, hlk, hini, hst, hlo, hfr, hlc⟩ := C
  unfold znext at hn
  split at hn <;> try contradiction
  split at hn <;> try contradiction
  split at hn <;> try contradiction
  cases hn
  rename_i x i f r ht
  obtain ⟨h8, hqn⟩ := zrange (q := f) hdyn hst.2.2.1 (by omega) (by omega) (by omega) (by omega)
  obtain ⟨cA, N, e1, e2, e3, e4⟩ := (hdyn.2.2.1 f h8 hqn).2.1 ht.1
  have hi := zwf1 (zwf2 hws)
  have hlt : i.toNat < N := by have := ht.2; omega
  have h0 := W.iast (g := F0 m pc ls (.int (Int32.ofInt x) :: .int (Int32.ofInt i) :: .ref (lo + (f - 8)) :: r.map (ztv lo roa sio))) hx hb e3 (e4 N _) (fun h => by cases h) (zin_n hi ht.2.1 (by rw [← e1]; exact ht.2.2) (by rw [arrV_size]; exact Nat.le_refl _)) rfl rfl hd (fun H1 g1 g2 g3 => k H1 _ ls cells slots h1 h2 ⟨zdyn_set (q := f) hdyn h8 hqn rfl (fun r hr => ⟨rfl, zup_ne hr⟩) (by
      refine ⟨fun h => absurd h (by rw [show (μ.2.1 f).1 = 20 from ht.1]; decide), fun _ => ⟨cA, N, e1, e2, ?_, e4⟩, fun h => absurd (ht.1.symm.trans h) (by decide), fun h => absurd (ht.1.symm.trans h) (by decide), by rw [show (μ.2.1 f).1 = 20 from ht.1]; decide⟩
      rw [g1, z_cl hi ht.2.1, zarr_set hlt]
      congr 2
      funext j
      show updV _ _ _ j = _
      dsimp only
      rw [zup_q]
      unfold updV
      by_cases hj : j = i.toNat
      · rw [if_pos hj, if_pos (by omega)]
      · rw [if_neg hj, if_neg (by omega)]) (fun k => by dsimp only; rw [zup_q]; split <;> first | exact zwf1 hws | exact hdyn.2.2.2.2.1 _ _) g2 g3, zS_put hS g2 g3 (by omega), hl, hlen, hwl, zwf2 (zwf2 (zwf2 hws))⟩)
  rw [← zaddr (roa := roa) h8] at h0
  exact h0
set_option maxHeartbeats 1000000 in
theorem zs_bastore (C : zCtx p R s m args meth c lo roa sio D rS rC d M) (hd : decode (zB M) pc = .ok (.bastore, len)) (hn : znext d M pc L st μ (.bastore) len = some q) (k : zGo p l e R s m args below meth c Q lo roa sio D rS rC M a1 a2 b1 b2 q) : zGo p l e R s m args below meth c Q lo roa sio D rS rC M a1 a2 b1 b2 (pc, L, st, μ) := by
  intro H locs ls cells slots h1 h2 h3
  dsimp only at h1 h2 h3 ⊢
  obtain ⟨hdyn, hS, hl, hlen, hwl, hws⟩ := h3
  obtain ⟨hx, hb, hml, hown, hts, hr, hlk, hini, hst, hlo, hfr, hlc⟩ := C
  unfold znext at hn
  split at hn <;> try contradiction
  split at hn <;> try contradiction
  split at hn <;> try contradiction
  cases hn
  rename_i x i f r ht
  obtain ⟨h8, hqn⟩ := zrange (q := f) hdyn hst.2.2.1 (by omega) (by omega) (by omega) (by omega)
  obtain ⟨cA, N, e1, e2, e3, e4, e5⟩ := (hdyn.2.2.1 f h8 hqn).2.2.1 ht.1
  have hi := zwf1 (zwf2 hws)
  have hlt : i.toNat < N := by have := ht.2; omega
  have hnb : narrow .byte (.int (Int32.ofInt x)) = .int (Int32.ofInt x) := by
    show Value.int (Int32.ofInt x).toInt8.toInt32 = _
    rw [z_i2b (zwf1 hws), show (x + 128) % 256 - 128 = x by have := ht.2.2.2; omega]
  have h0 := W.bast (g := F0 m pc ls (.int (Int32.ofInt x) :: .int (Int32.ofInt i) :: .ref (lo + (f - 8)) :: r.map (ztv lo roa sio))) hx hb e3 (e4 N _) (fun h => by cases h) (zin_n hi ht.2.1 (by rw [← e1]; exact ht.2.2.1) (by rw [arrV_size]; exact Nat.le_refl _)) rfl rfl hd (fun H1 g1 g2 g3 => k H1 _ ls cells slots h1 h2 ⟨zdyn_set (q := f) hdyn h8 hqn rfl (fun r hr => ⟨rfl, zup_ne hr⟩) (by
      refine ⟨fun h => absurd h (by rw [show (μ.2.1 f).1 = 21 from ht.1]; decide), fun h => absurd (ht.1.symm.trans h) (by decide), fun _ => ⟨cA, N, e1, e2, ?_, e4, fun j hj => ?_⟩, fun h => absurd (ht.1.symm.trans h) (by decide), by rw [show (μ.2.1 f).1 = 21 from ht.1]; decide⟩
      · rw [g1, hnb, z_cl hi ht.2.1, zarr_set hlt]
        congr 2
        funext j
        show updV _ _ _ j = _
        dsimp only
        rw [zup_q]
        unfold updV
        by_cases hj : j = i.toNat
        · rw [if_pos hj, if_pos (by omega)]
        · rw [if_neg hj, if_neg (by omega)]
      · dsimp only
        rw [zup_q]
        split
        · exact ht.2.2.2
        · exact e5 j hj) (fun k => by dsimp only; rw [zup_q]; split <;> first | exact zwf1 hws | exact hdyn.2.2.2.2.1 _ _) g2 g3, zS_put hS g2 g3 (by omega), hl, hlen, hwl, zwf2 (zwf2 (zwf2 hws))⟩)
  rw [← zaddr (roa := roa) h8] at h0
  exact h0
end ZS
