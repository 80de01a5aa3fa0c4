/-! one instruction of the interpreter is one of the machine -/
def zCtx (p : Program) (R : Room) (s : State) (m : MethodId) (args : Array Value) (meth : Method) (c : Code) (lo : Nat) (roa : Nat → Nat) (sio : Value) (D : va_G) (rS : zSh) (rC : zC) (d M : Nat) : Prop :=
  p.tables.exec = Jvm.exec ∧ c.code = zB M ∧ c.maxLocals = zL M ∧ s.vm.findClass (zcn (zK M)) = some m.cls ∧ (∀ w ∈ zgw, w.before args s = true) ∧ meth.sig.returnType = zR M ∧ meth.locks = false ∧ ((zY M).name = "<init>" → meth.name = "<init>") ∧
  zstat lo roa sio D rS rC s s.heap ∧ lo ≤ s.heap.size ∧ d ≤ R.frames ∧ 38 * d + 2 ≤ R.locals
def zAt (lo : Nat) (roa : Nat → Nat) (sio : Value) (D : va_G) (rS : zSh) (rC : zC) (s : State) (M : Nat) (L : zLs) (st : List zV) (μ : zMem) (H : Heap) (locs : List Loc) (ls : Array Slot) : Prop :=
  zdyn lo roa D rS rC μ s H ∧ va_S (fun q => lo ≤ q) s.heap H locs ∧ lv_has ls (zL M) (zlv (ztv lo roa sio) 0 L) ∧ L.length = zL M ∧ (∀ i v, zgetl L i = some v → zwf v) ∧ ∀ v ∈ st, zwf v
def zGo (p : Program) (l : Launch) (e : Env) (R : Room) (s : State) (m : MethodId) (args : Array Value) (below : List Frame) (meth : Method) (c : Code) (Q : State → Prop) (lo : Nat) (roa : Nat → Nat) (sio : Value) (D : va_G) (rS : zSh) (rC : zC) (M a1 a2 b1 b2 : Nat) (q : zst) : Prop :=
  ∀ (H : Heap) (locs : List Loc) (ls : Array Slot) (cells slots : Nat), cells + a1 = q.2.2.2.1.1 + b1 → slots + a2 = q.2.2.2.1.2 + b2 → zAt lo roa sio D rS rC s M q.2.1 q.2.2.1 q.2.2.2 H locs ls →
    W p l e R s m args below meth c H locs cells slots Q (F0 m q.1 ls (q.2.2.1.map (ztv lo roa sio)))
theorem zwf1 {v : zV} {st : List zV} (h : ∀ u ∈ v :: st, zwf u) : zwf v := h v List.mem_cons_self
theorem zwf2 {v : zV} {st : List zV} (h : ∀ u ∈ v :: st, zwf u) : ∀ u ∈ st, zwf u := fun u hu => h u (List.mem_cons_of_mem _ hu)
theorem zwfc {v : zV} {st : List zV} (h : zwf v) (h2 : ∀ u ∈ st, zwf u) : ∀ u ∈ v :: st, zwf u := fun u hu => (List.mem_cons.mp hu).elim (fun e => e ▸ h) (h2 u)
theorem zwl_set {L : zLs} {i : Nat} {v : zV} (h : ∀ j w, zgetl L j = some w → zwf w) (hv : zwf v) : ∀ j w, zgetl (L.set i (some v)) j = some w → zwf w := by
  intro j w hj
  unfold zgetl at hj h
  by_cases hi : i = j
  · subst hi
    rw [List.getElem?_set] at hj
    split at hj
    · split at hj
      · simp at hj
        exact hj ▸ hv
      · cases hj
    · contradiction
  · rw [List.getElem?_set_ne hi] at hj
    exact h j w hj
theorem zwl_set2 {L : zLs} {i : Nat} {v : zV} (h : ∀ j w, zgetl L j = some w → zwf w) (hv : zwf v) : ∀ j w, zgetl ((L.set i (some v)).set (i + 1) none) j = some w → zwf w := by
  intro j w hj
  by_cases hi : i + 1 = j
  · subst hi
    unfold zgetl at hj
    rw [List.getElem?_set] at hj
    split at hj
    · split at hj <;> cases hj
    · contradiction
  · refine zwl_set (i := i) h hv j w ?_
    unfold zgetl at hj ⊢
    rwa [List.getElem?_set_ne hi] at hj
theorem zjmp_eq {pc t : Nat} {off : Int} (h : zjmp pc off = some t) : (pc : Int) + off = (t : Int) := by
  unfold zjmp at h
  split at h
  · cases h
    omega
  · cases h
theorem z_remw (x y : Int) : Int32.ofInt (zwr (x - zwr (zwr (x.tdiv y) * y))) = Int32.ofInt (zwr (x - x.tdiv y * y)) := by
  rw [z_ofw, z_ofw, Int32.ofInt_sub, Int32.ofInt_sub, z_ofw, Int32.ofInt_mul, Int32.ofInt_mul, z_ofw]
section ZS
variable {p : Program} {l : Launch} {e : Env} {R : Room} {s : State} {m : MethodId} {args : Array Value} {below : List Frame} {meth : Method} {c : Code} {Q : State → Prop} {lo : Nat} {roa : Nat → Nat} {sio : Value} {D : va_G} {rS : zSh} {rC : zC} {d M a1 a2 b1 b2 : Nat} {pc len : Nat} {L : zLs} {st : List zV} {μ : zMem} {q : zst}

set_option maxHeartbeats 1000000 in
theorem zs_iconst {i : Int} (C : zCtx p R s m args meth c lo roa sio D rS rC d M) (hd : decode (zB M) pc = .ok (.iconst i, len)) (hn : znext d M pc L st μ (.iconst i) len = some q) (k : zGo p l e R s m args below meth c Q lo roa sio D rS rC M a1 a2 b1 b2 q) : zGo p l e R s m args below meth c Q lo roa sio D rS rC M a1 a2 b1 b2 (pc, L, st, μ) := by
  intro H locs ls cells slots h1 h2 h3
  obtain ⟨hdyn, hS, hl, hlen, hwl, hws⟩ := h3
  obtain ⟨hx, hb, hml, hown, hts, hr, hlk, hini, hst, hlo, hfr, hlc⟩ := C
  unfold znext at hn
  split at hn <;> try contradiction
  injections
  subst_vars
  split at hn <;> try contradiction
  cases hn
  rename_i hi
  exact lv_iconst hx hb hd rfl (k H locs ls cells slots h1 h2 ⟨hdyn, hS, hl, hlen, hwl, zwfc (by unfold zwf zInR; dsimp only; omega) hws⟩)
set_option maxHeartbeats 1000000 in
theorem zs_bipush {i : Int} (C : zCtx p R s m args meth c lo roa sio D rS rC d M) (hd : decode (zB M) pc = .ok (.bipush i, len)) (hn : znext d M pc L st μ (.bipush i) len = some q) (k : zGo p l e R s m args below meth c Q lo roa sio D rS rC M a1 a2 b1 b2 q) : zGo p l e R s m args below meth c Q lo roa sio D rS rC M a1 a2 b1 b2 (pc, L, st, μ) := by
  intro H locs ls cells slots h1 h2 h3
  obtain ⟨hdyn, hS, hl, hlen, hwl, hws⟩ := h3
  obtain ⟨hx, hb, hml, hown, hts, hr, hlk, hini, hst, hlo, hfr, hlc⟩ := C
  unfold znext at hn
  split at hn <;> try contradiction
  injections
  subst_vars
  split at hn <;> try contradiction
  cases hn
  rename_i hi
  exact lv_bipush hx hb hd (z_bip hi) (k H locs ls cells slots h1 h2 ⟨hdyn, hS, hl, hlen, hwl, zwfc (by unfold zwf zInR; dsimp only; omega) hws⟩)
set_option maxHeartbeats 1000000 in
theorem zs_sipush {i : Int} (C : zCtx p R s m args meth c lo roa sio D rS rC d M) (hd : decode (zB M) pc = .ok (.sipush i, len)) (hn : znext d M pc L st μ (.sipush i) len = some q) (k : zGo p l e R s m args below meth c Q lo roa sio D rS rC M a1 a2 b1 b2 q) : zGo p l e R s m args below meth c Q lo roa sio D rS rC M a1 a2 b1 b2 (pc, L, st, μ) := by
  intro H locs ls cells slots h1 h2 h3
  obtain ⟨hdyn, hS, hl, hlen, hwl, hws⟩ := h3
  obtain ⟨hx, hb, hml, hown, hts, hr, hlk, hini, hst, hlo, hfr, hlc⟩ := C
  unfold znext at hn
  split at hn <;> try contradiction
  injections
  subst_vars
  split at hn <;> try contradiction
  cases hn
  rename_i hi
  exact lv_sipush hx hb hd (z_sip hi) (k H locs ls cells slots h1 h2 ⟨hdyn, hS, hl, hlen, hwl, zwfc (by unfold zwf zInR; dsimp only; omega) hws⟩)
set_option maxHeartbeats 1000000 in
theorem zs_iload {i : Nat} (C : zCtx p R s m args meth c lo roa sio D rS rC d M) (hd : decode (zB M) pc = .ok (.iload i, len)) (hn : znext d M pc L st μ (.iload i) len = some q) (k : zGo p l e R s m args below meth c Q lo roa sio D rS rC M a1 a2 b1 b2 q) : zGo p l e R s m args below meth c Q lo roa sio D rS rC M a1 a2 b1 b2 (pc, L, st, μ) := by
  intro H locs ls cells slots h1 h2 h3
  obtain ⟨hdyn, hS, hl, hlen, hwl, hws⟩ := h3
  obtain ⟨hx, hb, hml, hown, hts, hr, hlk, hini, hst, hlo, hfr, hlc⟩ := C
  unfold znext at hn
  split at hn <;> try contradiction
  injections
  subst_vars
  split at hn <;> try contradiction
  cases hn
  rename_i x hi
  exact lv_iload hx hb hd (zlv_get hl hi) (k H locs ls cells slots h1 h2 ⟨hdyn, hS, hl, hlen, hwl, zwfc (hwl _ _ hi) hws⟩)
set_option maxHeartbeats 1000000 in
theorem zs_iload_n {i : Fin 4} (C : zCtx p R s m args meth c lo roa sio D rS rC d M) (hd : decode (zB M) pc = .ok (.iload_n i, len)) (hn : znext d M pc L st μ (.iload_n i) len = some q) (k : zGo p l e R s m args below meth c Q lo roa sio D rS rC M a1 a2 b1 b2 q) : zGo p l e R s m args below meth c Q lo roa sio D rS rC M a1 a2 b1 b2 (pc, L, st, μ) := by
  intro H locs ls cells slots h1 h2 h3
  obtain ⟨hdyn, hS, hl, hlen, hwl, hws⟩ := h3
  obtain ⟨hx, hb, hml, hown, hts, hr, hlk, hini, hst, hlo, hfr, hlc⟩ := C
  unfold znext at hn
  split at hn <;> try contradiction
  injections
  subst_vars
  split at hn <;> try contradiction
  cases hn
  rename_i x hi
  exact lv_iload_n hx hb hd rfl (zlv_get hl hi) (k H locs ls cells slots h1 h2 ⟨hdyn, hS, hl, hlen, hwl, zwfc (hwl _ _ hi) hws⟩)
set_option maxHeartbeats 1000000 in
theorem zs_aload {i : Nat} (C : zCtx p R s m args meth c lo roa sio D rS rC d M) (hd : decode (zB M) pc = .ok (.aload i, len)) (hn : znext d M pc L st μ (.aload i) len = some q) (k : zGo p l e R s m args below meth c Q lo roa sio D rS rC M a1 a2 b1 b2 q) : zGo p l e R s m args below meth c Q lo roa sio D rS rC M a1 a2 b1 b2 (pc, L, st, μ) := by
  intro H locs ls cells slots h1 h2 h3
  obtain ⟨hdyn, hS, hl, hlen, hwl, hws⟩ := h3
  obtain ⟨hx, hb, hml, hown, hts, hr, hlk, hini, hst, hlo, hfr, hlc⟩ := C
  unfold znext at hn
  split at hn <;> try contradiction
  injections
  subst_vars
  split at hn <;> try contradiction
  cases hn
  rename_i x hi
  exact lv_aload hx hb hd (zlv_get hl hi) (k H locs ls cells slots h1 h2 ⟨hdyn, hS, hl, hlen, hwl, zwfc (hwl _ _ hi) hws⟩)
set_option maxHeartbeats 1000000 in
theorem zs_aload_n {i : Fin 4} (C : zCtx p R s m args meth c lo roa sio D rS rC d M) (hd : decode (zB M) pc = .ok (.aload_n i, len)) (hn : znext d M pc L st μ (.aload_n i) len = some q) (k : zGo p l e R s m args below meth c Q lo roa sio D rS rC M a1 a2 b1 b2 q) : zGo p l e R s m args below meth c Q lo roa sio D rS rC M a1 a2 b1 b2 (pc, L, st, μ) := by
  intro H locs ls cells slots h1 h2 h3
  obtain ⟨hdyn, hS, hl, hlen, hwl, hws⟩ := h3
  obtain ⟨hx, hb, hml, hown, hts, hr, hlk, hini, hst, hlo, hfr, hlc⟩ := C
  unfold znext at hn
  split at hn <;> try contradiction
  injections
  subst_vars
  split at hn <;> try contradiction
  cases hn
  rename_i x hi
  exact lv_aload_n hx hb hd rfl (zlv_get hl hi) (k H locs ls cells slots h1 h2 ⟨hdyn, hS, hl, hlen, hwl, zwfc (hwl _ _ hi) hws⟩)
set_option maxHeartbeats 1000000 in
theorem zs_lload_n {i : Fin 4} (C : zCtx p R s m args meth c lo roa sio D rS rC d M) (hd : decode (zB M) pc = .ok (.lload_n i, len)) (hn : znext d M pc L st μ (.lload_n i) len = some q) (k : zGo p l e R s m args below meth c Q lo roa sio D rS rC M a1 a2 b1 b2 q) : zGo p l e R s m args below meth c Q lo roa sio D rS rC M a1 a2 b1 b2 (pc, L, st, μ) := by
  intro H locs ls cells slots h1 h2 h3
  obtain ⟨hdyn, hS, hl, hlen, hwl, hws⟩ := h3
  obtain ⟨hx, hb, hml, hown, hts, hr, hlk, hini, hst, hlo, hfr, hlc⟩ := C
  unfold znext at hn
  split at hn <;> try contradiction
  injections
  subst_vars
  split at hn <;> try contradiction
  cases hn
  rename_i x hi
  exact lv_lload_n hx hb hd rfl (zlv_get hl hi) (k H locs ls cells slots h1 h2 ⟨hdyn, hS, hl, hlen, hwl, zwfc (hwl _ _ hi) hws⟩)
set_option maxHeartbeats 1000000 in
theorem zs_lload {i : Nat} (C : zCtx p R s m args meth c lo roa sio D rS rC d M) (hd : decode (zB M) pc = .ok (.lload i, len)) (hn : znext d M pc L st μ (.lload i) len = some q) (k : zGo p l e R s m args below meth c Q lo roa sio D rS rC M a1 a2 b1 b2 q) : zGo p l e R s m args below meth c Q lo roa sio D rS rC M a1 a2 b1 b2 (pc, L, st, μ) := by
  intro H locs ls cells slots h1 h2 h3
  obtain ⟨hdyn, hS, hl, hlen, hwl, hws⟩ := h3
  obtain ⟨hx, hb, hml, hown, hts, hr, hlk, hini, hst, hlo, hfr, hlc⟩ := C
  unfold znext at hn
  split at hn <;> try contradiction
  injections
  subst_vars
  split at hn <;> try contradiction
  cases hn
  rename_i x hi
  exact lv_lload hx hb hd (zlv_get hl hi) (k H locs ls cells slots h1 h2 ⟨hdyn, hS, hl, hlen, hwl, zwfc (hwl _ _ hi) hws⟩)
set_option maxHeartbeats 1000000 in
theorem zs_istore {i : Nat} (C : zCtx p R s m args meth c lo roa sio D rS rC d M) (hd : decode (zB M) pc = .ok (.istore i, len)) (hn : znext d M pc L st μ (.istore i) len = some q) (k : zGo p l e R s m args below meth c Q lo roa sio D rS rC M a1 a2 b1 b2 q) : zGo p l e R s m args below meth c Q lo roa sio D rS rC M a1 a2 b1 b2 (pc, L, st, μ) := by
  intro H locs ls cells slots h1 h2 h3
  obtain ⟨hdyn, hS, hl, hlen, hwl, hws⟩ := h3
  obtain ⟨hx, hb, hml, hown, hts, hr, hlk, hini, hst, hlo, hfr, hlc⟩ := C
  unfold znext at hn
  split at hn <;> try contradiction
  injections
  subst_vars
  split at hn <;> try contradiction
  split at hn <;> try contradiction
  cases hn
  rename_i x r hi
  exact lv_istore hx hb hd hl (by rw [← hlen]; exact hi.2) rfl (fun ls1 hl1 => k H locs ls1 cells slots h1 h2 ⟨hdyn, hS, zlv_less hl1 (zlv_set hst.2.1 hi.1), by simpa using hlen, zwl_set hwl (zwf1 hws), zwf2 hws⟩)
set_option maxHeartbeats 1000000 in
theorem zs_istore_n {i : Fin 4} (C : zCtx p R s m args meth c lo roa sio D rS rC d M) (hd : decode (zB M) pc = .ok (.istore_n i, len)) (hn : znext d M pc L st μ (.istore_n i) len = some q) (k : zGo p l e R s m args below meth c Q lo roa sio D rS rC M a1 a2 b1 b2 q) : zGo p l e R s m args below meth c Q lo roa sio D rS rC M a1 a2 b1 b2 (pc, L, st, μ) := by
  intro H locs ls cells slots h1 h2 h3
  obtain ⟨hdyn, hS, hl, hlen, hwl, hws⟩ := h3
  obtain ⟨hx, hb, hml, hown, hts, hr, hlk, hini, hst, hlo, hfr, hlc⟩ := C
  unfold znext at hn
  split at hn <;> try contradiction
  injections
  subst_vars
  split at hn <;> try contradiction
  split at hn <;> try contradiction
  cases hn
  rename_i x r hi
  exact lv_istore_n hx hb hd rfl hl (by rw [← hlen]; exact hi.2) rfl (fun ls1 hl1 => k H locs ls1 cells slots h1 h2 ⟨hdyn, hS, zlv_less hl1 (zlv_set hst.2.1 hi.1), by simpa using hlen, zwl_set hwl (zwf1 hws), zwf2 hws⟩)
set_option maxHeartbeats 1000000 in
theorem zs_astore_n {i : Fin 4} (C : zCtx p R s m args meth c lo roa sio D rS rC d M) (hd : decode (zB M) pc = .ok (.astore_n i, len)) (hn : znext d M pc L st μ (.astore_n i) len = some q) (k : zGo p l e R s m args below meth c Q lo roa sio D rS rC M a1 a2 b1 b2 q) : zGo p l e R s m args below meth c Q lo roa sio D rS rC M a1 a2 b1 b2 (pc, L, st, μ) := by
  intro H locs ls cells slots h1 h2 h3
  obtain ⟨hdyn, hS, hl, hlen, hwl, hws⟩ := h3
  obtain ⟨hx, hb, hml, hown, hts, hr, hlk, hini, hst, hlo, hfr, hlc⟩ := C
  unfold znext at hn
  split at hn <;> try contradiction
  injections
  subst_vars
  split at hn <;> try contradiction
  split at hn <;> try contradiction
  cases hn
  rename_i x r hi
  exact lv_astore_n hx hb hd rfl hl (by rw [← hlen]; exact hi.2) rfl (fun ls1 hl1 => k H locs ls1 cells slots h1 h2 ⟨hdyn, hS, zlv_less hl1 (zlv_set hst.2.1 hi.1), by simpa using hlen, zwl_set hwl (zwf1 hws), zwf2 hws⟩)
set_option maxHeartbeats 1000000 in
theorem zs_astore {i : Nat} (C : zCtx p R s m args meth c lo roa sio D rS rC d M) (hd : decode (zB M) pc = .ok (.astore i, len)) (hn : znext d M pc L st μ (.astore i) len = some q) (k : zGo p l e R s m args below meth c Q lo roa sio D rS rC M a1 a2 b1 b2 q) : zGo p l e R s m args below meth c Q lo roa sio D rS rC M a1 a2 b1 b2 (pc, L, st, μ) := by
  intro H locs ls cells slots h1 h2 h3
  obtain ⟨hdyn, hS, hl, hlen, hwl, hws⟩ := h3
  obtain ⟨hx, hb, hml, hown, hts, hr, hlk, hini, hst, hlo, hfr, hlc⟩ := C
  unfold znext at hn
  split at hn <;> try contradiction
  injections
  subst_vars
  split at hn <;> try contradiction
  split at hn <;> try contradiction
  cases hn
  rename_i x r hi
  exact lv_astore hx hb hd hl (by rw [← hlen]; exact hi.2) rfl (fun ls1 hl1 => k H locs ls1 cells slots h1 h2 ⟨hdyn, hS, zlv_less hl1 (zlv_set hst.2.1 hi.1), by simpa using hlen, zwl_set hwl (zwf1 hws), zwf2 hws⟩)
set_option maxHeartbeats 1000000 in
theorem zs_lstore_n {i : Fin 4} (C : zCtx p R s m args meth c lo roa sio D rS rC d M) (hd : decode (zB M) pc = .ok (.lstore_n i, len)) (hn : znext d M pc L st μ (.lstore_n i) len = some q) (k : zGo p l e R s m args below meth c Q lo roa sio D rS rC M a1 a2 b1 b2 q) : zGo p l e R s m args below meth c Q lo roa sio D rS rC M a1 a2 b1 b2 (pc, L, st, μ) := by
  intro H locs ls cells slots h1 h2 h3
  obtain ⟨hdyn, hS, hl, hlen, hwl, hws⟩ := h3
  obtain ⟨hx, hb, hml, hown, hts, hr, hlk, hini, hst, hlo, hfr, hlc⟩ := C
  unfold znext at hn
  split at hn <;> try contradiction
  injections
  subst_vars
  split at hn <;> try contradiction
  split at hn <;> try contradiction
  cases hn
  rename_i x r hi
  exact lv_lstore_n hx hb hd rfl hl (by rw [← hlen]; exact hi.2) rfl (fun ls1 hl1 => k H locs ls1 cells slots h1 h2 ⟨hdyn, hS, zlv_less hl1 (zlv_set2 hst.2.1 hi.1), by simpa using hlen, zwl_set2 hwl (zwf1 hws), zwf2 hws⟩)
set_option maxHeartbeats 1000000 in
theorem zs_lstore {i : Nat} (C : zCtx p R s m args meth c lo roa sio D rS rC d M) (hd : decode (zB M) pc = .ok (.lstore i, len)) (hn : znext d M pc L st μ (.lstore i) len = some q) (k : zGo p l e R s m args below meth c Q lo roa sio D rS rC M a1 a2 b1 b2 q) : zGo p l e R s m args below meth c Q lo roa sio D rS rC M a1 a2 b1 b2 (pc, L, st, μ) := by
  intro H locs ls cells slots h1 h2 h3
  obtain ⟨hdyn, hS, hl, hlen, hwl, hws⟩ := h3
  obtain ⟨hx, hb, hml, hown, hts, hr, hlk, hini, hst, hlo, hfr, hlc⟩ := C
  unfold znext at hn
  split at hn <;> try contradiction
  injections
  subst_vars
  split at hn <;> try contradiction
  split at hn <;> try contradiction
  cases hn
  rename_i x r hi
  exact lv_lstore hx hb hd hl (by rw [← hlen]; exact hi.2) rfl (fun ls1 hl1 => k H locs ls1 cells slots h1 h2 ⟨hdyn, hS, zlv_less hl1 (zlv_set2 hst.2.1 hi.1), by simpa using hlen, zwl_set2 hwl (zwf1 hws), zwf2 hws⟩)
set_option maxHeartbeats 1000000 in
theorem zs_iadd (C : zCtx p R s m args meth c lo roa sio D rS rC d M) (hd : decode (zB M) pc = .ok (.iadd, len)) (hn : znext d M pc L st μ (.iadd) len = some q) (k : zGo p l e R s m args below meth c Q lo roa sio D rS rC M a1 a2 b1 b2 q) : zGo p l e R s m args below meth c Q lo roa sio D rS rC M a1 a2 b1 b2 (pc, L, st, μ) := by
  intro H locs ls cells slots h1 h2 h3
  obtain ⟨hdyn, hS, hl, hlen, hwl, hws⟩ := h3
  obtain ⟨hx, hb, hml, hown, hts, hr, hlk, hini, hst, hlo, hfr, hlc⟩ := C
  unfold znext at hn
  split at hn <;> try contradiction
  split at hn <;> try contradiction
  cases hn
  rename_i y x r
  exact lv_iadd hx hb hd (by rw [z_add]; exact k H locs ls cells slots h1 h2 ⟨hdyn, hS, hl, hlen, hwl, zwfc (zwr_in _) (zwf2 (zwf2 hws))⟩)
set_option maxHeartbeats 1000000 in
theorem zs_isub (C : zCtx p R s m args meth c lo roa sio D rS rC d M) (hd : decode (zB M) pc = .ok (.isub, len)) (hn : znext d M pc L st μ (.isub) len = some q) (k : zGo p l e R s m args below meth c Q lo roa sio D rS rC M a1 a2 b1 b2 q) : zGo p l e R s m args below meth c Q lo roa sio D rS rC M a1 a2 b1 b2 (pc, L, st, μ) := by
  intro H locs ls cells slots h1 h2 h3
  obtain ⟨hdyn, hS, hl, hlen, hwl, hws⟩ := h3
  obtain ⟨hx, hb, hml, hown, hts, hr, hlk, hini, hst, hlo, hfr, hlc⟩ := C
  unfold znext at hn
  split at hn <;> try contradiction
  split at hn <;> try contradiction
  cases hn
  rename_i y x r
  exact lv_isub hx hb hd (by rw [z_sub]; exact k H locs ls cells slots h1 h2 ⟨hdyn, hS, hl, hlen, hwl, zwfc (zwr_in _) (zwf2 (zwf2 hws))⟩)
set_option maxHeartbeats 1000000 in
theorem zs_imul (C : zCtx p R s m args meth c lo roa sio D rS rC d M) (hd : decode (zB M) pc = .ok (.imul, len)) (hn : znext d M pc L st μ (.imul) len = some q) (k : zGo p l e R s m args below meth c Q lo roa sio D rS rC M a1 a2 b1 b2 q) : zGo p l e R s m args below meth c Q lo roa sio D rS rC M a1 a2 b1 b2 (pc, L, st, μ) := by
  intro H locs ls cells slots h1 h2 h3
  obtain ⟨hdyn, hS, hl, hlen, hwl, hws⟩ := h3
  obtain ⟨hx, hb, hml, hown, hts, hr, hlk, hini, hst, hlo, hfr, hlc⟩ := C
  unfold znext at hn
  split at hn <;> try contradiction
  split at hn <;> try contradiction
  cases hn
  rename_i y x r
  exact lv_imul hx hb hd (by rw [z_mul]; exact k H locs ls cells slots h1 h2 ⟨hdyn, hS, hl, hlen, hwl, zwfc (zwr_in _) (zwf2 (zwf2 hws))⟩)
set_option maxHeartbeats 1000000 in
theorem zs_ineg (C : zCtx p R s m args meth c lo roa sio D rS rC d M) (hd : decode (zB M) pc = .ok (.ineg, len)) (hn : znext d M pc L st μ (.ineg) len = some q) (k : zGo p l e R s m args below meth c Q lo roa sio D rS rC M a1 a2 b1 b2 q) : zGo p l e R s m args below meth c Q lo roa sio D rS rC M a1 a2 b1 b2 (pc, L, st, μ) := by
  intro H locs ls cells slots h1 h2 h3
  obtain ⟨hdyn, hS, hl, hlen, hwl, hws⟩ := h3
  obtain ⟨hx, hb, hml, hown, hts, hr, hlk, hini, hst, hlo, hfr, hlc⟩ := C
  unfold znext at hn
  split at hn <;> try contradiction
  split at hn <;> try contradiction
  cases hn
  rename_i x r
  exact lv_ineg hx hb hd (by rw [z_neg]; exact k H locs ls cells slots h1 h2 ⟨hdyn, hS, hl, hlen, hwl, zwfc (zwr_in _) (zwf2 hws)⟩)
set_option maxHeartbeats 1000000 in
theorem zs_idiv (C : zCtx p R s m args meth c lo roa sio D rS rC d M) (hd : decode (zB M) pc = .ok (.idiv, len)) (hn : znext d M pc L st μ (.idiv) len = some q) (k : zGo p l e R s m args below meth c Q lo roa sio D rS rC M a1 a2 b1 b2 q) : zGo p l e R s m args below meth c Q lo roa sio D rS rC M a1 a2 b1 b2 (pc, L, st, μ) := by
  intro H locs ls cells slots h1 h2 h3
  obtain ⟨hdyn, hS, hl, hlen, hwl, hws⟩ := h3
  obtain ⟨hx, hb, hml, hown, hts, hr, hlk, hini, hst, hlo, hfr, hlc⟩ := C
  unfold znext at hn
  split at hn <;> try contradiction
  split at hn <;> try contradiction
  split at hn <;> try contradiction
  cases hn
  rename_i y x r hy
  exact lv_idiv hx hb hd (z_ne0 (zwf1 hws) hy) (by rw [z_div (zwf1 (zwf2 hws)) (zwf1 hws)]; exact k H locs ls cells slots h1 h2 ⟨hdyn, hS, hl, hlen, hwl, zwfc (zwr_in _) (zwf2 (zwf2 hws))⟩)
set_option maxHeartbeats 1000000 in
theorem zs_irem (C : zCtx p R s m args meth c lo roa sio D rS rC d M) (hd : decode (zB M) pc = .ok (.irem, len)) (hn : znext d M pc L st μ (.irem) len = some q) (k : zGo p l e R s m args below meth c Q lo roa sio D rS rC M a1 a2 b1 b2 q) : zGo p l e R s m args below meth c Q lo roa sio D rS rC M a1 a2 b1 b2 (pc, L, st, μ) := by
  intro H locs ls cells slots h1 h2 h3
  obtain ⟨hdyn, hS, hl, hlen, hwl, hws⟩ := h3
  obtain ⟨hx, hb, hml, hown, hts, hr, hlk, hini, hst, hlo, hfr, hlc⟩ := C
  unfold znext at hn
  split at hn <;> try contradiction
  split at hn <;> try contradiction
  split at hn <;> try contradiction
  cases hn
  rename_i y x r hy
  exact lv_irem hx hb hd (z_ne0 (zwf1 hws) hy) (by rw [z_div (zwf1 (zwf2 hws)) (zwf1 hws), z_mul, z_sub, z_remw]; exact k H locs ls cells slots h1 h2 ⟨hdyn, hS, hl, hlen, hwl, zwfc (zwr_in _) (zwf2 (zwf2 hws))⟩)
set_option maxHeartbeats 1000000 in
theorem zs_ishl (C : zCtx p R s m args meth c lo roa sio D rS rC d M) (hd : decode (zB M) pc = .ok (.ishl, len)) (hn : znext d M pc L st μ (.ishl) len = some q) (k : zGo p l e R s m args below meth c Q lo roa sio D rS rC M a1 a2 b1 b2 q) : zGo p l e R s m args below meth c Q lo roa sio D rS rC M a1 a2 b1 b2 (pc, L, st, μ) := by
  intro H locs ls cells slots h1 h2 h3
  obtain ⟨hdyn, hS, hl, hlen, hwl, hws⟩ := h3
  obtain ⟨hx, hb, hml, hown, hts, hr, hlk, hini, hst, hlo, hfr, hlc⟩ := C
  unfold znext at hn
  split at hn <;> try contradiction
  split at hn <;> try contradiction
  split at hn <;> try contradiction
  cases hn
  rename_i y x r hy
  subst hy
  exact lv_ishl hx hb hd (by rw [z_shl]; exact k H locs ls cells slots h1 h2 ⟨hdyn, hS, hl, hlen, hwl, zwfc (zwf1 (zwf2 hws)) (zwf2 (zwf2 hws))⟩)
set_option maxHeartbeats 1000000 in
theorem zs_ishr (C : zCtx p R s m args meth c lo roa sio D rS rC d M) (hd : decode (zB M) pc = .ok (.ishr, len)) (hn : znext d M pc L st μ (.ishr) len = some q) (k : zGo p l e R s m args below meth c Q lo roa sio D rS rC M a1 a2 b1 b2 q) : zGo p l e R s m args below meth c Q lo roa sio D rS rC M a1 a2 b1 b2 (pc, L, st, μ) := by
  intro H locs ls cells slots h1 h2 h3
  obtain ⟨hdyn, hS, hl, hlen, hwl, hws⟩ := h3
  obtain ⟨hx, hb, hml, hown, hts, hr, hlk, hini, hst, hlo, hfr, hlc⟩ := C
  unfold znext at hn
  split at hn <;> try contradiction
  split at hn <;> try contradiction
  split at hn
  · rename_i y x r hy
    cases hn
    subst hy
    exact lv_ishr hx hb hd (by rw [z_shr]; exact k H locs ls cells slots h1 h2 ⟨hdyn, hS, hl, hlen, hwl, zwfc (zwf1 (zwf2 hws)) (zwf2 (zwf2 hws))⟩)
  · rename_i y x r hy
    cases hn
    exact lv_ishr hx hb hd (by rw [← Int32.ofInt_toInt (Int32.ofInt x >>> (Int32.ofInt y &&& 31))]; exact k H locs ls cells slots h1 h2 ⟨hdyn, hS, hl, hlen, hwl, zwfc ⟨Int32.le_toInt _, Int32.toInt_lt _⟩ (zwf2 (zwf2 hws))⟩)
set_option maxHeartbeats 1000000 in
theorem zs_i2l (C : zCtx p R s m args meth c lo roa sio D rS rC d M) (hd : decode (zB M) pc = .ok (.i2l, len)) (hn : znext d M pc L st μ (.i2l) len = some q) (k : zGo p l e R s m args below meth c Q lo roa sio D rS rC M a1 a2 b1 b2 q) : zGo p l e R s m args below meth c Q lo roa sio D rS rC M a1 a2 b1 b2 (pc, L, st, μ) := by
  intro H locs ls cells slots h1 h2 h3
  obtain ⟨hdyn, hS, hl, hlen, hwl, hws⟩ := h3
  obtain ⟨hx, hb, hml, hown, hts, hr, hlk, hini, hst, hlo, hfr, hlc⟩ := C
  unfold znext at hn
  split at hn <;> try contradiction
  split at hn <;> try contradiction
  cases hn
  rename_i x r
  exact lv_i2l hx hb hd (z_i2l (zwf1 hws)) (k H locs ls cells slots h1 h2 ⟨hdyn, hS, hl, hlen, hwl, zwfc (by have := zwf1 hws; unfold zwf zInR at this; unfold zwf; dsimp only at this ⊢; omega) (zwf2 hws)⟩)
set_option maxHeartbeats 1000000 in
theorem zs_i2b (C : zCtx p R s m args meth c lo roa sio D rS rC d M) (hd : decode (zB M) pc = .ok (.i2b, len)) (hn : znext d M pc L st μ (.i2b) len = some q) (k : zGo p l e R s m args below meth c Q lo roa sio D rS rC M a1 a2 b1 b2 q) : zGo p l e R s m args below meth c Q lo roa sio D rS rC M a1 a2 b1 b2 (pc, L, st, μ) := by
  intro H locs ls cells slots h1 h2 h3
  obtain ⟨hdyn, hS, hl, hlen, hwl, hws⟩ := h3
  obtain ⟨hx, hb, hml, hown, hts, hr, hlk, hini, hst, hlo, hfr, hlc⟩ := C
  unfold znext at hn
  split at hn <;> try contradiction
  split at hn <;> try contradiction
  cases hn
  rename_i x r
  exact lv_i2b hx hb hd (z_i2b (zwf1 hws)) (k H locs ls cells slots h1 h2 ⟨hdyn, hS, hl, hlen, hwl, zwfc (by unfold zwf zInR; dsimp only; omega) (zwf2 hws)⟩)
set_option maxHeartbeats 1000000 in
theorem zs_i2c (C : zCtx p R s m args meth c lo roa sio D rS rC d M) (hd : decode (zB M) pc = .ok (.i2c, len)) (hn : znext d M pc L st μ (.i2c) len = some q) (k : zGo p l e R s m args below meth c Q lo roa sio D rS rC M a1 a2 b1 b2 q) : zGo p l e R s m args below meth c Q lo roa sio D rS rC M a1 a2 b1 b2 (pc, L, st, μ) := by
  intro H locs ls cells slots h1 h2 h3
  obtain ⟨hdyn, hS, hl, hlen, hwl, hws⟩ := h3
  obtain ⟨hx, hb, hml, hown, hts, hr, hlk, hini, hst, hlo, hfr, hlc⟩ := C
  unfold znext at hn
  split at hn <;> try contradiction
  split at hn <;> try contradiction
  cases hn
  rename_i x r
  exact lv_i2c hx hb hd z_i2c (k H locs ls cells slots h1 h2 ⟨hdyn, hS, hl, hlen, hwl, zwfc (by unfold zwf zInR; dsimp only; omega) (zwf2 hws)⟩)
set_option maxHeartbeats 1000000 in
theorem zs_ladd (C : zCtx p R s m args meth c lo roa sio D rS rC d M) (hd : decode (zB M) pc = .ok (.ladd, len)) (hn : znext d M pc L st μ (.ladd) len = some q) (k : zGo p l e R s m args below meth c Q lo roa sio D rS rC M a1 a2 b1 b2 q) : zGo p l e R s m args below meth c Q lo roa sio D rS rC M a1 a2 b1 b2 (pc, L, st, μ) := by
  intro H locs ls cells slots h1 h2 h3
  obtain ⟨hdyn, hS, hl, hlen, hwl, hws⟩ := h3
  obtain ⟨hx, hb, hml, hown, hts, hr, hlk, hini, hst, hlo, hfr, hlc⟩ := C
  unfold znext at hn
  split at hn <;> try contradiction
  split at hn <;> try contradiction
  cases hn
  rename_i y x r
  exact lv_ladd hx hb hd (by rw [z_addl]; exact k H locs ls cells slots h1 h2 ⟨hdyn, hS, hl, hlen, hwl, zwfc (zwl_in _) (zwf2 (zwf2 hws))⟩)
set_option maxHeartbeats 1000000 in
theorem zs_lmul (C : zCtx p R s m args meth c lo roa sio D rS rC d M) (hd : decode (zB M) pc = .ok (.lmul, len)) (hn : znext d M pc L st μ (.lmul) len = some q) (k : zGo p l e R s m args below meth c Q lo roa sio D rS rC M a1 a2 b1 b2 q) : zGo p l e R s m args below meth c Q lo roa sio D rS rC M a1 a2 b1 b2 (pc, L, st, μ) := by
  intro H locs ls cells slots h1 h2 h3
  obtain ⟨hdyn, hS, hl, hlen, hwl, hws⟩ := h3
  obtain ⟨hx, hb, hml, hown, hts, hr, hlk, hini, hst, hlo, hfr, hlc⟩ := C
  unfold znext at hn
  split at hn <;> try contradiction
  split at hn <;> try contradiction
  cases hn
  rename_i y x r
  exact lv_lmul hx hb hd (by rw [z_mull]; exact k H locs ls cells slots h1 h2 ⟨hdyn, hS, hl, hlen, hwl, zwfc (zwl_in _) (zwf2 (zwf2 hws))⟩)
set_option maxHeartbeats 1000000 in
theorem zs_pop (C : zCtx p R s m args meth c lo roa sio D rS rC d M) (hd : decode (zB M) pc = .ok (.pop, len)) (hn : znext d M pc L st μ (.pop) len = some q) (k : zGo p l e R s m args below meth c Q lo roa sio D rS rC M a1 a2 b1 b2 q) : zGo p l e R s m args below meth c Q lo roa sio D rS rC M a1 a2 b1 b2 (pc, L, st, μ) := by
  intro H locs ls cells slots h1 h2 h3
  obtain ⟨hdyn, hS, hl, hlen, hwl, hws⟩ := h3
  obtain ⟨hx, hb, hml, hown, hts, hr, hlk, hini, hst, hlo, hfr, hlc⟩ := C
  unfold znext at hn
  split at hn <;> try contradiction
  split at hn <;> try contradiction
  split at hn <;> try contradiction
  cases hn
  rename_i v r hv
  exact lv_pop hx hb hd ((ztv_cat hst.2.1 v).trans hv) (k H locs ls cells slots h1 h2 ⟨hdyn, hS, hl, hlen, hwl, zwf2 hws⟩)
set_option maxHeartbeats 1000000 in
theorem zs_dup (C : zCtx p R s m args meth c lo roa sio D rS rC d M) (hd : decode (zB M) pc = .ok (.dup, len)) (hn : znext d M pc L st μ (.dup) len = some q) (k : zGo p l e R s m args below meth c Q lo roa sio D rS rC M a1 a2 b1 b2 q) : zGo p l e R s m args below meth c Q lo roa sio D rS rC M a1 a2 b1 b2 (pc, L, st, μ) := by
  intro H locs ls cells slots h1 h2 h3
  obtain ⟨hdyn, hS, hl, hlen, hwl, hws⟩ := h3
  obtain ⟨hx, hb, hml, hown, hts, hr, hlk, hini, hst, hlo, hfr, hlc⟩ := C
  unfold znext at hn
  split at hn <;> try contradiction
  split at hn <;> try contradiction
  split at hn <;> try contradiction
  cases hn
  rename_i v r hv
  exact lv_dup hx hb hd ((ztv_cat hst.2.1 v).trans hv) (k H locs ls cells slots h1 h2 ⟨hdyn, hS, hl, hlen, hwl, zwfc (zwf1 hws) hws⟩)
set_option maxHeartbeats 1000000 in
theorem zs_dup2 (C : zCtx p R s m args meth c lo roa sio D rS rC d M) (hd : decode (zB M) pc = .ok (.dup2, len)) (hn : znext d M pc L st μ (.dup2) len = some q) (k : zGo p l e R s m args below meth c Q lo roa sio D rS rC M a1 a2 b1 b2 q) : zGo p l e R s m args below meth c Q lo roa sio D rS rC M a1 a2 b1 b2 (pc, L, st, μ) := by
  intro H locs ls cells slots h1 h2 h3
  obtain ⟨hdyn, hS, hl, hlen, hwl, hws⟩ := h3
  obtain ⟨hx, hb, hml, hown, hts, hr, hlk, hini, hst, hlo, hfr, hlc⟩ := C
  unfold znext at hn
  split at hn <;> try contradiction
  split at hn <;> try contradiction
  split at hn <;> try contradiction
  cases hn
  rename_i v u r hv
  exact lv_dup2_11 hx hb hd ((ztv_cat hst.2.1 v).trans hv.1) ((ztv_cat hst.2.1 u).trans hv.2) (k H locs ls cells slots h1 h2 ⟨hdyn, hS, hl, hlen, hwl, zwfc (zwf1 hws) (zwfc (zwf1 (zwf2 hws)) hws)⟩)
set_option maxHeartbeats 1000000 in
theorem zs_dup_x1 (C : zCtx p R s m args meth c lo roa sio D rS rC d M) (hd : decode (zB M) pc = .ok (.dup_x1, len)) (hn : znext d M pc L st μ (.dup_x1) len = some q) (k : zGo p l e R s m args below meth c Q lo roa sio D rS rC M a1 a2 b1 b2 q) : zGo p l e R s m args below meth c Q lo roa sio D rS rC M a1 a2 b1 b2 (pc, L, st, μ) := by
  intro H locs ls cells slots h1 h2 h3
  obtain ⟨hdyn, hS, hl, hlen, hwl, hws⟩ := h3
  obtain ⟨hx, hb, hml, hown, hts, hr, hlk, hini, hst, hlo, hfr, hlc⟩ := C
  unfold znext at hn
  split at hn <;> try contradiction
  split at hn <;> try contradiction
  split at hn <;> try contradiction
  cases hn
  rename_i v u r hv
  exact lv_dup_x1 hx hb hd ((ztv_cat hst.2.1 v).trans hv.1) ((ztv_cat hst.2.1 u).trans hv.2) (k H locs ls cells slots h1 h2 ⟨hdyn, hS, hl, hlen, hwl, zwfc (zwf1 hws) (zwfc (zwf1 (zwf2 hws)) (zwfc (zwf1 hws) (zwf2 (zwf2 hws))))⟩)
set_option maxHeartbeats 1000000 in
theorem zs_goto {off : Int} (C : zCtx p R s m args meth c lo roa sio D rS rC d M) (hd : decode (zB M) pc = .ok (.goto off, len)) (hn : znext d M pc L st μ (.goto off) len = some q) (k : zGo p l e R s m args below meth c Q lo roa sio D rS rC M a1 a2 b1 b2 q) : zGo p l e R s m args below meth c Q lo roa sio D rS rC M a1 a2 b1 b2 (pc, L, st, μ) := by
  intro H locs ls cells slots h1 h2 h3
  obtain ⟨hdyn, hS, hl, hlen, hwl, hws⟩ := h3
  obtain ⟨hx, hb, hml, hown, hts, hr, hlk, hini, hst, hlo, hfr, hlc⟩ := C
  unfold znext at hn
  split at hn <;> try contradiction
  injections
  subst_vars
  split at hn <;> try contradiction
  cases hn
  rename_i t ht
  exact lv_goto hx hb hd (zjmp_eq ht) (k H locs ls cells slots h1 h2 ⟨hdyn, hS, hl, hlen, hwl, hws⟩)
set_option maxHeartbeats 1000000 in
theorem zs_ifnonnull {off : Int} (C : zCtx p R s m args meth c lo roa sio D rS rC d M) (hd : decode (zB M) pc = .ok (.ifnonnull off, len)) (hn : znext d M pc L st μ (.ifnonnull off) len = some q) (k : zGo p l e R s m args below meth c Q lo roa sio D rS rC M a1 a2 b1 b2 q) : zGo p l e R s m args below meth c Q lo roa sio D rS rC M a1 a2 b1 b2 (pc, L, st, μ) := by
  intro H locs ls cells slots h1 h2 h3
  obtain ⟨hdyn, hS, hl, hlen, hwl, hws⟩ := h3
  obtain ⟨hx, hb, hml, hown, hts, hr, hlk, hini, hst, hlo, hfr, hlc⟩ := C
  unfold znext at hn
  split at hn <;> try contradiction
  injections
  subst_vars
  split at hn <;> try contradiction
  cases hn
  rename_i v r t ht
  exact lv_ifnonnull hx hb hd (zjmp_eq ht) (k H locs ls cells slots h1 h2 ⟨hdyn, hS, hl, hlen, hwl, zwf2 hws⟩)
end ZS
