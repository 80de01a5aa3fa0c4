/-! the interpreter is right: what it answers the machine answers -/
def zokM (e : (Nat × Nat) × (Nat × (Nat × Nat)) × List Nat) : Bool :=
  decide (e.2.1.2.1 < 168) && decide (e.2.1.2.1 ≠ 138) && (decide (6 ≤ e.2.1.1) || decide (e.2.1.2.2 + (if e.2.1.1 = 0 then 0 else 1) ≤ zL e.2.1.2.1)) && (!(e.2.1.1 == 1) || decide (zTag (zK e.2.1.2.1) ≠ 99)) && (!(e.2.1.1 == 2) || decide ((zY e.2.1.2.1).cls = RJ5))
theorem zcallsM : zcalls.all zokM = true := by decide +kernel
theorem zCall_M {own idx kd M' n : Nat} (h : zCall own idx = some (kd, M', n)) : M' < 168 ∧ M' ≠ 138 ∧ (kd < 6 → n + (if kd = 0 then 0 else 1) ≤ zL M') ∧ (kd = 1 → zTag (zK M') ≠ 99) := by
  unfold zCall at h
  rw [Option.map_eq_some_iff] at h
  obtain ⟨e, h1, h2⟩ := h
  obtain ⟨hm, he⟩ := zfind h1
  have h3 := List.all_eq_true.mp zcallsM e hm
  unfold zokM at h3
  rw [h2] at h3
  simp only [Bool.and_eq_true, Bool.or_eq_true, decide_eq_true_eq, Bool.not_eq_true', beq_eq_false_iff_ne, ne_eq] at h3
  obtain ⟨⟨⟨⟨g1, g2⟩, g3⟩, g4⟩, -⟩ := h3
  exact ⟨g1, g2, fun hk => g3.resolve_left (by omega), fun hk => g4.resolve_left (by omega)⟩
theorem zcls_ok {M : Nat} (h : M < 168) : (zY M).cls = zcn (zK M) ∧ zL M ≤ 19 ∧ Jvm.plainName (zY M).cls = true := by
  have h1 := List.all_eq_true.mp zcls_all M (List.mem_range.mpr h)
  simp only [Bool.and_eq_true, decide_eq_true_eq] at h1
  exact ⟨h1.1.1, h1.1.2, h1.2⟩
theorem ztag_cl : ∀ k, k < 20 → zTag k ≠ 99 → (zTag k = 11 ∧ zcn k = "java/lang/String") ∨ (zTag k < 11 ∧ (vwClz[zTag k]?).map (fun q => q.1) = some (zcn k)) := by decide +kernel
theorem zK_lt : ∀ M, M < 168 → zK M < 20 := by decide +kernel
def zws (M : Nat) : List Cond := Cond.code (zY M) (zB M) (zL M) (zR M) :: zgw
theorem zGI {M : Nat} (h : M < 168) (hl : M ≠ 138) {l : List Cond} (hs : ∀ w ∈ l, w ∈ zgw) : GoodIn zgw (l ++ zws M) := by
  intro w hw
  have h1 : w ∈ zgw := by
    rcases List.mem_append.mp hw with h2 | h2
    · exact hs w h2
    · rcases List.mem_cons.mp h2 with rfl | h3
      · exact zcode_ok M h hl
      · exact h3
  exact ⟨h1, good_of_word (zgw_good w h1).2⟩
def zQ (lo : Nat) (roa : Nat → Nat) (sio : Value) (D : va_G) (rS : zSh) (rC : zC) (v : Option zV) (μ : zMem) : Array Value → State → Outcome → State → Prop := fun _ st o t =>
  o = .returned (v.map (ztv lo roa sio)) ∧ zdyn lo roa D rS rC μ t t.heap ∧ (∀ x, v = some x → zwf x) ∧ va_F (fun q => lo ≤ q) st t
def zPc (lo : Nat) (roa : Nat → Nat) (sio : Value) (D : va_G) (rS : zSh) (rC : zC) (as : List zV) (μ : zMem) : Array Value → State → Prop :=
  va_Pc (as.map (ztv lo roa sio)) (fun U => zdyn lo roa D rS rC μ U U.heap ∧ zstat lo roa sio D rS rC U U.heap ∧ lo ≤ U.heap.size)
def zRm (d : Nat) (μ μ' : zMem) : Room := { frames := d, cells := μ'.1.1 - μ.1.1, slots := μ'.1.2 - μ.1.2, locals := 38 * d + 2 }
def zSound (f : Nat) : Prop := ∀ (d M pc : Nat) (L : zLs) (st : List zV) (μ : zMem) (r : Option zV) (μ' : zMem), zgo f d M pc L st μ = some (r, μ') →
  ∀ (p : Program) (l : Launch) (e : Env) (R : Room) (s : State) (m : MethodId) (args : Array Value) (below : List Frame) (meth : Method) (c : Code) (Q : State → Prop) (lo : Nat) (roa : Nat → Nat) (sio : Value) (D : va_G) (rS : zSh) (rC : zC) (a1 a2 b1 b2 : Nat),
    zCtx p R s m args meth c lo roa sio D rS rC d M → μ'.1.1 + b1 ≤ R.cells + a1 ∧ μ'.1.2 + b2 ≤ R.slots + a2 →
    (∀ (pc' : Nat) (op : Instr) (L' : zLs) (st' : List zV), decode (zB M) pc' = .ok (op, 1) → zret M st' op 1 = some r → zGo p l e R s m args below meth c Q lo roa sio D rS rC M a1 a2 b1 b2 (pc', L', st', μ')) →
    zGo p l e R s m args below meth c Q lo roa sio D rS rC M a1 a2 b1 b2 (pc, L, st, μ)
theorem zargs_lv {tv : zV → Value} : ∀ (as : List zV) (i : Nat), (∀ v ∈ as, (tv v).category = 1) → lv_args i (as.map tv) = zlv tv i (as.map some)
  | [], _, _ => rfl
  | v :: as, i, h => by
    have h1 := h v List.mem_cons_self
    show (i, tv v) :: lv_args (if (tv v).category = 2 then i + 2 else i + 1) (as.map tv) = (i, tv v) :: zlv tv (i + 1) (as.map some)
    rw [if_neg (by omega), zargs_lv as (i + 1) (fun u hu => h u (List.mem_cons_of_mem _ hu))]
theorem zargs_sl {tv : zV → Value} : ∀ (as : List zV), (∀ v ∈ as, (tv v).category = 1) → (lg_sl (as.map tv)).length = as.length
  | [], _ => rfl
  | v :: as, h => by
    have h1 := h v List.mem_cons_self
    have h2 := zargs_sl as (fun u hu => h u (List.mem_cons_of_mem _ hu))
    unfold lg_sl at h2 ⊢
    rw [List.map_cons, List.flatMap_cons, if_neg (by omega)]
    simp only [List.length_append, List.length_cons, List.length_nil, h2]
    omega
theorem zent_get {M : Nat} {as : List zV} {i : Nat} {v : zV} (h : zgetl (zent M as) i = some v) : v ∈ as := by
  unfold zgetl zent at h
  by_cases hi : i < (as.map some).length
  · rw [List.getElem?_append_left hi, List.getElem?_map] at h
    cases h2 : as[i]? with
    | none => rw [h2] at h; cases h
    | some w =>
      rw [h2] at h
      cases h
      exact List.mem_of_getElem? h2
  · rw [List.getElem?_append_right (by omega)] at h
    cases h2 : (List.replicate (zL M - as.length) (none : Option zV))[i - (as.map some).length]? with
    | none => rw [h2] at h; cases h
    | some w =>
      rw [h2] at h
      have h3 := List.mem_of_getElem? h2
      rw [List.eq_of_mem_replicate h3] at h
      cases h
theorem zmet {f d M : Nat} (IH : zSound f) {l : Launch} {as : List zV} {μ : zMem} {v : Option zV} {μ' : zMem} (h : zgo f d M 0 (zent M as) [] μ = some (v, μ')) (hM : M < 168) (hML : M ≠ 138) (hlen : as.length ≤ zL M) (hone : ∀ x ∈ as, zcat x = 1) (hwf : ∀ x ∈ as, zwf x) {lo : Nat} {roa : Nat → Nat} {sio : Value} {D : va_G} {rS : zSh} {rC : zC} (hsio : sio.category = 1) :
    Met l (zY M) (zws M) (zRm d μ μ') (zPc lo roa sio D rS rC as μ) (zQ lo roa sio D rS rC v μ') (μ'.1.1 - μ.1.1) (μ'.1.2 - μ.1.2) (fun q => lo ≤ q) := by
  obtain ⟨c1, c2, c3⟩ := zcls_ok hM
  refine Met.ofW (cc := zB M) (maxL := zL M) (ret := zR M) c3 rfl ?_
  intro p e s m args below meth c s₁ B hml hv
  obtain ⟨rfl, hdyn, hst, hlo⟩ := hv
  have hts0 := atoms_spec (ws := zws M) B.pre
  have hts : ∀ w ∈ zgw, w.before (as.map (ztv lo roa sio)).toArray s = true := fun w hw => hts0 w (List.mem_cons_of_mem _ hw)
  have hown : s.vm.findClass (zcn (zK M)) = some m.cls := by rw [← c1]; exact findClass_of_methodNamed B.named
  have hname : meth.name = (zY M).name := (name_of_methodNamed B.named B.method).1
  have hcat : ∀ x ∈ as, (ztv lo roa sio x).category = 1 := fun x hx => (ztv_cat hsio x).trans (hone x hx)
  have hmono := zgo_mono _ _ _ _ _ _ _ _ _ h
  have hl := lv_entry (as.map (ztv lo roa sio)) (n := zL M) (by rw [zargs_sl as hcat]; exact hlen)
  rw [lg_entry_eq]
  generalize (lg_sl (as.map (ztv lo roa sio)) ++ List.replicate (zL M - (lg_sl (as.map (ztv lo roa sio))).length) Slot.unset).toArray = ls at hl ⊢
  rw [zargs_lv as 0 hcat] at hl
  have hl2 : lv_has ls (zL M) (zlv (ztv lo roa sio) 0 (zent M as)) := by
    refine zlv_less hl (fun q hq => ?_)
    obtain ⟨j, x⟩ := q
    obtain ⟨k, w, rfl, hk, rfl⟩ := (zlv_mem _ 0 j x).mp hq
    refine (zlv_mem _ 0 _ _).mpr ⟨k, w, rfl, ?_, rfl⟩
    unfold zent at hk
    by_cases hi : k < (as.map some).length
    · rw [List.getElem?_append_left hi] at hk
      exact hk
    · rw [List.getElem?_append_right (by omega)] at hk
      have h3 := List.eq_of_mem_replicate (List.mem_of_getElem? hk)
      cases h3
  have key := IH d M 0 (zent M as) [] μ v μ' h p l e (headSpec (zws M) (zRm d μ μ')).room s m (as.map (ztv lo roa sio)).toArray below meth c (MQ below (zQ lo roa sio D rS rC v μ') (as.map (ztv lo roa sio)).toArray s (μ'.1.1 - μ.1.1) (μ'.1.2 - μ.1.2) (fun q => lo ≤ q)) lo roa sio D rS rC μ.1.1 μ.1.2 0 0
    ⟨B.exec, B.bytes, hml, hown, hts, B.returns, B.notSynchronized, fun e => hname.trans e, hst, hlo, Nat.le_refl _, Nat.le_refl _⟩
    (by show μ'.1.1 + 0 ≤ μ'.1.1 - μ.1.1 + μ.1.1 ∧ μ'.1.2 + 0 ≤ μ'.1.2 - μ.1.2 + μ.1.2; omega) ?_
  · exact key s.heap [] ls 0 0 (by dsimp only; omega) (by dsimp only; omega) ⟨hdyn, va_S.rf, hl2, by
      show (zent M as).length = zL M
      unfold zent
      simp
      omega, fun i x hx => hwf x (zent_get hx), fun x hx => by cases hx⟩
  · intro pc' op L' st' hd' hr' H locs ls' cells slots h1 h2 h3
    obtain ⟨hdyn', hS', -, -, -, hws'⟩ := h3
    dsimp only at h1 h2 hdyn' hS' hws' ⊢
    have e1 : cells = μ'.1.1 - μ.1.1 := by omega
    have e2 : slots = μ'.1.2 - μ.1.2 := by omega
    subst e1
    subst e2
    have hq : ∀ (v : Option zV) (o : Option Value), o = v.map (ztv lo roa sio) → (∀ x, v = some x → zwf x) → ∀ t : State, t.heap = H → s.WarmedH t.vm → zQ lo roa sio D rS rC v μ' (as.map (ztv lo roa sio)).toArray s (.returned o) t := fun v o ho hw t ht hW => ⟨by rw [ho], by rw [ht]; exact hdyn'.moved hW.alike, hw, hS'.F ht⟩
    unfold zret at hr'
    split at hr' <;> try contradiction
    · split at hr' <;> try contradiction
      rename_i x
      split at hr' <;> try contradiction
      · rename_i e0
        cases hr'
        exact W.iret B.exec B.bytes (B.returns.trans e0) (hq (some (zI x)) _ rfl (fun y hy => by cases hy; exact hws' _ List.mem_cons_self)) hS'.2.2 hd' B.notSynchronized
      · rename_i e0
        split at hr' <;> try contradiction
        rename_i hx
        cases hr'
        exact W.zret B.exec B.bytes (B.returns.trans e0) (by rcases hx with rfl | rfl <;> rfl) (hq (some (zI x)) _ rfl (fun y hy => by cases hy; exact hws' _ List.mem_cons_self)) hS'.2.2 hd' B.notSynchronized
      · rename_i e0
        split at hr' <;> try contradiction
        rename_i hx
        cases hr'
        exact W.zret B.exec B.bytes (B.returns.trans e0) (by subst hx; rfl) (hq (some (zI x)) _ rfl (fun y hy => by cases hy; exact hws' _ List.mem_cons_self)) hS'.2.2 hd' B.notSynchronized
      · rename_i e0
        split at hr' <;> try contradiction
        rename_i hx
        cases hr'
        exact W.zret B.exec B.bytes (B.returns.trans e0) (by
          have e9 : Int32.ofInt x = nI x.toNat := by rw [← z_nat]; congr 1; omega
          rw [e9]
          exact (pk_charN (q := x.toNat) (by omega)).1) (hq (some (zI x)) _ rfl (fun y hy => by cases hy; exact hws' _ List.mem_cons_self)) hS'.2.2 hd' B.notSynchronized
    · split at hr' <;> try contradiction
      rename_i x
      split at hr' <;> try contradiction
      rename_i e0
      cases hr'
      exact W.lret B.exec B.bytes (B.returns.trans e0) (hq (some (zJ x)) _ rfl (fun y hy => by cases hy; exact hws' _ List.mem_cons_self)) hS'.2.2 hd' B.notSynchronized
    · split at hr' <;> try contradiction
      rename_i x
      split at hr' <;> try contradiction
      · rename_i nm e0
        cases hr'
        exact W.aret B.exec B.bytes (B.returns.trans e0) (Or.inl ⟨_, rfl⟩) (Or.inr ⟨_, rfl⟩) (hq (some (zA x)) _ rfl (fun y hy => by cases hy; trivial)) hS'.2.2 hd' B.notSynchronized
      · rename_i nm e0
        cases hr'
        exact W.aret B.exec B.bytes (B.returns.trans e0) (Or.inr ⟨_, rfl⟩) (Or.inr ⟨_, rfl⟩) (hq (some (zA x)) _ rfl (fun y hy => by cases hy; trivial)) hS'.2.2 hd' B.notSynchronized
    · split at hr' <;> try contradiction
      rename_i e0
      cases hr'
      obtain ⟨rfl, e0⟩ := e0
      exact W.vret B.exec B.bytes (B.returns.trans e0) (hq none _ rfl (fun y hy => by cases hy)) hS'.2.2 hd' B.notSynchronized
