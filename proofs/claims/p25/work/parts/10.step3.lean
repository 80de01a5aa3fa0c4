/-! fields -/
theorem zfind {α : Type} {l : List ((Nat × Nat) × α)} {own idx : Nat} {e : (Nat × Nat) × α} (h : l.find? (fun e => e.1.1 == own && e.1.2 == idx) = some e) : e ∈ l ∧ e.1 = (own, idx) := by
  refine ⟨List.mem_of_find?_eq_some h, ?_⟩
  have h2 := List.find?_some h
  simp only [Bool.and_eq_true, beq_iff_eq] at h2
  exact Prod.ext h2.1 h2.2
theorem zFld_ok {own idx ci k fn : Nat} {isr : Bool} (h : zFld own idx = some (ci, k, isr, fn)) : ∃ (C : String) (T : u_T) (N : Nat), vwClz[ci]? = some (C, T, N) ∧ k < N ∧ Cond.fieldLink (zcn own) idx (T k).1 (T k).2.1 (T k).2.2.1 ∈ zgw ∧ zrf ci k = isr ∧ (fn = 0 → (T k).2.2.2 = false) ∧ (fn = 1 → (T k).2.2.2 = true ∧ (T k).1 = zcn own) := by
  unfold zFld at h
  rw [Option.map_eq_some_iff] at h
  obtain ⟨e, h1, h2⟩ := h
  obtain ⟨hm, he⟩ := zfind h1
  have h3 := List.all_eq_true.mp zflds_ok e hm
  unfold zokf at h3
  rw [h2, he] at h3
  dsimp only at h3
  split at h3
  · rename_i C T N hc
    simp only [Bool.and_eq_true, decide_eq_true_eq] at h3
    obtain ⟨⟨⟨⟨g1, g2⟩, g3⟩, g4⟩, g5⟩ := h3
    refine ⟨C, T, N, hc, g1, zgw_mem g2 g3, g4, fun e0 => ?_, fun e1 => ?_⟩
    · rw [if_pos e0] at g5
      simpa using g5
    · rw [if_neg (by omega), if_pos e1] at g5
      simpa using g5
  · cases h3
theorem zty_ok : ∀ (ci : Nat) (C : String) (T : u_T) (N : Nat), vwClz[ci]? = some (C, T, N) → ci < 11 ∧ N = znf ci ∧ (∀ w ∈ u_ws C T N, w ∈ zgw) ∧ (∀ a, a < N → ∀ b, b < N → a ≠ b → (T a).2.1 ≠ (T b).2.1) ∧ (∀ k, k < N → parseFieldDescriptor (T k).2.2.1 = some (zty ci k)) := by
  intro ci C T N h
  match ci, h with
  | 0, h => cases h; exact ⟨by decide, rfl, zin0, nmJ4, tyJ4_ok⟩
  | 1, h => cases h; exact ⟨by decide, rfl, zin1, nmX0, tyX0_ok⟩
  | 2, h => cases h; exact ⟨by decide, rfl, zin2, nmX1, tyX1_ok⟩
  | 3, h => cases h; exact ⟨by decide, rfl, zin3, nmX2, tyX2_ok⟩
  | 4, h => cases h; exact ⟨by decide, rfl, zin4, nmX3, tyX3_ok⟩
  | 5, h => cases h; exact ⟨by decide, rfl, zin5, nmX4, tyX4_ok⟩
  | 6, h => cases h; exact ⟨by decide, rfl, zin6, nmX5, tyX5_ok⟩
  | 7, h => cases h; exact ⟨by decide, rfl, zin7, nmX6, tyX6_ok⟩
  | 8, h => cases h; exact ⟨by decide, rfl, zin8, nmX7, tyX7_ok⟩
  | 9, h => cases h; exact ⟨by decide, rfl, zin9, nmX8, tyX8_ok⟩
  | n + 10, h => simp [vwClz] at h
/-- a reference goes into a field that holds references, a number into one of numbers -/
theorem zfit_r : ∀ ci, ci < 11 → ∀ k, k < znf ci → zrf ci k = true → ∀ a : Nat, narrow (zty ci k) (.ref a) = .ref a ∧ fits (zty ci k) (.ref a) = true := by
  have h : ∀ ci, ci < 11 → ∀ k, k < znf ci → zrf ci k = true → (match zty ci k with
    | .object _ => true
    | .array _ => true
    | _ => false) = true := by decide +kernel
  intro ci h1 k h2 h3 a
  have h4 := h ci h1 k h2 h3
  revert h4
  cases zty ci k <;> intro h4 <;> first | contradiction | exact ⟨rfl, rfl⟩
theorem zfit_i : ∀ ci, ci < 11 → ∀ k, k < znf ci → zrf ci k = false → ∀ x : Int, (ci = 0 → (k = 1 ∨ k = 2) → (x = 0 ∨ x = 1)) → narrow (zty ci k) (.int (Int32.ofInt x)) = .int (Int32.ofInt x) ∧ fits (zty ci k) (.int (Int32.ofInt x)) = true := by
  have h : ∀ ci, ci < 11 → ∀ k, k < znf ci → zrf ci k = false → (match zty ci k with
    | .int => true
    | .byte => ci == 0 && k == 1
    | .boolean => ci == 0 && k == 2
    | _ => false) = true := by decide +kernel
  intro ci h1 k h2 h3 x hx
  have h4 := h ci h1 k h2 h3
  revert h4
  cases zty ci k <;> intro h4 <;> first
    | contradiction
    | exact ⟨rfl, rfl⟩
    | (simp only [Bool.and_eq_true, beq_iff_eq] at h4
       rcases hx h4.1 (by omega) with rfl | rfl <;> exact ⟨rfl, rfl⟩)
section ZP
variable {p : Program} {l : Launch} {e : Env} {R : Room} {s : State} {m : MethodId} {args : Array Value} {below : List Frame} {meth : Method} {c : Code} {Q : State → Prop} {D : va_G} {H : Heap} {locs : List Loc} {cells slots : Nat} {cc : ByteArray} {pc : Nat} {ls : Array Slot} {rest : List Value}
theorem zget_row (hx : p.tables.exec = Jvm.exec) (hb : c.code = cc) {own Cn : String} {T : u_T} {N ci k index a : Nat} {V : Nat → Value} (hts : ∀ w ∈ zgw, w.before args s = true) (hin : ∀ w ∈ u_ws Cn T N, w ∈ zgw) (hown : s.vm.findClass own = some m.cls) (hK : va_K D vwClz [] s) (hc : vwClz[ci]? = some (Cn, T, N)) (hk : k < N) (hob : t_OB a (D.1 ci) N (D.2 ci) H V) (hlink : Cond.fieldLink own index (T k).1 (T k).2.1 (T k).2.2.1 ∈ zgw) (hdg : decode cc pc = .ok (.getfield index, 3))
    (kk : W p l e R s m args below meth c H locs cells slots Q (F0 m (pc + 3) ls (V k :: rest))) : W p l e R s m args below meth c H locs cells slots Q (F0 m pc ls (.ref a :: rest)) := by
  obtain ⟨cell, q1, q2, q3, q4⟩ := hob
  obtain ⟨hS, hfc, kC, hkC, hkind⟩ := hK.1 ci _ hc
  obtain ⟨cf, kf, fi, f, hi, hsl⟩ := hS k hk
  refine W.getf hx hb hown (hts _ hlink) hi (u_facts hfc hkC (u_lays hts hin hk) hi).1 q1 (by rw [q3]; exact fun h => by cases h) (v := V k) ?_ rfl rfl hdg kk
  rw [hsl, q4 k hk]
theorem zput_row (hx : p.tables.exec = Jvm.exec) (hb : c.code = cc) {own Cn : String} {T : u_T} {N ci k index a : Nat} {V : Nat → Value} {ty : Nat → FieldType} {v : Value} (hts : ∀ w ∈ zgw, w.before args s = true) (hin : ∀ w ∈ u_ws Cn T N, w ∈ zgw) (hty : ∀ k, k < N → parseFieldDescriptor (T k).2.2.1 = some (ty k)) (hnm : ∀ a, a < N → ∀ b, b < N → a ≠ b → (T a).2.1 ≠ (T b).2.1) (hown : s.vm.findClass own = some m.cls) (hK : va_K D vwClz [] s) (hc : vwClz[ci]? = some (Cn, T, N)) (hk : k < N) (hob : t_OB a (D.1 ci) N (D.2 ci) H V) (hlink : Cond.fieldLink own index (T k).1 (T k).2.1 (T k).2.2.1 ∈ zgw)
    (hfin : (T k).2.2.2 = false ∨ ((T k).2.2.2 = true ∧ (T k).1 = own ∧ meth.name = "<init>")) (hn : narrow (ty k) v = v) (hfit : fits (ty k) v = true) (hdg : decode cc pc = .ok (.putfield index, 3))
    (kk : ∀ H1 : Heap, t_OB a (D.1 ci) N (D.2 ci) H1 (updV V k v) → H1.size = H.size → (∀ x, x ≠ a → H1[x]? = H[x]?) → W p l e R s m args below meth c H1 (locs ++ [⟨a, D.2 ci k⟩]) cells slots Q (F0 m (pc + 3) ls rest)) : W p l e R s m args below meth c H locs cells slots Q (F0 m pc ls (v :: .ref a :: rest)) := by
  have hap := va_apart (own := own) hts hin ty hty hnm hK hc
  obtain ⟨cell, q1, q2, q3, q4⟩ := hob
  obtain ⟨hS, hfc, kC, hkC, hkind⟩ := hK.1 ci _ hc
  obtain ⟨cf, kf, fi, f, hi, hsl⟩ := hS k hk
  have hlay := hts _ (hin _ (u_in_lay hk))
  have hst := (u_facts hfc hkC (u_lays hts hin hk) hi).1
  unfold u_lay at hlay
  rcases hfin with hf | ⟨hf, hdecl, hin2⟩
  · rw [if_neg (by rw [hf]; decide)] at hlay
    have h6 := u_store hfc hkC hkind hlay hi (hty k hk) hn hfit
    refine W.putK hx hb (f := f) ⟨hown, hts _ hlink, ⟨_, _, _, hi⟩, hst⟩ (by rw [q2]; exact h6) q1 q3 (by rw [hsl]; exact k2_hasslot (q4 k hk)) rfl rfl hdg fun H' e1 e2 e3 => ?_
    rw [hsl] at e1 ⊢
    exact kk H' ⟨_, e1, q2, q3, t_set q4 hap hk v⟩ e2 e3
  · rw [if_pos hf] at hlay
    have hcf : m.cls = cf := by
      obtain ⟨_, _, c', _, _, _, -, -, hf', -, -, -, hown2, -⟩ := Cond.laysFinal_spec hlay
      have e1 : c' = cf := by have := hi.symm.trans hf'; simp at this; exact this.1.symm
      rw [hdecl] at hown2
      rw [← e1]; exact Option.some.inj (hown.symm.trans hown2)
    have h6 := u_fits hfc hkC hkind (Or.inr hlay) hi (hty k hk) hn hfit
    refine W.putFinK hx hb hown (hts _ hlink) hi hst hcf hin2 (by rw [q2]; exact h6) q1 q3 (by rw [hsl]; exact k2_hasslot (q4 k hk)) rfl rfl hdg fun H' e1 e2 e3 => ?_
    rw [hsl] at e1 ⊢
    exact kk H' ⟨_, e1, q2, q3, t_set q4 hap hk v⟩ e2 e3
end ZP
