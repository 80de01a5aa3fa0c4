/-! the interpreter is right: calls, and the whole -/
section ZK
variable {p : Program} {l : Launch} {e : Env} {R : Room} {s : State} {m : MethodId} {args : Array Value} {below : List Frame} {meth : Method} {c : Code} {Q : State → Prop} {H : Heap} {locs : List Loc} {cells slots mc ms : Nat} {pc : Nat} {ls : Array Slot} {rest st0 : List Value} {lo : Nat} {roa : Nat → Nat} {sio : Value} {D : va_G} {rS : zSh} {rC : zC} {μ μ1 : zMem} {v : Option zV} {aa : Array Value}
theorem zcall_go (hr : va_Run p l e R s m args below meth c H locs cells slots mc ms (F0 m pc ls st0) rest (zQ lo roa sio D rS rC v μ1 aa) (fun q => lo ≤ q)) (hS : va_S (fun q => lo ≤ q) s.heap H locs)
    (kk : ∀ (H1 : Heap) (locs1 : List Loc), zdyn lo roa D rS rC μ1 s H1 → va_S (fun q => lo ≤ q) s.heap H1 locs1 → (∀ x, v = some x → zwf x) → W p l e R s m args below meth c H1 locs1 (cells + mc) (slots + ms) Q (F0 m (pc + 3) ls ((v.map (ztv lo roa sio)).toList ++ rest))) : W p l e R s m args below meth c H locs cells slots Q (F0 m pc ls st0) := by
  intro T hT X
  obtain ⟨v', st₀, t, T', L, h0, X', hL, e1, e2, ⟨hv, hd, hw, hz, hk⟩, st⟩ := hr T hT X
  cases hv
  rw [h0] at hz hk
  have hal : t.vm.Alike s.vm := by
    have h9 := X'.warmed.alike
    rw [e2] at h9
    exact h9.symm
  obtain ⟨t2, a1, b1⟩ := kk T'.heap (locs ++ L) (by rw [e1]; exact hd.moved hal) ⟨Nat.le_trans hS.1 (by rw [e1]; exact hz), fun q h1 h2 => by rw [e1, hk q (Nat.lt_of_lt_of_le h1 hS.1) h2]; exact hS.2.1 q h1 h2, fun q hq => by
      rcases List.mem_append.mp hq with h | h
      · exact hS.2.2 q h
      · exact hL q h⟩ hw T' rfl X'
  exact ⟨t2, st t2 a1, b1⟩
theorem zblind {as : List zV} : FrameBlind (zPc lo roa sio D rS rC as μ) := fun a U g mk h => by
  obtain ⟨h1, h2, h3, h4⟩ := h
  exact ⟨h1, h2.moved (u := U) (U := U.calling g mk a) (Vm.Alike.refl U.vm), h3.same (u := U) (U := U.calling g mk a) rfl, h4⟩
theorem zPc_at {as : List zV} (hdyn : zdyn lo roa D rS rC μ s H) (hst : zstat lo roa sio D rS rC s s.heap) (hS : va_S (fun q => lo ≤ q) s.heap H locs) (hlo : lo ≤ s.heap.size) : ∀ U : State, U.heap = H → s.WarmedH U.vm → zPc lo roa sio D rS rC as μ (as.map (ztv lo roa sio)).toArray U := fun U hU hW =>
  ⟨rfl, by rw [hU]; exact hdyn.moved hW.alike, by rw [hU]; exact (hst.warm hW).kept hS.2.1, by rw [hU]; exact Nat.le_trans hlo hS.1⟩
theorem zrecv_o {ci q : Nat} {Cn : String} (hK : va_K D vwClz [] s) (hsta : zsta lo roa sio rS rC s s.heap) (hdyn : zdyn lo roa D rS rC μ s H) (ht : (μ.2.1 q).1 = ci) (hci : ci < 11) (hc : (vwClz[ci]?).map (fun q => q.1) = some Cn) : ∃ cellB : Cell, H[zad lo roa q]? = some cellB ∧ cellB.vm.isStatics = false ∧ s.vm.findClass Cn = some cellB.cls := by
  obtain ⟨h8, hqn⟩ := zrange (q := q) hdyn hsta (by omega) (by omega) (by omega) (by omega)
  have hob := (hdyn.2.2.1 q h8 hqn).1 (by omega)
  rw [ht] at hob
  obtain ⟨cell, g1, g2, g3, -⟩ := hob
  rw [Option.map_eq_some_iff] at hc
  obtain ⟨q', hq', e1⟩ := hc
  refine ⟨cell, by rw [zaddr h8]; exact g1, by rw [g3]; rfl, ?_⟩
  rw [g2, ← e1]
  exact (hK.1 ci q' hq').2.1
theorem zrecv_s {q : Nat} (hsta : zsta lo roa sio rS rC s s.heap) (hS : va_S (fun q => lo ≤ q) s.heap H locs) (hdyn : zdyn lo roa D rS rC μ s H) (ht : (μ.2.1 q).1 = 11) : ∃ cellB : Cell, H[zad lo roa q]? = some cellB ∧ cellB.vm.isStatics = false ∧ s.vm.findClass "java/lang/String" = some cellB.cls := by
  have h8 : q < 8 := by
    refine Nat.lt_of_not_le fun h8 => ?_
    by_cases hn9 : q < μ.1.1
    · exact (hdyn.2.2.1 q h8 hn9).2.2.2.2.1 ht
    · have := hdyn.2.2.2.1 q (Nat.le_of_not_lt hn9)
      omega
  have eS := hdyn.2.2.2.2.2 q h8
  rw [eS.1] at ht
  obtain ⟨cell, g1, g2, g3, -⟩ := (((zstaH hsta hS).1 q h8).2.2.2 ht).1
  refine ⟨cell, ?_, g2, g3⟩
  unfold zad
  rw [if_pos h8]
  exact g1
end ZK
theorem zstack {tv : zV → Value} (st : List zV) (n : Nat) : st.map tv = (((st.take n).reverse).map tv).reverse ++ (st.drop n).map tv := by
  rw [← List.map_reverse, List.reverse_reverse, ← List.map_append, List.take_append_drop]
theorem ztake_one {st : List zV} {n : Nat} (h : (st.take n).all zone = true) : ∀ x ∈ (st.take n).reverse, zcat x = 1 := fun x hx => by
  have h1 := List.all_eq_true.mp h x (List.mem_reverse.mp hx)
  unfold zone at h1
  simpa using h1
section ZQ
variable {p : Program} {l : Launch} {e : Env} {R : Room} {s : State} {m : MethodId} {args : Array Value} {below : List Frame} {meth : Method} {c : Code} {Q : State → Prop} {lo : Nat} {roa : Nat → Nat} {sio : Value} {D : va_G} {rS : zSh} {rC : zC} {d M a1 a2 b1 b2 : Nat} {pc len : Nat} {L : zLs} {st : List zV} {μ μ1 : zMem} {f M1 : Nat} {as rest : List zV} {v : Option zV} {op : Instr}
set_option maxHeartbeats 4000000 in
theorem zinv_ok (IH : zSound f) (C : zCtx p R s m args meth c lo roa sio D rS rC (d + 1) M) (hd : decode (zB M) pc = .ok (op, len)) (hi : zinv M st μ op len = some (M1, as, rest)) (hc : zgo f d M1 0 (zent M1 as) [] μ = some (v, μ1)) (hrm : μ1.1.1 + b1 ≤ R.cells + a1 ∧ μ1.1.2 + b2 ≤ R.slots + a2)
    (k : zGo p l e R s m args below meth c Q lo roa sio D rS rC M a1 a2 b1 b2 (pc + 3, L, v.toList ++ rest, μ1)) : zGo p l e R s m args below meth c Q lo roa sio D rS rC M a1 a2 b1 b2 (pc, L, st, μ) := by
  intro H locs ls cells slots h1 h2 h3
  dsimp only at h1 h2 h3 ⊢
  obtain ⟨hdyn, hS, hl, hlen, hwl, hws⟩ := h3
  obtain ⟨hx, hb, hml, hown, hts, hr, hlk, hini, hst, hlo, hfr, hlc⟩ := C
  have hmono := zgo_mono _ _ _ _ _ _ _ _ _ hc
  have hfin : ∀ (H1 : Heap) (locs1 : List Loc), zdyn lo roa D rS rC μ1 s H1 → va_S (fun q => lo ≤ q) s.heap H1 locs1 → (∀ x, v = some x → zwf x) → (∀ x ∈ rest, zwf x) → W p l e R s m args below meth c H1 locs1 (cells + (μ1.1.1 - μ.1.1)) (slots + (μ1.1.2 - μ.1.2)) Q (F0 m (pc + 3) ls ((v.map (ztv lo roa sio)).toList ++ rest.map (ztv lo roa sio))) := fun H1 locs1 g1 g2 g3 g4 => by
    have h9 := k H1 locs1 ls (cells + (μ1.1.1 - μ.1.1)) (slots + (μ1.1.2 - μ.1.2)) (by dsimp only; omega) (by dsimp only; omega) ⟨g1, g2, hl, hlen, hwl, fun x hx => by
      rcases List.mem_append.mp hx with h | h
      · cases v with
        | none => cases h
        | some w =>
          have : x = w := by simpa using h
          subst this
          exact g3 x rfl
      · exact g4 x h⟩
    cases v <;> exact h9
  have hcf : cells + (μ1.1.1 - μ.1.1) ≤ R.cells ∧ slots + (μ1.1.2 - μ.1.2) ≤ R.slots := by omega
  unfold zinv at hi
  split at hi <;> try contradiction
  · -- static
    split at hi <;> try contradiction
    rename_i i M' n hC
    split at hi <;> try contradiction
    rename_i hq
    cases hi
    obtain ⟨q1, q2, q3⟩ := hq
    obtain ⟨m1, m2, m3, -⟩ := zCall_M hC
    obtain ⟨s1, s2, s3, -, -⟩ := zCall_s hC (by decide)
    have hw := zCall_g hC (by decide)
    have hz := zcls_ok m1
    have m3 := m3 (by decide)
    rw [if_pos rfl] at m3
    have hone := ztake_one q2
    have hlen2 : (st.take n).reverse.length = n := by simp; omega
    have hM := zmet (l := l) (lo := lo) (roa := roa) (D := D) (rS := rS) (rC := rC) IH hc m1 m2 (by omega) hone (fun x hx => hws x (List.mem_of_mem_take (List.mem_reverse.mp hx))) hst.2.1
    exact zcall_go (va_runS (As := (st.take n).reverse.map (ztv lo roa sio)) (rest := (st.drop n).map (ztv lo roa sio)) (g := F0 m pc ls (st.map (ztv lo roa sio))) ⟨hx, hb, hml, hown, hts⟩ hM (va_cwS n hts (zGI m1 m2 hw) rfl rfl rfl ⟨s1, s2, s3⟩ ⟨hfr, by show 8 + (zL M1 + 11) + (38 * d + 2) ≤ _; omega⟩) ⟨zblind, zPc_at hdyn hst hS hlo⟩ rfl (by rw [List.length_map]; exact hlen2) hl.1 (zstack st n) (lv_room (rest := st.map (ztv lo roa sio)) (by rw [zcats lo roa hst.2.1]; exact q3)) hd hcf) hS (fun H1 locs1 g1 g2 g3 => hfin H1 locs1 g1 g2 g3 (fun x hx => hws x (List.mem_of_mem_drop hx)))
  · -- virtual
    split at hi <;> try contradiction
    rename_i i kd M' n hC
    split at hi <;> try contradiction
    rename_i hq
    obtain ⟨q1, q2, q3⟩ := hq
    split at hi <;> try contradiction
    rename_i b r hdr
    split at hi <;> try contradiction
    rename_i hk
    cases hi
    have hkd : kd = 1 ∨ kd = 2 := hk.elim (fun h => Or.inl h.1) (fun h => Or.inr h.1)
    obtain ⟨m1, m2, m3, m4⟩ := zCall_M hC
    obtain ⟨s1, s2, s3, -, -⟩ := zCall_s hC (by omega)
    have hw := zCall_g hC (by omega)
    have hz := zcls_ok m1
    have m3 := m3 (by omega)
    rw [if_neg (by omega)] at m3
    have hone := ztake_one q2
    have hlen2 : (st.take n).reverse.length = n := by simp; omega
    have hdr2 : st.drop (n + 1) = rest := by
      rw [← List.drop_drop, hdr]
      rfl
    have hmem : ∀ x ∈ zA b :: rest, x ∈ st := fun x hx => List.mem_of_mem_drop (by rw [hdr]; exact hx)
    have hone2 : ∀ x ∈ zA b :: (st.take n).reverse, zcat x = 1 := fun x hx => (List.mem_cons.mp hx).elim (fun e => by rw [e]; rfl) (hone x)
    have hM := zmet (l := l) (lo := lo) (roa := roa) (D := D) (rS := rS) (rC := rC) IH hc m1 m2 (by simp; omega) hone2 (fun x hx => (List.mem_cons.mp hx).elim (fun e => by rw [e]; trivial) (fun h => hws x (List.mem_of_mem_take (List.mem_reverse.mp h)))) hst.2.1
    have hstk : st.map (ztv lo roa sio) = ((st.take n).reverse.map (ztv lo roa sio)).reverse ++ .ref (zad lo roa b) :: rest.map (ztv lo roa sio) := by
      rw [zstack st n, hdr]
      rfl
    have hsum : 2 * (F0 m pc ls (st.map (ztv lo roa sio))).monitorRoom + ((rest.map (ztv lo roa sio)).map fun v => v.category).sum ≤ 8 := lv_room (rest := st.map (ztv lo roa sio)) (by rw [zcats lo roa hst.2.1, ← hdr2]; exact q3)
    have hroom : d + 1 ≤ R.frames ∧ 8 + (zL M1 + 11) + (38 * d + 2) ≤ R.locals := ⟨hfr, by omega⟩
    rcases hk with ⟨rfl, htag⟩ | ⟨rfl, htag⟩
    · have hrv : ∃ cellB : Cell, H[zad lo roa b]? = some cellB ∧ cellB.vm.isStatics = false ∧ s.vm.findClass (zY M1).cls = some cellB.cls := by
        rw [hz.1]
        rcases ztag_cl (zK M1) (zK_lt M1 m1) (m4 rfl) with ⟨t1, t2⟩ | ⟨t1, t2⟩
        · rw [t2]
          exact zrecv_s hst.2.2.1 hS hdyn (by omega)
        · exact zrecv_o hst.1 hst.2.2.1 hdyn htag t1 t2
      exact zcall_go (va_runV (As := (st.take n).reverse.map (ztv lo roa sio)) (rest := rest.map (ztv lo roa sio)) (b := zad lo roa b) (C := (zY M1).cls) (g := F0 m pc ls (st.map (ztv lo roa sio))) ⟨hx, hb, hml, hown, hts⟩ hM (cwV n hts (zGI m1 m2 hw) rfl rfl rfl ⟨rfl, s1, s2, s3⟩ hroom) ⟨zblind, hrv, zPc_at hdyn hst hS hlo⟩ rfl (by rw [List.length_map]; exact hlen2) hl.1 hstk hsum hd hcf) hS (fun H1 locs1 g1 g2 g3 => hfin H1 locs1 g1 g2 g3 (fun x hx => hws x (hmem x (List.mem_cons_of_mem _ hx))))
    · have hrv : ∃ cellB : Cell, H[zad lo roa b]? = some cellB ∧ cellB.vm.isStatics = false ∧ s.vm.findClass RJ4 = some cellB.cls := zrecv_o hst.1 hst.2.2.1 hdyn htag (by decide) rfl
      exact zcall_go (va_runU (As := (st.take n).reverse.map (ztv lo roa sio)) (rest := rest.map (ztv lo roa sio)) (b := zad lo roa b) (C := RJ4) (owner := (zY M1).cls) (x := zY M1) (g := F0 m pc ls (st.map (ztv lo roa sio))) ⟨hx, hb, hml, hown, hts⟩ hM (va_cwU n hts (zGI m1 m2 hw) rfl rfl rfl rfl ⟨s1, s2, s3⟩ hroom) ⟨zblind, hrv, zPc_at hdyn hst hS hlo⟩ rfl (by rw [List.length_map]; exact hlen2) hl.1 hstk hsum hd hcf) hS (fun H1 locs1 g1 g2 g3 => hfin H1 locs1 g1 g2 g3 (fun x hx => hws x (hmem x (List.mem_cons_of_mem _ hx))))
  · -- special
    split at hi <;> try contradiction
    rename_i i kd M' n hC
    split at hi <;> try contradiction
    rename_i hq
    obtain ⟨q1, q2, q3⟩ := hq
    split at hi <;> try contradiction
    rename_i b r hdr
    split at hi <;> try contradiction
    rename_i hk
    cases hi
    have hkd : kd = 3 ∨ kd = 4 ∨ kd = 5 := by omega
    obtain ⟨m1, m2, m3, m4⟩ := zCall_M hC
    obtain ⟨s1, s2, s3, s4, s5⟩ := zCall_s hC (by omega)
    have hz := zcls_ok m1
    have m3 := m3 (by omega)
    rw [if_neg (by omega)] at m3
    have hone := ztake_one q2
    have hlen2 : (st.take n).reverse.length = n := by simp; omega
    have hdr2 : st.drop (n + 1) = rest := by
      rw [← List.drop_drop, hdr]
      rfl
    have hmem : ∀ x ∈ zA b :: rest, x ∈ st := fun x hx => List.mem_of_mem_drop (by rw [hdr]; exact hx)
    have hone2 : ∀ x ∈ zA b :: (st.take n).reverse, zcat x = 1 := fun x hx => (List.mem_cons.mp hx).elim (fun e => by rw [e]; rfl) (hone x)
    have hM := zmet (l := l) (lo := lo) (roa := roa) (D := D) (rS := rS) (rC := rC) IH hc m1 m2 (by simp; omega) hone2 (fun x hx => (List.mem_cons.mp hx).elim (fun e => by rw [e]; trivial) (fun h => hws x (List.mem_of_mem_take (List.mem_reverse.mp h)))) hst.2.1
    have hstk : st.map (ztv lo roa sio) = ((st.take n).reverse.map (ztv lo roa sio)).reverse ++ .ref (zad lo roa b) :: rest.map (ztv lo roa sio) := by
      rw [zstack st n, hdr]
      rfl
    have hsum : 2 * (F0 m pc ls (st.map (ztv lo roa sio))).monitorRoom + ((rest.map (ztv lo roa sio)).map fun v => v.category).sum ≤ 8 := lv_room (rest := st.map (ztv lo roa sio)) (by rw [zcats lo roa hst.2.1, ← hdr2]; exact q3)
    have hroom : d + 1 ≤ R.frames ∧ 8 + (zL M1 + 11) + (38 * d + 2) ≤ R.locals := ⟨hfr, by omega⟩
    rcases hkd with rfl | rfl | rfl
    · have hw := zCall_g hC (by omega)
      have hwss : zws M1 = Cond.code (zY M1) (zB M1) (zL M1) none :: zgw := by unfold zws; rw [(s4 (by omega)).2]
      exact zcall_go (va_runI (As := (st.take n).reverse.map (ztv lo roa sio)) (rest := rest.map (ztv lo roa sio)) (b := zad lo roa b) (g := F0 m pc ls (st.map (ztv lo roa sio))) ⟨hx, hb, hml, hown, hts⟩ hM (cwI n hts (zGI (l := []) m1 m2 (fun w h => by cases h)) hwss rfl rfl (hts _ (hw _ (by simp [zwords]))) (hts _ (hw _ (by simp [zwords]))) (hts _ (hw _ (by simp [zwords]))) (s4 (by omega)).1 ⟨s1, s2, s3⟩ hroom) ⟨zblind, zPc_at hdyn hst hS hlo⟩ rfl (by rw [List.length_map]; exact hlen2) hl.1 hstk hsum hd hcf) hS (fun H1 locs1 g1 g2 g3 => hfin H1 locs1 g1 g2 g3 (fun x hx => hws x (hmem x (List.mem_cons_of_mem _ hx))))
    · have hw := zCall_g4 hC
      have hw0 := zCall_m hC
      have hwss : zws M1 = Cond.code (zY M1) (zB M1) (zL M1) none :: zgw := by unfold zws; rw [(s4 (by omega)).2]
      exact zcall_go (va_runIN (As := (st.take n).reverse.map (ztv lo roa sio)) (rest := rest.map (ztv lo roa sio)) (b := zad lo roa b) (g := F0 m pc ls (st.map (ztv lo roa sio))) ⟨hx, hb, hml, hown, hts⟩ hM ⟨va_cnB n hts (zGI (l := []) m1 m2 (fun w h => by cases h)) hwss rfl rfl (hst.2.2.2.2.2.1 _ _ _ (hw0 _ (by simp [zwords]))) (hts _ (hw _ (by simp [zwords]))) ⟨s1, s2, s3⟩ hroom, (s4 (by omega)).1, hts _ (hw _ (by simp [zwords]))⟩ ⟨zblind, zPc_at hdyn hst hS hlo⟩ rfl (by rw [List.length_map]; exact hlen2) hl.1 hstk hsum hd hcf) hS (fun H1 locs1 g1 g2 g3 => hfin H1 locs1 g1 g2 g3 (fun x hx => hws x (hmem x (List.mem_cons_of_mem _ hx))))
    · have hw := zCall_g hC (by omega)
      have htag : (μ.2.1 b).1 = 0 := by omega
      have hrv : ∃ cellB : Cell, H[zad lo roa b]? = some cellB ∧ cellB.vm.isStatics = false ∧ s.vm.findClass RJ4 = some cellB.cls := zrecv_o hst.1 hst.2.2.1 hdyn htag (by decide) rfl
      exact zcall_go (va_runSU (As := (st.take n).reverse.map (ztv lo roa sio)) (rest := rest.map (ztv lo roa sio)) (b := zad lo roa b) (C := RJ4) (g := F0 m pc ls (st.map (ztv lo roa sio))) (hst.1.1 0 _ rfl).2 ⟨hx, hb, hml, hown, hts⟩ hM (va_cwSU n hts (zGI m1 m2 hw) rfl rfl rfl ⟨s5 rfl, s3⟩ hroom) ⟨zblind, hrv, zPc_at hdyn hst hS hlo⟩ rfl (by rw [List.length_map]; exact hlen2) hl.1 hstk hsum hd hcf) hS (fun H1 locs1 g1 g2 g3 => hfin H1 locs1 g1 g2 g3 (fun x hx => hws x (hmem x (List.mem_cons_of_mem _ hx))))
end ZQ
theorem zret_len {M : Nat} {st : List zV} {op : Instr} {len : Nat} {r : Option zV} (h : zret M st op len = some r) : len = 1 := by
  unfold zret at h
  split at h <;> first | contradiction | rfl
theorem zsound : ∀ f, zSound f
  | 0 => fun _ _ _ _ _ _ _ _ h => by cases h
  | f + 1 => by
    have IH := zsound f
    intro d M pc L st μ r μ' h p l e R s m args below meth c Q lo roa sio D rS rC a1 a2 b1 b2 C hrm K
    unfold zgo at h
    split at h
    · rename_i op len hdec
      split at h
      · rename_i pc1 L1 st1 μ1 hn
        have hm := zgo_mono _ _ _ _ _ _ _ _ _ h
        exact znext_ok C hdec hn (by dsimp only; omega) (IH _ _ _ _ _ _ _ _ h p l e R s m args below meth c Q lo roa sio D rS rC a1 a2 b1 b2 C hrm K)
      · split at h
        · rename_i M1 as rest hi
          split at h
          · cases h
          · rename_i d1
            split at h
            · rename_i v μ1 hc
              have hm := zgo_mono _ _ _ _ _ _ _ _ _ h
              exact zinv_ok IH C hdec hi hc (by omega) (IH _ _ _ _ _ _ _ _ h p l e R s m args below meth c Q lo roa sio D rS rC a1 a2 b1 b2 C hrm K)
            · cases h
        · split at h
          · rename_i v hret
            cases h
            have hl := zret_len hret
            subst hl
            exact K pc op L st hdec hret
          · cases h
    · cases h
