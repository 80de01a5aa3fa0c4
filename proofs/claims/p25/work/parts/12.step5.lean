/-! one instruction of the interpreter is one of the machine: fields written, new cells, the library's own calls -/
theorem zcast {a b : Nat} : ((a : Int) = (b : Int)) ↔ a = b := by omega
theorem zfv_put {lo : Nat} {roa : Nat → Nat} {μ : zMem} {f kf k : Nat} {x : Int} (h : zrf (μ.2.1 f).1 kf = false) : updV (zfv lo roa μ f) kf (.int (Int32.ofInt x)) k = zfv lo roa (μ.1, (μ.2.1, zup μ.2.2 f kf x)) f k := by
  unfold updV zfv
  dsimp only
  rw [zup_q]
  by_cases e : k = kf
  · subst e
    rw [if_pos rfl, if_neg (by rw [h]; decide), if_pos rfl]
  · rw [if_neg e, if_neg (fun h2 => e (zcast.mp h2))]
theorem zfv_putr {lo : Nat} {roa : Nat → Nat} {μ : zMem} {f kf k v : Nat} (h : zrf (μ.2.1 f).1 kf = true) : updV (zfv lo roa μ f) kf (.ref (zad lo roa v)) k = zfv lo roa (μ.1, (zsup μ.2.1 f ((μ.2.1 f).1, ((μ.2.1 f).2.1, zrup (μ.2.1 f).2.2 kf (some v))), μ.2.2)) f k := by
  unfold updV zfv
  simp only [zsup_q]
  unfold zrup
  by_cases e : k = kf
  · subst e
    rw [if_pos rfl, if_pos h, if_pos rfl]
    rfl
  · rw [if_neg e, if_neg (fun h2 => e (zcast.mp h2))]
section ZS
variable {p : Program} {l : Launch} {e : Env} {R : Room} {s : State} {m : MethodId} {args : Array Value} {below : List Frame} {meth : Method} {c : Code} {Q : State → Prop} {lo : Nat} {roa : Nat → Nat} {sio : Value} {D : va_G} {rS : zSh} {rC : zC} {d M a1 a2 b1 b2 : Nat} {pc len : Nat} {L : zLs} {st : List zV} {μ : zMem} {q : zst}
set_option maxHeartbeats 1000000 in
theorem zs_putfield {i : Nat} (C : zCtx p R s m args meth c lo roa sio D rS rC d M) (hd : decode (zB M) pc = .ok (.putfield i, len)) (hn : znext d M pc L st μ (.putfield i) len = some q) (k : zGo p l e R s m args below meth c Q lo roa sio D rS rC M a1 a2 b1 b2 q) : zGo p l e R s m args below meth c Q lo roa sio D rS rC M a1 a2 b1 b2 (pc, L, st, μ) := by
  intro H locs ls cells slots h1 h2 h3
  dsimp only at h1 h2 h3 ⊢
  obtain ⟨hdyn, hS, hl, hlen, hwl, hws⟩ := h3
  obtain ⟨hx, hb, hml, hown, hts, hr, hlk, hini, hst, hlo, hfr, hlc⟩ := C
  unfold znext at hn
  split at hn <;> try contradiction
  injections
  subst_vars
  rename_i i
  split at hn
  · rename_i x f r ci kf fn hF
    split at hn <;> try contradiction
    rename_i ht
    cases hn
    obtain ⟨Cn, T, N, hc, hk, hlink, hrf, hf0, -⟩ := zFld_ok hF
    obtain ⟨hci, hN, hin, hnm, hty⟩ := zty_ok ci Cn T N hc
    have ht1 := ht.1
    obtain ⟨h8, hqn⟩ := zrange (q := f) hdyn hst.2.2.1 (by omega) (by omega) (by omega) (by omega)
    have hz := hdyn.2.2.1 f h8 hqn
    have hob := hz.1 (by omega)
    rw [ht1, ← hN] at hob
    obtain ⟨n1, n2⟩ := zfit_i ci hci kf (by omega) hrf x ht.2.2
    have h0 := zput_row (rest := r.map (ztv lo roa sio)) (ls := ls) (v := .int (Int32.ofInt x)) (ty := zty ci) hx hb hts hin hty hnm hown hst.1 hc hk hob hlink (Or.inl (hf0 ht.2.1)) n1 n2 hd (fun H1 g1 g2 g3 => k H1 _ ls cells slots h1 h2 ⟨zdyn_set (q := f) hdyn h8 hqn rfl (fun r hr => ⟨rfl, zup_ne hr⟩) (by
        refine ⟨fun _ => ?_, fun h => absurd (ht1.symm.trans h) (by omega), fun h => absurd (ht1.symm.trans h) (by omega), fun h => absurd (ht1.symm.trans h) (by omega), hz.2.2.2.2⟩
        dsimp only
        rw [ht1, ← hN]
        exact g1.to (fun k _ => zfv_put (by rw [ht1]; exact hrf))) (fun k => by dsimp only; rw [zup_q]; split <;> first | exact zwf1 hws | exact hdyn.2.2.2.2.1 _ _) g2 g3, zS_put hS g2 g3 (by omega), hl, hlen, hwl, zwf2 (zwf2 hws)⟩)
    rw [← zaddr (roa := roa) h8] at h0
    exact h0
  · rename_i v f r ci kf fn hF
    split at hn <;> try contradiction
    rename_i ht
    cases hn
    obtain ⟨Cn, T, N, hc, hk, hlink, hrf, hf0, hf1⟩ := zFld_ok hF
    obtain ⟨hci, hN, hin, hnm, hty⟩ := zty_ok ci Cn T N hc
    have ht1 := ht.1
    obtain ⟨h8, hqn⟩ := zrange (q := f) hdyn hst.2.2.1 (by omega) (by omega) (by omega) (by omega)
    have hz := hdyn.2.2.1 f h8 hqn
    have hob := hz.1 (by omega)
    rw [ht1, ← hN] at hob
    obtain ⟨n1, n2⟩ := zfit_r ci hci kf (by omega) hrf (zad lo roa v)
    have h0 := zput_row (rest := r.map (ztv lo roa sio)) (ls := ls) (v := .ref (zad lo roa v)) (ty := zty ci) hx hb hts hin hty hnm hown hst.1 hc hk hob hlink (ht.2.elim (fun e => Or.inl (hf0 e)) (fun e => Or.inr ⟨(hf1 e.1).1, (hf1 e.1).2, hini e.2⟩)) n1 n2 hd (fun H1 g1 g2 g3 => k H1 _ ls cells slots h1 h2 ⟨zdyn_set (q := f) hdyn h8 hqn rfl (fun r hr => ⟨zsup_ne hr, rfl⟩) (by
        refine ⟨fun _ => ?_, fun h => ?_, fun h => ?_, fun h => ?_, ?_⟩
        · dsimp only
          have g9 := g1.to (fun k _ => zfv_putr (k := k) (v := v) (lo := lo) (roa := roa) (μ := μ) (f := f) (kf := kf) (by rw [ht1]; exact hrf))
          rw [hN, ← ht1] at g9
          simp only [zsup_q]
          exact g9
        · dsimp only at h; rw [zsup_q] at h; exact absurd (ht1.symm.trans h) (by omega)
        · dsimp only at h; rw [zsup_q] at h; exact absurd (ht1.symm.trans h) (by omega)
        · dsimp only at h; rw [zsup_q] at h; exact absurd (ht1.symm.trans h) (by omega)
        · dsimp only; rw [zsup_q]; exact hz.2.2.2.2) (fun k => hdyn.2.2.2.2.1 _ _) g2 g3, zS_put hS g2 g3 (by omega), hl, hlen, hwl, zwf2 (zwf2 hws)⟩)
    rw [← zaddr (roa := roa) h8] at h0
    exact h0
  · contradiction
set_option maxHeartbeats 1000000 in
theorem zs_aastore (C : zCtx p R s m args meth c lo roa sio D rS rC d M) (hd : decode (zB M) pc = .ok (.aastore, len)) (hn : znext d M pc L st μ (.aastore) len = some q) (k : zGo p l e R s m args below meth c Q lo roa sio D rS rC M a1 a2 b1 b2 q) : zGo p l e R s m args below meth c Q lo roa sio D rS rC M a1 a2 b1 b2 (pc, L, st, μ) := by
  intro H locs ls cells slots h1 h2 h3
  dsimp only at h1 h2 h3 ⊢
  obtain ⟨hdyn, hS, hl, hlen, hwl, hws⟩ := h3
  obtain ⟨hx, hb, hml, hown, hts, hr, hlk, hini, hst, hlo, hfr, hlc⟩ := C
  unfold znext at hn
  split at hn <;> try contradiction
  split at hn <;> try contradiction
  split at hn <;> try contradiction
  cases hn
  rename_i v i f r ht
  obtain ⟨h8, hqn⟩ := zrange (q := f) hdyn hst.2.2.1 (by omega) (by omega) (by omega) (by omega)
  obtain ⟨h8v, hvn⟩ := zrange (q := v) hdyn hst.2.2.1 (by omega) (by omega) (by omega) (by omega)
  obtain ⟨cA, N, e1, e2, e3, e4, e5⟩ := (hdyn.2.2.1 f h8 hqn).2.2.2.1 ht.1
  have hi : zInR i := zwf1 (zwf2 hws)
  have hlt : i.toNat < N := by have := ht.2; omega
  have hobv := (hdyn.2.2.1 v h8v hvn).1 (by omega)
  rw [ht.2.1] at hobv
  obtain ⟨cellV, g1, g2, g3, -⟩ := hobv
  have hcls := (hst.1.1 8 _ rfl).2
  obtain ⟨kA, comp, k1, k2, k3, -⟩ := e5
  have hcomp : comp = D.1 8 := Option.some.inj (k3.symm.trans hcls.1)
  subst hcomp
  have hcls0 := hcls
  obtain ⟨kC, hkC, -⟩ := hcls.2
  have e5 : va_RA s cA (.object RX7) := ((hdyn.2.2.1 f h8 hqn).2.2.2.1 ht.1).elim (fun cA2 h => h.elim (fun N2 h => by
    have e9 : cA2 = cA := by
      have h9 := h.2.2.1.symm.trans e3
      simp only [Option.some.injEq, arrV, Cell.mk.injEq] at h9
      exact h9.1
    exact e9 ▸ h.2.2.2.2))
  have h0 := W.aast (g := F0 m pc ls (.ref (lo + (v - 8)) :: .int (Int32.ofInt i) :: .ref (lo + (f - 8)) :: r.map (ztv lo roa sio))) hx hb e3 (fun q h => by cases h) (fun h => by cases h) k1 k2 rfl hkC ⟨fun h => by rw [z_0, z_lt hi ⟨by decide, by decide⟩] at h; omega, by rw [arrV_size, z_cl hi ht.2.2.1]; exact hlt⟩ g1 (fun q h => by rw [g3] at h; cases h) (by rw [g2]; exact hkC) (by rw [g2]; exact va_assign hcls0) rfl rfl hd (fun H1 y1 y2 y3 => k H1 _ ls cells slots h1 h2 ⟨zdyn_set (q := f) hdyn h8 hqn rfl (fun r hr => ⟨zsup_ne hr, rfl⟩) (by
      refine ⟨fun h => ?_, fun h => ?_, fun h => ?_, fun h => ?_, ?_⟩
      · dsimp only at h; rw [zsup_q] at h; exact absurd h (by show ¬ (μ.2.1 f).1 < 11; omega)
      · dsimp only at h; rw [zsup_q] at h; exact absurd (ht.1.symm.trans h) (by decide)
      · dsimp only at h; rw [zsup_q] at h; exact absurd (ht.1.symm.trans h) (by decide)
      · refine ⟨cA, N, ?_, e2, ?_, e4, e5⟩
        · dsimp only; rw [zsup_q]; exact e1
        · dsimp only
          rw [zsup_q, y1, z_cl hi ht.2.2.1, zarr_set hlt]
          congr 2
          funext j
          show updV _ _ _ j = _
          unfold updV zrup
          dsimp only
          by_cases hj : j = i.toNat
          · rw [if_pos hj, if_pos (by omega), ← zaddr (roa := roa) h8v]
            rfl
          · rw [if_neg hj, if_neg (by omega)]
      · dsimp only; rw [zsup_q]; exact (hdyn.2.2.1 f h8 hqn).2.2.2.2) (fun k => hdyn.2.2.2.2.1 _ _) y2 y3, zS_put hS y2 y3 (by omega), hl, hlen, hwl, zwf2 (zwf2 (zwf2 hws))⟩)
  rw [← zaddr (roa := roa) h8, ← zaddr (roa := roa) h8v] at h0
  exact h0
end ZS
