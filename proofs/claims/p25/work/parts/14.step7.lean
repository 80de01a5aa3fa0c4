/-! one instruction of the interpreter is one of the machine: arraycopy, min, max; all of them together; nothing is taken back -/
theorem z_fitb {x : Int} (h : zInR x) (h1 : -128 ≤ x ∧ x < 128) : fits .byte (.int (Int32.ofInt x)) = true := by
  have e : Int32.ofInt x = (Int32.ofInt x).toInt8.toInt32 := by rw [z_i2b h, show (x + 128) % 256 - 128 = x by omega]
  rw [e]
  exact pk_fb _
theorem z_min {x y : Int} (hx : zInR x) (hy : zInR y) : (if Int32.ofInt y < Int32.ofInt x then Int32.ofInt y else Int32.ofInt x) = Int32.ofInt (if y < x then y else x) := by
  by_cases h : y < x
  · rw [if_pos h, if_pos ((z_lt hy hx).mpr h)]
  · rw [if_neg h, if_neg (fun h2 => h ((z_lt hy hx).mp h2))]
theorem z_max {x y : Int} (hx : zInR x) (hy : zInR y) : (if Int32.ofInt x < Int32.ofInt y then Int32.ofInt y else Int32.ofInt x) = Int32.ofInt (if x < y then y else x) := by
  by_cases h : x < y
  · rw [if_pos h, if_pos ((z_lt hx hy).mpr h)]
  · rw [if_neg h, if_neg (fun h2 => h ((z_lt hx hy).mp h2))]
theorem zcpy_ne {c : zC} {a b r : Nat} {sp dp n : Int} (h : r ≠ b) : zcpy c a sp b dp n r = c r := by
  funext k
  unfold zcpy
  rw [if_neg (fun h2 => h h2.1)]
theorem zcpy_q {c : zC} {a b : Nat} {sp dp n k : Int} : zcpy c a sp b dp n b k = if dp ≤ k ∧ k < dp + n then c a (sp + (k - dp)) else c b k := by
  unfold zcpy
  by_cases h : dp ≤ k ∧ k < dp + n
  · rw [if_pos ⟨rfl, h⟩, if_pos h]
  · rw [if_neg (fun h2 => h h2.2), if_neg h]
theorem zcpy_f {c : zC} {a b n0 n1 : Nat} {sp dp n : Int} (h1 : 0 ≤ sp) (h2 : 0 ≤ dp) (h3 : 0 ≤ n) (j : Nat) :
    Int32.ofInt (zcpy c a sp b dp n b (j : Int)) = va_cpy (fun j : Nat => Int32.ofInt (c a (j : Int))) (fun j : Nat => Int32.ofInt (c b (j : Int))) sp.toNat dp.toNat n.toNat j := by
  rw [zcpy_q]
  unfold va_cpy
  by_cases h : dp ≤ (j : Int) ∧ (j : Int) < dp + n
  · rw [if_pos h, if_pos (by omega)]
    congr 2
    omega
  · rw [if_neg h, if_neg (by omega)]
section ZS
variable {p : Program} {l : Launch} {e : Env} {R : Room} {s : State} {m : MethodId} {args : Array Value} {below : List Frame} {meth : Method} {c : Code} {Q : State → Prop} {lo : Nat} {roa : Nat → Nat} {sio : Value} {D : va_G} {rS : zSh} {rC : zC} {d M a1 a2 b1 b2 : Nat} {pc len : Nat} {L : zLs} {st : List zV} {μ : zMem} {q : zst}
set_option maxHeartbeats 2000000 in
theorem zs_invokestatic {i : Nat} (C : zCtx p R s m args meth c lo roa sio D rS rC d M) (hd : decode (zB M) pc = .ok (.invokestatic i, len)) (hn : znext d M pc L st μ (.invokestatic i) len = some q) (hrm : q.2.2.2.1.1 + b1 ≤ R.cells + a1 ∧ q.2.2.2.1.2 + b2 ≤ R.slots + a2) (k : zGo p l e R s m args below meth c Q lo roa sio D rS rC M a1 a2 b1 b2 q) : zGo p l e R s m args below meth c Q lo roa sio D rS rC M a1 a2 b1 b2 (pc, L, st, μ) := by
  intro H locs ls cells slots h1 h2 h3
  dsimp only at h1 h2 h3 ⊢
  obtain ⟨hdyn, hS, hl, hlen, hwl, hws⟩ := h3
  obtain ⟨hx, hb, hml, hown, hts, hr, hlk, hini, hst, hlo, hfr, hlc⟩ := C
  unfold znext at hn
  split at hn <;> try contradiction
  injections
  subst_vars
  rename_i i
  split at hn <;> try contradiction
  · rename_i n dp b sp a r u1 u2 hC
    split at hn <;> try contradiction
    rename_i hq
    cases hn
    have hw := zCall_g hC (by decide)
    obtain ⟨hd1, hsum, htag, hsp, hdp, hnn, hs1, hs2⟩ := hq
    have wn := zwf1 hws
    have wdp := zwf1 (zwf2 hws)
    have wsp := zwf1 (zwf2 (zwf2 (zwf2 hws)))
    have hfw := znfw
    have q0 : ∀ z : Int, zInR z → 0 ≤ z → ¬ Int32.ofInt z < 0 := fun z hz h0 h => by rw [z_0, z_lt hz ⟨by decide, by decide⟩] at h; omega
    rcases htag with ⟨ta, tb⟩ | ⟨ta, tb⟩
    · obtain ⟨h8, hqn⟩ := zrange (q := b) hdyn hst.2.2.1 (by omega) (by omega) (by omega) (by omega)
      obtain ⟨cA, N, e1, e2, e3, e4⟩ := (hdyn.2.2.1 b h8 hqn).2.1 tb
      obtain ⟨N0, f1, f2, f3⟩ := zread_i (q := a) hdyn hst.2.2.1 hS (Or.inl ta)
      have h0 := zcopy_row (rest := r.map (ztv lo roa sio)) (ls := ls) (f := fun j : Nat => Int32.ofInt (μ.2.2 a (j : Int))) (g := fun j : Nat => Int32.ofInt (μ.2.2 b (j : Int))) hx hb (hml.trans hl.1.symm) hown (hts _ (hw _ (by simp [zwords]))) (hts _ (hw _ (by simp [zwords]))) (hts _ (hw _ (by simp [zwords]))) (hts _ (hw _ (by simp [zwords]))) (ty := .int) rfl f3 e3 e4 (q0 _ wsp hsp) (q0 _ wdp hdp) (q0 _ wn hnn) (by rw [z_cl wsp hsp, z_cl wn hnn]; omega) (by rw [z_cl wdp hdp, z_cl wn hnn]; omega) (fun i _ => rfl) (by omega) (by rw [zcats lo roa hst.2.1]; omega) hd (fun H1 locs1 g1 g2 g3 g4 => k H1 locs1 ls cells slots h1 h2 ⟨zdyn_set (q := b) hdyn h8 hqn rfl (fun r hr => ⟨rfl, zcpy_ne hr⟩) (by
          refine ⟨fun h => absurd h (by rw [show (μ.2.1 b).1 = 20 from tb]; decide), fun _ => ⟨cA, N, e1, e2, ?_, e4⟩, fun h => absurd (tb.symm.trans h) (by decide), fun h => absurd (tb.symm.trans h) (by decide), by rw [show (μ.2.1 b).1 = 20 from tb]; decide⟩
          rw [g1, z_cl wsp hsp, z_cl wdp hdp, z_cl wn hnn]
          congr 2
          funext j
          rw [← zcpy_f (n0 := N0) (n1 := N) hsp hdp hnn]) (fun k => by dsimp only; rw [zcpy_q]; split <;> exact hdyn.2.2.2.2.1 _ _) g2 g3, ⟨by rw [g2]; exact hS.1, fun x y1 y2 => by rw [g3 x (fun e => y2 (by show lo ≤ x; omega))]; exact hS.2.1 x y1 y2, fun lc hlc => (g4 lc hlc).elim (hS.2.2 lc) (fun e => by show lo ≤ lc.base; rw [e]; exact Nat.le_add_right _ _)⟩, hl, hlen, hwl, zwf2 (zwf2 (zwf2 (zwf2 (zwf2 hws))))⟩)
      rw [← zaddr (roa := roa) h8] at h0
      exact h0
    · obtain ⟨h8, hqn⟩ := zrange (q := b) hdyn hst.2.2.1 (by omega) (by omega) (by omega) (by omega)
      obtain ⟨cA, N, e1, e2, e3, e4, e5⟩ := (hdyn.2.2.1 b h8 hqn).2.2.1 tb
      obtain ⟨N0, f1, f2, f3, f4⟩ := zread_b (q := a) hdyn hst.2.2.1 hS ta
      have h0 := zcopy_row (rest := r.map (ztv lo roa sio)) (ls := ls) (f := fun j : Nat => Int32.ofInt (μ.2.2 a (j : Int))) (g := fun j : Nat => Int32.ofInt (μ.2.2 b (j : Int))) hx hb (hml.trans hl.1.symm) hown (hts _ (hw _ (by simp [zwords]))) (hts _ (hw _ (by simp [zwords]))) (hts _ (hw _ (by simp [zwords]))) (hts _ (hw _ (by simp [zwords]))) (ty := .byte) rfl f3 e3 e4 (q0 _ wsp hsp) (q0 _ wdp hdp) (q0 _ wn hnn) (by rw [z_cl wsp hsp, z_cl wn hnn]; omega) (by rw [z_cl wdp hdp, z_cl wn hnn]; omega) (fun i hi => z_fitb (hdyn.2.2.2.2.1 _ _) (f4 _ (by rw [z_cl wn hnn] at hi; rw [z_cl wsp hsp]; omega))) (by omega) (by rw [zcats lo roa hst.2.1]; omega) hd (fun H1 locs1 g1 g2 g3 g4 => k H1 locs1 ls cells slots h1 h2 ⟨zdyn_set (q := b) hdyn h8 hqn rfl (fun r hr => ⟨rfl, zcpy_ne hr⟩) (by
          refine ⟨fun h => absurd h (by rw [show (μ.2.1 b).1 = 21 from tb]; decide), fun h => absurd (tb.symm.trans h) (by decide), fun _ => ⟨cA, N, e1, e2, ?_, e4, fun j hj => ?_⟩, fun h => absurd (tb.symm.trans h) (by decide), by rw [show (μ.2.1 b).1 = 21 from tb]; decide⟩
          · rw [g1, z_cl wsp hsp, z_cl wdp hdp, z_cl wn hnn]
            congr 2
            funext j
            rw [← zcpy_f (n0 := N0) (n1 := N) hsp hdp hnn]
          · dsimp only
            rw [zcpy_q]
            split
            · have h9 := f4 (sp + ((j : Int) - dp)).toNat (by omega)
              rw [show (((sp + ((j : Int) - dp)).toNat : Nat) : Int) = sp + ((j : Int) - dp) by omega] at h9
              exact h9
            · exact e5 j hj) (fun k => by dsimp only; rw [zcpy_q]; split <;> exact hdyn.2.2.2.2.1 _ _) g2 g3, ⟨by rw [g2]; exact hS.1, fun x y1 y2 => by rw [g3 x (fun e => y2 (by show lo ≤ x; omega))]; exact hS.2.1 x y1 y2, fun lc hlc => (g4 lc hlc).elim (hS.2.2 lc) (fun e => by show lo ≤ lc.base; rw [e]; exact Nat.le_add_right _ _)⟩, hl, hlen, hwl, zwf2 (zwf2 (zwf2 (zwf2 (zwf2 hws))))⟩)
      rw [← zaddr (roa := roa) h8] at h0
      exact h0
  · rename_i y x r u1 u2 hC
    split at hn <;> try contradiction
    rename_i hq
    cases hn
    dsimp only at hrm
    have hw := zCall_g hC (by decide)
    have hx1 := zwf1 (zwf2 hws)
    have hy1 := zwf1 hws
    exact va_mmin hx hb (hml.trans hl.1.symm) hown (hts _ (hw _ (by simp [zwords]))) (hts _ (hw _ (by simp [zwords]))) (hts _ (hw _ (by simp [zwords]))) (hts _ zminc) (by omega) (by rw [zcats lo roa hst.2.1]; omega) (by omega) (by omega) hd (by rw [z_min hx1 hy1]; exact k H locs ls cells slots h1 h2 ⟨hdyn, hS, hl, hlen, hwl, zwfc (by split <;> first | exact hy1 | exact hx1) (zwf2 (zwf2 hws))⟩)
  · rename_i y x r u1 u2 hC
    split at hn <;> try contradiction
    rename_i hq
    cases hn
    dsimp only at hrm
    have hw := zCall_g hC (by decide)
    have hx1 := zwf1 (zwf2 hws)
    have hy1 := zwf1 hws
    exact va_mmax hx hb (hml.trans hl.1.symm) hown (hts _ (hw _ (by simp [zwords]))) (hts _ (hw _ (by simp [zwords]))) (hts _ (hw _ (by simp [zwords]))) (hts _ zmaxc) (by omega) (by rw [zcats lo roa hst.2.1]; omega) (by omega) (by omega) hd (by rw [z_max hx1 hy1]; exact k H locs ls cells slots h1 h2 ⟨hdyn, hS, hl, hlen, hwl, zwfc (by split <;> first | exact hy1 | exact hx1) (zwf2 (zwf2 hws))⟩)
end ZS
