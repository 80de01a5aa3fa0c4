/-! reading and writing cells -/
theorem zcell_congr {lo : Nat} {roa : Nat → Nat} {D : va_G} {μ μ' : zMem} {r : Nat} {U : State} {H : Heap} (h1 : μ'.2.1 r = μ.2.1 r) (h2 : μ'.2.2 r = μ.2.2 r) (h : zcell lo roa D μ r U H) : zcell lo roa D μ' r U H := by
  have e : zfv lo roa μ' r = zfv lo roa μ r := by
    funext k
    unfold zfv
    rw [h1, h2]
  unfold zcell at h ⊢
  rw [e, h1, h2]
  exact h
theorem zdyn_set {lo : Nat} {roa : Nat → Nat} {D : va_G} {rS : zSh} {rC : zC} {μ μ' : zMem} {U : State} {H H1 : Heap} {q : Nat} (h : zdyn lo roa D rS rC μ U H) (hq8 : 8 ≤ q) (hqn : q < μ.1.1) (h1 : μ'.1 = μ.1) (hs : ∀ r, r ≠ q → μ'.2.1 r = μ.2.1 r ∧ μ'.2.2 r = μ.2.2 r) (hc : zcell lo roa D μ' q U H1) (hr : ∀ k, zInR (μ'.2.2 q k)) (hz : H1.size = H.size) (ho : ∀ x, x ≠ lo + (q - 8) → H1[x]? = H[x]?) : zdyn lo roa D rS rC μ' U H1 := by
  obtain ⟨g1, g2, g3, g4, g5, g6⟩ := h
  refine ⟨by rw [hz, h1]; exact g1, by rw [h1]; exact g2, fun r hr8 hrn => ?_, fun r hrn => ?_, fun r k => ?_, fun r hr8 => ?_⟩
  · by_cases e : r = q
    · rw [e]
      exact hc
    · exact (zcell_congr (hs r e).1 (hs r e).2 (g3 r hr8 (by rw [h1] at hrn; exact hrn))).kept (ho _ (by omega))
  · rw [h1] at hrn
    rw [(hs r (by omega)).1]
    exact g4 r hrn
  · by_cases e : r = q
    · rw [e]
      exact hr k
    · rw [(hs r e).2]
      exact g5 r k
  · have e : r ≠ q := by omega
    rw [(hs r e).1, (hs r e).2]
    exact g6 r hr8
theorem zdyn_push {lo : Nat} {roa : Nat → Nat} {D : va_G} {rS : zSh} {rC : zC} {μ : zMem} {U : State} {H H1 : Heap} {sl : Nat} {x : Nat × (Int × (Int → Option Nat))} (h : zdyn lo roa D rS rC μ U H) (hc : zcell lo roa D ((μ.1.1 + 1, sl), (zsup μ.2.1 μ.1.1 x, zfr μ.2.2 μ.1.1)) μ.1.1 U H1) (hz : H1.size = H.size + 1) (ho : ∀ y, y < H.size → H1[y]? = H[y]?) : zdyn lo roa D rS rC ((μ.1.1 + 1, sl), (zsup μ.2.1 μ.1.1 x, zfr μ.2.2 μ.1.1)) U H1 := by
  obtain ⟨g1, g2, g3, g4, g5, g6⟩ := h
  have hs : ∀ r, r ≠ μ.1.1 → zsup μ.2.1 μ.1.1 x r = μ.2.1 r ∧ zfr μ.2.2 μ.1.1 r = μ.2.2 r := fun r hr => by
    refine ⟨by unfold zsup; rw [if_neg hr], ?_⟩
    funext k
    unfold zfr
    rw [if_neg hr]
  refine ⟨by dsimp only; omega, by dsimp only; omega, fun r hr8 hrn => ?_, fun r hrn => ?_, fun r k => ?_, fun r hr8 => ?_⟩
  · by_cases e : r = μ.1.1
    · rw [e]
      exact hc
    · exact (zcell_congr (hs r e).1 (hs r e).2 (g3 r hr8 (by dsimp only at hrn; omega))).kept (ho _ (by dsimp only at hrn; omega))
  · dsimp only at hrn ⊢
    rw [(hs r (by omega)).1]
    exact g4 r (by omega)
  · dsimp only
    by_cases e : r = μ.1.1
    · rw [e]
      unfold zfr
      rw [if_pos rfl]
      exact ⟨by decide, by decide⟩
    · rw [(hs r e).2]
      exact g5 r k
  · have e : r ≠ μ.1.1 := by omega
    dsimp only
    rw [(hs r e).1, (hs r e).2]
    exact g6 r hr8
/-- an array that can be read -/
def zarr (U : State) (H : Heap) (a : Nat) (ty : FieldType) (N : Nat) (f : Nat → Value) : Prop :=
  ∃ cell : Cell, H[a]? = some cell ∧ U.isArrayOf cell ty ∧ cell.vm ≠ .unknown ∧ N ≤ cell.slots.size ∧ cell.slots.size.toInt32 = Int32.ofNat N ∧ ∀ j : Nat, j < N → cell.slots[j]? = some (f j)
theorem zarr_of {U : State} {H : Heap} {a N : Nat} {cA : ClassId} {ty : FieldType} {f : Nat → Value} (h : H[a]? = some (arrV cA N f)) (h2 : ArrOfT U cA ty) : zarr U H a ty N f :=
  ⟨_, h, h2 N f, (fun h => by cases h), by rw [arrV_size]; exact Nat.le_refl _, (by rw [arrV_size] <;> rfl), fun j hj => arrV_read cA f hj⟩
theorem zarr_ofT {U : State} {H : Heap} {a N : Nat} {ty : FieldType} {f : Nat → Value} {A : Nat → Prop} (h : va_T ty a N f A U H) : zarr U H a ty N f := by
  obtain ⟨cell, h1, h2, h3, h4, h5, h6, -⟩ := h
  exact ⟨cell, h1, h2, h3, h4, h5, h6⟩
section ZM
variable {lo : Nat} {roa : Nat → Nat} {sio : Value} {D : va_G} {rS : zSh} {rC : zC} {μ : zMem} {s : State} {H : Heap} {locs : List Loc} {q : Nat}
theorem zrange (h : zdyn lo roa D rS rC μ s H) (hst : zsta lo roa sio rS rC s s.heap) (h1 : (μ.2.1 q).1 ≠ 30) (h2 : (μ.2.1 q).1 ≠ 31) (h3 : (μ.2.1 q).1 ≠ 11) (h4 : (μ.2.1 q).1 < 90) : 8 ≤ q ∧ q < μ.1.1 := by
  obtain ⟨g1, g2, g3, g4, g5, g6⟩ := h
  constructor
  · refine Nat.le_of_not_lt fun hq => ?_
    have e := (g6 q hq).1
    rcases (hst.1 q hq).1 with w | w | w | w <;> rw [← e] at w
    · exact h1 w
    · exact h2 w
    · exact h3 w
    · omega
  · refine Nat.lt_of_not_le fun hq => ?_
    have := g4 q hq
    omega
theorem zaddr (h : 8 ≤ q) : zad lo roa q = lo + (q - 8) := by
  unfold zad
  rw [if_neg (by omega)]
theorem zstaH (hst : zsta lo roa sio rS rC s s.heap) (hS : va_S (fun q => lo ≤ q) s.heap H locs) : zsta lo roa sio rS rC s H := hst.kept hS.2.1
/-- a row of whole numbers, wherever it lies -/
theorem zread_i (h : zdyn lo roa D rS rC μ s H) (hst : zsta lo roa sio rS rC s s.heap) (hS : va_S (fun q => lo ≤ q) s.heap H locs) (ht : (μ.2.1 q).1 = 20 ∨ (μ.2.1 q).1 = 30) :
    ∃ N : Nat, (μ.2.1 q).2.1 = (N : Int) ∧ N < 2147483648 ∧ zarr s H (zad lo roa q) .int N (fun j => .int (Int32.ofInt (μ.2.2 q (j : Int)))) := by
  rcases ht with ht | ht
  · obtain ⟨h8, hn⟩ := zrange (q := q) h hst (by omega) (by omega) (by omega) (by omega)
    obtain ⟨cA, N, e1, e2, e3, e4⟩ := (h.2.2.1 q h8 hn).2.1 ht
    exact ⟨N, e1, e2, by rw [zaddr h8]; exact zarr_of e3 e4⟩
  · have h8 : q < 8 := by
      refine Nat.lt_of_not_le fun h8 => ?_
      by_cases hn : q < μ.1.1
      · exact (h.2.2.1 q h8 hn).2.2.2.2.2.1 ht
      · have := h.2.2.2.1 q (Nat.le_of_not_lt hn)
        omega
    have e := (h.2.2.2.2.2 q h8)
    rw [e.1] at ht ⊢
    obtain ⟨N, e1, e2, e3⟩ := ((zstaH hst hS).1 q h8).2.1 ht
    refine ⟨N, e1, e2, ?_⟩
    rw [e.2]
    unfold zad
    rw [if_pos h8]
    exact zarr_ofT e3
theorem zread_b (h : zdyn lo roa D rS rC μ s H) (hst : zsta lo roa sio rS rC s s.heap) (hS : va_S (fun q => lo ≤ q) s.heap H locs) (ht : (μ.2.1 q).1 = 21 ∨ (μ.2.1 q).1 = 31) :
    ∃ N : Nat, (μ.2.1 q).2.1 = (N : Int) ∧ N < 2147483648 ∧ zarr s H (zad lo roa q) .byte N (fun j => .int (Int32.ofInt (μ.2.2 q (j : Int)))) ∧ ∀ j : Nat, j < N → -128 ≤ μ.2.2 q (j : Int) ∧ μ.2.2 q (j : Int) < 128 := by
  rcases ht with ht | ht
  · obtain ⟨h8, hn⟩ := zrange (q := q) h hst (by omega) (by omega) (by omega) (by omega)
    obtain ⟨cA, N, e1, e2, e3, e4, e5⟩ := (h.2.2.1 q h8 hn).2.2.1 ht
    exact ⟨N, e1, e2, by rw [zaddr h8]; exact zarr_of e3 e4, e5⟩
  · have h8 : q < 8 := by
      refine Nat.lt_of_not_le fun h8 => ?_
      by_cases hn : q < μ.1.1
      · exact (h.2.2.1 q h8 hn).2.2.2.2.2.2 ht
      · have := h.2.2.2.1 q (Nat.le_of_not_lt hn)
        omega
    have e := (h.2.2.2.2.2 q h8)
    rw [e.1] at ht ⊢
    obtain ⟨N, e1, e2, e3, e4⟩ := ((zstaH hst hS).1 q h8).2.2.1 ht
    rw [e.2]
    refine ⟨N, e1, e2, ?_, e4⟩
    unfold zad
    rw [if_pos h8]
    exact zarr_ofT e3
theorem zS_put {H1 : Heap} {a k : Nat} (hS : va_S (fun q => lo ≤ q) s.heap H locs) (z : H1.size = H.size) (oq : ∀ x, x ≠ a → H1[x]? = H[x]?) (ha : lo ≤ a) : va_S (fun q => lo ≤ q) s.heap H1 (locs ++ [⟨a, k⟩]) := hS.put z oq ha
end ZM
/-- an array with one place changed -/
theorem zarr_set {cA : ClassId} {N j : Nat} {f : Nat → Value} (hj : j < N) (v : Value) : (arrV cA N f).setSlot j v = arrV cA N (updV f j v) := by
  unfold arrV Cell.setSlot updV
  congr 1
  apply Array.ext
  · simp
  · intro i h1 h2
    simp at h1 h2 ⊢
    by_cases e : j = i
    · subst e
      simp
    · rw [Array.getElem_setIfInBounds_ne (by simpa using h2) e]
      simp [Ne.symm e]
