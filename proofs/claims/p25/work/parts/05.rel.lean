/-! what the machine holds when the interpreter stands at a state -/
def zad (lo : Nat) (roa : Nat → Nat) (r : Nat) : Nat := if r < 8 then roa r else lo + (r - 8)
def ztv (lo : Nat) (roa : Nat → Nat) (sio : Value) (v : zV) : Value := match v with
  | .inl x => .int (Int32.ofInt x)
  | .inr (.inl x) => .long (Int64.ofInt x)
  | .inr (.inr none) => sio
  | .inr (.inr (some r)) => .ref (zad lo roa r)
def zInR (x : Int) : Prop := -2147483648 ≤ x ∧ x < 2147483648
def zwf (v : zV) : Prop := match v with
  | .inl x => zInR x
  | .inr (.inl x) => -9223372036854775808 ≤ x ∧ x < 9223372036854775808
  | _ => True
def zfv (lo : Nat) (roa : Nat → Nat) (μ : zMem) (r k : Nat) : Value := if zrf (μ.2.1 r).1 k = true then va_rf (((μ.2.1 r).2.2 (k : Int)).map (zad lo roa)) else .int (Int32.ofInt (μ.2.2 r (k : Int)))
def zcell (lo : Nat) (roa : Nat → Nat) (D : va_G) (μ : zMem) (r : Nat) (U : State) (H : Heap) : Prop :=
  ((μ.2.1 r).1 < 11 → t_OB (lo + (r - 8)) (D.1 (μ.2.1 r).1) (znf (μ.2.1 r).1) (D.2 (μ.2.1 r).1) H (zfv lo roa μ r)) ∧
  ((μ.2.1 r).1 = 20 → ∃ (cA : ClassId) (N : Nat), (μ.2.1 r).2.1 = (N : Int) ∧ N < 2147483648 ∧ H[lo + (r - 8)]? = some (arrV cA N (fun j => .int (Int32.ofInt (μ.2.2 r (j : Int))))) ∧ ArrOfT U cA .int) ∧
  ((μ.2.1 r).1 = 21 → ∃ (cA : ClassId) (N : Nat), (μ.2.1 r).2.1 = (N : Int) ∧ N < 2147483648 ∧ H[lo + (r - 8)]? = some (arrV cA N (fun j => .int (Int32.ofInt (μ.2.2 r (j : Int))))) ∧ ArrOfT U cA .byte ∧ ∀ j : Nat, j < N → -128 ≤ μ.2.2 r (j : Int) ∧ μ.2.2 r (j : Int) < 128) ∧
  ((μ.2.1 r).1 = 22 → ∃ (cA : ClassId) (N : Nat), (μ.2.1 r).2.1 = (N : Int) ∧ N < 2147483648 ∧ H[lo + (r - 8)]? = some (arrV cA N (fun j => va_rf (((μ.2.1 r).2.2 (j : Int)).map (zad lo roa)))) ∧ ArrOfT U cA (.object RX7) ∧ va_RA U cA (.object RX7)) ∧
  (μ.2.1 r).1 ≠ 11 ∧ (μ.2.1 r).1 ≠ 30 ∧ (μ.2.1 r).1 ≠ 31
def zdyn (lo : Nat) (roa : Nat → Nat) (D : va_G) (rS : zSh) (rC : zC) (μ : zMem) (U : State) (H : Heap) : Prop :=
  H.size + 8 = lo + μ.1.1 ∧ 8 ≤ μ.1.1 ∧ (∀ r, 8 ≤ r → r < μ.1.1 → zcell lo roa D μ r U H) ∧ (∀ r, μ.1.1 ≤ r → (μ.2.1 r).1 = 99) ∧ (∀ r k, zInR (μ.2.2 r k)) ∧ ∀ r, r < 8 → μ.2.1 r = rS r ∧ μ.2.2 r = rC r
def zstr (lo : Nat) (roa : Nat → Nat) (rS : zSh) (rC : zC) (r : Nat) (U : State) (H : Heap) : Prop :=
  ((rS r).1 = 30 ∨ (rS r).1 = 31 ∨ (rS r).1 = 11 ∨ (rS r).1 = 98) ∧
  ((rS r).1 = 30 → ∃ N : Nat, (rS r).2.1 = (N : Int) ∧ N < 2147483648 ∧ va_T .int (roa r) N (fun j => .int (Int32.ofInt (rC r (j : Int)))) (fun q => lo ≤ q) U H) ∧
  ((rS r).1 = 31 → ∃ N : Nat, (rS r).2.1 = (N : Int) ∧ N < 2147483648 ∧ va_T .byte (roa r) N (fun j => .int (Int32.ofInt (rC r (j : Int)))) (fun q => lo ≤ q) U H ∧ ∀ j : Nat, j < N → -128 ≤ rC r (j : Int) ∧ rC r (j : Int) < 128) ∧
  ((rS r).1 = 11 → va_O "java/lang/String" (roa r) (fun q => lo ≤ q) U H ∧ va_OF "java/lang/String" "coder" "B" (.int 0) (roa r) (fun q => lo ≤ q) U H ∧ ∀ q, (rS r).2.2 0 = some q → va_OF "java/lang/String" "value" "[B" (.ref (zad lo roa q)) (roa r) (fun q => lo ≤ q) U H)
def zsta (lo : Nat) (roa : Nat → Nat) (sio : Value) (rS : zSh) (rC : zC) (U : State) (H : Heap) : Prop :=
  (∀ r, r < 8 → zstr lo roa rS rC r U H) ∧
  va_Z "java/lang/String" "COMPACT_STRINGS" "Z" (.int 1) (fun q => lo ≤ q) U H ∧ va_Z "java/lang/Integer" "DigitOnes" "[B" (.ref (roa 5)) (fun q => lo ≤ q) U H ∧ va_Z "java/lang/Integer" "DigitTens" "[B" (.ref (roa 6)) (fun q => lo ≤ q) U H ∧
  va_Z "jdk/internal/util/Preconditions" "SIOOBE_FORMATTER" "Ljava/util/function/BiFunction;" sio (fun q => lo ≤ q) U H
def zstw (roa : Nat → Nat) (U : State) : Prop :=
  vk_R RX8 271 " +" (roa 1) U ∧ vk_R RX8 276 " P" (roa 3) U ∧ (∀ (own : String) (idx : Nat) (y : MethodName), Cond.methodLinkNest own idx y "RadioWeek" ∈ ztbl → va_Nw (.methodLinkNest own idx y "RadioWeek") U) ∧ va_AO RX7 U
def zstat (lo : Nat) (roa : Nat → Nat) (sio : Value) (D : va_G) (rS : zSh) (rC : zC) (U : State) (H : Heap) : Prop :=
  va_K D vwClz [] U ∧ sio.category = 1 ∧ zsta lo roa sio rS rC U H ∧ zstw roa U
theorem zcell.moved {lo : Nat} {roa : Nat → Nat} {D : va_G} {μ : zMem} {r : Nat} {u U : State} {H : Heap} (hvm : u.vm.Alike U.vm) (h : zcell lo roa D μ r u H) : zcell lo roa D μ r U H := by
  obtain ⟨h1, h2, h3, h4, h5⟩ := h
  refine ⟨h1, fun e => ?_, fun e => ?_, fun e => ?_, h5⟩
  · obtain ⟨cA, N, a, b, c, d⟩ := h2 e
    exact ⟨cA, N, a, b, c, arrOfT_moved hvm d⟩
  · obtain ⟨cA, N, a, b, c, d, g⟩ := h3 e
    exact ⟨cA, N, a, b, c, arrOfT_moved hvm d, g⟩
  · obtain ⟨cA, N, a, b, c, d, g⟩ := h4 e
    exact ⟨cA, N, a, b, c, arrOfT_moved hvm d, g.moved hvm⟩
theorem zdyn.moved {lo : Nat} {roa : Nat → Nat} {D : va_G} {rS : zSh} {rC : zC} {μ : zMem} {u U : State} {H : Heap} (hvm : u.vm.Alike U.vm) (h : zdyn lo roa D rS rC μ u H) : zdyn lo roa D rS rC μ U H :=
  ⟨h.1, h.2.1, fun r h1 h2 => (h.2.2.1 r h1 h2).moved hvm, h.2.2.2⟩
theorem zcell.kept {lo : Nat} {roa : Nat → Nat} {D : va_G} {μ : zMem} {r : Nat} {U : State} {H H1 : Heap} (h : zcell lo roa D μ r U H) (hq : H1[lo + (r - 8)]? = H[lo + (r - 8)]?) : zcell lo roa D μ r U H1 := by
  obtain ⟨h1, h2, h3, h4, h5⟩ := h
  exact ⟨fun e => (h1 e).kept hq, fun e => by rw [hq]; exact h2 e, fun e => by rw [hq]; exact h3 e, fun e => by rw [hq]; exact h4 e, h5⟩
theorem zstr.moved {lo : Nat} {roa : Nat → Nat} {rS : zSh} {rC : zC} {r : Nat} {u U : State} {H : Heap} (hvm : u.vm.Alike U.vm) (h : zstr lo roa rS rC r u H) : zstr lo roa rS rC r U H := by
  obtain ⟨h0, h1, h2, h3⟩ := h
  refine ⟨h0, fun e => ?_, fun e => ?_, fun e => ?_⟩
  · obtain ⟨N, a, b, c⟩ := h1 e
    exact ⟨N, a, b, c.moved hvm⟩
  · obtain ⟨N, a, b, c, d⟩ := h2 e
    exact ⟨N, a, b, c.moved hvm, d⟩
  · obtain ⟨a, b, c⟩ := h3 e
    exact ⟨a.moved hvm, b.moved hvm, fun q hq => (c q hq).moved hvm⟩
theorem zstr.kept {lo : Nat} {roa : Nat → Nat} {rS : zSh} {rC : zC} {r : Nat} {U : State} {H H1 : Heap} (h : zstr lo roa rS rC r U H) (hq : ∀ a : Nat, a < H.size → ¬ lo ≤ a → H1[a]? = H[a]?) : zstr lo roa rS rC r U H1 := by
  obtain ⟨h0, h1, h2, h3⟩ := h
  refine ⟨h0, fun e => ?_, fun e => ?_, fun e => ?_⟩
  · obtain ⟨N, a, b, c⟩ := h1 e
    exact ⟨N, a, b, c.kept hq⟩
  · obtain ⟨N, a, b, c, d⟩ := h2 e
    exact ⟨N, a, b, c.kept hq, d⟩
  · obtain ⟨a, b, c⟩ := h3 e
    exact ⟨a.kept hq, b.kept hq, fun q hq2 => (c q hq2).kept hq⟩
theorem zsta.moved {lo : Nat} {roa : Nat → Nat} {sio : Value} {rS : zSh} {rC : zC} {u U : State} {H : Heap} (hvm : u.vm.Alike U.vm) (h : zsta lo roa sio rS rC u H) : zsta lo roa sio rS rC U H :=
  ⟨fun r hr => (h.1 r hr).moved hvm, h.2.1.moved hvm, h.2.2.1.moved hvm, h.2.2.2.1.moved hvm, h.2.2.2.2.moved hvm⟩
theorem zsta.kept {lo : Nat} {roa : Nat → Nat} {sio : Value} {rS : zSh} {rC : zC} {U : State} {H H1 : Heap} (h : zsta lo roa sio rS rC U H) (hq : ∀ a : Nat, a < H.size → ¬ lo ≤ a → H1[a]? = H[a]?) : zsta lo roa sio rS rC U H1 :=
  ⟨fun r hr => (h.1 r hr).kept hq, h.2.1.kept hq, h.2.2.1.kept hq, h.2.2.2.1.kept hq, h.2.2.2.2.kept hq⟩
theorem zstw.warm {roa : Nat → Nat} {s U : State} (hW : s.WarmedH U.vm) (h : zstw roa s) : zstw roa U :=
  ⟨vk_R.warm hW h.1, vk_R.warm hW h.2.1, fun own idx y hm => va_Nw.warmM hW (h.2.2.1 own idx y hm), va_AO.moved hW.alike h.2.2.2⟩
theorem zstw.same {roa : Nat → Nat} {u U : State} (hv : U.vm = u.vm) (h : zstw roa u) : zstw roa U :=
  ⟨vk_R.same hv h.1, vk_R.same hv h.2.1, fun own idx y hm => va_Nw.same rfl hv.symm (h.2.2.1 own idx y hm), va_AO.moved (by rw [hv]; exact Vm.Alike.refl _) h.2.2.2⟩
theorem zstat.warm {lo : Nat} {roa : Nat → Nat} {sio : Value} {D : va_G} {rS : zSh} {rC : zC} {s U : State} {H : Heap} (hW : s.WarmedH U.vm) (h : zstat lo roa sio D rS rC s H) : zstat lo roa sio D rS rC U H :=
  ⟨va_K.moved hW.alike h.1, h.2.1, h.2.2.1.moved hW.alike, h.2.2.2.warm hW⟩
theorem zstat.same {lo : Nat} {roa : Nat → Nat} {sio : Value} {D : va_G} {rS : zSh} {rC : zC} {u U : State} {H : Heap} (hv : U.vm = u.vm) (h : zstat lo roa sio D rS rC u H) : zstat lo roa sio D rS rC U H :=
  ⟨va_K.moved (by rw [hv]; exact Vm.Alike.refl _) h.1, h.2.1, h.2.2.1.moved (by rw [hv]; exact Vm.Alike.refl _), h.2.2.2.same hv⟩
theorem zstat.kept {lo : Nat} {roa : Nat → Nat} {sio : Value} {D : va_G} {rS : zSh} {rC : zC} {U : State} {H H1 : Heap} (h : zstat lo roa sio D rS rC U H) (hq : ∀ a : Nat, a < H.size → ¬ lo ≤ a → H1[a]? = H[a]?) : zstat lo roa sio D rS rC U H1 :=
  ⟨h.1, h.2.1, h.2.2.1.kept hq, h.2.2.2⟩
/-- the locals that are known -/
def zlv (tv : zV → Value) : Nat → zLs → List (Nat × Value)
  | _, [] => []
  | i, none :: L => zlv tv (i + 1) L
  | i, some v :: L => (i, tv v) :: zlv tv (i + 1) L
theorem zlv_mem {tv : zV → Value} : ∀ (L : zLs) (i j : Nat) (x : Value), (j, x) ∈ zlv tv i L ↔ ∃ (k : Nat) (v : zV), j = i + k ∧ L[k]? = some (some v) ∧ x = tv v
  | [], i, j, x => by simp [zlv]
  | none :: L, i, j, x => by
    rw [zlv, zlv_mem L (i + 1) j x]
    constructor
    · rintro ⟨k, v, rfl, h, rfl⟩
      exact ⟨k + 1, v, by omega, by simpa using h, rfl⟩
    · rintro ⟨k, v, rfl, h, rfl⟩
      cases k with
      | zero => simp at h
      | succ k => exact ⟨k, v, by omega, by simpa using h, rfl⟩
  | some w :: L, i, j, x => by
    rw [zlv, List.mem_cons, zlv_mem L (i + 1) j x]
    constructor
    · rintro (h | ⟨k, v, rfl, h, rfl⟩)
      · cases h
        exact ⟨0, w, rfl, rfl, rfl⟩
      · exact ⟨k + 1, v, by omega, by simpa using h, rfl⟩
    · rintro ⟨k, v, rfl, h, rfl⟩
      cases k with
      | zero => left; simp at h; rw [h]; rfl
      | succ k => right; exact ⟨k, v, by omega, by simpa using h, rfl⟩
theorem zlv_get {tv : zV → Value} {L : zLs} {ls : Array Slot} {nL i : Nat} {v : zV} (h : lv_has ls nL (zlv tv 0 L)) (hi : zgetl L i = some v) : ls[i]? = some (.val (tv v)) := by
  have h1 : L[i]? = some (some v) := by
    unfold zgetl at hi
    cases h2 : L[i]? with
    | none => rw [h2] at hi; cases hi
    | some w => rw [h2] at hi; simp at hi; rw [hi]
  exact h.2.2 (i, tv v) ((zlv_mem L 0 i (tv v)).mpr ⟨i, v, by omega, h1, rfl⟩)
theorem zlv_less {ls : Array Slot} {nL : Nat} {l l' : List (Nat × Value)} (h : lv_has ls nL l) (hs : ∀ q ∈ l', q ∈ l) : lv_has ls nL l' := ⟨h.1, h.2.1, fun q hq => h.2.2 q (hs q hq)⟩
theorem ztv_cat {lo : Nat} {roa : Nat → Nat} {sio : Value} (hs : sio.category = 1) (v : zV) : (ztv lo roa sio v).category = zcat v := by
  rcases v with x | x | _ | r <;> first | rfl | exact hs
theorem zlv_set {lo : Nat} {roa : Nat → Nat} {sio : Value} (hs : sio.category = 1) {L : zLs} {i : Nat} {v : zV} (hok : zok1 L i = true) : ∀ q ∈ zlv (ztv lo roa sio) 0 (L.set i (some v)), q ∈ (i, ztv lo roa sio v) :: (zlv (ztv lo roa sio) 0 L).filter (fun q => !(q.1 == i) && !(q.1 + 1 == i && q.2.category == 2)) := by
  rintro ⟨j, x⟩ hq
  obtain ⟨k, w, rfl, hk, rfl⟩ := (zlv_mem _ 0 j x).mp hq
  rw [Nat.zero_add]
  by_cases hki : k = i
  · subst hki
    have hlt : k < L.length := by
      have := (List.getElem?_eq_some_iff.mp hk).1
      simpa using this
    rw [List.getElem?_set_self hlt] at hk
    cases hk
    exact List.mem_cons_self
  · rw [List.getElem?_set_ne (fun h => hki h.symm)] at hk
    refine List.mem_cons_of_mem _ (List.mem_filter.mpr ⟨(zlv_mem _ 0 k _).mpr ⟨k, w, by omega, hk, rfl⟩, ?_⟩)
    have h1 : (k == i) = false := by simpa using hki
    simp only [h1, Bool.not_false, Bool.true_and, Bool.not_eq_true', Bool.and_eq_false_iff]
    by_cases h2 : k + 1 = i
    · right
      subst h2
      simp only [zok1, hk, zlg] at hok
      rw [ztv_cat hs]
      rcases w with x | x | _ | r
      · rfl
      · simp at hok
      · rfl
      · rfl
    · left
      simpa using h2
theorem zlv_set2 {lo : Nat} {roa : Nat → Nat} {sio : Value} (hs : sio.category = 1) {L : zLs} {i : Nat} {v : zV} (hok : zok1 L i = true) : ∀ q ∈ zlv (ztv lo roa sio) 0 ((L.set i (some v)).set (i + 1) none), q ∈ (i, ztv lo roa sio v) :: (zlv (ztv lo roa sio) 0 L).filter (fun q => !(q.1 == i) && (!(q.1 == i + 1) && !(q.1 + 1 == i && q.2.category == 2))) := by
  rintro ⟨j, x⟩ hq
  obtain ⟨k, w, rfl, hk, rfl⟩ := (zlv_mem _ 0 j x).mp hq
  have hk1 : k ≠ i + 1 := by
    rintro rfl
    have hlt : i + 1 < (L.set i (some v)).length := by
      have := (List.getElem?_eq_some_iff.mp hk).1
      simpa using this
    rw [List.getElem?_set_self hlt] at hk
    cases hk
  rw [List.getElem?_set_ne (fun h => hk1 h.symm)] at hk
  have h1 := zlv_set (lo := lo) (roa := roa) hs (v := v) hok (k, ztv lo roa sio w) ((zlv_mem _ 0 k _).mpr ⟨k, w, by omega, hk, rfl⟩)
  rw [Nat.zero_add]
  rcases List.mem_cons.mp h1 with h2 | h2
  · rw [h2]
    exact List.mem_cons_self
  · obtain ⟨h3, h4⟩ := List.mem_filter.mp h2
    refine List.mem_cons_of_mem _ (List.mem_filter.mpr ⟨h3, ?_⟩)
    simp only [Bool.and_eq_true] at h4 ⊢
    exact ⟨h4.1, by simpa using hk1, h4.2⟩
