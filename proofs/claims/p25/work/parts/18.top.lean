/-! the law's entry: out of what the interpreter answers of the law's code -/
def R_law : String := "RadioWeekLaw"
def lw_P (b : Addr) (xs : List Int32) (args : Array Value) (s : State) : Prop := args = #[.ref b] ∧ s.IntsAt b xs ∧ xs.length ≤ 260 ∧ (Jvm.Cond.and given_1 narrow_1).before args s = true
def lw_Q (_ : Array Value) (s : State) (o : Outcome) (t : State) : Prop := o = .returned (some (.int 1)) ∧ Framed s o t [] 600000 7302249
def lw_Z (below : List Frame) (a : Array Value) (s : State) : State → Prop := fun t => ∃ o, t.status = .running ∧ Ended t below o ∧ lw_Q a s o t
/-- the law's own end, with 1 on the stack, nothing written that was there before, its room as the claim has it -/
theorem lw_ret {p : Program} {l : Launch} {e : Env} {s : State} {m : MethodId} {below : List Frame} {meth : Method} {c : Code} {b : Nat} (hx : p.tables.exec = Jvm.exec) (hb : c.code = code) (hr : meth.sig.returnType = ret) (hlocks : meth.locks = false) {pc : Nat} {H : Heap} {ls : Array Slot} (hdg : decode code pc = .ok (.ireturn, 1)) : W p l e room_1 s m #[Value.ref b] below meth c H [] 600000 7302249 (lw_Z below #[Value.ref b] s) (F0 m pc ls [.int 1]) := by
  intro T hT X
  obtain ⟨fs, hret, hrun, hended, hW, hframe⟩ := X.leave (v := some (.int 1)) (hlocks := hlocks) (fun h => by rw [hr] at h; cases h)
  have hmeth' : T.vm.method? m = some meth := X.method'
  refine ⟨T.setFrames fs, ?_, .returned (some (.int 1)), hrun, hended, rfl, ⟨_, rfl⟩, hW, hframe⟩
  jvm_step X.here [X.here.top, hx, hb, hdg, hmeth', hr, ret, narrow_b1]
  (try refine ⟨rfl, ?_⟩); (try refine ⟨rfl, ?_⟩)
  first | (intro acts; rw [hret _ acts rfl rfl rfl]) | rw [hret _ _ rfl rfl rfl]
  exact Steps.refl _
/-- what holds at the law's entry: the machine, the code, the tables' words (any of lw_tbl by 'hts w (by decide +kernel)'), the script of L ints xs at the cell b, what the Statement gives of the start (any of its parts by flat_of_before) -/
def lw_At (p : Program) (s : State) (m : MethodId) (meth : Method) (c : Code) (b L : Nat) (xs : Nat → Int32) : Prop :=
  p.tables.exec = Jvm.exec ∧ c.code = code ∧ meth.sig.returnType = ret ∧ c.maxLocals = 15 ∧ s.vm.findClass R_law = some m.cls ∧ (∀ w ∈ lw_tbl, w.before #[Value.ref b] s = true) ∧ va_X b L xs s s.heap ∧ b < s.heap.size ∧ meth.locks = false ∧ (Jvm.Cond.and given_1 narrow_1).before #[Value.ref b] s = true
def zS0 (L : Nat) : zSh := fun r => match r with
  | 0 => (30, ((L : Int), fun _ => none))
  | 1 => (11, (0, fun k => if k = 0 then some 2 else none))
  | 2 => (31, (2, fun _ => none))
  | 3 => (11, (0, fun k => if k = 0 then some 4 else none))
  | 4 => (31, (2, fun _ => none))
  | 5 => (31, (100, fun _ => none))
  | 6 => (31, (100, fun _ => none))
  | 7 => (98, (0, fun _ => none))
  | _ => (99, (0, fun _ => none))
def zct (xs : Nat → Int32) : zC := fun r k => match r with
  | 0 => (xs k.toNat).toInt
  | 2 => if k = 0 then 32 else 43
  | 4 => if k = 0 then 32 else 80
  | 5 => 48 + k % 10
  | 6 => 48 + (k / 10) % 10
  | _ => 0
def zm0 (xs : Nat → Int32) (L : Nat) : zMem := ((8, 0), (zS0 L, zct xs))
/-- what is owed of the interpreter: on the law's code, with a script, it answers 1 within the room -/
def zLaw : Prop := ∀ (L : Nat) (xs : Nat → Int32), L ≤ 260 → ∃ (f : Nat) (μ' : zMem), zgo f 15 138 0 (zent 138 [zA 0]) [] (zm0 xs L) = some (some (zI 1), μ') ∧ μ'.1.1 ≤ 600008 ∧ μ'.1.2 ≤ 7302249
theorem zct_in (xs : Nat → Int32) : ∀ r k, zInR (zct xs r k) := by
  intro r k
  unfold zct zInR
  split
  · have h1 := Int32.le_toInt (xs k.toNat)
    have h2 := Int32.toInt_lt (xs k.toNat)
    omega
  · split <;> omega
  · split <;> omega
  · omega
  · omega
  · omega
theorem zflat1 : ∀ j, j < 100 → Cond.eq (.elem (.static "java/lang/Integer" "DigitOnes" "[B") (.int (Int32.ofNat j))) (.int (Int32.ofInt (zct (fun _ => 0) 5 (j : Int)))) ∈ flatC (Jvm.Cond.and given_1 narrow_1) := by
  have h : ∀ j, j < 100 → (flatC (Jvm.Cond.and given_1 narrow_1))[8 + j]? = some (Cond.eq (.elem (.static "java/lang/Integer" "DigitOnes" "[B") (.int (Int32.ofNat j))) (.int (Int32.ofInt (zct (fun _ => 0) 5 (j : Int))))) := by decide +kernel
  exact fun j hj => List.mem_of_getElem? (h j hj)
theorem zflat2 : ∀ j, j < 100 → Cond.eq (.elem (.static "java/lang/Integer" "DigitTens" "[B") (.int (Int32.ofNat j))) (.int (Int32.ofInt (zct (fun _ => 0) 6 (j : Int)))) ∈ flatC (Jvm.Cond.and given_1 narrow_1) := by
  have h : ∀ j, j < 100 → (flatC (Jvm.Cond.and given_1 narrow_1))[111 + j]? = some (Cond.eq (.elem (.static "java/lang/Integer" "DigitTens" "[B") (.int (Int32.ofNat j))) (.int (Int32.ofInt (zct (fun _ => 0) 6 (j : Int))))) := by decide +kernel
  exact fun j hj => List.mem_of_getElem? (h j hj)
theorem zflat3 : (∀ i, i < 2 → ∀ j, j < [2, 2].getD i 0 → Cond.eq (.elem (.field (.string "RadioWeek" ([271, 276].getD i 0)) "java/lang/String" "value" "[B") (.int (Int32.ofNat j))) (.int ((([[32, 43], [32, 80]] : List (List Int32)).getD i []).getD j 0)) ∈ flatC (Jvm.Cond.and given_1 narrow_1)) ∧
  (∀ i, i < 2 → Cond.exactly (.string "RadioWeek" ([271, 276].getD i 0)) "java/lang/String" ∈ flatC (Jvm.Cond.and given_1 narrow_1)) ∧ (∀ i, i < 2 → Cond.eq (.field (.string "RadioWeek" ([271, 276].getD i 0)) "java/lang/String" "coder" "B") (.int 0) ∈ flatC (Jvm.Cond.and given_1 narrow_1)) ∧
  (∀ i, i < 2 → Cond.arrayOf (.field (.string "RadioWeek" ([271, 276].getD i 0)) "java/lang/String" "value" "[B") .byte ∈ flatC (Jvm.Cond.and given_1 narrow_1)) ∧ (∀ i, i < 2 → Cond.eq (.length (.field (.string "RadioWeek" ([271, 276].getD i 0)) "java/lang/String" "value" "[B")) (.int (Int32.ofNat ([2, 2].getD i 0))) ∈ flatC (Jvm.Cond.and given_1 narrow_1)) := by decide +kernel
theorem zdig (xs : Nat → Int32) (j : Nat) : zct xs 5 (j : Int) = zct (fun _ => 0) 5 (j : Int) ∧ zct xs 6 (j : Int) = zct (fun _ => 0) 6 (j : Int) := ⟨rfl, rfl⟩
theorem zsrc_ok : (∀ y ∈ zpriv, Cond.privateMethod y ∈ lw_tbl ∧ Cond.instanceMethod y ∈ lw_tbl) ∧ Cond.selects RJ4 yJ5_isLatin1_aae02 yJ5_isLatin1_aae02 ∈ lw_tbl ∧ (∀ y ∈ zpriv, yJ5_isLatin1_aae02.cls = y.cls ∧ y.cls ≠ "java/lang/invoke/MethodHandle" ∧ y.cls ≠ "java/lang/invoke/VarHandle") := by decide +kernel
theorem zlaw_cls : zcn (zK 138) = R_law ∧ zB 138 = code ∧ zL 138 = 15 ∧ zR 138 = ret ∧ (zY 138).name ≠ "<init>" := ⟨rfl, rfl, rfl, rfl, by decide⟩
theorem zvw : ∀ ci, ci < 11 → ∃ i : Nat, (vwClz[ci]?).map (fun q => Cond.instantiable q.1 q.2.2) = ztbl[i]? := by
  have h : ∀ ci, ci < 11 → (vwClz[ci]?).map (fun q => Cond.instantiable q.1 q.2.2) = ztbl[([272, 124, 240, 193, 144, 64, 96, 213, 58, 50]).getD ci 99999]? := by decide +kernel
  exact fun ci hci => ⟨_, h ci hci⟩
theorem zwst : Cond.stringRef RX8 271 " +" ∈ lw_tbl ∧ Cond.stringRef RX8 276 " P" ∈ lw_tbl ∧ Cond.arrayOver (.object RX7) ∈ lw_tbl ∧ Cond.laysStatic "java/lang/String" "COMPACT_STRINGS" "Z" ∈ lw_tbl ∧ Cond.laysStatic "java/lang/Integer" "DigitOnes" "[B" ∈ lw_tbl ∧ Cond.laysStatic "java/lang/Integer" "DigitTens" "[B" ∈ lw_tbl ∧ Cond.laysStatic "jdk/internal/util/Preconditions" "SIOOBE_FORMATTER" "Ljava/util/function/BiFunction;" ∈ lw_tbl ∧ Cond.initialized "java/lang/String" ∈ lw_tbl ∧ Cond.initialized "java/lang/Integer" ∈ lw_tbl ∧ Cond.initialized "jdk/internal/util/Preconditions" ∈ lw_tbl := by decide +kernel
theorem zflat4 : Cond.eq (.static "java/lang/String" "COMPACT_STRINGS" "Z") (.int 1) ∈ flatC (Jvm.Cond.and given_1 narrow_1) ∧ Cond.arrayOf (.static "java/lang/Integer" "DigitOnes" "[B") .byte ∈ flatC (Jvm.Cond.and given_1 narrow_1) ∧ Cond.arrayOf (.static "java/lang/Integer" "DigitTens" "[B") .byte ∈ flatC (Jvm.Cond.and given_1 narrow_1) ∧ Cond.eq (.length (.static "java/lang/Integer" "DigitOnes" "[B")) (.int (Int32.ofNat 100)) ∈ flatC (Jvm.Cond.and given_1 narrow_1) ∧ Cond.eq (.length (.static "java/lang/Integer" "DigitTens" "[B")) (.int (Int32.ofNat 100)) ∈ flatC (Jvm.Cond.and given_1 narrow_1) ∧ Cond.isRef (.static "jdk/internal/util/Preconditions" "SIOOBE_FORMATTER" "Ljava/util/function/BiFunction;") ∈ flatC (Jvm.Cond.and given_1 narrow_1) ∧ Cond.not (Cond.eq (.string "RadioWeek" 271) (.string "RadioWeek" 276)) ∈ flatC (Jvm.Cond.and given_1 narrow_1) := by decide +kernel
set_option maxHeartbeats 4000000 in
theorem zstart {s : State} {b L : Nat} {xs : Nat → Int32} (hL : L ≤ 260) (hts : ∀ w ∈ lw_tbl, w.before #[Value.ref b] s = true) (hX : va_X b L xs s s.heap) (hbl : b < s.heap.size) (hgv : (Jvm.Cond.and given_1 narrow_1).before #[Value.ref b] s = true) :
    (∀ w ∈ ztbl, w.before #[Value.ref b] s = true) ∧ ∃ (D : va_G) (roa : Nat → Nat) (sio : Value), roa 0 = b ∧ zstat s.heap.size roa sio D (zS0 L) (zct xs) s s.heap := by
  have hz : ∀ w ∈ ztbl, w.before #[Value.ref b] s = true := by
    intro w hw
    rcases List.mem_append.mp hw with h | h
    · obtain ⟨y, hy, rfl⟩ := List.mem_map.mp h
      obtain ⟨g1, g2, g3⟩ := zsrc_ok
      exact zsel_priv (g3 y hy).1 (g3 y hy).2 (hts _ g2) (hts _ (g1 y hy).1) (hts _ (g1 y hy).2)
    · exact hts w h
  refine ⟨hz, ?_⟩
  have hs := flat_of_before _ hgv
  have hA : ∀ a : Nat, a < s.heap.size → ¬ (fun q => s.heap.size ≤ q) a := fun a h h2 => absurd h (Nat.not_lt.mpr h2)
  have hK0 : ∀ ci : Nat, ∃ q : ClassId × (Nat → Nat), ∀ r, vwClz[ci]? = some r → u_Kn s r.1 r.2.1 r.2.2 q.1 q.2 := by
    intro ci
    by_cases hci : ci < 11
    · obtain ⟨i, hi⟩ := zvw ci hci
      cases hc : vwClz[ci]? with
      | none => exact ⟨(0, fun _ => 0), fun r h => by cases h⟩
      | some r =>
        obtain ⟨C, T, N⟩ := r
        obtain ⟨-, -, hin, -, -⟩ := zty_ok ci C T N hc
        rw [hc] at hi
        obtain ⟨cC, iS, h1⟩ := u_known (C := C) (T := T) (N := N) (n := N) (ws := zgw) (s := s) (args := #[Value.ref b]) (fun w hw => hz w (zgw_good w hw).1) hin (hz _ (List.mem_of_getElem? hi.symm))
        exact ⟨(cC, iS), fun r h => by cases h; exact h1⟩
    · exact ⟨(0, fun _ => 0), fun r h => by
        have := (List.getElem?_eq_some_iff.mp h).1
        simp [vwClz] at this
        omega⟩
  obtain ⟨dq, hdq⟩ := Classical.axiomOfChoice hK0
  obtain ⟨f3a, f3b, f3c, f3d, f3e⟩ := zflat3
  obtain ⟨f41, f42, f43, f44, f45, f46, f47⟩ := zflat4
  obtain ⟨w1, w2, w3, w4, w5, w6, w7, w8, w9, w10⟩ := zwst
  obtain ⟨adK, adV, hvs, hte⟩ := vk_Sof (args := #[Value.ref b]) (s := s) (N := 2) (tm := fun i => .string "RadioWeek" ([271, 276].getD i 0)) (len := [2, 2]) (byt := [[32, 43], [32, 80]]) (A := fun q => s.heap.size ≤ q)
    (by decide) (fun i hi => hs _ (f3b i hi)) (fun i hi => hs _ (f3c i hi)) (fun i hi => hs _ (f3d i hi)) (fun i hi => hs _ (f3e i hi)) (fun i hi j hj => hs _ (f3a i hi j hj))
    (fun i j hi hj hne => by
      rcases (show (i = 0 ∧ j = 1) ∨ (i = 1 ∧ j = 0) by omega) with ⟨rfl, rfl⟩ | ⟨rfl, rfl⟩
      · exact Or.inl (hs _ f47)
      · exact Or.inr (hs _ f47)) hA
  obtain ⟨t5, ht5, hT5⟩ := va_Tof (tm := .static "java/lang/Integer" "DigitOnes" "[B") (N := 100) (f := fun j => .int (Int32.ofInt (zct (fun _ => 0) 5 (j : Int)))) (A := fun q => s.heap.size ≤ q) (by decide) (hs _ f42) (va_eqt (hs _ f44)) (fun j hj => va_eqt (hs _ (zflat1 j hj))) hA
  obtain ⟨t6, ht6, hT6⟩ := va_Tof (tm := .static "java/lang/Integer" "DigitTens" "[B") (N := 100) (f := fun j => .int (Int32.ofInt (zct (fun _ => 0) 6 (j : Int)))) (A := fun q => s.heap.size ≤ q) (by decide) (hs _ f43) (va_eqt (hs _ f45)) (fun j hj => va_eqt (hs _ (zflat2 j hj))) hA
  have hsio : ∃ sio : Value, sio.category = 1 ∧ va_Z "jdk/internal/util/Preconditions" "SIOOBE_FORMATTER" "Ljava/util/function/BiFunction;" sio (fun q => s.heap.size ≤ q) s s.heap := by
    rcases va_Zqof (A := fun q => s.heap.size ≤ q) (hts _ w7) (hts _ w10) (hs _ f46) hA with h | ⟨t, h⟩
    · exact ⟨.null, rfl, h⟩
    · exact ⟨.ref t, rfl, h⟩
  obtain ⟨sio, hs1, hs2⟩ := hsio
  refine ⟨(fun k => (dq k).1, fun k => (dq k).2), fun r => match r with
    | 0 => b
    | 1 => adK 0
    | 2 => adV 0
    | 3 => adK 1
    | 4 => adV 1
    | 5 => t5
    | _ => t6, sio, rfl, ⟨fun c q h => hdq c q h, fun k q h => by simp at h⟩, hs1, ⟨?_, va_Zof (hts _ w4) (hts _ w8) (va_eqt (hs _ f41)) hA, va_Zof (hts _ w5) (hts _ w9) ht5 hA, va_Zof (hts _ w6) (hts _ w9) ht6 hA, hs2⟩, ?_⟩
  · intro r hr
    obtain ⟨v0, -⟩ := hvs
    obtain ⟨a0, a1, a2, a3⟩ := v0 0 (by decide)
    obtain ⟨c0, c1, c2, c3⟩ := v0 1 (by decide)
    have hto : ∀ {t N : Nat} {f g : Nat → Value}, va_T .byte t N f (fun q => s.heap.size ≤ q) s s.heap → (∀ j, j < N → f j = g j) → va_T .byte t N g (fun q => s.heap.size ≤ q) s s.heap := fun h he => by
      obtain ⟨cell, h1, h2, h3, h4, h5, h6, h7⟩ := h
      exact ⟨cell, h1, h2, h3, h4, h5, fun j hj => by rw [← he j hj]; exact h6 j hj, h7⟩
    match r, hr with
    | 0, _ =>
      refine ⟨Or.inl rfl, fun _ => ⟨L, rfl, by omega, ?_⟩, (fun h => absurd (show (30 : Nat) = 31 from h) (by decide)), (fun h => absurd (show (30 : Nat) = 11 from h) (by decide))⟩
      obtain ⟨scr, g1, g2, g3, g4, g5⟩ := hX
      refine ⟨scr, g1, g2, g3, by omega, (by rw [g4] <;> rfl), fun j hj => ?_, hA b hbl⟩
      rw [g5 j hj]
      show _ = some (Value.int (Int32.ofInt (xs ((j : Int).toNat)).toInt))
      rw [Int32.ofInt_toInt]
      rfl
    | 1, _ => exact ⟨Or.inr (Or.inr (Or.inl rfl)), (fun h => absurd (show (11 : Nat) = 30 from h) (by decide)), (fun h => absurd (show (11 : Nat) = 31 from h) (by decide)), fun _ => ⟨a0, a1, fun q hq => by cases hq; exact a2⟩⟩
    | 2, _ =>
      refine ⟨Or.inr (Or.inl rfl), (fun h => absurd (show (31 : Nat) = 30 from h) (by decide)), fun _ => ⟨2, rfl, by decide, hto a3 (fun j hj => ?_), fun j hj => ?_⟩, (fun h => absurd (show (31 : Nat) = 11 from h) (by decide))⟩
      · rcases (show j = 0 ∨ j = 1 by have hj : j < 2 := hj; omega) with rfl | rfl <;> rfl
      · rcases (show j = 0 ∨ j = 1 by omega) with rfl | rfl
        · exact ⟨by show (-128 : Int) ≤ 32; decide, by show (32 : Int) < 128; decide⟩
        · exact ⟨by show (-128 : Int) ≤ 43; decide, by show (43 : Int) < 128; decide⟩
    | 3, _ => exact ⟨Or.inr (Or.inr (Or.inl rfl)), (fun h => absurd (show (11 : Nat) = 30 from h) (by decide)), (fun h => absurd (show (11 : Nat) = 31 from h) (by decide)), fun _ => ⟨c0, c1, fun q hq => by cases hq; exact c2⟩⟩
    | 4, _ =>
      refine ⟨Or.inr (Or.inl rfl), (fun h => absurd (show (31 : Nat) = 30 from h) (by decide)), fun _ => ⟨2, rfl, by decide, hto c3 (fun j hj => ?_), fun j hj => ?_⟩, (fun h => absurd (show (31 : Nat) = 11 from h) (by decide))⟩
      · rcases (show j = 0 ∨ j = 1 by have hj : j < 2 := hj; omega) with rfl | rfl <;> rfl
      · rcases (show j = 0 ∨ j = 1 by omega) with rfl | rfl
        · exact ⟨by show (-128 : Int) ≤ 32; decide, by show (32 : Int) < 128; decide⟩
        · exact ⟨by show (-128 : Int) ≤ 80; decide, by show (80 : Int) < 128; decide⟩
    | 5, _ => exact ⟨Or.inr (Or.inl rfl), (fun h => absurd (show (31 : Nat) = 30 from h) (by decide)), fun _ => ⟨100, rfl, by decide, hT5, fun j hj => by show -128 ≤ 48 + (j : Int) % 10 ∧ 48 + (j : Int) % 10 < 128; omega⟩, (fun h => absurd (show (31 : Nat) = 11 from h) (by decide))⟩
    | 6, _ => exact ⟨Or.inr (Or.inl rfl), (fun h => absurd (show (31 : Nat) = 30 from h) (by decide)), fun _ => ⟨100, rfl, by decide, hT6, fun j hj => by show -128 ≤ 48 + ((j : Int) / 10) % 10 ∧ 48 + ((j : Int) / 10) % 10 < 128; omega⟩, (fun h => absurd (show (31 : Nat) = 11 from h) (by decide))⟩
    | 7, _ => exact ⟨Or.inr (Or.inr (Or.inr rfl)), (fun h => absurd (show (98 : Nat) = 30 from h) (by decide)), (fun h => absurd (show (98 : Nat) = 31 from h) (by decide)), (fun h => absurd (show (98 : Nat) = 11 from h) (by decide))⟩
    | n + 8, h => exact absurd h (by omega)
  · exact ⟨vk_R.of (hts _ w1) (hte 0 (by decide)), vk_R.of (hts _ w2) (hte 1 (by decide)), fun own idx y hm => va_Nw.of rfl (hz _ hm), va_AO.of (hts _ w3)⟩
set_option maxHeartbeats 4000000 in
set_option maxRecDepth 100000 in
theorem whole_of (HL : zLaw) {p : Program} {e : Env} {s : State} {m : MethodId} {below : List Frame} {meth : Method} {c : Code} (l : Launch) {b L : Nat} {xs : Nat → Int32} (hL : L ≤ 260) (C0 : lw_At p s m meth c b L xs) : W p l e room_1 s m #[Value.ref b] below meth c s.heap [] 0 0 (lw_Z below #[Value.ref b] s) (entryFrame m ([Value.ref b] : List Value).toArray 15) := by
  obtain ⟨hx, hb, hr, hml, hown, hts, hX, hbl, hlocks, hgv⟩ := id C0
  obtain ⟨hz, D, roa, sio, hroa, hst⟩ := zstart hL hts hX hbl hgv
  obtain ⟨f, μ', hgo, hn1, hn2⟩ := HL L xs hL
  have hl := lv_entry ([.ref b]) (n := 15) (Nat.le_of_ble_eq_true rfl)
  rw [lg_entry_eq]
  generalize (lg_sl ([.ref b]) ++ List.replicate (15 - (lg_sl ([.ref b])).length) Slot.unset).toArray = ls at hl ⊢
  have hl : lv_has ls 15 [(0, .ref b)] := hl
  have key := zsound f 15 138 0 (zent 138 [zA 0]) [] (zm0 xs L) (some (zI 1)) μ' hgo p l e room_1 s m #[Value.ref b] below meth c (lw_Z below #[Value.ref b] s) s.heap.size roa sio D (zS0 L) (zct xs) 8 0 0 0
    ⟨hx, hb, hml, hown, fun w hw => hz w (zgw_good w hw).1, hr, hlocks, fun h => absurd h zlaw_cls.2.2.2.2, hst, Nat.le_refl _, Nat.le_refl _, Nat.le_of_ble_eq_true rfl⟩
    (by show μ'.1.1 + 0 ≤ 600000 + 8 ∧ μ'.1.2 + 0 ≤ 7302249 + 0; omega) ?_
  · have h0 := key s.heap [] ls 0 0 rfl rfl ⟨⟨rfl, Nat.le_refl _, fun r h1 h2 => absurd h2 (by show ¬ r < 8; omega), fun r hr8 => ?_, zct_in xs, fun r _ => ⟨rfl, rfl⟩⟩, va_S.rf, zlv_less hl (fun q hq => ?_), rfl, fun i v hv => ?_, fun v hv => by cases hv⟩
    · exact h0
    · match r, hr8 with
      | n + 8, _ => rfl
    · have hq2 : q ∈ [(0, Value.ref (zad s.heap.size roa 0))] := hq
      rw [List.mem_singleton] at hq2
      rw [hq2]
      show ((0 : Nat), Value.ref (roa 0)) ∈ _
      rw [hroa]
      exact List.mem_cons_self
    · have := zent_get hv
      rw [List.mem_singleton] at this
      rw [this]
      trivial
  · intro pc' op L' st' hd' hr' H locs ls' cells slots h1 h2 h3
    obtain ⟨hdyn', hS', -, -, -, hws'⟩ := h3
    dsimp only at h1 h2 hdyn' hS' hws' ⊢
    unfold zret at hr'
    split at hr' <;> try contradiction
    · split at hr' <;> try contradiction
      rename_i x
      have hx1 : x = 1 := by
        replace hr' : (if x = 0 ∨ x = 1 then some (some (zI x)) else none) = some (some (zI 1)) := hr'
        split at hr' <;> cases hr'
        rfl
      subst hx1
      refine va_forget (fun q hq => hS'.2.2 q hq) ?_
      refine W.widen (k := 600000) (n := 7302249) (by omega) (by omega) ?_
      exact lw_ret hx hb hr hlocks hd'
    · split at hr' <;> try contradiction
      all_goals (split at hr' <;> cases hr')
    · split at hr' <;> try contradiction
      all_goals (split at hr' <;> cases hr')
    · split at hr' <;> cases hr'
