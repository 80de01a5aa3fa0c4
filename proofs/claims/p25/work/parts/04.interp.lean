/-! a small interpreter of the instructions over whole numbers: cells by number, their shapes, their contents -/
abbrev zV : Type := Int ⊕ (Int ⊕ Option Nat)
abbrev zSh : Type := Nat → Nat × (Int × (Int → Option Nat))
abbrev zC : Type := Nat → Int → Int
abbrev zMem : Type := (Nat × Nat) × (zSh × zC)
abbrev zLs : Type := List (Option zV)
abbrev zI (x : Int) : zV := Sum.inl x
abbrev zJ (x : Int) : zV := Sum.inr (Sum.inl x)
abbrev zA (r : Nat) : zV := Sum.inr (Sum.inr (some r))
def zwr (x : Int) : Int := (x + 2147483648) % 4294967296 - 2147483648
def zwl (x : Int) : Int := (x + 9223372036854775808) % 18446744073709551616 - 9223372036854775808
def zup (c : zC) (r : Nat) (k v : Int) : zC := fun r' k' => if r' = r ∧ k' = k then v else c r' k'
def zcpy (c : zC) (a : Nat) (sp : Int) (b : Nat) (dp n : Int) : zC := fun r k => if r = b ∧ dp ≤ k ∧ k < dp + n then c a (sp + (k - dp)) else c r k
def zsup (S : zSh) (r : Nat) (x : Nat × (Int × (Int → Option Nat))) : zSh := fun r' => if r' = r then x else S r'
def zrup (f : Int → Option Nat) (k : Int) (v : Option Nat) : Int → Option Nat := fun j => if j = k then v else f j
def zfr (c : zC) (r : Nat) : zC := fun r' k => if r' = r then 0 else c r' k
def zlg : Option (Option zV) → Bool
  | some (some (.inr (.inl _))) => true
  | _ => false
def zok1 (L : zLs) : Nat → Bool
  | 0 => true
  | i + 1 => !zlg L[i]?
def zcat : zV → Nat
  | .inr (.inl _) => 2
  | _ => 1
def zone (v : zV) : Bool := zcat v == 1
def zjmp (pc : Nat) (off : Int) : Option Nat := if 0 ≤ (pc : Int) + off then some ((pc : Int) + off).toNat else none
def zcb (cd : ClassFile.Cond) (x y : Int) : Bool := match cd with
  | .eq => decide (x = y)
  | .ne => decide (¬ x = y)
  | .lt => decide (x < y)
  | .ge => decide (y ≤ x)
  | .gt => decide (y < x)
  | .le => decide (x ≤ y)
def zCall (own idx : Nat) : Option (Nat × (Nat × Nat)) := (zcalls.find? (fun e => e.1.1 == own && e.1.2 == idx)).map (fun e => e.2.1)
def zFld (own idx : Nat) : Option (Nat × (Nat × (Bool × Nat))) := (zflds.find? (fun e => e.1.1 == own && e.1.2 == idx)).map (fun e => e.2.1)
def zNew (own idx : Nat) : Option Nat := (znews.find? (fun e => e.1.1 == own && e.1.2 == idx)).map (fun e => e.2.1)
def zldc (own idx : Nat) : Option zV := match own, idx with
  | 8, 271 => some (zA 1)
  | 8, 276 => some (zA 3)
  | 12, 39 => some (zI 2147483647)
  | 18, 200 => some (zI 2147483639)
  | 8, 202 => some (zJ 73)
  | 8, 204 => some (zJ 31)
  | 10, 7 => some (zI 763049417)
  | 10, 8 => some (zI 2147483647)
  | 10, 90 => some (zI 101616480)
  | _, _ => none
def zstt (own idx : Nat) : Option zV := match own, idx with
  | 12, 18 => some (zI 1)
  | 15, 38 => some (zI 1)
  | 13, 83 => some (zA 5)
  | 13, 87 => some (zA 6)
  | 15, 1053 => some (.inr (.inr none))
  | _, _ => none
/-- the number of fields of a class of cells -/
def znf (ci : Nat) : Nat := [4, 4, 8, 3, 5, 5, 5, 6, 4, 5, 0].getD ci 0
/-- the shape of a receiver of a class -/
def zTag (k : Nat) : Nat := [1, 2, 3, 4, 5, 6, 7, 8, 9, 99, 99, 0, 99, 99, 99, 11].getD k 99
abbrev zst : Type := Nat × (zLs × (List zV × zMem))
def zgetl (L : zLs) (i : Nat) : Option zV := (L[i]?).join
/-- instructions that are no call and no return -/
def znext (d M pc : Nat) (L : zLs) (st : List zV) (μ : zMem) (op : Instr) (len : Nat) : Option zst :=
  match op, len with
  | .iconst i, 1 => if -1 ≤ i ∧ i ≤ 5 then some (pc + 1, L, zI i :: st, μ) else none
  | .bipush b, 2 => if -128 ≤ b ∧ b < 128 then some (pc + 2, L, zI b :: st, μ) else none
  | .sipush b, 3 => if -32768 ≤ b ∧ b < 32768 then some (pc + 3, L, zI b :: st, μ) else none
  | .ldc i, 2 => match zldc (zK M) i with
    | some (.inl x) => some (pc + 2, L, zI x :: st, μ)
    | _ => none
  | .ldc_w i, 3 => match zldc (zK M) i with
    | some (.inr (.inr (some r))) => some (pc + 3, L, zA r :: st, μ)
    | _ => none
  | .ldc2_w i, 3 => match zldc (zK M) i with
    | some (.inr (.inl x)) => some (pc + 3, L, zJ x :: st, μ)
    | _ => none
  | .iload i, 2 => match zgetl L i with
    | some (.inl x) => some (pc + 2, L, zI x :: st, μ)
    | _ => none
  | .iload_n i, 1 => match zgetl L i.val with
    | some (.inl x) => some (pc + 1, L, zI x :: st, μ)
    | _ => none
  | .aload i, 2 => match zgetl L i with
    | some (.inr (.inr (some r))) => some (pc + 2, L, zA r :: st, μ)
    | _ => none
  | .aload_n i, 1 => match zgetl L i.val with
    | some (.inr (.inr (some r))) => some (pc + 1, L, zA r :: st, μ)
    | _ => none
  | .lload i, 2 => match zgetl L i with
    | some (.inr (.inl x)) => some (pc + 2, L, zJ x :: st, μ)
    | _ => none
  | .lload_n i, 1 => match zgetl L i.val with
    | some (.inr (.inl x)) => some (pc + 1, L, zJ x :: st, μ)
    | _ => none
  | .istore i, 2 => match st with
    | .inl x :: r => if zok1 L i = true ∧ i < L.length then some (pc + 2, L.set i (some (zI x)), r, μ) else none
    | _ => none
  | .istore_n i, 1 => match st with
    | .inl x :: r => if zok1 L i.val = true ∧ i.val < L.length then some (pc + 1, L.set i.val (some (zI x)), r, μ) else none
    | _ => none
  | .astore_n i, 1 => match st with
    | .inr (.inr (some x)) :: r => if zok1 L i.val = true ∧ i.val < L.length then some (pc + 1, L.set i.val (some (zA x)), r, μ) else none
    | _ => none
  | .astore i, 2 => match st with
    | .inr (.inr (some x)) :: r => if zok1 L i = true ∧ i < L.length then some (pc + 2, L.set i (some (zA x)), r, μ) else none
    | _ => none
  | .lstore i, 2 => match st with
    | .inr (.inl x) :: r => if zok1 L i = true ∧ i + 1 < L.length then some (pc + 2, (L.set i (some (zJ x))).set (i + 1) none, r, μ) else none
    | _ => none
  | .lstore_n i, 1 => match st with
    | .inr (.inl x) :: r => if zok1 L i.val = true ∧ i.val + 1 < L.length then some (pc + 1, (L.set i.val (some (zJ x))).set (i.val + 1) none, r, μ) else none
    | _ => none
  | .iinc i n, 3 => match zgetl L i with
    | some (.inl x) => if zok1 L i = true ∧ i < L.length then some (pc + 3, L.set i (some (zI (zwr (x + n)))), st, μ) else none
    | _ => none
  | .iinc i n, 6 => match zgetl L i with
    | some (.inl x) => if zok1 L i = true ∧ i < L.length then some (pc + 6, L.set i (some (zI (zwr (x + n)))), st, μ) else none
    | _ => none
  | .iadd, 1 => match st with
    | .inl y :: .inl x :: r => some (pc + 1, L, zI (zwr (x + y)) :: r, μ)
    | _ => none
  | .isub, 1 => match st with
    | .inl y :: .inl x :: r => some (pc + 1, L, zI (zwr (x - y)) :: r, μ)
    | _ => none
  | .imul, 1 => match st with
    | .inl y :: .inl x :: r => some (pc + 1, L, zI (zwr (x * y)) :: r, μ)
    | _ => none
  | .idiv, 1 => match st with
    | .inl y :: .inl x :: r => if y ≠ 0 then some (pc + 1, L, zI (zwr (x.tdiv y)) :: r, μ) else none
    | _ => none
  | .irem, 1 => match st with
    | .inl y :: .inl x :: r => if y ≠ 0 then some (pc + 1, L, zI (zwr (x - x.tdiv y * y)) :: r, μ) else none
    | _ => none
  | .ineg, 1 => match st with
    | .inl x :: r => some (pc + 1, L, zI (zwr (-x)) :: r, μ)
    | _ => none
  | .iand, 1 => match st with
    | .inl y :: .inl x :: r => if y = 31 then some (pc + 1, L, zI (x % 32) :: r, μ) else if y = 255 then some (pc + 1, L, zI (x % 256) :: r, μ) else some (pc + 1, L, zI (Int32.ofInt x &&& Int32.ofInt y).toInt :: r, μ)
    | _ => none
  | .ishl, 1 => match st with
    | .inl y :: .inl x :: r => if y = 0 then some (pc + 1, L, zI x :: r, μ) else none
    | _ => none
  | .ishr, 1 => match st with
    | .inl y :: .inl x :: r => if y = 0 then some (pc + 1, L, zI x :: r, μ) else some (pc + 1, L, zI (Int32.ofInt x >>> (Int32.ofInt y &&& 31)).toInt :: r, μ)
    | _ => none
  | .i2l, 1 => match st with
    | .inl x :: r => some (pc + 1, L, zJ x :: r, μ)
    | _ => none
  | .i2b, 1 => match st with
    | .inl x :: r => some (pc + 1, L, zI ((x + 128) % 256 - 128) :: r, μ)
    | _ => none
  | .i2c, 1 => match st with
    | .inl x :: r => some (pc + 1, L, zI (x % 65536) :: r, μ)
    | _ => none
  | .ladd, 1 => match st with
    | .inr (.inl y) :: .inr (.inl x) :: r => some (pc + 1, L, zJ (zwl (x + y)) :: r, μ)
    | _ => none
  | .lmul, 1 => match st with
    | .inr (.inl y) :: .inr (.inl x) :: r => some (pc + 1, L, zJ (zwl (x * y)) :: r, μ)
    | _ => none
  | .lcmp, 1 => match st with
    | .inr (.inl y) :: .inr (.inl x) :: r => some (pc + 1, L, zI (if x = y then 0 else if x < y then -1 else 1) :: r, μ)
    | _ => none
  | .ifCond cd off, 3 => match st, zjmp pc off with
    | .inl x :: r, some t => some (if zcb cd x 0 = true then t else pc + 3, L, r, μ)
    | _, _ => none
  | .if_icmp cd off, 3 => match st, zjmp pc off with
    | .inl y :: .inl x :: r, some t => some (if zcb cd x y = true then t else pc + 3, L, r, μ)
    | _, _ => none
  | .ifnonnull off, 3 => match st, zjmp pc off with
    | .inr (.inr (some _)) :: r, some t => some (t, L, r, μ)
    | _, _ => none
  | .goto off, 3 => match zjmp pc off with
    | some t => some (t, L, st, μ)
    | none => none
  | .tableswitch dflt lo hi offs, _ => match st with
    | .inl x :: r => if x < lo ∨ hi < x then (match zjmp pc dflt with
        | some t => some (t, L, r, μ)
        | none => none) else (match offs[(x - lo).toNat]? with
        | some off => (match zjmp pc off with
          | some t => some (t, L, r, μ)
          | none => none)
        | none => none)
    | _ => none
  | .pop, 1 => match st with
    | v :: r => if zcat v = 1 then some (pc + 1, L, r, μ) else none
    | _ => none
  | .dup, 1 => match st with
    | v :: r => if zcat v = 1 then some (pc + 1, L, v :: v :: r, μ) else none
    | _ => none
  | .dup2, 1 => match st with
    | v :: u :: r => if zcat v = 1 ∧ zcat u = 1 then some (pc + 1, L, v :: u :: v :: u :: r, μ) else none
    | _ => none
  | .dup_x1, 1 => match st with
    | v :: u :: r => if zcat v = 1 ∧ zcat u = 1 then some (pc + 1, L, v :: u :: v :: r, μ) else none
    | _ => none
  | .getstatic i, 3 => match zstt (zK M) i with
    | some v => some (pc + 3, L, v :: st, μ)
    | none => none
  | .getfield i, 3 => match st with
    | .inr (.inr (some q)) :: r => match zFld (zK M) i with
      | some (ci, k, true, _) => if (μ.2.1 q).1 = ci then (match (μ.2.1 q).2.2 (k : Int) with
        | some v => some (pc + 3, L, zA v :: r, μ)
        | none => none) else none
      | some (ci, k, false, _) => if (μ.2.1 q).1 = ci then some (pc + 3, L, zI (μ.2.2 q (k : Int)) :: r, μ) else none
      | none => if zK M = 15 ∧ (μ.2.1 q).1 = 11 then (if i = 9 then (match (μ.2.1 q).2.2 0 with
        | some v => some (pc + 3, L, zA v :: r, μ)
        | none => none) else if i = 15 then some (pc + 3, L, zI 0 :: r, μ) else none) else none
    | _ => none
  | .putfield i, 3 => match st, zFld (zK M) i with
    | .inl x :: .inr (.inr (some q)) :: r, some (ci, k, false, fn) => if (μ.2.1 q).1 = ci ∧ fn = 0 ∧ (ci = 0 → (k = 1 ∨ k = 2) → (x = 0 ∨ x = 1)) then some (pc + 3, L, r, (μ.1, (μ.2.1, zup μ.2.2 q k x))) else none
    | .inr (.inr (some v)) :: .inr (.inr (some q)) :: r, some (ci, k, true, fn) => if (μ.2.1 q).1 = ci ∧ (fn = 0 ∨ (fn = 1 ∧ (zY M).name = "<init>")) then some (pc + 3, L, r, (μ.1, (zsup μ.2.1 q ((μ.2.1 q).1, ((μ.2.1 q).2.1, zrup (μ.2.1 q).2.2 k (some v))), μ.2.2))) else none
    | _, _ => none
  | .iaload, 1 => match st with
    | .inl i :: .inr (.inr (some q)) :: r => if ((μ.2.1 q).1 = 20 ∨ (μ.2.1 q).1 = 30) ∧ 0 ≤ i ∧ i < (μ.2.1 q).2.1 then some (pc + 1, L, zI (μ.2.2 q i) :: r, μ) else none
    | _ => none
  | .baload, 1 => match st with
    | .inl i :: .inr (.inr (some q)) :: r => if ((μ.2.1 q).1 = 21 ∨ (μ.2.1 q).1 = 31) ∧ 0 ≤ i ∧ i < (μ.2.1 q).2.1 then some (pc + 1, L, zI (μ.2.2 q i) :: r, μ) else none
    | _ => none
  | .aaload, 1 => match st with
    | .inl i :: .inr (.inr (some q)) :: r => if (μ.2.1 q).1 = 22 ∧ 0 ≤ i ∧ i < (μ.2.1 q).2.1 then (match (μ.2.1 q).2.2 i with
      | some v => some (pc + 1, L, zA v :: r, μ)
      | none => none) else none
    | _ => none
  | .arraylength, 1 => match st with
    | .inr (.inr (some q)) :: r => if (μ.2.1 q).1 = 20 ∨ (μ.2.1 q).1 = 21 ∨ (μ.2.1 q).1 = 30 ∨ (μ.2.1 q).1 = 31 then some (pc + 1, L, zI (μ.2.1 q).2.1 :: r, μ) else none
    | _ => none
  | .iastore, 1 => match st with
    | .inl x :: .inl i :: .inr (.inr (some q)) :: r => if (μ.2.1 q).1 = 20 ∧ 0 ≤ i ∧ i < (μ.2.1 q).2.1 then some (pc + 1, L, r, (μ.1, (μ.2.1, zup μ.2.2 q i x))) else none
    | _ => none
  | .bastore, 1 => match st with
    | .inl x :: .inl i :: .inr (.inr (some q)) :: r => if (μ.2.1 q).1 = 21 ∧ 0 ≤ i ∧ i < (μ.2.1 q).2.1 ∧ -128 ≤ x ∧ x < 128 then some (pc + 1, L, r, (μ.1, (μ.2.1, zup μ.2.2 q i x))) else none
    | _ => none
  | .aastore, 1 => match st with
    | .inr (.inr (some v)) :: .inl i :: .inr (.inr (some q)) :: r => if (μ.2.1 q).1 = 22 ∧ (μ.2.1 v).1 = 8 ∧ 0 ≤ i ∧ i < (μ.2.1 q).2.1 then some (pc + 1, L, r, (μ.1, (zsup μ.2.1 q ((μ.2.1 q).1, ((μ.2.1 q).2.1, zrup (μ.2.1 q).2.2 i (some v))), μ.2.2))) else none
    | _ => none
  | .new i, 3 => match zNew (zK M) i with
    | some ci => some (pc + 3, L, zA μ.1.1 :: st, ((μ.1.1 + 1, μ.1.2 + znf ci), (zsup μ.2.1 μ.1.1 (ci, (0, fun _ => none)), zfr μ.2.2 μ.1.1)))
    | none => none
  | .newarray .int, 2 => match st with
    | .inl x :: r => if 0 ≤ x ∧ x ≤ 65536 then some (pc + 2, L, zA μ.1.1 :: r, ((μ.1.1 + 1, μ.1.2 + x.toNat), (zsup μ.2.1 μ.1.1 (20, (x, fun _ => none)), zfr μ.2.2 μ.1.1))) else none
    | _ => none
  | .newarray .byte, 2 => match st with
    | .inl x :: r => if 0 ≤ x ∧ x ≤ 65536 then some (pc + 2, L, zA μ.1.1 :: r, ((μ.1.1 + 1, μ.1.2 + x.toNat), (zsup μ.2.1 μ.1.1 (21, (x, fun _ => none)), zfr μ.2.2 μ.1.1))) else none
    | _ => none
  | .anewarray i, 3 => match st with
    | .inl x :: r => if 0 ≤ x ∧ x ≤ 65536 ∧ zNew (zK M) i = some 8 then some (pc + 3, L, zA μ.1.1 :: r, ((μ.1.1 + 1, μ.1.2 + x.toNat), (zsup μ.2.1 μ.1.1 (22, (x, fun _ => none)), zfr μ.2.2 μ.1.1))) else none
    | _ => none
  | .invokespecial i, 3 => match st, zCall (zK M) i with
    | .inr (.inr (some _)) :: r, some (6, _, _) => if 1 ≤ d ∧ (r.map zcat).sum ≤ 8 then some (pc + 3, L, r, μ) else none
    | _, _ => none
  | .invokestatic i, 3 => match st, zCall (zK M) i with
    | .inl n :: .inl dp :: .inr (.inr (some b)) :: .inl sp :: .inr (.inr (some a)) :: r, some (7, _, _) =>
      if 1 ≤ d ∧ (r.map zcat).sum ≤ 8 ∧ ((μ.2.1 a).1 = 20 ∧ (μ.2.1 b).1 = 20 ∨ ((μ.2.1 a).1 = 21 ∨ (μ.2.1 a).1 = 31) ∧ (μ.2.1 b).1 = 21) ∧ 0 ≤ sp ∧ 0 ≤ dp ∧ 0 ≤ n ∧ sp + n ≤ (μ.2.1 a).2.1 ∧ dp + n ≤ (μ.2.1 b).2.1 then some (pc + 3, L, r, (μ.1, (μ.2.1, zcpy μ.2.2 a sp b dp n))) else none
    | .inl y :: .inl x :: r, some (8, _, _) => if 1 ≤ d ∧ (r.map zcat).sum ≤ 8 then some (pc + 3, L, zI (if y < x then y else x) :: r, μ) else none
    | .inl y :: .inl x :: r, some (9, _, _) => if 1 ≤ d ∧ (r.map zcat).sum ≤ 8 then some (pc + 3, L, zI (if x < y then y else x) :: r, μ) else none
    | _, _ => none
  | _, _ => none
/-- a call: the method, its arguments, what stays on the stack -/
def zinv (M : Nat) (st : List zV) (μ : zMem) (op : Instr) (len : Nat) : Option (Nat × (List zV × List zV)) :=
  match op, len with
  | .invokestatic i, 3 => match zCall (zK M) i with
    | some (0, M', n) => if n ≤ st.length ∧ (st.take n).all zone = true ∧ ((st.drop n).map zcat).sum ≤ 8 then some (M', (st.take n).reverse, st.drop n) else none
    | _ => none
  | .invokevirtual i, 3 => match zCall (zK M) i with
    | some (kd, M', n) => if n < st.length ∧ (st.take n).all zone = true ∧ ((st.drop (n + 1)).map zcat).sum ≤ 8 then (match st.drop n with
        | .inr (.inr (some q)) :: r => if kd = 1 ∧ (μ.2.1 q).1 = zTag (zK M') ∨ kd = 2 ∧ (μ.2.1 q).1 = 0 then some (M', zA q :: (st.take n).reverse, r) else none
        | _ => none) else none
    | _ => none
  | .invokespecial i, 3 => match zCall (zK M) i with
    | some (kd, M', n) => if n < st.length ∧ (st.take n).all zone = true ∧ ((st.drop (n + 1)).map zcat).sum ≤ 8 then (match st.drop n with
        | .inr (.inr (some q)) :: r => if kd = 3 ∨ kd = 4 ∨ kd = 5 ∧ (μ.2.1 q).1 = 0 then some (M', zA q :: (st.take n).reverse, r) else none
        | _ => none) else none
    | _ => none
  | _, _ => none
def zent (M : Nat) (as : List zV) : zLs := as.map some ++ List.replicate (zL M - as.length) none
def zret (M : Nat) (st : List zV) (op : Instr) (len : Nat) : Option (Option zV) :=
  match op, len with
  | .ireturn, 1 => match st with
    | [.inl x] => match zR M with
      | some .int => some (some (zI x))
      | some .boolean => if x = 0 ∨ x = 1 then some (some (zI x)) else none
      | some .byte => if x = 0 then some (some (zI x)) else none
      | some .char => if 0 ≤ x ∧ x < 65536 then some (some (zI x)) else none
      | _ => none
    | _ => none
  | .lreturn, 1 => match st with
    | [.inr (.inl x)] => if zR M = some .long then some (some (zJ x)) else none
    | _ => none
  | .areturn, 1 => match st with
    | [.inr (.inr (some q))] => match zR M with
      | some (.object _) => some (some (zA q))
      | some (.array _) => some (some (zA q))
      | _ => none
    | _ => none
  | .return_, 1 => if st = [] ∧ zR M = none then some none else none
  | _, _ => none
def zgo : Nat → Nat → Nat → Nat → zLs → List zV → zMem → Option (Option zV × zMem)
  | 0, _, _, _, _, _, _ => none
  | f + 1, d, M, pc, L, st, μ => match decode (zB M) pc with
    | .ok (op, len) => match znext d M pc L st μ op len with
      | some (pc', L', st', μ') => zgo f d M pc' L' st' μ'
      | none => match zinv M st μ op len with
        | some (M', as, r) => match d with
          | 0 => none
          | d' + 1 => match zgo f d' M' 0 (zent M' as) [] μ with
            | some (v, μ') => zgo f (d' + 1) M (pc + 3) L (v.toList ++ r) μ'
            | none => none
        | none => match zret M st op len with
          | some v => some (v, μ)
          | none => none
    | .error _ => none
