/-! rows of the law's own instructions -/
section ZLX
variable {d M pc : Nat} {L : zLs} {st : List zV} {μ : zMem} {Q : Option zV → zMem → Prop} {x y : Int}
theorem z32_in (a : Int32) : zInR a.toInt := ⟨Int32.le_toInt a, Int32.toInt_lt a⟩
theorem zr_ishrG (hd : decode (zB M) pc = .ok (.ishr, 1)) (hy : ¬ y = 0) (kk : ∀ z, zInR z → zE d M (pc + 1) L (zI z :: st) μ Q) : zE d M pc L (zI y :: zI x :: st) μ Q :=
  zr_next hd (by show (if y = 0 then some (pc + 1, L, zI x :: st, μ) else some (pc + 1, L, zI (Int32.ofInt x >>> (Int32.ofInt y &&& 31)).toInt :: st, μ)) = _; rw [if_neg hy]) (kk _ (z32_in _))
theorem zr_iandG (hd : decode (zB M) pc = .ok (.iand, 1)) (hy : ¬ y = 31 ∧ ¬ y = 255) (kk : ∀ z, zInR z → zE d M (pc + 1) L (zI z :: st) μ Q) : zE d M pc L (zI y :: zI x :: st) μ Q :=
  zr_next hd (by show (if y = 31 then some (pc + 1, L, zI (x % 32) :: st, μ) else if y = 255 then some (pc + 1, L, zI (x % 256) :: st, μ) else some (pc + 1, L, zI (Int32.ofInt x &&& Int32.ofInt y).toInt :: st, μ)) = _; rw [if_neg hy.1, if_neg hy.2]) (kk _ (z32_in _))
theorem z_and_nn (a b : Int32) (hb : 0 ≤ b.toInt) : 0 ≤ (a &&& b).toInt := by
  have h1 : (a &&& b).toInt = (a.toBitVec &&& b.toBitVec).toInt := rfl
  have h2 : b.toBitVec.msb = false := by
    rw [BitVec.msb_eq_toInt]
    have h3 : b.toInt = b.toBitVec.toInt := rfl
    rw [h3] at hb
    exact decide_eq_false (by omega)
  have h4 : (a.toBitVec &&& b.toBitVec).msb = false := by rw [BitVec.msb_and, h2, Bool.and_false]
  rw [BitVec.msb_eq_toInt] at h4
  have h5 := of_decide_eq_false h4
  rw [h1]
  omega
theorem zr_iandM (hd : decode (zB M) pc = .ok (.iand, 1)) (kk : ∀ z, 0 ≤ z ∧ z < 2147483648 → zE d M (pc + 1) L (zI z :: st) μ Q) : zE d M pc L (zI 2147483647 :: zI x :: st) μ Q :=
  zr_next hd (by show (if (2147483647 : Int) = 31 then some (pc + 1, L, zI (x % 32) :: st, μ) else if (2147483647 : Int) = 255 then some (pc + 1, L, zI (x % 256) :: st, μ) else some (pc + 1, L, zI (Int32.ofInt x &&& Int32.ofInt 2147483647).toInt :: st, μ)) = _; rw [if_neg (by decide), if_neg (by decide)]) (kk _ ⟨z_and_nn _ _ (by decide), (z32_in _).2⟩)
theorem zr_imulW (hd : decode (zB M) pc = .ok (.imul, 1)) (kk : ∀ z, zInR z → zE d M (pc + 1) L (zI z :: st) μ Q) : zE d M pc L (zI y :: zI x :: st) μ Q :=
  zr_next hd rfl (kk _ (by unfold zwr zInR; omega))
theorem zr_lcmpG (hd : decode (zB M) pc = .ok (.lcmp, 1)) (kk : ∀ z : Int, (z = 0 ↔ x = y) → zE d M (pc + 1) L (zI z :: st) μ Q) : zE d M pc L (zJ y :: zJ x :: st) μ Q := by
  refine zr_lcmp hd (kk _ ?_)
  by_cases h : x = y
  · rw [if_pos h]
    exact ⟨fun _ => h, fun _ => rfl⟩
  · rw [if_neg h]
    refine ⟨fun h9 => ?_, fun h9 => absurd h9 h⟩
    split at h9 <;> omega
end ZLX
theorem zSok_new {S : zSh} {n : Nat} {x : Nat × (Int × (Int → Option Nat))} (hS : zSok S) (hn : 147 ≤ n) : zSok (zsup S n x) := fun r r1 r2 r3 => by
  rw [show zsup S n x r = S r from if_neg (by omega)]
  exact hS r r1 r2 r3
theorem zsup_n {S : zSh} {n r : Nat} {x : Nat × (Int × (Int → Option Nat))} (h : r ≠ n) : zsup S n x r = S r := if_neg h
theorem qC_s {v : Int → Int} {r i : Int} (h : 0 ≤ i) : qC v r (i + 1).toNat = qC v r i.toNat + (if qU v i = r then 1 else 0) := by
  rw [show (i + 1).toNat = i.toNat + 1 by omega]
  show qC v r i.toNat + (if qU v ((i.toNat : Nat) : Int) = r then 1 else 0) = _
  rw [show ((i.toNat : Nat) : Int) = i by omega]
theorem qC_in (v : Int → Int) (r : Int) : ∀ k : Nat, 0 ≤ qC v r k ∧ qC v r k ≤ k
  | 0 => ⟨Int.le_refl _, Int.le_refl _⟩
  | k + 1 => by
    have ih := qC_in v r k
    show 0 ≤ qC v r k + _ ∧ qC v r k + _ ≤ _
    split <;> omega
