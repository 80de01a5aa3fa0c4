/-! place, remove, makeGood: class and model together -/
section SP
variable {L : Nat} {xs : Nat → Int32} {k : Int}
theorem zHis_x {B : Int} {c ca : zC} (H : zHis B c) (hf : ∀ r, (r < 131 ∨ 136 < r) → ca r = c r) : zHis B ca := zHis_fr H (hf 29 (by decide)) (hf 147 (by decide)) (by rw [hf 145 (by decide)]) (fun r r1 r2 => hf r (by omega))
theorem zOb_0 {c : zC} {B : Int} (R : zRep c 9 (c 146)) (I : zInv B (c 146)) {p s : Int} (hp : 0 ≤ p ∧ p < c 146 0) (h : zObs c p s 0) : c 146 3 ≤ 59 ∧ s + c 146 (10 + 4 * p + 1) ≤ 10080 ∧ ¬ zHit (c 146 3) (fun j => c 146 (230 + 4 * j + 1)) (fun j => c 146 (230 + 4 * j + 2)) s (s + c 146 (10 + 4 * p + 1)) := by
  have h2 := (zOb_iff R I hp).mp h
  obtain ⟨q1, q2, -⟩ := zFlt_0 h2
  exact ⟨by omega, by refine Int.not_lt.mp (fun h9 => q2 (Or.inl h9)), fun h9 => q2 (Or.inr h9)⟩
end SP
