/-! the text: appending -/
theorem zsup_eq {S : zSh} {r : Nat} {x : Nat × (Int × (Int → Option Nat))} : zsup S r x r = x := if_pos rfl
theorem zfr_ne {c : zC} {r q : Nat} (h : q ≠ r) : zfr c r q = c q := by
  funext k
  exact if_neg h
theorem zfr_eq {c : zC} {r : Nat} {k : Int} : zfr c r r k = 0 := if_pos rfl
theorem zBd_fr {c : zC} {r : Nat} (h : zBd c) : zBd (zfr c r) := fun q k hq => by
  by_cases e : q = r
  · rw [e, zfr_eq]
    decide
  · rw [zfr_ne e]
    exact h q k hq
