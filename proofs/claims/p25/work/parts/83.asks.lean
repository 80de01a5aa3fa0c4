/-! the calls that only ask, class and model together -/
section ST
variable {L : Nat} {xs : Nat → Int32} {k : Int}
theorem zO_x {c c1 : zC} (h : ∀ r, (r < 131 ∨ 136 < r) → c1 r = c r) : ∀ r, zOut r → c1 r = c r := fun r hr => h r (by unfold zOut at hr; omega)
theorem zO_m {c c1 : zC} (h : zFm c c1) : ∀ r, zOut r → c1 r = c r := fun r hr => h.1 r (by unfold zOut at hr; omega)
theorem zCore_xm {c c1 c2 : zC} (hk : 0 ≤ k) (h : zCore k c) (f : ∀ r, (r < 131 ∨ 136 < r) → c1 r = c r) (g : zFm c1 c2) : zCore (k + 1) c2 :=
  zCore_fr hk h (fun r hr => (g.1 r (by omega)).trans (f r (by omega))) ((g.2 2 (by decide)).trans (by rw [f 145 (by decide)]))
theorem zCnt_u {c : zC} {B : Int} (R : zRep c 9 (c 146)) (I : zInv B (c 146)) : ∀ (j : Nat) (x y : Int), (j : Int) ≤ c 146 3 → zCnt8 c j x → zCnt145 c j y → x = y
  | 0, x, y, _, h, h' => h.trans h'.symm
  | j + 1, x, y, hj, h, h' => by
    obtain ⟨b1, b2, b3, b4⟩ := (zRep_9 R).2.2.2.2 j (by omega) (by omega)
    have hi := I.2.2.2.2.2.1 j (by omega) (by omega)
    have hd : zDk (c 20 0) (c 21) (c 22) (c 23) (c 13 (c 25 (j : Int))) (c 26 (j : Int)) (c 26 (j : Int) + c 27 (j : Int)) ↔ zDk (c 146 1) (fun j => c 146 (80 + 3 * j)) (fun j => c 146 (80 + 3 * j + 1)) (fun j => c 146 (80 + 3 * j + 2)) (c 146 (10 + 4 * c 146 (230 + 4 * (j : Int) + 0) + 2)) (c 146 (230 + 4 * (j : Int) + 1)) (c 146 (230 + 4 * (j : Int) + 1) + c 146 (230 + 4 * (j : Int) + 2)) := by
      rw [b2, b3, b1, ((zRep_9 R).2.1 _ hi.1.1 hi.1.2).2.2.1, (zRep_9 R).1.2.2.1]
      exact zDk_congr (fun j j1 j2 => (zRep_9 R).2.2.2.1 j j1 j2)
    rcases h with ⟨h1, h2⟩ | ⟨h1, h2⟩
    · rcases h' with ⟨k1, k2⟩ | ⟨k1, k2⟩
      · have := zCnt_u R I j _ _ (by omega) h2 k2
        omega
      · exact absurd (hd.mp h1) k1
    · rcases h' with ⟨k1, k2⟩ | ⟨k1, k2⟩
      · exact absurd (hd.mpr k1) h1
      · exact zCnt_u R I j _ _ (by omega) h2 k2
end ST
