/-! the model: what runs over, an item treated -/
def zMm (v : Int → Int) : zC := fun r => if r = 146 then v else fun _ => 0
theorem zMm_v (v : Int → Int) : zMm v 146 = v := rfl
def zIB (v : Int → Int) (s : Nat) : Nat → List zEn → List zEn
  | 0, l => l
  | k + 1, l => zInsB (zIB v s k l) (zIt v (s + k))
theorem zIB_mem {v : Int → Int} {s : Nat} {y : zEn} : ∀ (k : Nat) (l : List zEn), y ∈ zIB v s k l → y ∈ l ∨ ∃ j, s ≤ j ∧ j < s + k ∧ y = zIt v j
  | 0, l, h => Or.inl h
  | k + 1, l, h => by
    rcases zInB_mem.mp h with h | h
    · exact Or.inr ⟨s + k, by omega, by omega, h⟩
    · rcases zIB_mem k l h with h | ⟨j, h1, h2, h3⟩
      · exact Or.inl h
      · exact Or.inr ⟨j, h1, by omega, h3⟩
theorem zIB_s {v : Int → Int} {s : Nat} : ∀ (k : Nat) (l : List zEn), zSrt l → zSrt (zIB v s k l) ∧ (zIB v s k l).length = l.length + k
  | 0, l, h => ⟨h, rfl⟩
  | k + 1, l, h => by
    have ih := zIB_s (v := v) (s := s) k l h
    unfold zIB
    exact ⟨zSrt_inB ih.1, by rw [zInB_len]; omega⟩
def zLp (v : Int → Int) (i : Nat) : List zEn := zIB v 0 i (zIB v (i + 1) ((v 3).toNat - i - 1) [])
def zMp (v : Int → Int) (i e : Int) : Prop := e + v (230 + 4 * i + 2) ≤ 10080 ∧ ¬ zDk (v 1) (fun j => v (80 + 3 * j)) (fun j => v (80 + 3 * j + 1)) (fun j => v (80 + 3 * j + 2)) (v (10 + 4 * v (230 + 4 * i + 0) + 2)) e (e + v (230 + 4 * i + 2)) ∧ (v (10 + 4 * v (230 + 4 * i + 0)) = 2 ∨ zOkp (zTM (zMm v)) (zPlM (zMm v)) (v (230 + 4 * i + 0)) (zMk (zMm v) (zInsB (zLp v i.toNat) (v (230 + 4 * i + 0), (e, e + v (230 + 4 * i + 2))))))
def zYes (v : Int → Int) (i e : Int) : Prop := v (10 + 4 * v (230 + 4 * i + 0)) ≠ 2 ∧ ((v (230 + 4 * i + 3) = 1 ∧ e < v (230 + 4 * i + 1) + v (230 + 4 * i + 2)) ∨ (v (230 + 4 * i + 3) ≠ 1 ∧ zMp v i e))
def zNe (v : Int → Int) (i e : Int) : Int := if v (230 + 4 * i + 3) = 1 then v (230 + 4 * i + 1) + v (230 + 4 * i + 2) else e + v (230 + 4 * i + 2)
def zKeV (v : Int → Int) (i e : Int) : Int → Int := fun k => if k = 230 + 4 * i + 1 then e else if k = 230 + 4 * i + 2 then zNe v i e - e else v k
def zOwV (v : Int → Int) (p : Int) : Int → Int := fun k => if k = 10 + 4 * p + 3 then v k + (if v (10 + 4 * p) = 3 then 1 else 0) else v k
def zDrV (v : Int → Int) (i : Int) : Int → Int := fun k => if k = 3 then v 3 - 1 else if 230 + 4 * i ≤ k ∧ k < 230 + 4 * (v 3 - 1) then v (k + 4) else v k
theorem zRepM_in {c c1 : zC} {l : List zEn} (h : zRepM c1 l) (hm : ∀ y ∈ l, 0 ≤ y.1 ∧ y.1 < 16) : ∀ k, 0 ≤ k → k < c1 145 8 → 0 ≤ c1 148 k ∧ c1 148 k < 16 := fun k k1 k2 => by
  have hlt : k.toNat < l.length := by rw [h.1] at k2; omega
  have hx : l[k.toNat]? = some l[k.toNat] := List.getElem?_eq_getElem hlt
  have e1 := (h.2 _ _ hx).1
  rw [show ((k.toNat : Nat) : Int) = k by omega] at e1
  rw [e1]
  exact hm _ (List.mem_of_getElem? hx)
