/-! the cells behind the two constructors: their numbers and shapes -/
def zShL : List (Nat × (Int × List (Option Nat))) := [
  (9, (0, [some 9, some 29, some 131, some 137, some 143])),
  (8, (0, [some 10, some 15, some 20, some 24])),
  (5, (0, [none, some 11, some 12, some 13, some 14])),
  (20, (16, [])),
  (20, (16, [])),
  (20, (16, [])),
  (20, (16, [])),
  (6, (0, [none, some 16, some 17, some 18, some 19])),
  (20, (30, [])),
  (20, (30, [])),
  (20, (30, [])),
  (20, (30, [])),
  (1, (0, [none, some 21, some 22, some 23])),
  (20, (10, [])),
  (20, (10, [])),
  (20, (10, [])),
  (4, (0, [none, some 25, some 26, some 27, some 28])),
  (20, (60, [])),
  (20, (60, [])),
  (20, (60, [])),
  (20, (60, [])),
  (3, (0, [none, none, some 30])),
  (22, (5, [some 31, some 51, some 71, some 91, some 111])),
  (8, (0, [some 32, some 37, some 42, some 46])),
  (5, (0, [none, some 33, some 34, some 35, some 36])),
  (20, (16, [])),
  (20, (16, [])),
  (20, (16, [])),
  (20, (16, [])),
  (6, (0, [none, some 38, some 39, some 40, some 41])),
  (20, (30, [])),
  (20, (30, [])),
  (20, (30, [])),
  (20, (30, [])),
  (1, (0, [none, some 43, some 44, some 45])),
  (20, (10, [])),
  (20, (10, [])),
  (20, (10, [])),
  (4, (0, [none, some 47, some 48, some 49, some 50])),
  (20, (60, [])),
  (20, (60, [])),
  (20, (60, [])),
  (20, (60, [])),
  (8, (0, [some 52, some 57, some 62, some 66])),
  (5, (0, [none, some 53, some 54, some 55, some 56])),
  (20, (16, [])),
  (20, (16, [])),
  (20, (16, [])),
  (20, (16, [])),
  (6, (0, [none, some 58, some 59, some 60, some 61])),
  (20, (30, [])),
  (20, (30, [])),
  (20, (30, [])),
  (20, (30, [])),
  (1, (0, [none, some 63, some 64, some 65])),
  (20, (10, [])),
  (20, (10, [])),
  (20, (10, [])),
  (4, (0, [none, some 67, some 68, some 69, some 70])),
  (20, (60, [])),
  (20, (60, [])),
  (20, (60, [])),
  (20, (60, [])),
  (8, (0, [some 72, some 77, some 82, some 86])),
  (5, (0, [none, some 73, some 74, some 75, some 76])),
  (20, (16, [])),
  (20, (16, [])),
  (20, (16, [])),
  (20, (16, [])),
  (6, (0, [none, some 78, some 79, some 80, some 81])),
  (20, (30, [])),
  (20, (30, [])),
  (20, (30, [])),
  (20, (30, [])),
  (1, (0, [none, some 83, some 84, some 85])),
  (20, (10, [])),
  (20, (10, [])),
  (20, (10, [])),
  (4, (0, [none, some 87, some 88, some 89, some 90])),
  (20, (60, [])),
  (20, (60, [])),
  (20, (60, [])),
  (20, (60, [])),
  (8, (0, [some 92, some 97, some 102, some 106])),
  (5, (0, [none, some 93, some 94, some 95, some 96])),
  (20, (16, [])),
  (20, (16, [])),
  (20, (16, [])),
  (20, (16, [])),
  (6, (0, [none, some 98, some 99, some 100, some 101])),
  (20, (30, [])),
  (20, (30, [])),
  (20, (30, [])),
  (20, (30, [])),
  (1, (0, [none, some 103, some 104, some 105])),
  (20, (10, [])),
  (20, (10, [])),
  (20, (10, [])),
  (4, (0, [none, some 107, some 108, some 109, some 110])),
  (20, (60, [])),
  (20, (60, [])),
  (20, (60, [])),
  (20, (60, [])),
  (8, (0, [some 112, some 117, some 122, some 126])),
  (5, (0, [none, some 113, some 114, some 115, some 116])),
  (20, (16, [])),
  (20, (16, [])),
  (20, (16, [])),
  (20, (16, [])),
  (6, (0, [none, some 118, some 119, some 120, some 121])),
  (20, (30, [])),
  (20, (30, [])),
  (20, (30, [])),
  (20, (30, [])),
  (1, (0, [none, some 123, some 124, some 125])),
  (20, (10, [])),
  (20, (10, [])),
  (20, (10, [])),
  (4, (0, [none, some 127, some 128, some 129, some 130])),
  (20, (60, [])),
  (20, (60, [])),
  (20, (60, [])),
  (20, (60, [])),
  (7, (0, [none, some 132, some 133, some 134, some 135, some 136])),
  (20, (61, [])),
  (20, (61, [])),
  (20, (61, [])),
  (20, (61, [])),
  (20, (30, [])),
  (2, (0, [some 138, none, none, none, some 139, some 140, some 141, some 142])),
  (20, (240, [])),
  (20, (240, [])),
  (20, (240, [])),
  (20, (240, [])),
  (20, (240, [])),
  (0, (0, [])),
  (21, (16, [])),
  (20, (16, [])),
  (20, (30, []))]
def zShF (r : Nat) : Nat × (Int × (Int → Option Nat)) := match zShL[r - 8]? with
  | some (t, (s, l)) => (t, (s, fun k => if 0 ≤ k then (l[k.toNat]?).join else none))
  | none => (99, (0, fun _ => none))
/-- the shape is as the constructors left it (the text apart, cell 143) -/
def zSok (S : zSh) : Prop := ∀ r, 8 ≤ r → r < 147 → r ≠ 143 → S r = zShF r
theorem sT8 {S : zSh} (h : zSok S) : (S 8).1 = 9 := by rw [h 8 (by decide) (by decide) (by decide)]; rfl
theorem sR8_0 {S : zSh} (h : zSok S) : (S 8).2.2 0 = some 9 := by rw [h 8 (by decide) (by decide) (by decide)]; rfl
theorem sR8_1 {S : zSh} (h : zSok S) : (S 8).2.2 1 = some 29 := by rw [h 8 (by decide) (by decide) (by decide)]; rfl
theorem sR8_2 {S : zSh} (h : zSok S) : (S 8).2.2 2 = some 131 := by rw [h 8 (by decide) (by decide) (by decide)]; rfl
theorem sR8_3 {S : zSh} (h : zSok S) : (S 8).2.2 3 = some 137 := by rw [h 8 (by decide) (by decide) (by decide)]; rfl
theorem sR8_4 {S : zSh} (h : zSok S) : (S 8).2.2 4 = some 143 := by rw [h 8 (by decide) (by decide) (by decide)]; rfl
theorem sT9 {S : zSh} (h : zSok S) : (S 9).1 = 8 := by rw [h 9 (by decide) (by decide) (by decide)]; rfl
theorem sR9_0 {S : zSh} (h : zSok S) : (S 9).2.2 0 = some 10 := by rw [h 9 (by decide) (by decide) (by decide)]; rfl
theorem sR9_1 {S : zSh} (h : zSok S) : (S 9).2.2 1 = some 15 := by rw [h 9 (by decide) (by decide) (by decide)]; rfl
theorem sR9_2 {S : zSh} (h : zSok S) : (S 9).2.2 2 = some 20 := by rw [h 9 (by decide) (by decide) (by decide)]; rfl
theorem sR9_3 {S : zSh} (h : zSok S) : (S 9).2.2 3 = some 24 := by rw [h 9 (by decide) (by decide) (by decide)]; rfl
theorem sT10 {S : zSh} (h : zSok S) : (S 10).1 = 5 := by rw [h 10 (by decide) (by decide) (by decide)]; rfl
theorem sR10_1 {S : zSh} (h : zSok S) : (S 10).2.2 1 = some 11 := by rw [h 10 (by decide) (by decide) (by decide)]; rfl
theorem sR10_2 {S : zSh} (h : zSok S) : (S 10).2.2 2 = some 12 := by rw [h 10 (by decide) (by decide) (by decide)]; rfl
theorem sR10_3 {S : zSh} (h : zSok S) : (S 10).2.2 3 = some 13 := by rw [h 10 (by decide) (by decide) (by decide)]; rfl
theorem sR10_4 {S : zSh} (h : zSok S) : (S 10).2.2 4 = some 14 := by rw [h 10 (by decide) (by decide) (by decide)]; rfl
theorem sT11 {S : zSh} (h : zSok S) : (S 11).1 = 20 := by rw [h 11 (by decide) (by decide) (by decide)]; rfl
theorem sN11 {S : zSh} (h : zSok S) : (S 11).2.1 = 16 := by rw [h 11 (by decide) (by decide) (by decide)]; rfl
theorem sT12 {S : zSh} (h : zSok S) : (S 12).1 = 20 := by rw [h 12 (by decide) (by decide) (by decide)]; rfl
theorem sN12 {S : zSh} (h : zSok S) : (S 12).2.1 = 16 := by rw [h 12 (by decide) (by decide) (by decide)]; rfl
theorem sT13 {S : zSh} (h : zSok S) : (S 13).1 = 20 := by rw [h 13 (by decide) (by decide) (by decide)]; rfl
theorem sN13 {S : zSh} (h : zSok S) : (S 13).2.1 = 16 := by rw [h 13 (by decide) (by decide) (by decide)]; rfl
theorem sT14 {S : zSh} (h : zSok S) : (S 14).1 = 20 := by rw [h 14 (by decide) (by decide) (by decide)]; rfl
theorem sN14 {S : zSh} (h : zSok S) : (S 14).2.1 = 16 := by rw [h 14 (by decide) (by decide) (by decide)]; rfl
theorem sT15 {S : zSh} (h : zSok S) : (S 15).1 = 6 := by rw [h 15 (by decide) (by decide) (by decide)]; rfl
theorem sR15_1 {S : zSh} (h : zSok S) : (S 15).2.2 1 = some 16 := by rw [h 15 (by decide) (by decide) (by decide)]; rfl
theorem sR15_2 {S : zSh} (h : zSok S) : (S 15).2.2 2 = some 17 := by rw [h 15 (by decide) (by decide) (by decide)]; rfl
theorem sR15_3 {S : zSh} (h : zSok S) : (S 15).2.2 3 = some 18 := by rw [h 15 (by decide) (by decide) (by decide)]; rfl
theorem sR15_4 {S : zSh} (h : zSok S) : (S 15).2.2 4 = some 19 := by rw [h 15 (by decide) (by decide) (by decide)]; rfl
theorem sT16 {S : zSh} (h : zSok S) : (S 16).1 = 20 := by rw [h 16 (by decide) (by decide) (by decide)]; rfl
theorem sN16 {S : zSh} (h : zSok S) : (S 16).2.1 = 30 := by rw [h 16 (by decide) (by decide) (by decide)]; rfl
theorem sT17 {S : zSh} (h : zSok S) : (S 17).1 = 20 := by rw [h 17 (by decide) (by decide) (by decide)]; rfl
theorem sN17 {S : zSh} (h : zSok S) : (S 17).2.1 = 30 := by rw [h 17 (by decide) (by decide) (by decide)]; rfl
theorem sT18 {S : zSh} (h : zSok S) : (S 18).1 = 20 := by rw [h 18 (by decide) (by decide) (by decide)]; rfl
theorem sN18 {S : zSh} (h : zSok S) : (S 18).2.1 = 30 := by rw [h 18 (by decide) (by decide) (by decide)]; rfl
theorem sT19 {S : zSh} (h : zSok S) : (S 19).1 = 20 := by rw [h 19 (by decide) (by decide) (by decide)]; rfl
theorem sN19 {S : zSh} (h : zSok S) : (S 19).2.1 = 30 := by rw [h 19 (by decide) (by decide) (by decide)]; rfl
theorem sT20 {S : zSh} (h : zSok S) : (S 20).1 = 1 := by rw [h 20 (by decide) (by decide) (by decide)]; rfl
theorem sR20_1 {S : zSh} (h : zSok S) : (S 20).2.2 1 = some 21 := by rw [h 20 (by decide) (by decide) (by decide)]; rfl
theorem sR20_2 {S : zSh} (h : zSok S) : (S 20).2.2 2 = some 22 := by rw [h 20 (by decide) (by decide) (by decide)]; rfl
theorem sR20_3 {S : zSh} (h : zSok S) : (S 20).2.2 3 = some 23 := by rw [h 20 (by decide) (by decide) (by decide)]; rfl
theorem sT21 {S : zSh} (h : zSok S) : (S 21).1 = 20 := by rw [h 21 (by decide) (by decide) (by decide)]; rfl
theorem sN21 {S : zSh} (h : zSok S) : (S 21).2.1 = 10 := by rw [h 21 (by decide) (by decide) (by decide)]; rfl
theorem sT22 {S : zSh} (h : zSok S) : (S 22).1 = 20 := by rw [h 22 (by decide) (by decide) (by decide)]; rfl
theorem sN22 {S : zSh} (h : zSok S) : (S 22).2.1 = 10 := by rw [h 22 (by decide) (by decide) (by decide)]; rfl
theorem sT23 {S : zSh} (h : zSok S) : (S 23).1 = 20 := by rw [h 23 (by decide) (by decide) (by decide)]; rfl
theorem sN23 {S : zSh} (h : zSok S) : (S 23).2.1 = 10 := by rw [h 23 (by decide) (by decide) (by decide)]; rfl
theorem sT24 {S : zSh} (h : zSok S) : (S 24).1 = 4 := by rw [h 24 (by decide) (by decide) (by decide)]; rfl
theorem sR24_1 {S : zSh} (h : zSok S) : (S 24).2.2 1 = some 25 := by rw [h 24 (by decide) (by decide) (by decide)]; rfl
theorem sR24_2 {S : zSh} (h : zSok S) : (S 24).2.2 2 = some 26 := by rw [h 24 (by decide) (by decide) (by decide)]; rfl
theorem sR24_3 {S : zSh} (h : zSok S) : (S 24).2.2 3 = some 27 := by rw [h 24 (by decide) (by decide) (by decide)]; rfl
theorem sR24_4 {S : zSh} (h : zSok S) : (S 24).2.2 4 = some 28 := by rw [h 24 (by decide) (by decide) (by decide)]; rfl
theorem sT25 {S : zSh} (h : zSok S) : (S 25).1 = 20 := by rw [h 25 (by decide) (by decide) (by decide)]; rfl
theorem sN25 {S : zSh} (h : zSok S) : (S 25).2.1 = 60 := by rw [h 25 (by decide) (by decide) (by decide)]; rfl
theorem sT26 {S : zSh} (h : zSok S) : (S 26).1 = 20 := by rw [h 26 (by decide) (by decide) (by decide)]; rfl
theorem sN26 {S : zSh} (h : zSok S) : (S 26).2.1 = 60 := by rw [h 26 (by decide) (by decide) (by decide)]; rfl
theorem sT27 {S : zSh} (h : zSok S) : (S 27).1 = 20 := by rw [h 27 (by decide) (by decide) (by decide)]; rfl
theorem sN27 {S : zSh} (h : zSok S) : (S 27).2.1 = 60 := by rw [h 27 (by decide) (by decide) (by decide)]; rfl
theorem sT28 {S : zSh} (h : zSok S) : (S 28).1 = 20 := by rw [h 28 (by decide) (by decide) (by decide)]; rfl
theorem sN28 {S : zSh} (h : zSok S) : (S 28).2.1 = 60 := by rw [h 28 (by decide) (by decide) (by decide)]; rfl
theorem sT29 {S : zSh} (h : zSok S) : (S 29).1 = 3 := by rw [h 29 (by decide) (by decide) (by decide)]; rfl
theorem sR29_2 {S : zSh} (h : zSok S) : (S 29).2.2 2 = some 30 := by rw [h 29 (by decide) (by decide) (by decide)]; rfl
theorem sT30 {S : zSh} (h : zSok S) : (S 30).1 = 22 := by rw [h 30 (by decide) (by decide) (by decide)]; rfl
theorem sN30 {S : zSh} (h : zSok S) : (S 30).2.1 = 5 := by rw [h 30 (by decide) (by decide) (by decide)]; rfl
theorem sR30_0 {S : zSh} (h : zSok S) : (S 30).2.2 0 = some 31 := by rw [h 30 (by decide) (by decide) (by decide)]; rfl
theorem sR30_1 {S : zSh} (h : zSok S) : (S 30).2.2 1 = some 51 := by rw [h 30 (by decide) (by decide) (by decide)]; rfl
theorem sR30_2 {S : zSh} (h : zSok S) : (S 30).2.2 2 = some 71 := by rw [h 30 (by decide) (by decide) (by decide)]; rfl
theorem sR30_3 {S : zSh} (h : zSok S) : (S 30).2.2 3 = some 91 := by rw [h 30 (by decide) (by decide) (by decide)]; rfl
theorem sR30_4 {S : zSh} (h : zSok S) : (S 30).2.2 4 = some 111 := by rw [h 30 (by decide) (by decide) (by decide)]; rfl
theorem sT31 {S : zSh} (h : zSok S) : (S 31).1 = 8 := by rw [h 31 (by decide) (by decide) (by decide)]; rfl
theorem sR31_0 {S : zSh} (h : zSok S) : (S 31).2.2 0 = some 32 := by rw [h 31 (by decide) (by decide) (by decide)]; rfl
theorem sR31_1 {S : zSh} (h : zSok S) : (S 31).2.2 1 = some 37 := by rw [h 31 (by decide) (by decide) (by decide)]; rfl
theorem sR31_2 {S : zSh} (h : zSok S) : (S 31).2.2 2 = some 42 := by rw [h 31 (by decide) (by decide) (by decide)]; rfl
theorem sR31_3 {S : zSh} (h : zSok S) : (S 31).2.2 3 = some 46 := by rw [h 31 (by decide) (by decide) (by decide)]; rfl
theorem sT32 {S : zSh} (h : zSok S) : (S 32).1 = 5 := by rw [h 32 (by decide) (by decide) (by decide)]; rfl
theorem sR32_1 {S : zSh} (h : zSok S) : (S 32).2.2 1 = some 33 := by rw [h 32 (by decide) (by decide) (by decide)]; rfl
theorem sR32_2 {S : zSh} (h : zSok S) : (S 32).2.2 2 = some 34 := by rw [h 32 (by decide) (by decide) (by decide)]; rfl
theorem sR32_3 {S : zSh} (h : zSok S) : (S 32).2.2 3 = some 35 := by rw [h 32 (by decide) (by decide) (by decide)]; rfl
theorem sR32_4 {S : zSh} (h : zSok S) : (S 32).2.2 4 = some 36 := by rw [h 32 (by decide) (by decide) (by decide)]; rfl
theorem sT33 {S : zSh} (h : zSok S) : (S 33).1 = 20 := by rw [h 33 (by decide) (by decide) (by decide)]; rfl
theorem sN33 {S : zSh} (h : zSok S) : (S 33).2.1 = 16 := by rw [h 33 (by decide) (by decide) (by decide)]; rfl
theorem sT34 {S : zSh} (h : zSok S) : (S 34).1 = 20 := by rw [h 34 (by decide) (by decide) (by decide)]; rfl
theorem sN34 {S : zSh} (h : zSok S) : (S 34).2.1 = 16 := by rw [h 34 (by decide) (by decide) (by decide)]; rfl
theorem sT35 {S : zSh} (h : zSok S) : (S 35).1 = 20 := by rw [h 35 (by decide) (by decide) (by decide)]; rfl
theorem sN35 {S : zSh} (h : zSok S) : (S 35).2.1 = 16 := by rw [h 35 (by decide) (by decide) (by decide)]; rfl
theorem sT36 {S : zSh} (h : zSok S) : (S 36).1 = 20 := by rw [h 36 (by decide) (by decide) (by decide)]; rfl
theorem sN36 {S : zSh} (h : zSok S) : (S 36).2.1 = 16 := by rw [h 36 (by decide) (by decide) (by decide)]; rfl
theorem sT37 {S : zSh} (h : zSok S) : (S 37).1 = 6 := by rw [h 37 (by decide) (by decide) (by decide)]; rfl
theorem sR37_1 {S : zSh} (h : zSok S) : (S 37).2.2 1 = some 38 := by rw [h 37 (by decide) (by decide) (by decide)]; rfl
theorem sR37_2 {S : zSh} (h : zSok S) : (S 37).2.2 2 = some 39 := by rw [h 37 (by decide) (by decide) (by decide)]; rfl
theorem sR37_3 {S : zSh} (h : zSok S) : (S 37).2.2 3 = some 40 := by rw [h 37 (by decide) (by decide) (by decide)]; rfl
theorem sR37_4 {S : zSh} (h : zSok S) : (S 37).2.2 4 = some 41 := by rw [h 37 (by decide) (by decide) (by decide)]; rfl
theorem sT38 {S : zSh} (h : zSok S) : (S 38).1 = 20 := by rw [h 38 (by decide) (by decide) (by decide)]; rfl
theorem sN38 {S : zSh} (h : zSok S) : (S 38).2.1 = 30 := by rw [h 38 (by decide) (by decide) (by decide)]; rfl
theorem sT39 {S : zSh} (h : zSok S) : (S 39).1 = 20 := by rw [h 39 (by decide) (by decide) (by decide)]; rfl
theorem sN39 {S : zSh} (h : zSok S) : (S 39).2.1 = 30 := by rw [h 39 (by decide) (by decide) (by decide)]; rfl
theorem sT40 {S : zSh} (h : zSok S) : (S 40).1 = 20 := by rw [h 40 (by decide) (by decide) (by decide)]; rfl
theorem sN40 {S : zSh} (h : zSok S) : (S 40).2.1 = 30 := by rw [h 40 (by decide) (by decide) (by decide)]; rfl
theorem sT41 {S : zSh} (h : zSok S) : (S 41).1 = 20 := by rw [h 41 (by decide) (by decide) (by decide)]; rfl
theorem sN41 {S : zSh} (h : zSok S) : (S 41).2.1 = 30 := by rw [h 41 (by decide) (by decide) (by decide)]; rfl
theorem sT42 {S : zSh} (h : zSok S) : (S 42).1 = 1 := by rw [h 42 (by decide) (by decide) (by decide)]; rfl
theorem sR42_1 {S : zSh} (h : zSok S) : (S 42).2.2 1 = some 43 := by rw [h 42 (by decide) (by decide) (by decide)]; rfl
theorem sR42_2 {S : zSh} (h : zSok S) : (S 42).2.2 2 = some 44 := by rw [h 42 (by decide) (by decide) (by decide)]; rfl
theorem sR42_3 {S : zSh} (h : zSok S) : (S 42).2.2 3 = some 45 := by rw [h 42 (by decide) (by decide) (by decide)]; rfl
theorem sT43 {S : zSh} (h : zSok S) : (S 43).1 = 20 := by rw [h 43 (by decide) (by decide) (by decide)]; rfl
theorem sN43 {S : zSh} (h : zSok S) : (S 43).2.1 = 10 := by rw [h 43 (by decide) (by decide) (by decide)]; rfl
theorem sT44 {S : zSh} (h : zSok S) : (S 44).1 = 20 := by rw [h 44 (by decide) (by decide) (by decide)]; rfl
theorem sN44 {S : zSh} (h : zSok S) : (S 44).2.1 = 10 := by rw [h 44 (by decide) (by decide) (by decide)]; rfl
theorem sT45 {S : zSh} (h : zSok S) : (S 45).1 = 20 := by rw [h 45 (by decide) (by decide) (by decide)]; rfl
theorem sN45 {S : zSh} (h : zSok S) : (S 45).2.1 = 10 := by rw [h 45 (by decide) (by decide) (by decide)]; rfl
theorem sT46 {S : zSh} (h : zSok S) : (S 46).1 = 4 := by rw [h 46 (by decide) (by decide) (by decide)]; rfl
theorem sR46_1 {S : zSh} (h : zSok S) : (S 46).2.2 1 = some 47 := by rw [h 46 (by decide) (by decide) (by decide)]; rfl
theorem sR46_2 {S : zSh} (h : zSok S) : (S 46).2.2 2 = some 48 := by rw [h 46 (by decide) (by decide) (by decide)]; rfl
theorem sR46_3 {S : zSh} (h : zSok S) : (S 46).2.2 3 = some 49 := by rw [h 46 (by decide) (by decide) (by decide)]; rfl
theorem sR46_4 {S : zSh} (h : zSok S) : (S 46).2.2 4 = some 50 := by rw [h 46 (by decide) (by decide) (by decide)]; rfl
theorem sT47 {S : zSh} (h : zSok S) : (S 47).1 = 20 := by rw [h 47 (by decide) (by decide) (by decide)]; rfl
theorem sN47 {S : zSh} (h : zSok S) : (S 47).2.1 = 60 := by rw [h 47 (by decide) (by decide) (by decide)]; rfl
theorem sT48 {S : zSh} (h : zSok S) : (S 48).1 = 20 := by rw [h 48 (by decide) (by decide) (by decide)]; rfl
theorem sN48 {S : zSh} (h : zSok S) : (S 48).2.1 = 60 := by rw [h 48 (by decide) (by decide) (by decide)]; rfl
theorem sT49 {S : zSh} (h : zSok S) : (S 49).1 = 20 := by rw [h 49 (by decide) (by decide) (by decide)]; rfl
theorem sN49 {S : zSh} (h : zSok S) : (S 49).2.1 = 60 := by rw [h 49 (by decide) (by decide) (by decide)]; rfl
theorem sT50 {S : zSh} (h : zSok S) : (S 50).1 = 20 := by rw [h 50 (by decide) (by decide) (by decide)]; rfl
theorem sN50 {S : zSh} (h : zSok S) : (S 50).2.1 = 60 := by rw [h 50 (by decide) (by decide) (by decide)]; rfl
theorem sT51 {S : zSh} (h : zSok S) : (S 51).1 = 8 := by rw [h 51 (by decide) (by decide) (by decide)]; rfl
theorem sR51_0 {S : zSh} (h : zSok S) : (S 51).2.2 0 = some 52 := by rw [h 51 (by decide) (by decide) (by decide)]; rfl
theorem sR51_1 {S : zSh} (h : zSok S) : (S 51).2.2 1 = some 57 := by rw [h 51 (by decide) (by decide) (by decide)]; rfl
theorem sR51_2 {S : zSh} (h : zSok S) : (S 51).2.2 2 = some 62 := by rw [h 51 (by decide) (by decide) (by decide)]; rfl
theorem sR51_3 {S : zSh} (h : zSok S) : (S 51).2.2 3 = some 66 := by rw [h 51 (by decide) (by decide) (by decide)]; rfl
theorem sT52 {S : zSh} (h : zSok S) : (S 52).1 = 5 := by rw [h 52 (by decide) (by decide) (by decide)]; rfl
theorem sR52_1 {S : zSh} (h : zSok S) : (S 52).2.2 1 = some 53 := by rw [h 52 (by decide) (by decide) (by decide)]; rfl
theorem sR52_2 {S : zSh} (h : zSok S) : (S 52).2.2 2 = some 54 := by rw [h 52 (by decide) (by decide) (by decide)]; rfl
theorem sR52_3 {S : zSh} (h : zSok S) : (S 52).2.2 3 = some 55 := by rw [h 52 (by decide) (by decide) (by decide)]; rfl
theorem sR52_4 {S : zSh} (h : zSok S) : (S 52).2.2 4 = some 56 := by rw [h 52 (by decide) (by decide) (by decide)]; rfl
theorem sT53 {S : zSh} (h : zSok S) : (S 53).1 = 20 := by rw [h 53 (by decide) (by decide) (by decide)]; rfl
theorem sN53 {S : zSh} (h : zSok S) : (S 53).2.1 = 16 := by rw [h 53 (by decide) (by decide) (by decide)]; rfl
theorem sT54 {S : zSh} (h : zSok S) : (S 54).1 = 20 := by rw [h 54 (by decide) (by decide) (by decide)]; rfl
theorem sN54 {S : zSh} (h : zSok S) : (S 54).2.1 = 16 := by rw [h 54 (by decide) (by decide) (by decide)]; rfl
theorem sT55 {S : zSh} (h : zSok S) : (S 55).1 = 20 := by rw [h 55 (by decide) (by decide) (by decide)]; rfl
theorem sN55 {S : zSh} (h : zSok S) : (S 55).2.1 = 16 := by rw [h 55 (by decide) (by decide) (by decide)]; rfl
theorem sT56 {S : zSh} (h : zSok S) : (S 56).1 = 20 := by rw [h 56 (by decide) (by decide) (by decide)]; rfl
theorem sN56 {S : zSh} (h : zSok S) : (S 56).2.1 = 16 := by rw [h 56 (by decide) (by decide) (by decide)]; rfl
theorem sT57 {S : zSh} (h : zSok S) : (S 57).1 = 6 := by rw [h 57 (by decide) (by decide) (by decide)]; rfl
theorem sR57_1 {S : zSh} (h : zSok S) : (S 57).2.2 1 = some 58 := by rw [h 57 (by decide) (by decide) (by decide)]; rfl
theorem sR57_2 {S : zSh} (h : zSok S) : (S 57).2.2 2 = some 59 := by rw [h 57 (by decide) (by decide) (by decide)]; rfl
theorem sR57_3 {S : zSh} (h : zSok S) : (S 57).2.2 3 = some 60 := by rw [h 57 (by decide) (by decide) (by decide)]; rfl
theorem sR57_4 {S : zSh} (h : zSok S) : (S 57).2.2 4 = some 61 := by rw [h 57 (by decide) (by decide) (by decide)]; rfl
theorem sT58 {S : zSh} (h : zSok S) : (S 58).1 = 20 := by rw [h 58 (by decide) (by decide) (by decide)]; rfl
theorem sN58 {S : zSh} (h : zSok S) : (S 58).2.1 = 30 := by rw [h 58 (by decide) (by decide) (by decide)]; rfl
theorem sT59 {S : zSh} (h : zSok S) : (S 59).1 = 20 := by rw [h 59 (by decide) (by decide) (by decide)]; rfl
theorem sN59 {S : zSh} (h : zSok S) : (S 59).2.1 = 30 := by rw [h 59 (by decide) (by decide) (by decide)]; rfl
theorem sT60 {S : zSh} (h : zSok S) : (S 60).1 = 20 := by rw [h 60 (by decide) (by decide) (by decide)]; rfl
theorem sN60 {S : zSh} (h : zSok S) : (S 60).2.1 = 30 := by rw [h 60 (by decide) (by decide) (by decide)]; rfl
theorem sT61 {S : zSh} (h : zSok S) : (S 61).1 = 20 := by rw [h 61 (by decide) (by decide) (by decide)]; rfl
theorem sN61 {S : zSh} (h : zSok S) : (S 61).2.1 = 30 := by rw [h 61 (by decide) (by decide) (by decide)]; rfl
theorem sT62 {S : zSh} (h : zSok S) : (S 62).1 = 1 := by rw [h 62 (by decide) (by decide) (by decide)]; rfl
theorem sR62_1 {S : zSh} (h : zSok S) : (S 62).2.2 1 = some 63 := by rw [h 62 (by decide) (by decide) (by decide)]; rfl
theorem sR62_2 {S : zSh} (h : zSok S) : (S 62).2.2 2 = some 64 := by rw [h 62 (by decide) (by decide) (by decide)]; rfl
theorem sR62_3 {S : zSh} (h : zSok S) : (S 62).2.2 3 = some 65 := by rw [h 62 (by decide) (by decide) (by decide)]; rfl
theorem sT63 {S : zSh} (h : zSok S) : (S 63).1 = 20 := by rw [h 63 (by decide) (by decide) (by decide)]; rfl
theorem sN63 {S : zSh} (h : zSok S) : (S 63).2.1 = 10 := by rw [h 63 (by decide) (by decide) (by decide)]; rfl
theorem sT64 {S : zSh} (h : zSok S) : (S 64).1 = 20 := by rw [h 64 (by decide) (by decide) (by decide)]; rfl
theorem sN64 {S : zSh} (h : zSok S) : (S 64).2.1 = 10 := by rw [h 64 (by decide) (by decide) (by decide)]; rfl
theorem sT65 {S : zSh} (h : zSok S) : (S 65).1 = 20 := by rw [h 65 (by decide) (by decide) (by decide)]; rfl
theorem sN65 {S : zSh} (h : zSok S) : (S 65).2.1 = 10 := by rw [h 65 (by decide) (by decide) (by decide)]; rfl
theorem sT66 {S : zSh} (h : zSok S) : (S 66).1 = 4 := by rw [h 66 (by decide) (by decide) (by decide)]; rfl
theorem sR66_1 {S : zSh} (h : zSok S) : (S 66).2.2 1 = some 67 := by rw [h 66 (by decide) (by decide) (by decide)]; rfl
theorem sR66_2 {S : zSh} (h : zSok S) : (S 66).2.2 2 = some 68 := by rw [h 66 (by decide) (by decide) (by decide)]; rfl
theorem sR66_3 {S : zSh} (h : zSok S) : (S 66).2.2 3 = some 69 := by rw [h 66 (by decide) (by decide) (by decide)]; rfl
theorem sR66_4 {S : zSh} (h : zSok S) : (S 66).2.2 4 = some 70 := by rw [h 66 (by decide) (by decide) (by decide)]; rfl
theorem sT67 {S : zSh} (h : zSok S) : (S 67).1 = 20 := by rw [h 67 (by decide) (by decide) (by decide)]; rfl
theorem sN67 {S : zSh} (h : zSok S) : (S 67).2.1 = 60 := by rw [h 67 (by decide) (by decide) (by decide)]; rfl
theorem sT68 {S : zSh} (h : zSok S) : (S 68).1 = 20 := by rw [h 68 (by decide) (by decide) (by decide)]; rfl
theorem sN68 {S : zSh} (h : zSok S) : (S 68).2.1 = 60 := by rw [h 68 (by decide) (by decide) (by decide)]; rfl
theorem sT69 {S : zSh} (h : zSok S) : (S 69).1 = 20 := by rw [h 69 (by decide) (by decide) (by decide)]; rfl
theorem sN69 {S : zSh} (h : zSok S) : (S 69).2.1 = 60 := by rw [h 69 (by decide) (by decide) (by decide)]; rfl
theorem sT70 {S : zSh} (h : zSok S) : (S 70).1 = 20 := by rw [h 70 (by decide) (by decide) (by decide)]; rfl
theorem sN70 {S : zSh} (h : zSok S) : (S 70).2.1 = 60 := by rw [h 70 (by decide) (by decide) (by decide)]; rfl
theorem sT71 {S : zSh} (h : zSok S) : (S 71).1 = 8 := by rw [h 71 (by decide) (by decide) (by decide)]; rfl
theorem sR71_0 {S : zSh} (h : zSok S) : (S 71).2.2 0 = some 72 := by rw [h 71 (by decide) (by decide) (by decide)]; rfl
theorem sR71_1 {S : zSh} (h : zSok S) : (S 71).2.2 1 = some 77 := by rw [h 71 (by decide) (by decide) (by decide)]; rfl
theorem sR71_2 {S : zSh} (h : zSok S) : (S 71).2.2 2 = some 82 := by rw [h 71 (by decide) (by decide) (by decide)]; rfl
theorem sR71_3 {S : zSh} (h : zSok S) : (S 71).2.2 3 = some 86 := by rw [h 71 (by decide) (by decide) (by decide)]; rfl
theorem sT72 {S : zSh} (h : zSok S) : (S 72).1 = 5 := by rw [h 72 (by decide) (by decide) (by decide)]; rfl
theorem sR72_1 {S : zSh} (h : zSok S) : (S 72).2.2 1 = some 73 := by rw [h 72 (by decide) (by decide) (by decide)]; rfl
theorem sR72_2 {S : zSh} (h : zSok S) : (S 72).2.2 2 = some 74 := by rw [h 72 (by decide) (by decide) (by decide)]; rfl
theorem sR72_3 {S : zSh} (h : zSok S) : (S 72).2.2 3 = some 75 := by rw [h 72 (by decide) (by decide) (by decide)]; rfl
theorem sR72_4 {S : zSh} (h : zSok S) : (S 72).2.2 4 = some 76 := by rw [h 72 (by decide) (by decide) (by decide)]; rfl
theorem sT73 {S : zSh} (h : zSok S) : (S 73).1 = 20 := by rw [h 73 (by decide) (by decide) (by decide)]; rfl
theorem sN73 {S : zSh} (h : zSok S) : (S 73).2.1 = 16 := by rw [h 73 (by decide) (by decide) (by decide)]; rfl
theorem sT74 {S : zSh} (h : zSok S) : (S 74).1 = 20 := by rw [h 74 (by decide) (by decide) (by decide)]; rfl
theorem sN74 {S : zSh} (h : zSok S) : (S 74).2.1 = 16 := by rw [h 74 (by decide) (by decide) (by decide)]; rfl
theorem sT75 {S : zSh} (h : zSok S) : (S 75).1 = 20 := by rw [h 75 (by decide) (by decide) (by decide)]; rfl
theorem sN75 {S : zSh} (h : zSok S) : (S 75).2.1 = 16 := by rw [h 75 (by decide) (by decide) (by decide)]; rfl
theorem sT76 {S : zSh} (h : zSok S) : (S 76).1 = 20 := by rw [h 76 (by decide) (by decide) (by decide)]; rfl
theorem sN76 {S : zSh} (h : zSok S) : (S 76).2.1 = 16 := by rw [h 76 (by decide) (by decide) (by decide)]; rfl
theorem sT77 {S : zSh} (h : zSok S) : (S 77).1 = 6 := by rw [h 77 (by decide) (by decide) (by decide)]; rfl
theorem sR77_1 {S : zSh} (h : zSok S) : (S 77).2.2 1 = some 78 := by rw [h 77 (by decide) (by decide) (by decide)]; rfl
theorem sR77_2 {S : zSh} (h : zSok S) : (S 77).2.2 2 = some 79 := by rw [h 77 (by decide) (by decide) (by decide)]; rfl
theorem sR77_3 {S : zSh} (h : zSok S) : (S 77).2.2 3 = some 80 := by rw [h 77 (by decide) (by decide) (by decide)]; rfl
theorem sR77_4 {S : zSh} (h : zSok S) : (S 77).2.2 4 = some 81 := by rw [h 77 (by decide) (by decide) (by decide)]; rfl
theorem sT78 {S : zSh} (h : zSok S) : (S 78).1 = 20 := by rw [h 78 (by decide) (by decide) (by decide)]; rfl
theorem sN78 {S : zSh} (h : zSok S) : (S 78).2.1 = 30 := by rw [h 78 (by decide) (by decide) (by decide)]; rfl
theorem sT79 {S : zSh} (h : zSok S) : (S 79).1 = 20 := by rw [h 79 (by decide) (by decide) (by decide)]; rfl
theorem sN79 {S : zSh} (h : zSok S) : (S 79).2.1 = 30 := by rw [h 79 (by decide) (by decide) (by decide)]; rfl
theorem sT80 {S : zSh} (h : zSok S) : (S 80).1 = 20 := by rw [h 80 (by decide) (by decide) (by decide)]; rfl
theorem sN80 {S : zSh} (h : zSok S) : (S 80).2.1 = 30 := by rw [h 80 (by decide) (by decide) (by decide)]; rfl
theorem sT81 {S : zSh} (h : zSok S) : (S 81).1 = 20 := by rw [h 81 (by decide) (by decide) (by decide)]; rfl
theorem sN81 {S : zSh} (h : zSok S) : (S 81).2.1 = 30 := by rw [h 81 (by decide) (by decide) (by decide)]; rfl
theorem sT82 {S : zSh} (h : zSok S) : (S 82).1 = 1 := by rw [h 82 (by decide) (by decide) (by decide)]; rfl
theorem sR82_1 {S : zSh} (h : zSok S) : (S 82).2.2 1 = some 83 := by rw [h 82 (by decide) (by decide) (by decide)]; rfl
theorem sR82_2 {S : zSh} (h : zSok S) : (S 82).2.2 2 = some 84 := by rw [h 82 (by decide) (by decide) (by decide)]; rfl
theorem sR82_3 {S : zSh} (h : zSok S) : (S 82).2.2 3 = some 85 := by rw [h 82 (by decide) (by decide) (by decide)]; rfl
theorem sT83 {S : zSh} (h : zSok S) : (S 83).1 = 20 := by rw [h 83 (by decide) (by decide) (by decide)]; rfl
theorem sN83 {S : zSh} (h : zSok S) : (S 83).2.1 = 10 := by rw [h 83 (by decide) (by decide) (by decide)]; rfl
theorem sT84 {S : zSh} (h : zSok S) : (S 84).1 = 20 := by rw [h 84 (by decide) (by decide) (by decide)]; rfl
theorem sN84 {S : zSh} (h : zSok S) : (S 84).2.1 = 10 := by rw [h 84 (by decide) (by decide) (by decide)]; rfl
theorem sT85 {S : zSh} (h : zSok S) : (S 85).1 = 20 := by rw [h 85 (by decide) (by decide) (by decide)]; rfl
theorem sN85 {S : zSh} (h : zSok S) : (S 85).2.1 = 10 := by rw [h 85 (by decide) (by decide) (by decide)]; rfl
theorem sT86 {S : zSh} (h : zSok S) : (S 86).1 = 4 := by rw [h 86 (by decide) (by decide) (by decide)]; rfl
theorem sR86_1 {S : zSh} (h : zSok S) : (S 86).2.2 1 = some 87 := by rw [h 86 (by decide) (by decide) (by decide)]; rfl
theorem sR86_2 {S : zSh} (h : zSok S) : (S 86).2.2 2 = some 88 := by rw [h 86 (by decide) (by decide) (by decide)]; rfl
theorem sR86_3 {S : zSh} (h : zSok S) : (S 86).2.2 3 = some 89 := by rw [h 86 (by decide) (by decide) (by decide)]; rfl
theorem sR86_4 {S : zSh} (h : zSok S) : (S 86).2.2 4 = some 90 := by rw [h 86 (by decide) (by decide) (by decide)]; rfl
theorem sT87 {S : zSh} (h : zSok S) : (S 87).1 = 20 := by rw [h 87 (by decide) (by decide) (by decide)]; rfl
theorem sN87 {S : zSh} (h : zSok S) : (S 87).2.1 = 60 := by rw [h 87 (by decide) (by decide) (by decide)]; rfl
theorem sT88 {S : zSh} (h : zSok S) : (S 88).1 = 20 := by rw [h 88 (by decide) (by decide) (by decide)]; rfl
theorem sN88 {S : zSh} (h : zSok S) : (S 88).2.1 = 60 := by rw [h 88 (by decide) (by decide) (by decide)]; rfl
theorem sT89 {S : zSh} (h : zSok S) : (S 89).1 = 20 := by rw [h 89 (by decide) (by decide) (by decide)]; rfl
theorem sN89 {S : zSh} (h : zSok S) : (S 89).2.1 = 60 := by rw [h 89 (by decide) (by decide) (by decide)]; rfl
theorem sT90 {S : zSh} (h : zSok S) : (S 90).1 = 20 := by rw [h 90 (by decide) (by decide) (by decide)]; rfl
theorem sN90 {S : zSh} (h : zSok S) : (S 90).2.1 = 60 := by rw [h 90 (by decide) (by decide) (by decide)]; rfl
theorem sT91 {S : zSh} (h : zSok S) : (S 91).1 = 8 := by rw [h 91 (by decide) (by decide) (by decide)]; rfl
theorem sR91_0 {S : zSh} (h : zSok S) : (S 91).2.2 0 = some 92 := by rw [h 91 (by decide) (by decide) (by decide)]; rfl
theorem sR91_1 {S : zSh} (h : zSok S) : (S 91).2.2 1 = some 97 := by rw [h 91 (by decide) (by decide) (by decide)]; rfl
theorem sR91_2 {S : zSh} (h : zSok S) : (S 91).2.2 2 = some 102 := by rw [h 91 (by decide) (by decide) (by decide)]; rfl
theorem sR91_3 {S : zSh} (h : zSok S) : (S 91).2.2 3 = some 106 := by rw [h 91 (by decide) (by decide) (by decide)]; rfl
theorem sT92 {S : zSh} (h : zSok S) : (S 92).1 = 5 := by rw [h 92 (by decide) (by decide) (by decide)]; rfl
theorem sR92_1 {S : zSh} (h : zSok S) : (S 92).2.2 1 = some 93 := by rw [h 92 (by decide) (by decide) (by decide)]; rfl
theorem sR92_2 {S : zSh} (h : zSok S) : (S 92).2.2 2 = some 94 := by rw [h 92 (by decide) (by decide) (by decide)]; rfl
theorem sR92_3 {S : zSh} (h : zSok S) : (S 92).2.2 3 = some 95 := by rw [h 92 (by decide) (by decide) (by decide)]; rfl
theorem sR92_4 {S : zSh} (h : zSok S) : (S 92).2.2 4 = some 96 := by rw [h 92 (by decide) (by decide) (by decide)]; rfl
theorem sT93 {S : zSh} (h : zSok S) : (S 93).1 = 20 := by rw [h 93 (by decide) (by decide) (by decide)]; rfl
theorem sN93 {S : zSh} (h : zSok S) : (S 93).2.1 = 16 := by rw [h 93 (by decide) (by decide) (by decide)]; rfl
theorem sT94 {S : zSh} (h : zSok S) : (S 94).1 = 20 := by rw [h 94 (by decide) (by decide) (by decide)]; rfl
theorem sN94 {S : zSh} (h : zSok S) : (S 94).2.1 = 16 := by rw [h 94 (by decide) (by decide) (by decide)]; rfl
theorem sT95 {S : zSh} (h : zSok S) : (S 95).1 = 20 := by rw [h 95 (by decide) (by decide) (by decide)]; rfl
theorem sN95 {S : zSh} (h : zSok S) : (S 95).2.1 = 16 := by rw [h 95 (by decide) (by decide) (by decide)]; rfl
theorem sT96 {S : zSh} (h : zSok S) : (S 96).1 = 20 := by rw [h 96 (by decide) (by decide) (by decide)]; rfl
theorem sN96 {S : zSh} (h : zSok S) : (S 96).2.1 = 16 := by rw [h 96 (by decide) (by decide) (by decide)]; rfl
theorem sT97 {S : zSh} (h : zSok S) : (S 97).1 = 6 := by rw [h 97 (by decide) (by decide) (by decide)]; rfl
theorem sR97_1 {S : zSh} (h : zSok S) : (S 97).2.2 1 = some 98 := by rw [h 97 (by decide) (by decide) (by decide)]; rfl
theorem sR97_2 {S : zSh} (h : zSok S) : (S 97).2.2 2 = some 99 := by rw [h 97 (by decide) (by decide) (by decide)]; rfl
theorem sR97_3 {S : zSh} (h : zSok S) : (S 97).2.2 3 = some 100 := by rw [h 97 (by decide) (by decide) (by decide)]; rfl
theorem sR97_4 {S : zSh} (h : zSok S) : (S 97).2.2 4 = some 101 := by rw [h 97 (by decide) (by decide) (by decide)]; rfl
theorem sT98 {S : zSh} (h : zSok S) : (S 98).1 = 20 := by rw [h 98 (by decide) (by decide) (by decide)]; rfl
theorem sN98 {S : zSh} (h : zSok S) : (S 98).2.1 = 30 := by rw [h 98 (by decide) (by decide) (by decide)]; rfl
theorem sT99 {S : zSh} (h : zSok S) : (S 99).1 = 20 := by rw [h 99 (by decide) (by decide) (by decide)]; rfl
theorem sN99 {S : zSh} (h : zSok S) : (S 99).2.1 = 30 := by rw [h 99 (by decide) (by decide) (by decide)]; rfl
theorem sT100 {S : zSh} (h : zSok S) : (S 100).1 = 20 := by rw [h 100 (by decide) (by decide) (by decide)]; rfl
theorem sN100 {S : zSh} (h : zSok S) : (S 100).2.1 = 30 := by rw [h 100 (by decide) (by decide) (by decide)]; rfl
theorem sT101 {S : zSh} (h : zSok S) : (S 101).1 = 20 := by rw [h 101 (by decide) (by decide) (by decide)]; rfl
theorem sN101 {S : zSh} (h : zSok S) : (S 101).2.1 = 30 := by rw [h 101 (by decide) (by decide) (by decide)]; rfl
theorem sT102 {S : zSh} (h : zSok S) : (S 102).1 = 1 := by rw [h 102 (by decide) (by decide) (by decide)]; rfl
theorem sR102_1 {S : zSh} (h : zSok S) : (S 102).2.2 1 = some 103 := by rw [h 102 (by decide) (by decide) (by decide)]; rfl
theorem sR102_2 {S : zSh} (h : zSok S) : (S 102).2.2 2 = some 104 := by rw [h 102 (by decide) (by decide) (by decide)]; rfl
theorem sR102_3 {S : zSh} (h : zSok S) : (S 102).2.2 3 = some 105 := by rw [h 102 (by decide) (by decide) (by decide)]; rfl
theorem sT103 {S : zSh} (h : zSok S) : (S 103).1 = 20 := by rw [h 103 (by decide) (by decide) (by decide)]; rfl
theorem sN103 {S : zSh} (h : zSok S) : (S 103).2.1 = 10 := by rw [h 103 (by decide) (by decide) (by decide)]; rfl
theorem sT104 {S : zSh} (h : zSok S) : (S 104).1 = 20 := by rw [h 104 (by decide) (by decide) (by decide)]; rfl
theorem sN104 {S : zSh} (h : zSok S) : (S 104).2.1 = 10 := by rw [h 104 (by decide) (by decide) (by decide)]; rfl
theorem sT105 {S : zSh} (h : zSok S) : (S 105).1 = 20 := by rw [h 105 (by decide) (by decide) (by decide)]; rfl
theorem sN105 {S : zSh} (h : zSok S) : (S 105).2.1 = 10 := by rw [h 105 (by decide) (by decide) (by decide)]; rfl
theorem sT106 {S : zSh} (h : zSok S) : (S 106).1 = 4 := by rw [h 106 (by decide) (by decide) (by decide)]; rfl
theorem sR106_1 {S : zSh} (h : zSok S) : (S 106).2.2 1 = some 107 := by rw [h 106 (by decide) (by decide) (by decide)]; rfl
theorem sR106_2 {S : zSh} (h : zSok S) : (S 106).2.2 2 = some 108 := by rw [h 106 (by decide) (by decide) (by decide)]; rfl
theorem sR106_3 {S : zSh} (h : zSok S) : (S 106).2.2 3 = some 109 := by rw [h 106 (by decide) (by decide) (by decide)]; rfl
theorem sR106_4 {S : zSh} (h : zSok S) : (S 106).2.2 4 = some 110 := by rw [h 106 (by decide) (by decide) (by decide)]; rfl
theorem sT107 {S : zSh} (h : zSok S) : (S 107).1 = 20 := by rw [h 107 (by decide) (by decide) (by decide)]; rfl
theorem sN107 {S : zSh} (h : zSok S) : (S 107).2.1 = 60 := by rw [h 107 (by decide) (by decide) (by decide)]; rfl
theorem sT108 {S : zSh} (h : zSok S) : (S 108).1 = 20 := by rw [h 108 (by decide) (by decide) (by decide)]; rfl
theorem sN108 {S : zSh} (h : zSok S) : (S 108).2.1 = 60 := by rw [h 108 (by decide) (by decide) (by decide)]; rfl
theorem sT109 {S : zSh} (h : zSok S) : (S 109).1 = 20 := by rw [h 109 (by decide) (by decide) (by decide)]; rfl
theorem sN109 {S : zSh} (h : zSok S) : (S 109).2.1 = 60 := by rw [h 109 (by decide) (by decide) (by decide)]; rfl
theorem sT110 {S : zSh} (h : zSok S) : (S 110).1 = 20 := by rw [h 110 (by decide) (by decide) (by decide)]; rfl
theorem sN110 {S : zSh} (h : zSok S) : (S 110).2.1 = 60 := by rw [h 110 (by decide) (by decide) (by decide)]; rfl
theorem sT111 {S : zSh} (h : zSok S) : (S 111).1 = 8 := by rw [h 111 (by decide) (by decide) (by decide)]; rfl
theorem sR111_0 {S : zSh} (h : zSok S) : (S 111).2.2 0 = some 112 := by rw [h 111 (by decide) (by decide) (by decide)]; rfl
theorem sR111_1 {S : zSh} (h : zSok S) : (S 111).2.2 1 = some 117 := by rw [h 111 (by decide) (by decide) (by decide)]; rfl
theorem sR111_2 {S : zSh} (h : zSok S) : (S 111).2.2 2 = some 122 := by rw [h 111 (by decide) (by decide) (by decide)]; rfl
theorem sR111_3 {S : zSh} (h : zSok S) : (S 111).2.2 3 = some 126 := by rw [h 111 (by decide) (by decide) (by decide)]; rfl
theorem sT112 {S : zSh} (h : zSok S) : (S 112).1 = 5 := by rw [h 112 (by decide) (by decide) (by decide)]; rfl
theorem sR112_1 {S : zSh} (h : zSok S) : (S 112).2.2 1 = some 113 := by rw [h 112 (by decide) (by decide) (by decide)]; rfl
theorem sR112_2 {S : zSh} (h : zSok S) : (S 112).2.2 2 = some 114 := by rw [h 112 (by decide) (by decide) (by decide)]; rfl
theorem sR112_3 {S : zSh} (h : zSok S) : (S 112).2.2 3 = some 115 := by rw [h 112 (by decide) (by decide) (by decide)]; rfl
theorem sR112_4 {S : zSh} (h : zSok S) : (S 112).2.2 4 = some 116 := by rw [h 112 (by decide) (by decide) (by decide)]; rfl
theorem sT113 {S : zSh} (h : zSok S) : (S 113).1 = 20 := by rw [h 113 (by decide) (by decide) (by decide)]; rfl
theorem sN113 {S : zSh} (h : zSok S) : (S 113).2.1 = 16 := by rw [h 113 (by decide) (by decide) (by decide)]; rfl
theorem sT114 {S : zSh} (h : zSok S) : (S 114).1 = 20 := by rw [h 114 (by decide) (by decide) (by decide)]; rfl
theorem sN114 {S : zSh} (h : zSok S) : (S 114).2.1 = 16 := by rw [h 114 (by decide) (by decide) (by decide)]; rfl
theorem sT115 {S : zSh} (h : zSok S) : (S 115).1 = 20 := by rw [h 115 (by decide) (by decide) (by decide)]; rfl
theorem sN115 {S : zSh} (h : zSok S) : (S 115).2.1 = 16 := by rw [h 115 (by decide) (by decide) (by decide)]; rfl
theorem sT116 {S : zSh} (h : zSok S) : (S 116).1 = 20 := by rw [h 116 (by decide) (by decide) (by decide)]; rfl
theorem sN116 {S : zSh} (h : zSok S) : (S 116).2.1 = 16 := by rw [h 116 (by decide) (by decide) (by decide)]; rfl
theorem sT117 {S : zSh} (h : zSok S) : (S 117).1 = 6 := by rw [h 117 (by decide) (by decide) (by decide)]; rfl
theorem sR117_1 {S : zSh} (h : zSok S) : (S 117).2.2 1 = some 118 := by rw [h 117 (by decide) (by decide) (by decide)]; rfl
theorem sR117_2 {S : zSh} (h : zSok S) : (S 117).2.2 2 = some 119 := by rw [h 117 (by decide) (by decide) (by decide)]; rfl
theorem sR117_3 {S : zSh} (h : zSok S) : (S 117).2.2 3 = some 120 := by rw [h 117 (by decide) (by decide) (by decide)]; rfl
theorem sR117_4 {S : zSh} (h : zSok S) : (S 117).2.2 4 = some 121 := by rw [h 117 (by decide) (by decide) (by decide)]; rfl
theorem sT118 {S : zSh} (h : zSok S) : (S 118).1 = 20 := by rw [h 118 (by decide) (by decide) (by decide)]; rfl
theorem sN118 {S : zSh} (h : zSok S) : (S 118).2.1 = 30 := by rw [h 118 (by decide) (by decide) (by decide)]; rfl
theorem sT119 {S : zSh} (h : zSok S) : (S 119).1 = 20 := by rw [h 119 (by decide) (by decide) (by decide)]; rfl
theorem sN119 {S : zSh} (h : zSok S) : (S 119).2.1 = 30 := by rw [h 119 (by decide) (by decide) (by decide)]; rfl
theorem sT120 {S : zSh} (h : zSok S) : (S 120).1 = 20 := by rw [h 120 (by decide) (by decide) (by decide)]; rfl
theorem sN120 {S : zSh} (h : zSok S) : (S 120).2.1 = 30 := by rw [h 120 (by decide) (by decide) (by decide)]; rfl
theorem sT121 {S : zSh} (h : zSok S) : (S 121).1 = 20 := by rw [h 121 (by decide) (by decide) (by decide)]; rfl
theorem sN121 {S : zSh} (h : zSok S) : (S 121).2.1 = 30 := by rw [h 121 (by decide) (by decide) (by decide)]; rfl
theorem sT122 {S : zSh} (h : zSok S) : (S 122).1 = 1 := by rw [h 122 (by decide) (by decide) (by decide)]; rfl
theorem sR122_1 {S : zSh} (h : zSok S) : (S 122).2.2 1 = some 123 := by rw [h 122 (by decide) (by decide) (by decide)]; rfl
theorem sR122_2 {S : zSh} (h : zSok S) : (S 122).2.2 2 = some 124 := by rw [h 122 (by decide) (by decide) (by decide)]; rfl
theorem sR122_3 {S : zSh} (h : zSok S) : (S 122).2.2 3 = some 125 := by rw [h 122 (by decide) (by decide) (by decide)]; rfl
theorem sT123 {S : zSh} (h : zSok S) : (S 123).1 = 20 := by rw [h 123 (by decide) (by decide) (by decide)]; rfl
theorem sN123 {S : zSh} (h : zSok S) : (S 123).2.1 = 10 := by rw [h 123 (by decide) (by decide) (by decide)]; rfl
theorem sT124 {S : zSh} (h : zSok S) : (S 124).1 = 20 := by rw [h 124 (by decide) (by decide) (by decide)]; rfl
theorem sN124 {S : zSh} (h : zSok S) : (S 124).2.1 = 10 := by rw [h 124 (by decide) (by decide) (by decide)]; rfl
theorem sT125 {S : zSh} (h : zSok S) : (S 125).1 = 20 := by rw [h 125 (by decide) (by decide) (by decide)]; rfl
theorem sN125 {S : zSh} (h : zSok S) : (S 125).2.1 = 10 := by rw [h 125 (by decide) (by decide) (by decide)]; rfl
theorem sT126 {S : zSh} (h : zSok S) : (S 126).1 = 4 := by rw [h 126 (by decide) (by decide) (by decide)]; rfl
theorem sR126_1 {S : zSh} (h : zSok S) : (S 126).2.2 1 = some 127 := by rw [h 126 (by decide) (by decide) (by decide)]; rfl
theorem sR126_2 {S : zSh} (h : zSok S) : (S 126).2.2 2 = some 128 := by rw [h 126 (by decide) (by decide) (by decide)]; rfl
theorem sR126_3 {S : zSh} (h : zSok S) : (S 126).2.2 3 = some 129 := by rw [h 126 (by decide) (by decide) (by decide)]; rfl
theorem sR126_4 {S : zSh} (h : zSok S) : (S 126).2.2 4 = some 130 := by rw [h 126 (by decide) (by decide) (by decide)]; rfl
theorem sT127 {S : zSh} (h : zSok S) : (S 127).1 = 20 := by rw [h 127 (by decide) (by decide) (by decide)]; rfl
theorem sN127 {S : zSh} (h : zSok S) : (S 127).2.1 = 60 := by rw [h 127 (by decide) (by decide) (by decide)]; rfl
theorem sT128 {S : zSh} (h : zSok S) : (S 128).1 = 20 := by rw [h 128 (by decide) (by decide) (by decide)]; rfl
theorem sN128 {S : zSh} (h : zSok S) : (S 128).2.1 = 60 := by rw [h 128 (by decide) (by decide) (by decide)]; rfl
theorem sT129 {S : zSh} (h : zSok S) : (S 129).1 = 20 := by rw [h 129 (by decide) (by decide) (by decide)]; rfl
theorem sN129 {S : zSh} (h : zSok S) : (S 129).2.1 = 60 := by rw [h 129 (by decide) (by decide) (by decide)]; rfl
theorem sT130 {S : zSh} (h : zSok S) : (S 130).1 = 20 := by rw [h 130 (by decide) (by decide) (by decide)]; rfl
theorem sN130 {S : zSh} (h : zSok S) : (S 130).2.1 = 60 := by rw [h 130 (by decide) (by decide) (by decide)]; rfl
theorem sT131 {S : zSh} (h : zSok S) : (S 131).1 = 7 := by rw [h 131 (by decide) (by decide) (by decide)]; rfl
theorem sR131_1 {S : zSh} (h : zSok S) : (S 131).2.2 1 = some 132 := by rw [h 131 (by decide) (by decide) (by decide)]; rfl
theorem sR131_2 {S : zSh} (h : zSok S) : (S 131).2.2 2 = some 133 := by rw [h 131 (by decide) (by decide) (by decide)]; rfl
theorem sR131_3 {S : zSh} (h : zSok S) : (S 131).2.2 3 = some 134 := by rw [h 131 (by decide) (by decide) (by decide)]; rfl
theorem sR131_4 {S : zSh} (h : zSok S) : (S 131).2.2 4 = some 135 := by rw [h 131 (by decide) (by decide) (by decide)]; rfl
theorem sR131_5 {S : zSh} (h : zSok S) : (S 131).2.2 5 = some 136 := by rw [h 131 (by decide) (by decide) (by decide)]; rfl
theorem sT132 {S : zSh} (h : zSok S) : (S 132).1 = 20 := by rw [h 132 (by decide) (by decide) (by decide)]; rfl
theorem sN132 {S : zSh} (h : zSok S) : (S 132).2.1 = 61 := by rw [h 132 (by decide) (by decide) (by decide)]; rfl
theorem sT133 {S : zSh} (h : zSok S) : (S 133).1 = 20 := by rw [h 133 (by decide) (by decide) (by decide)]; rfl
theorem sN133 {S : zSh} (h : zSok S) : (S 133).2.1 = 61 := by rw [h 133 (by decide) (by decide) (by decide)]; rfl
theorem sT134 {S : zSh} (h : zSok S) : (S 134).1 = 20 := by rw [h 134 (by decide) (by decide) (by decide)]; rfl
theorem sN134 {S : zSh} (h : zSok S) : (S 134).2.1 = 61 := by rw [h 134 (by decide) (by decide) (by decide)]; rfl
theorem sT135 {S : zSh} (h : zSok S) : (S 135).1 = 20 := by rw [h 135 (by decide) (by decide) (by decide)]; rfl
theorem sN135 {S : zSh} (h : zSok S) : (S 135).2.1 = 61 := by rw [h 135 (by decide) (by decide) (by decide)]; rfl
theorem sT136 {S : zSh} (h : zSok S) : (S 136).1 = 20 := by rw [h 136 (by decide) (by decide) (by decide)]; rfl
theorem sN136 {S : zSh} (h : zSok S) : (S 136).2.1 = 30 := by rw [h 136 (by decide) (by decide) (by decide)]; rfl
theorem sT137 {S : zSh} (h : zSok S) : (S 137).1 = 2 := by rw [h 137 (by decide) (by decide) (by decide)]; rfl
theorem sR137_0 {S : zSh} (h : zSok S) : (S 137).2.2 0 = some 138 := by rw [h 137 (by decide) (by decide) (by decide)]; rfl
theorem sR137_4 {S : zSh} (h : zSok S) : (S 137).2.2 4 = some 139 := by rw [h 137 (by decide) (by decide) (by decide)]; rfl
theorem sR137_5 {S : zSh} (h : zSok S) : (S 137).2.2 5 = some 140 := by rw [h 137 (by decide) (by decide) (by decide)]; rfl
theorem sR137_6 {S : zSh} (h : zSok S) : (S 137).2.2 6 = some 141 := by rw [h 137 (by decide) (by decide) (by decide)]; rfl
theorem sR137_7 {S : zSh} (h : zSok S) : (S 137).2.2 7 = some 142 := by rw [h 137 (by decide) (by decide) (by decide)]; rfl
theorem sT138 {S : zSh} (h : zSok S) : (S 138).1 = 20 := by rw [h 138 (by decide) (by decide) (by decide)]; rfl
theorem sN138 {S : zSh} (h : zSok S) : (S 138).2.1 = 240 := by rw [h 138 (by decide) (by decide) (by decide)]; rfl
theorem sT139 {S : zSh} (h : zSok S) : (S 139).1 = 20 := by rw [h 139 (by decide) (by decide) (by decide)]; rfl
theorem sN139 {S : zSh} (h : zSok S) : (S 139).2.1 = 240 := by rw [h 139 (by decide) (by decide) (by decide)]; rfl
theorem sT140 {S : zSh} (h : zSok S) : (S 140).1 = 20 := by rw [h 140 (by decide) (by decide) (by decide)]; rfl
theorem sN140 {S : zSh} (h : zSok S) : (S 140).2.1 = 240 := by rw [h 140 (by decide) (by decide) (by decide)]; rfl
theorem sT141 {S : zSh} (h : zSok S) : (S 141).1 = 20 := by rw [h 141 (by decide) (by decide) (by decide)]; rfl
theorem sN141 {S : zSh} (h : zSok S) : (S 141).2.1 = 240 := by rw [h 141 (by decide) (by decide) (by decide)]; rfl
theorem sT142 {S : zSh} (h : zSok S) : (S 142).1 = 20 := by rw [h 142 (by decide) (by decide) (by decide)]; rfl
theorem sN142 {S : zSh} (h : zSok S) : (S 142).2.1 = 240 := by rw [h 142 (by decide) (by decide) (by decide)]; rfl
theorem sT144 {S : zSh} (h : zSok S) : (S 144).1 = 21 := by rw [h 144 (by decide) (by decide) (by decide)]; rfl
theorem sN144 {S : zSh} (h : zSok S) : (S 144).2.1 = 16 := by rw [h 144 (by decide) (by decide) (by decide)]; rfl
theorem sT145 {S : zSh} (h : zSok S) : (S 145).1 = 20 := by rw [h 145 (by decide) (by decide) (by decide)]; rfl
theorem sN145 {S : zSh} (h : zSok S) : (S 145).2.1 = 16 := by rw [h 145 (by decide) (by decide) (by decide)]; rfl
theorem sT146 {S : zSh} (h : zSok S) : (S 146).1 = 20 := by rw [h 146 (by decide) (by decide) (by decide)]; rfl
theorem sN146 {S : zSh} (h : zSok S) : (S 146).2.1 = 30 := by rw [h 146 (by decide) (by decide) (by decide)]; rfl
def zRd (x : Int) (μ : zMem) : Option zV → zMem → Prop := fun r μ' => r = some (zI x) ∧ μ' = μ
def zRp (P : Int → Prop) (μ : zMem) : Option zV → zMem → Prop := fun r μ' => ∃ x, r = some (zI x) ∧ P x ∧ μ' = μ
def zBd (c : zC) : Prop := ∀ r k, 8 ≤ r → -100000 ≤ c r k ∧ c r k ≤ 100000
section ZB
variable {d M pc n sl : Nat} {L : zLs} {st : List zV} {S : zSh} {c : zC} {Q : Option zV → zMem → Prop}
theorem zr_iaB {q : Nat} {i N : Int} (hB : zBd c) (hq : 8 ≤ q) (hd : decode (zB M) pc = .ok (.iaload, 1)) (ht : (S q).1 = 20) (hN : (S q).2.1 = N) (hb : 0 ≤ i ∧ i < N) (kk : -100000 ≤ c q i ∧ c q i ≤ 100000 → zE d M (pc + 1) L (zI (c q i) :: st) ((n, sl), (S, c)) Q) : zE d M pc L (zI i :: zA q :: st) ((n, sl), (S, c)) Q := zr_iald hd ht hN hb (kk (hB q i hq))
theorem zr_giB {i ci k fn q : Nat} {j : Int} (hB : zBd c) (hq : 8 ≤ q) (hd : decode (zB M) pc = .ok (.getfield i, 3)) (hF : zFld (zK M) i = some (ci, k, false, fn)) (hj : (k : Int) = j) (ht : (S q).1 = ci) (kk : -100000 ≤ c q j ∧ c q j ≤ 100000 → zE d M (pc + 3) L (zI (c q j) :: st) ((n, sl), (S, c)) Q) : zE d M pc L (zA q :: st) ((n, sl), (S, c)) Q := zr_geti hd hF hj ht (kk (hB q j hq))
end ZB
/-- counting up -/
theorem zind {P : Int → Prop} (N : Int) (h : ∀ i, (∀ j, i < j → j ≤ N → P j) → i ≤ N → P i) : ∀ i, i ≤ N → P i := by
  have key : ∀ (k : Nat) (i : Int), N - i ≤ k → i ≤ N → P i := by
    intro k
    induction k with
    | zero => exact fun i h1 h2 => h i (fun j h3 h4 => absurd h3 (by omega)) h2
    | succ k ih => exact fun i h1 h2 => h i (fun j h3 h4 => ih j (by omega) h4) h2
  exact fun i hi => key (N - i).toNat i (by omega) hi
