/-! the system as tables: methods by number, what a class's constant pool names; every word by its place in ztbl -/
theorem zsel_priv {C : String} {y y0 : MethodName} {s : State} {args : Array Value} (hc0 : y0.cls = y.cls) (hy : y.cls ≠ "java/lang/invoke/MethodHandle" ∧ y.cls ≠ "java/lang/invoke/VarHandle") (h0 : (Cond.selects C y0 y0).before args s = true)
    (hpriv : (Cond.privateMethod y).before args s = true) (hinst : (Cond.instanceMethod y).before args s = true) : (Cond.selects C y y).before args s = true := by
  obtain ⟨c2, r2, m2, q1, q2, q3, q4, kP, hkP, hkPi⟩ := Cond.selects_spec h0
  obtain ⟨mk, methM, hnamed, hmethM, -, -⟩ := Cond.instanceMethod_spec hinst
  have hfound : s.methodFound? y.cls y.name y.desc = some mk := State.methodFound?_of_named hnamed hy
  have e1 : s.vm.findClass y.cls = some mk.cls := findClass_of_methodNamed hnamed
  have e2 : s.vm.findClass y0.cls = some m2.cls := findClass_of_methodNamed q3
  have hcls : mk.cls = m2.cls := by
    rw [hc0] at e2
    exact Option.some.inj (e1.symm.trans e2)
  have hsel : selectMethod {} s.vm c2 mk = .method mk := selectMethod_private hmethM (Cond.privateMethod_at hpriv mk methM hnamed hmethM)
  simp only [Cond.before, Cond.holds, Cond.value, q1, hfound, hnamed, hsel, hcls, hkP]
  simp; exact hkPi
def zpriv : List MethodName := [⟨"java/lang/AbstractStringBuilder", "newCapacity", "(I)I"⟩, ⟨"java/lang/AbstractStringBuilder", "ensureCapacityInternal", "(I)V"⟩, ⟨"java/lang/AbstractStringBuilder", "putStringAt", "(ILjava/lang/String;)V"⟩, ⟨"java/lang/AbstractStringBuilder", "inflateIfNeededFor", "(Ljava/lang/String;)V"⟩]
def ztbl : List Cond := zpriv.map (fun y => Cond.selects RJ4 y y) ++ lw_tbl
def zgw : List Cond := ztbl.filter goodWord
theorem zgw_mem {i : Nat} {w : Cond} (h : ztbl[i]? = some w) (g : goodWord w = true) : w ∈ zgw := List.mem_filter.mpr ⟨List.mem_of_getElem? h, g⟩
theorem zgw_good : ∀ w ∈ zgw, w ∈ ztbl ∧ goodWord w = true := fun w h => List.mem_filter.mp h
def zcn (k : Nat) : String := [RX0, RX1, RX2, RX3, RX4, RX5, RX6, RX7, RX8, RX9, RL, RJ4, RJ5, RJ6, RJ9, RJ0, RJ1, RJ7, RJ8, RJ3].getD k ""
def zK (M : Nat) : Nat := [0, 0, 0, 0, 1, 1, 1, 1, 1, 1, 2, 2, 2, 3, 3, 3, 3, 3, 3, 3, 3, 3, 3, 3, 3, 4, 4, 4, 5, 5, 5, 5, 6, 6, 6, 6, 6, 7, 7, 8, 8, 8, 8, 8, 8, 8, 8, 8, 8, 8, 8, 8, 8, 8, 8, 8, 8, 8, 8, 8, 8, 8, 8, 8, 8, 8, 8, 8, 8, 8, 8, 8, 8, 8, 8, 8, 8, 8, 8, 8, 8, 8, 8, 8, 10, 10, 10, 10, 10, 10, 10, 10, 10, 10, 10, 10, 10, 10, 10, 10, 10, 10, 10, 10, 10, 10, 10, 10, 10, 10, 10, 10, 10, 10, 10, 10, 10, 10, 10, 10, 10, 10, 10, 10, 10, 10, 10, 10, 10, 10, 10, 10, 10, 10, 10, 10, 10, 10, 10, 11, 11, 11, 11, 11, 11, 11, 12, 12, 12, 12, 12, 12, 12, 12, 12, 12, 12, 12, 13, 13, 15, 15, 15, 15, 16, 17, 18, 19].getD M 0
def zY (M : Nat) : MethodName := [yX0_init, yX0_append, yX0_darkUntil, yX0_copyFrom, yX1_init, yX1_find, yX1_fillerOf, yX1_settle, yX1_itemsWith, yX1_choose, yX2_init, yX2_keep, yX2_takeBack, yX3_init, yX3_end, yX3_firstIn, yX3_beginningAt, yX3_endingAt, yX3_minutesIn, yX3_minutesOf, yX3_indexFor, yX3_insert, yX3_delete, yX3_move, yX3_copyFrom, yX4_init, yX4_append, yX4_copyFrom, yX5_init, yX5_append, yX5_covers, yX5_copyFrom, yX6_init, yX6_clear, yX6_add, yX6_share, yX6_rightFor, yX7_init, yX7_copyFrom, yX8_init, yX8_addProgramme, yX8_addRight, yX8_addBlackout, yX8_place, yX8_remove, yX8_earliest, yX8_fill, yX8_runOver, yX8_makeGood, yX8_items, yX8_item, yX8_onAir, yX8_left, yX8_mayPlace, yX8_owed, yX8_minutes, yX8_silence, yX8_ranked, yX8_broken, yX8_line, yX8_undo, yX8_fingerprint, yX8_within, yX8_isTime, yX8_isInterval, yX8_isProgramme, yX8_isItem, yX8_obstacle, yX8_rightsAllow, yX8_gatherItemsOf, yX8_putOnAir, yX8_earliestStart, yX8_nextToTry, yX8_nextWindow, yX8_makeRoomAfter, yX8_giveWay, yX8_cut, yX8_push, yX8_drop, yX8_kindOf, yX8_shareRights, yX8_programmesAhead, yX8_writeLine, yX8_writeTwoDigits, yL_cell, yL_up, yL_fails, yL_agrees, yL_places, yL_finds, yL_fills, yL_runs, yL_up, yL_up, yL_up, yL_up, yL_up, yL_up, yL_up, yL_up, yL_up, yL_up, yL_up, yL_up, yL_up, yL_up, yL_up, yL_up, yL_up, yL_up, yL_up, yL_up, yL_up, yL_up, yL_up, yL_up, yL_up, yL_up, yL_up, yL_up, yL_up, yL_up, yL_up, yL_up, yL_up, yL_up, yL_up, yL_up, yL_up, yL_up, yL_up, yL_up, yL_up, yL_up, yL_up, yL_up, yL_up, yL_up, x, yJ4_init_da8c8, yJ4_append_15ec4, yJ4_append_cf468, yJ4_append_bf812, yJ4_charAt_5068e, yJ4_setLength_d00df, yJ4_length_8abf5, yJ5_init_d00df, yJ5_length_8abf5, yJ5_ensureCapacityInternal_d00df, yJ5_newCapacity_0f7a4, yJ5_setLength_d00df, yJ5_charAt_5068e, yJ5_append_cf1ce, yJ5_append_3fe6f, yJ5_append_c97b9, yJ5_isLatin1_aae02, yJ5_inflateIfNeededFor_a7421, yJ5_putStringAt_47b60, yJ6_getChars_ba4f3, yJ6_stringSize_0f7a4, yJ0_length_8abf5, yJ0_getBytes_840e7, yJ0_coder_7d493, yJ0_checkIndex_df160, yJ1_canEncode_fc78d, yJ7_copyOf_9075b, yJ8_newLength_cabcc, yJ3_checkIndex_8e157].getD M objectInit
def zB (M : Nat) : ByteArray := [cX0_init, cX0_append, cX0_darkUntil, cX0_copyFrom, cX1_init, cX1_find, cX1_fillerOf, cX1_settle, cX1_itemsWith, cX1_choose, cX2_init, cX2_keep, cX2_takeBack, cX3_init, cX3_end, cX3_firstIn, cX3_beginningAt, cX3_endingAt, cX3_minutesIn, cX3_minutesOf, cX3_indexFor, cX3_insert, cX3_delete, cX3_move, cX3_copyFrom, cX4_init, cX4_append, cX4_copyFrom, cX5_init, cX5_append, cX5_covers, cX5_copyFrom, cX6_init, cX6_clear, cX6_add, cX6_share, cX6_rightFor, cX7_init, cX7_copyFrom, cX8_init, cX8_addProgramme, cX8_addRight, cX8_addBlackout, cX8_place, cX8_remove, cX8_earliest, cX8_fill, cX8_runOver, cX8_makeGood, cX8_items, cX8_item, cX8_onAir, cX8_left, cX8_mayPlace, cX8_owed, cX8_minutes, cX8_silence, cX8_ranked, cX8_broken, cX8_line, cX8_undo, cX8_fingerprint, cX8_within, cX8_isTime, cX8_isInterval, cX8_isProgramme, cX8_isItem, cX8_obstacle, cX8_rightsAllow, cX8_gatherItemsOf, cX8_putOnAir, cX8_earliestStart, cX8_nextToTry, cX8_nextWindow, cX8_makeRoomAfter, cX8_giveWay, cX8_cut, cX8_push, cX8_drop, cX8_kindOf, cX8_shareRights, cX8_programmesAhead, cX8_writeLine, cX8_writeTwoDigits, cL_cell, cL_up, cL_fails, cL_agrees, cL_places, cL_finds, cL_fills, cL_runs, cL_up, cL_up, cL_up, cL_up, cL_up, cL_up, cL_up, cL_up, cL_up, cL_up, cL_up, cL_up, cL_up, cL_up, cL_up, cL_up, cL_up, cL_up, cL_up, cL_up, cL_up, cL_up, cL_up, cL_up, cL_up, cL_up, cL_up, cL_up, cL_up, cL_up, cL_up, cL_up, cL_up, cL_up, cL_up, cL_up, cL_up, cL_up, cL_up, cL_up, cL_up, cL_up, cL_up, cL_up, cL_up, cL_up, code, cJ4_init_da8c8, cJ4_append_15ec4, cJ4_append_cf468, cJ4_append_bf812, cJ4_charAt_5068e, cJ4_setLength_d00df, cJ4_length_8abf5, cJ5_init_d00df, cJ5_length_8abf5, cJ5_ensureCapacityInternal_d00df, cJ5_newCapacity_0f7a4, cJ5_setLength_d00df, cJ5_charAt_5068e, cJ5_append_cf1ce, cJ5_append_3fe6f, cJ5_append_c97b9, cJ5_isLatin1_aae02, cJ5_inflateIfNeededFor_a7421, cJ5_putStringAt_47b60, cJ6_getChars_ba4f3, cJ6_stringSize_0f7a4, cJ0_length_8abf5, cJ0_getBytes_840e7, cJ0_coder_7d493, cJ0_checkIndex_df160, cJ1_canEncode_fc78d, cJ7_copyOf_9075b, cJ8_newLength_cabcc, cJ3_checkIndex_8e157].getD M ⟨#[]⟩
def zL (M : Nat) : Nat := [1, 4, 6, 2, 1, 5, 3, 5, 6, 7, 2, 2, 2, 1, 2, 4, 3, 3, 4, 4, 4, 6, 2, 3, 2, 1, 4, 2, 1, 5, 5, 2, 1, 1, 5, 4, 5, 1, 2, 1, 4, 5, 4, 5, 2, 3, 7, 3, 4, 1, 3, 2, 2, 3, 2, 8, 8, 3, 4, 3, 1, 4, 3, 1, 3, 2, 2, 4, 4, 3, 5, 7, 6, 6, 6, 3, 4, 5, 2, 2, 3, 6, 3, 2, 2, 2, 7, 17, 9, 4, 12, 14, 2, 2, 2, 2, 2, 2, 2, 2, 2, 2, 2, 2, 2, 2, 2, 2, 2, 2, 2, 2, 2, 2, 2, 2, 2, 2, 2, 2, 2, 2, 2, 2, 2, 2, 2, 2, 2, 2, 2, 2, 2, 2, 2, 2, 2, 2, 15, 1, 2, 2, 2, 2, 2, 1, 2, 1, 3, 6, 2, 5, 3, 2, 4, 1, 2, 3, 7, 4, 1, 4, 1, 2, 1, 3, 4, 3].getD M 0
def zR (M : Nat) : Option FieldType := [none, (some .int), (some .int), none, none, (some .int), (some .int), none, (some .int), (some .int), none, none, none, none, (some .int), (some .int), (some .int), (some .int), (some .int), (some .int), (some .int), none, none, none, none, none, (some .int), none, none, (some .int), (some .boolean), none, none, none, none, (some .boolean), (some .int), none, none, none, (some .int), (some .int), (some .int), (some .int), (some .int), (some .int), (some .int), (some .int), (some .int), (some .int), (some .int), (some .int), (some .int), (some .int), (some .int), (some .int), (some .int), (some .int), (some .int), (some .int), (some .int), (some .long), (some .boolean), (some .boolean), (some .boolean), (some .boolean), (some .boolean), (some .int), (some .boolean), none, (some .int), (some .int), (some .int), (some .int), (some .int), (some .boolean), (some .boolean), (some .boolean), none, (some .int), none, (some .int), none, none, (some .int), (some .int), (some .boolean), (some .boolean), (some .boolean), (some .boolean), (some .boolean), (some .boolean), (some .int), (some .int), (some .int), (some .int), (some .int), (some .int), (some .int), (some .int), (some .int), (some .int), (some .int), (some .int), (some .int), (some .int), (some .int), (some .int), (some .int), (some .int), (some .int), (some .int), (some .int), (some .int), (some .int), (some .int), (some .int), (some .int), (some .int), (some .int), (some .int), (some .int), (some .int), (some .int), (some .int), (some .int), (some .int), (some .int), (some .int), (some .int), (some .int), (some .int), (some .int), (some .int), (some .int), (some .int), (some .int), (some .int), ret, none, (some (.object "java/lang/StringBuilder")), (some (.object "java/lang/StringBuilder")), (some (.object "java/lang/StringBuilder")), (some .char), none, (some .int), none, (some .int), none, (some .int), none, (some .char), (some (.object "java/lang/AbstractStringBuilder")), (some (.object "java/lang/AbstractStringBuilder")), (some (.object "java/lang/AbstractStringBuilder")), (some .boolean), none, none, (some .int), (some .int), (some .int), none, (some .byte), none, (some .boolean), (some (.array .byte)), (some .int), (some .int)].getD M none
/-- calls by class and place in its pool: kind, method, number of arguments; places of the words -/
def zcalls : List ((Nat × Nat) × (Nat × (Nat × Nat)) × List Nat) := [
  ((0, 3), (6, (0, 0)), [128, 55, 56]),
  ((0, 25), (7, (0, 5)), [350, 340, 339, 42]),
  ((1, 3), (6, (0, 0)), [244, 55, 56]),
  ((1, 31), (8, (0, 2)), [555, 411, 43]),
  ((1, 46), (1, (16, 1)), [556, 557, 558, 34]),
  ((1, 52), (0, (6, 2)), [560, 561, 37]),
  ((1, 59), (1, (7, 2)), [563, 565, 17, 37]),
  ((1, 67), (1, (17, 1)), [572, 573, 574, 34]),
  ((1, 70), (1, (9, 2)), [576, 578, 19, 37]),
  ((1, 86), (1, (8, 3)), [567, 569, 18, 37]),
  ((1, 99), (1, (2, 3)), [571, 456, 457, 33]),
  ((2, 3), (6, (0, 0)), [197, 55, 56]),
  ((2, 17), (4, (37, 0)), [200, 60, 30]),
  ((2, 25), (1, (38, 1)), [330, 331, 332, 30]),
  ((3, 3), (6, (0, 0)), [148, 55, 56]),
  ((3, 28), (1, (14, 1)), [421, 422, 423, 34]),
  ((3, 32), (8, (0, 2)), [617, 411, 43]),
  ((3, 38), (9, (0, 2)), [618, 512, 43]),
  ((3, 41), (1, (23, 2)), [395, 397, 6, 34]),
  ((3, 45), (7, (0, 5)), [355, 340, 339, 42]),
  ((4, 3), (6, (0, 0)), [68, 55, 56]),
  ((4, 28), (7, (0, 5)), [338, 340, 339, 42]),
  ((5, 3), (6, (0, 0)), [100, 55, 56]),
  ((5, 28), (7, (0, 5)), [345, 340, 339, 42]),
  ((6, 3), (6, (0, 0)), [217, 55, 56]),
  ((6, 37), (7, (0, 5)), [446, 340, 339, 42]),
  ((6, 43), (1, (36, 2)), [447, 449, 11, 36]),
  ((6, 47), (1, (30, 4)), [451, 452, 453, 32]),
  ((7, 1), (6, (0, 0)), [62, 55, 56]),
  ((7, 9), (4, (25, 0)), [65, 66, 31]),
  ((7, 18), (4, (28, 0)), [97, 98, 32]),
  ((7, 25), (4, (0, 0)), [125, 126, 33]),
  ((7, 32), (4, (13, 0)), [145, 146, 34]),
  ((7, 37), (1, (27, 1)), [334, 335, 336, 31]),
  ((7, 41), (1, (31, 1)), [341, 342, 343, 32]),
  ((7, 44), (1, (3, 1)), [346, 347, 348, 33]),
  ((7, 47), (1, (24, 1)), [351, 352, 353, 34]),
  ((8, 3), (6, (0, 0)), [54, 55, 56]),
  ((8, 11), (4, (37, 0)), [59, 60, 30]),
  ((8, 18), (3, (10, 0)), [194, 195, 35]),
  ((8, 25), (4, (32, 0)), [214, 215, 36]),
  ((8, 32), (4, (4, 0)), [241, 242, 37]),
  ((8, 39), (3, (139, 0)), [273, 274, 39]),
  ((8, 44), (0, (62, 3)), [323, 324, 29]),
  ((8, 58), (1, (11, 1)), [326, 327, 328, 35]),
  ((8, 62), (1, (26, 3)), [356, 357, 358, 31]),
  ((8, 66), (1, (65, 1)), [364, 366, 4, 29]),
  ((8, 70), (0, (64, 3)), [368, 369, 29]),
  ((8, 80), (1, (29, 4)), [371, 372, 373, 32]),
  ((8, 90), (1, (1, 3)), [379, 380, 381, 33]),
  ((8, 91), (1, (53, 2)), [543, 544, 545, 29]),
  ((8, 95), (1, (70, 3)), [471, 473, 14, 29]),
  ((8, 99), (1, (66, 1)), [387, 389, 5, 29]),
  ((8, 106), (1, (22, 1)), [391, 392, 393, 34]),
  ((8, 113), (0, (63, 1)), [403, 404, 29]),
  ((8, 116), (1, (71, 2)), [406, 408, 7, 29]),
  ((8, 119), (1, (15, 2)), [417, 418, 419, 34]),
  ((8, 122), (1, (5, 3)), [551, 552, 553, 37]),
  ((8, 133), (1, (79, 1)), [495, 497, 16, 29]),
  ((8, 137), (1, (14, 1)), [437, 422, 423, 34]),
  ((8, 141), (1, (74, 1)), [584, 586, 20, 29]),
  ((8, 156), (1, (80, 0)), [491, 493, 15, 29]),
  ((8, 165), (1, (67, 2)), [413, 415, 8, 29]),
  ((8, 168), (1, (18, 3)), [613, 614, 615, 34]),
  ((8, 171), (8, (0, 2)), [410, 411, 43]),
  ((8, 176), (9, (0, 2)), [511, 512, 43]),
  ((8, 179), (1, (81, 1)), [623, 625, 25, 29]),
  ((8, 185), (1, (2, 3)), [455, 456, 457, 33]),
  ((8, 188), (1, (82, 1)), [635, 637, 26, 29]),
  ((8, 191), (1, (145, 0)), [826, 827, 828, 39]),
  ((8, 194), (1, (143, 1)), [833, 834, 835, 39]),
  ((8, 199), (1, (12, 1)), [518, 519, 520, 35]),
  ((8, 206), (1, (68, 3)), [425, 427, 9, 29]),
  ((8, 212), (1, (69, 1)), [429, 431, 10, 29]),
  ((8, 215), (1, (34, 3)), [438, 439, 440, 36]),
  ((8, 219), (1, (35, 1)), [442, 443, 444, 36]),
  ((8, 223), (1, (33, 0)), [433, 434, 435, 36]),
  ((8, 226), (1, (20, 1)), [475, 476, 477, 34]),
  ((8, 229), (1, (21, 5)), [479, 480, 481, 34]),
  ((8, 233), (1, (72, 3)), [459, 461, 12, 29]),
  ((8, 236), (1, (73, 2)), [463, 465, 13, 29]),
  ((8, 243), (1, (75, 2)), [588, 590, 21, 29]),
  ((8, 247), (1, (78, 1)), [600, 602, 24, 29]),
  ((8, 250), (1, (76, 2)), [592, 594, 22, 29]),
  ((8, 253), (1, (77, 2)), [596, 598, 23, 29]),
  ((8, 256), (1, (19, 1)), [627, 628, 629, 34]),
  ((8, 259), (1, (144, 1)), [639, 640, 641, 39]),
  ((8, 262), (1, (142, 1)), [693, 694, 695, 39]),
  ((8, 265), (1, (141, 1)), [741, 742, 743, 39]),
  ((8, 268), (1, (83, 1)), [782, 784, 27, 29]),
  ((8, 273), (1, (140, 1)), [787, 788, 789, 39]),
  ((10, 9), (1, (61, 0)), [522, 523, 524, 29]),
  ((10, 15), (1, (49, 0)), [483, 484, 485, 29]),
  ((10, 19), (1, (40, 3)), [319, 320, 321, 29]),
  ((10, 23), (1, (41, 4)), [360, 361, 362, 29]),
  ((10, 27), (1, (42, 3)), [375, 376, 377, 29]),
  ((10, 30), (1, (43, 3)), [539, 540, 541, 29]),
  ((10, 34), (1, (44, 1)), [383, 384, 385, 29]),
  ((10, 38), (1, (45, 2)), [399, 400, 401, 29]),
  ((10, 42), (1, (46, 2)), [547, 548, 549, 29]),
  ((10, 45), (1, (47, 2)), [580, 581, 582, 29]),
  ((10, 48), (1, (48, 2)), [467, 468, 469, 29]),
  ((10, 51), (1, (50, 2)), [487, 488, 489, 29]),
  ((10, 54), (1, (51, 1)), [499, 500, 501, 29]),
  ((10, 57), (1, (52, 1)), [604, 605, 606, 29]),
  ((10, 60), (1, (53, 2)), [608, 544, 545, 29]),
  ((10, 63), (1, (54, 1)), [503, 504, 505, 29]),
  ((10, 66), (1, (55, 3)), [609, 610, 611, 29]),
  ((10, 69), (1, (56, 2)), [507, 508, 509, 29]),
  ((10, 72), (1, (57, 1)), [619, 620, 621, 29]),
  ((10, 75), (1, (59, 2)), [631, 632, 633, 29]),
  ((10, 78), (0, (85, 2)), [532, 533, 28]),
  ((10, 83), (1, (58, 0)), [848, 849, 850, 29]),
  ((10, 86), (3, (39, 0)), [51, 52, 29]),
  ((10, 87), (1, (60, 0)), [514, 515, 516, 29]),
  ((10, 91), (0, (86, 3)), [536, 537, 28]),
  ((10, 95), (0, (84, 2)), [528, 529, 28]),
  ((10, 99), (0, (88, 4)), [852, 853, 28]),
  ((10, 103), (0, (89, 3)), [855, 856, 28]),
  ((10, 106), (0, (90, 4)), [858, 859, 28]),
  ((10, 110), (0, (91, 5)), [861, 862, 28]),
  ((10, 114), (0, (87, 5)), [845, 846, 28]),
  ((11, 1), (3, (146, 1)), [276, 277, 38]),
  ((11, 29), (5, (152, 1)), [791, 871, 301, 792, 38]),
  ((11, 50), (5, (153, 1)), [745, 869, 301, 746, 38]),
  ((11, 53), (5, (154, 1)), [697, 868, 301, 698, 38]),
  ((11, 329), (5, (151, 1)), [837, 876, 301, 838, 38]),
  ((11, 333), (5, (150, 1)), [643, 865, 301, 644, 38]),
  ((11, 343), (5, (147, 0)), [830, 875, 301, 831, 38]),
  ((12, 3), (6, (0, 0)), [279, 55, 56]),
  ((12, 32), (1, (160, 0)), [801, 802, 803, 40]),
  ((12, 40), (1, (162, 0)), [818, 806, 807, 40]),
  ((12, 83), (2, (155, 0)), [675, 677, 678, 676, 38]),
  ((12, 100), (2, (148, 1)), [646, 866, 1, 648, 38]),
  ((12, 104), (2, (149, 1)), [650, 867, 0, 652, 38]),
  ((12, 108), (0, (165, 2)), [663, 664, 45]),
  ((12, 114), (0, (166, 3)), [654, 655, 44]),
  ((12, 138), (8, (0, 2)), [840, 411, 43]),
  ((12, 144), (0, (163, 2)), [841, 777, 40]),
  ((12, 191), (0, (164, 1)), [748, 749, 46]),
  ((12, 208), (2, (157, 2)), [810, 873, 2, 812, 38]),
  ((12, 245), (0, (159, 1)), [700, 701, 47]),
  ((12, 248), (0, (158, 3)), [703, 704, 47]),
  ((12, 397), (2, (156, 1)), [814, 874, 3, 816, 38]),
  ((12, 399), (1, (161, 3)), [819, 820, 821, 40]),
  ((15, 212), (7, (0, 5)), [823, 340, 339, 42]),
  ((15, 335), (1, (162, 0)), [805, 806, 807, 40]),
  ((15, 1059), (0, (167, 3)), [779, 780, 48]),
  ((17, 150), (7, (0, 5)), [674, 340, 339, 42]),
  ((17, 304), (8, (0, 2)), [673, 411, 43]),
  ((18, 194), (9, (0, 2)), [657, 512, 43])]
/-- fields by class and place in its pool: class of the cell, place in it, whether it holds a reference, whether it is final; place of the word -/
def zflds : List ((Nat × Nat) × (Nat × (Nat × (Bool × Nat))) × Nat) := [
  ((0, 9), (1, (1, (true, 1))), 131),
  ((0, 15), (1, (2, (true, 1))), 132),
  ((0, 18), (1, (3, (true, 1))), 133),
  ((0, 21), (1, (0, (false, 0))), 129),
  ((1, 9), (2, (0, (true, 1))), 245),
  ((1, 15), (2, (4, (true, 1))), 250),
  ((1, 18), (2, (5, (true, 1))), 251),
  ((1, 21), (2, (6, (true, 1))), 252),
  ((1, 24), (2, (7, (true, 1))), 253),
  ((1, 27), (2, (1, (false, 0))), 247),
  ((1, 37), (2, (2, (false, 0))), 248),
  ((1, 40), (8, (3, (true, 2))), 181),
  ((1, 56), (2, (3, (false, 0))), 249),
  ((1, 63), (8, (0, (true, 2))), 174),
  ((1, 74), (4, (0, (false, 0))), 150),
  ((1, 77), (4, (1, (true, 2))), 153),
  ((1, 80), (5, (1, (true, 2))), 73),
  ((1, 85), (5, (0, (false, 0))), 71),
  ((1, 90), (5, (2, (true, 2))), 76),
  ((1, 92), (8, (2, (true, 2))), 179),
  ((1, 96), (5, (3, (true, 2))), 79),
  ((2, 11), (3, (2, (true, 1))), 204),
  ((2, 18), (3, (0, (false, 0))), 201),
  ((2, 22), (3, (1, (false, 0))), 203),
  ((3, 9), (4, (1, (true, 1))), 152),
  ((3, 15), (4, (2, (true, 1))), 155),
  ((3, 18), (4, (3, (true, 1))), 157),
  ((3, 21), (4, (4, (true, 1))), 159),
  ((3, 24), (4, (0, (false, 0))), 149),
  ((4, 9), (5, (1, (true, 1))), 72),
  ((4, 15), (5, (2, (true, 1))), 75),
  ((4, 18), (5, (3, (true, 1))), 78),
  ((4, 21), (5, (4, (true, 1))), 81),
  ((4, 24), (5, (0, (false, 0))), 69),
  ((5, 9), (6, (1, (true, 1))), 104),
  ((5, 15), (6, (2, (true, 1))), 106),
  ((5, 18), (6, (3, (true, 1))), 108),
  ((5, 21), (6, (4, (true, 1))), 110),
  ((5, 24), (6, (0, (false, 0))), 101),
  ((6, 11), (7, (1, (true, 1))), 219),
  ((6, 15), (7, (2, (true, 1))), 220),
  ((6, 18), (7, (3, (true, 1))), 221),
  ((6, 21), (7, (4, (true, 1))), 222),
  ((6, 24), (7, (5, (true, 1))), 224),
  ((6, 27), (7, (0, (false, 0))), 218),
  ((6, 31), (6, (4, (true, 2))), 111),
  ((6, 36), (6, (0, (false, 0))), 103),
  ((6, 51), (6, (3, (true, 2))), 109),
  ((7, 10), (8, (0, (true, 1))), 172),
  ((7, 19), (8, (1, (true, 1))), 175),
  ((7, 26), (8, (2, (true, 1))), 177),
  ((7, 33), (8, (3, (true, 1))), 180),
  ((8, 12), (9, (0, (true, 1))), 303),
  ((8, 19), (9, (1, (true, 1))), 304),
  ((8, 26), (9, (2, (true, 1))), 305),
  ((8, 33), (9, (3, (true, 1))), 306),
  ((8, 40), (9, (4, (true, 1))), 307),
  ((8, 48), (8, (0, (true, 2))), 173),
  ((8, 52), (5, (0, (false, 0))), 70),
  ((8, 73), (8, (1, (true, 2))), 176),
  ((8, 77), (6, (0, (false, 0))), 102),
  ((8, 83), (8, (2, (true, 2))), 178),
  ((8, 87), (1, (0, (false, 0))), 130),
  ((8, 102), (8, (3, (true, 2))), 182),
  ((8, 112), (4, (0, (false, 0))), 151),
  ((8, 126), (2, (0, (true, 2))), 246),
  ((8, 130), (5, (2, (true, 2))), 77),
  ((8, 140), (4, (3, (true, 2))), 158),
  ((8, 144), (5, (4, (true, 2))), 82),
  ((8, 147), (4, (1, (true, 2))), 154),
  ((8, 150), (4, (2, (true, 2))), 156),
  ((8, 153), (4, (4, (true, 2))), 160),
  ((8, 159), (7, (4, (true, 2))), 223),
  ((8, 162), (7, (5, (true, 2))), 225),
  ((8, 182), (5, (3, (true, 2))), 80),
  ((8, 198), (3, (0, (false, 0))), 202),
  ((8, 209), (5, (1, (true, 2))), 74),
  ((8, 239), (6, (2, (true, 2))), 107),
  ((8, 242), (6, (1, (true, 2))), 105),
  ((12, 15), (0, (0, (true, 0))), 289),
  ((12, 22), (0, (1, (false, 0))), 290),
  ((12, 73), (0, (2, (false, 0))), 291),
  ((12, 79), (0, (3, (false, 0))), 292)]
abbrev vwClz : List vw_C := [(RJ4, TJ4, 4), (RX0, TX0, 4), (RX1, TX1, 8), (RX2, TX2, 3), (RX3, TX3, 5), (RX4, TX4, 5), (RX5, TX5, 5), (RX6, TX6, 6), (RX7, TX7, 4), (RX8, TX8, 5)]
def zty (ci : Nat) : Nat → FieldType := [tyJ4, tyX0, tyX1, tyX2, tyX3, tyX4, tyX5, tyX6, tyX7, tyX8].getD ci tyJ4
/-- whether a field holds a reference -/
def zrf (ci k : Nat) : Bool := (([[true, false, false, false], [false, true, true, true], [true, false, false, false, true, true, true, true], [false, false, true], [false, true, true, true, true], [false, true, true, true, true], [false, true, true, true, true], [false, true, true, true, true, true], [true, true, true, true], [true, true, true, true, true]] : List (List Bool)).getD ci []).getD k false
/-- classes by class and place in its pool: class of the cells; places of classLink, instantiable, initialized -/
def znews : List ((Nat × Nat) × Nat × List Nat) := [((2, 9), 8, [198, 58, 30]), ((7, 7), 5, [63, 64, 31]), ((7, 16), 6, [95, 96, 32]), ((7, 23), 1, [123, 124, 33]), ((7, 30), 4, [143, 144, 34]), ((8, 9), 8, [57, 58, 30]), ((8, 16), 3, [192, 193, 35]), ((8, 23), 7, [212, 213, 36]), ((8, 30), 2, [239, 240, 37]), ((8, 37), 0, [271, 272, 39]), ((10, 10), 9, [49, 50, 29])]
def zwords (kd own idx : Nat) (y : MethodName) : List Cond := match kd with
  | 0 => [.methodLink (zcn own) idx y, .static y, .initialized y.cls]
  | 1 => [.methodLink (zcn own) idx y, .instanceMethod y, .selects y.cls y y, .initialized y.cls]
  | 2 => [.methodLink (zcn own) idx y, .sameMethod y.cls y.cls y.name y.desc, .selects RJ4 y y, .instanceMethod y, .initialized y.cls]
  | 3 => [.methodLink (zcn own) idx y, .instanceMethod y, .initialized y.cls]
  | 4 => [.methodLinkNest (zcn own) idx y "RadioWeek", .instanceMethod y, .initialized y.cls]
  | 5 => [.methodLink (zcn own) idx y, .sameMethod y.cls y.cls y.name y.desc, .superclass (zcn own) y.cls, .instanceMethod y, .initialized y.cls]
  | 6 => [.methodLink (zcn own) idx objectInit, .instanceMethod objectInit, .code objectInit ⟨#[0xb1]⟩ 1 none]
  | 8 => [.methodLink (zcn own) idx Lib.Math.min.name, .static Lib.Math.min.name, .initialized "java/lang/Math"]
  | 9 => [.methodLink (zcn own) idx Lib.Math.max.name, .static Lib.Math.max.name, .initialized "java/lang/Math"]
  | _ => [.methodLink (zcn own) idx arraycopyName, .native arraycopyName, .static arraycopyName, .initialized "java/lang/System"]
def zokc (e : (Nat × Nat) × (Nat × (Nat × Nat)) × List Nat) : Bool :=
  decide ((zwords e.2.1.1 e.1.1 e.1.2 (zY e.2.1.2.1)).map some = e.2.2.map (fun i => ztbl[i]?)) &&
  (if e.2.1.1 = 4 then ((zwords e.2.1.1 e.1.1 e.1.2 (zY e.2.1.2.1)).drop 1).all goodWord else (zwords e.2.1.1 e.1.1 e.1.2 (zY e.2.1.2.1)).all goodWord) &&
  (decide (6 ≤ e.2.1.1) || (decide ((zY e.2.1.2.1).cls ≠ "java/lang/invoke/MethodHandle") && decide ((zY e.2.1.2.1).cls ≠ "java/lang/invoke/VarHandle") &&
    decide ((parseMethodDescriptor (zY e.2.1.2.1).desc).map (fun d => d.parameters.length) = some e.2.1.2.2) &&
    (!(e.2.1.1 == 3 || e.2.1.1 == 4) || (decide ((zY e.2.1.2.1).name = "<init>") && decide (zR e.2.1.2.1 = none))) && (!(e.2.1.1 == 5) || decide ((zY e.2.1.2.1).name ≠ "<init>"))))
set_option maxRecDepth 100000 in
theorem zminc : Cond.code Lib.Math.min.name Lib.Math.min.code 2 (some .int) ∈ zgw := zgw_mem (i := 412) rfl rfl
set_option maxRecDepth 100000 in
theorem zmaxc : Cond.code Lib.Math.max.name Lib.Math.max.code 2 (some .int) ∈ zgw := zgw_mem (i := 513) rfl rfl
set_option maxRecDepth 100000 in
theorem zcalls_ok : zcalls.all zokc = true := by decide +kernel
def zokf (e : (Nat × Nat) × (Nat × (Nat × (Bool × Nat))) × Nat) : Bool := match vwClz[e.2.1.1]? with
  | some (_, T, N) => decide (e.2.1.2.1 < N) && decide (ztbl[e.2.2]? = some (.fieldLink (zcn e.1.1) e.1.2 (T e.2.1.2.1).1 (T e.2.1.2.1).2.1 (T e.2.1.2.1).2.2.1)) && goodWord (.fieldLink (zcn e.1.1) e.1.2 (T e.2.1.2.1).1 (T e.2.1.2.1).2.1 (T e.2.1.2.1).2.2.1) && decide (zrf e.2.1.1 e.2.1.2.1 = e.2.1.2.2.1) && (if e.2.1.2.2.2 = 0 then decide ((T e.2.1.2.1).2.2.2 = false) else if e.2.1.2.2.2 = 1 then decide ((T e.2.1.2.1).2.2.2 = true) && decide ((T e.2.1.2.1).1 = zcn e.1.1) else true)
  | none => false
set_option maxRecDepth 100000 in
theorem zflds_ok : zflds.all zokf = true := by decide +kernel
def zokn (e : (Nat × Nat) × Nat × List Nat) : Bool := match vwClz[e.2.1]? with
  | some (C, _, N) => decide ([some (Cond.classLink (zcn e.1.1) e.1.2 C), some (Cond.instantiable C N), some (Cond.initialized C)] = e.2.2.map (fun i => ztbl[i]?)) && goodWord (Cond.classLink (zcn e.1.1) e.1.2 C) && goodWord (Cond.instantiable C N) && goodWord (Cond.initialized C)
  | none => false
set_option maxRecDepth 100000 in
theorem znews_ok : znews.all zokn = true := by decide +kernel

def zcp (M : Nat) : Nat := [127, 382, 458, 349, 243, 554, 562, 566, 570, 579, 196, 329, 521, 147, 424, 420, 559, 575, 616, 630, 478, 482, 394, 398, 354, 67, 359, 337, 99, 374, 454, 344, 216, 436, 441, 445, 450, 61, 333, 53, 322, 363, 378, 542, 386, 402, 550, 583, 470, 486, 490, 502, 607, 546, 506, 612, 510, 622, 851, 634, 517, 525, 325, 405, 370, 367, 390, 416, 428, 432, 474, 409, 462, 466, 587, 591, 595, 599, 603, 498, 494, 626, 638, 785, 530, 534, 538, 847, 854, 857, 860, 863, 534, 534, 534, 534, 534, 534, 534, 534, 534, 534, 534, 534, 534, 534, 534, 534, 534, 534, 534, 534, 534, 534, 534, 534, 534, 534, 534, 534, 534, 534, 534, 534, 534, 534, 534, 534, 534, 534, 534, 534, 534, 534, 534, 534, 534, 534, 0, 275, 790, 744, 696, 836, 642, 829, 278, 832, 649, 653, 645, 839, 793, 747, 699, 679, 817, 813, 705, 702, 804, 822, 808, 778, 750, 665, 656, 781].getD M 0
set_option maxRecDepth 100000 in
theorem zc0 : ztbl[127]? = some (.code (zY 0) (zB 0) (zL 0) (zR 0)) := rfl
set_option maxRecDepth 100000 in
theorem zc1 : ztbl[382]? = some (.code (zY 1) (zB 1) (zL 1) (zR 1)) := rfl
set_option maxRecDepth 100000 in
theorem zc2 : ztbl[458]? = some (.code (zY 2) (zB 2) (zL 2) (zR 2)) := rfl
set_option maxRecDepth 100000 in
theorem zc3 : ztbl[349]? = some (.code (zY 3) (zB 3) (zL 3) (zR 3)) := rfl
set_option maxRecDepth 100000 in
theorem zc4 : ztbl[243]? = some (.code (zY 4) (zB 4) (zL 4) (zR 4)) := rfl
set_option maxRecDepth 100000 in
theorem zc5 : ztbl[554]? = some (.code (zY 5) (zB 5) (zL 5) (zR 5)) := rfl
set_option maxRecDepth 100000 in
theorem zc6 : ztbl[562]? = some (.code (zY 6) (zB 6) (zL 6) (zR 6)) := rfl
set_option maxRecDepth 100000 in
theorem zc7 : ztbl[566]? = some (.code (zY 7) (zB 7) (zL 7) (zR 7)) := rfl
set_option maxRecDepth 100000 in
theorem zc8 : ztbl[570]? = some (.code (zY 8) (zB 8) (zL 8) (zR 8)) := rfl
set_option maxRecDepth 100000 in
theorem zc9 : ztbl[579]? = some (.code (zY 9) (zB 9) (zL 9) (zR 9)) := rfl
set_option maxRecDepth 100000 in
theorem zc10 : ztbl[196]? = some (.code (zY 10) (zB 10) (zL 10) (zR 10)) := rfl
set_option maxRecDepth 100000 in
theorem zc11 : ztbl[329]? = some (.code (zY 11) (zB 11) (zL 11) (zR 11)) := rfl
set_option maxRecDepth 100000 in
theorem zc12 : ztbl[521]? = some (.code (zY 12) (zB 12) (zL 12) (zR 12)) := rfl
set_option maxRecDepth 100000 in
theorem zc13 : ztbl[147]? = some (.code (zY 13) (zB 13) (zL 13) (zR 13)) := rfl
set_option maxRecDepth 100000 in
theorem zc14 : ztbl[424]? = some (.code (zY 14) (zB 14) (zL 14) (zR 14)) := rfl
set_option maxRecDepth 100000 in
theorem zc15 : ztbl[420]? = some (.code (zY 15) (zB 15) (zL 15) (zR 15)) := rfl
set_option maxRecDepth 100000 in
theorem zc16 : ztbl[559]? = some (.code (zY 16) (zB 16) (zL 16) (zR 16)) := rfl
set_option maxRecDepth 100000 in
theorem zc17 : ztbl[575]? = some (.code (zY 17) (zB 17) (zL 17) (zR 17)) := rfl
set_option maxRecDepth 100000 in
theorem zc18 : ztbl[616]? = some (.code (zY 18) (zB 18) (zL 18) (zR 18)) := rfl
set_option maxRecDepth 100000 in
theorem zc19 : ztbl[630]? = some (.code (zY 19) (zB 19) (zL 19) (zR 19)) := rfl
set_option maxRecDepth 100000 in
theorem zc20 : ztbl[478]? = some (.code (zY 20) (zB 20) (zL 20) (zR 20)) := rfl
set_option maxRecDepth 100000 in
theorem zc21 : ztbl[482]? = some (.code (zY 21) (zB 21) (zL 21) (zR 21)) := rfl
set_option maxRecDepth 100000 in
theorem zc22 : ztbl[394]? = some (.code (zY 22) (zB 22) (zL 22) (zR 22)) := rfl
set_option maxRecDepth 100000 in
theorem zc23 : ztbl[398]? = some (.code (zY 23) (zB 23) (zL 23) (zR 23)) := rfl
set_option maxRecDepth 100000 in
theorem zc24 : ztbl[354]? = some (.code (zY 24) (zB 24) (zL 24) (zR 24)) := rfl
set_option maxRecDepth 100000 in
theorem zc25 : ztbl[67]? = some (.code (zY 25) (zB 25) (zL 25) (zR 25)) := rfl
set_option maxRecDepth 100000 in
theorem zc26 : ztbl[359]? = some (.code (zY 26) (zB 26) (zL 26) (zR 26)) := rfl
set_option maxRecDepth 100000 in
theorem zc27 : ztbl[337]? = some (.code (zY 27) (zB 27) (zL 27) (zR 27)) := rfl
set_option maxRecDepth 100000 in
theorem zc28 : ztbl[99]? = some (.code (zY 28) (zB 28) (zL 28) (zR 28)) := rfl
set_option maxRecDepth 100000 in
theorem zc29 : ztbl[374]? = some (.code (zY 29) (zB 29) (zL 29) (zR 29)) := rfl
set_option maxRecDepth 100000 in
theorem zc30 : ztbl[454]? = some (.code (zY 30) (zB 30) (zL 30) (zR 30)) := rfl
set_option maxRecDepth 100000 in
theorem zc31 : ztbl[344]? = some (.code (zY 31) (zB 31) (zL 31) (zR 31)) := rfl
set_option maxRecDepth 100000 in
theorem zc32 : ztbl[216]? = some (.code (zY 32) (zB 32) (zL 32) (zR 32)) := rfl
set_option maxRecDepth 100000 in
theorem zc33 : ztbl[436]? = some (.code (zY 33) (zB 33) (zL 33) (zR 33)) := rfl
set_option maxRecDepth 100000 in
theorem zc34 : ztbl[441]? = some (.code (zY 34) (zB 34) (zL 34) (zR 34)) := rfl
set_option maxRecDepth 100000 in
theorem zc35 : ztbl[445]? = some (.code (zY 35) (zB 35) (zL 35) (zR 35)) := rfl
set_option maxRecDepth 100000 in
theorem zc36 : ztbl[450]? = some (.code (zY 36) (zB 36) (zL 36) (zR 36)) := rfl
set_option maxRecDepth 100000 in
theorem zc37 : ztbl[61]? = some (.code (zY 37) (zB 37) (zL 37) (zR 37)) := rfl
set_option maxRecDepth 100000 in
theorem zc38 : ztbl[333]? = some (.code (zY 38) (zB 38) (zL 38) (zR 38)) := rfl
set_option maxRecDepth 100000 in
theorem zc39 : ztbl[53]? = some (.code (zY 39) (zB 39) (zL 39) (zR 39)) := rfl
set_option maxRecDepth 100000 in
theorem zc40 : ztbl[322]? = some (.code (zY 40) (zB 40) (zL 40) (zR 40)) := rfl
set_option maxRecDepth 100000 in
theorem zc41 : ztbl[363]? = some (.code (zY 41) (zB 41) (zL 41) (zR 41)) := rfl
set_option maxRecDepth 100000 in
theorem zc42 : ztbl[378]? = some (.code (zY 42) (zB 42) (zL 42) (zR 42)) := rfl
set_option maxRecDepth 100000 in
theorem zc43 : ztbl[542]? = some (.code (zY 43) (zB 43) (zL 43) (zR 43)) := rfl
set_option maxRecDepth 100000 in
theorem zc44 : ztbl[386]? = some (.code (zY 44) (zB 44) (zL 44) (zR 44)) := rfl
set_option maxRecDepth 100000 in
theorem zc45 : ztbl[402]? = some (.code (zY 45) (zB 45) (zL 45) (zR 45)) := rfl
set_option maxRecDepth 100000 in
theorem zc46 : ztbl[550]? = some (.code (zY 46) (zB 46) (zL 46) (zR 46)) := rfl
set_option maxRecDepth 100000 in
theorem zc47 : ztbl[583]? = some (.code (zY 47) (zB 47) (zL 47) (zR 47)) := rfl
set_option maxRecDepth 100000 in
theorem zc48 : ztbl[470]? = some (.code (zY 48) (zB 48) (zL 48) (zR 48)) := rfl
set_option maxRecDepth 100000 in
theorem zc49 : ztbl[486]? = some (.code (zY 49) (zB 49) (zL 49) (zR 49)) := rfl
set_option maxRecDepth 100000 in
theorem zc50 : ztbl[490]? = some (.code (zY 50) (zB 50) (zL 50) (zR 50)) := rfl
set_option maxRecDepth 100000 in
theorem zc51 : ztbl[502]? = some (.code (zY 51) (zB 51) (zL 51) (zR 51)) := rfl
set_option maxRecDepth 100000 in
theorem zc52 : ztbl[607]? = some (.code (zY 52) (zB 52) (zL 52) (zR 52)) := rfl
set_option maxRecDepth 100000 in
theorem zc53 : ztbl[546]? = some (.code (zY 53) (zB 53) (zL 53) (zR 53)) := rfl
set_option maxRecDepth 100000 in
theorem zc54 : ztbl[506]? = some (.code (zY 54) (zB 54) (zL 54) (zR 54)) := rfl
set_option maxRecDepth 100000 in
theorem zc55 : ztbl[612]? = some (.code (zY 55) (zB 55) (zL 55) (zR 55)) := rfl
set_option maxRecDepth 100000 in
theorem zc56 : ztbl[510]? = some (.code (zY 56) (zB 56) (zL 56) (zR 56)) := rfl
set_option maxRecDepth 100000 in
theorem zc57 : ztbl[622]? = some (.code (zY 57) (zB 57) (zL 57) (zR 57)) := rfl
set_option maxRecDepth 100000 in
theorem zc58 : ztbl[851]? = some (.code (zY 58) (zB 58) (zL 58) (zR 58)) := rfl
set_option maxRecDepth 100000 in
theorem zc59 : ztbl[634]? = some (.code (zY 59) (zB 59) (zL 59) (zR 59)) := rfl
set_option maxRecDepth 100000 in
theorem zc60 : ztbl[517]? = some (.code (zY 60) (zB 60) (zL 60) (zR 60)) := rfl
set_option maxRecDepth 100000 in
theorem zc61 : ztbl[525]? = some (.code (zY 61) (zB 61) (zL 61) (zR 61)) := rfl
set_option maxRecDepth 100000 in
theorem zc62 : ztbl[325]? = some (.code (zY 62) (zB 62) (zL 62) (zR 62)) := rfl
set_option maxRecDepth 100000 in
theorem zc63 : ztbl[405]? = some (.code (zY 63) (zB 63) (zL 63) (zR 63)) := rfl
set_option maxRecDepth 100000 in
theorem zc64 : ztbl[370]? = some (.code (zY 64) (zB 64) (zL 64) (zR 64)) := rfl
set_option maxRecDepth 100000 in
theorem zc65 : ztbl[367]? = some (.code (zY 65) (zB 65) (zL 65) (zR 65)) := rfl
set_option maxRecDepth 100000 in
theorem zc66 : ztbl[390]? = some (.code (zY 66) (zB 66) (zL 66) (zR 66)) := rfl
set_option maxRecDepth 100000 in
theorem zc67 : ztbl[416]? = some (.code (zY 67) (zB 67) (zL 67) (zR 67)) := rfl
set_option maxRecDepth 100000 in
theorem zc68 : ztbl[428]? = some (.code (zY 68) (zB 68) (zL 68) (zR 68)) := rfl
set_option maxRecDepth 100000 in
theorem zc69 : ztbl[432]? = some (.code (zY 69) (zB 69) (zL 69) (zR 69)) := rfl
set_option maxRecDepth 100000 in
theorem zc70 : ztbl[474]? = some (.code (zY 70) (zB 70) (zL 70) (zR 70)) := rfl
set_option maxRecDepth 100000 in
theorem zc71 : ztbl[409]? = some (.code (zY 71) (zB 71) (zL 71) (zR 71)) := rfl
set_option maxRecDepth 100000 in
theorem zc72 : ztbl[462]? = some (.code (zY 72) (zB 72) (zL 72) (zR 72)) := rfl
set_option maxRecDepth 100000 in
theorem zc73 : ztbl[466]? = some (.code (zY 73) (zB 73) (zL 73) (zR 73)) := rfl
set_option maxRecDepth 100000 in
theorem zc74 : ztbl[587]? = some (.code (zY 74) (zB 74) (zL 74) (zR 74)) := rfl
set_option maxRecDepth 100000 in
theorem zc75 : ztbl[591]? = some (.code (zY 75) (zB 75) (zL 75) (zR 75)) := rfl
set_option maxRecDepth 100000 in
theorem zc76 : ztbl[595]? = some (.code (zY 76) (zB 76) (zL 76) (zR 76)) := rfl
set_option maxRecDepth 100000 in
theorem zc77 : ztbl[599]? = some (.code (zY 77) (zB 77) (zL 77) (zR 77)) := rfl
set_option maxRecDepth 100000 in
theorem zc78 : ztbl[603]? = some (.code (zY 78) (zB 78) (zL 78) (zR 78)) := rfl
set_option maxRecDepth 100000 in
theorem zc79 : ztbl[498]? = some (.code (zY 79) (zB 79) (zL 79) (zR 79)) := rfl
set_option maxRecDepth 100000 in
theorem zc80 : ztbl[494]? = some (.code (zY 80) (zB 80) (zL 80) (zR 80)) := rfl
set_option maxRecDepth 100000 in
theorem zc81 : ztbl[626]? = some (.code (zY 81) (zB 81) (zL 81) (zR 81)) := rfl
set_option maxRecDepth 100000 in
theorem zc82 : ztbl[638]? = some (.code (zY 82) (zB 82) (zL 82) (zR 82)) := rfl
set_option maxRecDepth 100000 in
theorem zc83 : ztbl[785]? = some (.code (zY 83) (zB 83) (zL 83) (zR 83)) := rfl
set_option maxRecDepth 100000 in
theorem zc84 : ztbl[530]? = some (.code (zY 84) (zB 84) (zL 84) (zR 84)) := rfl
set_option maxRecDepth 100000 in
theorem zc85 : ztbl[534]? = some (.code (zY 85) (zB 85) (zL 85) (zR 85)) := rfl
set_option maxRecDepth 100000 in
theorem zc86 : ztbl[538]? = some (.code (zY 86) (zB 86) (zL 86) (zR 86)) := rfl
set_option maxRecDepth 100000 in
theorem zc87 : ztbl[847]? = some (.code (zY 87) (zB 87) (zL 87) (zR 87)) := rfl
set_option maxRecDepth 100000 in
theorem zc88 : ztbl[854]? = some (.code (zY 88) (zB 88) (zL 88) (zR 88)) := rfl
set_option maxRecDepth 100000 in
theorem zc89 : ztbl[857]? = some (.code (zY 89) (zB 89) (zL 89) (zR 89)) := rfl
set_option maxRecDepth 100000 in
theorem zc90 : ztbl[860]? = some (.code (zY 90) (zB 90) (zL 90) (zR 90)) := rfl
set_option maxRecDepth 100000 in
theorem zc91 : ztbl[863]? = some (.code (zY 91) (zB 91) (zL 91) (zR 91)) := rfl
set_option maxRecDepth 100000 in
theorem zc92 : ztbl[534]? = some (.code (zY 92) (zB 92) (zL 92) (zR 92)) := rfl
set_option maxRecDepth 100000 in
theorem zc93 : ztbl[534]? = some (.code (zY 93) (zB 93) (zL 93) (zR 93)) := rfl
set_option maxRecDepth 100000 in
theorem zc94 : ztbl[534]? = some (.code (zY 94) (zB 94) (zL 94) (zR 94)) := rfl
set_option maxRecDepth 100000 in
theorem zc95 : ztbl[534]? = some (.code (zY 95) (zB 95) (zL 95) (zR 95)) := rfl
set_option maxRecDepth 100000 in
theorem zc96 : ztbl[534]? = some (.code (zY 96) (zB 96) (zL 96) (zR 96)) := rfl
set_option maxRecDepth 100000 in
theorem zc97 : ztbl[534]? = some (.code (zY 97) (zB 97) (zL 97) (zR 97)) := rfl
set_option maxRecDepth 100000 in
theorem zc98 : ztbl[534]? = some (.code (zY 98) (zB 98) (zL 98) (zR 98)) := rfl
set_option maxRecDepth 100000 in
theorem zc99 : ztbl[534]? = some (.code (zY 99) (zB 99) (zL 99) (zR 99)) := rfl
set_option maxRecDepth 100000 in
theorem zc100 : ztbl[534]? = some (.code (zY 100) (zB 100) (zL 100) (zR 100)) := rfl
set_option maxRecDepth 100000 in
theorem zc101 : ztbl[534]? = some (.code (zY 101) (zB 101) (zL 101) (zR 101)) := rfl
set_option maxRecDepth 100000 in
theorem zc102 : ztbl[534]? = some (.code (zY 102) (zB 102) (zL 102) (zR 102)) := rfl
set_option maxRecDepth 100000 in
theorem zc103 : ztbl[534]? = some (.code (zY 103) (zB 103) (zL 103) (zR 103)) := rfl
set_option maxRecDepth 100000 in
theorem zc104 : ztbl[534]? = some (.code (zY 104) (zB 104) (zL 104) (zR 104)) := rfl
set_option maxRecDepth 100000 in
theorem zc105 : ztbl[534]? = some (.code (zY 105) (zB 105) (zL 105) (zR 105)) := rfl
set_option maxRecDepth 100000 in
theorem zc106 : ztbl[534]? = some (.code (zY 106) (zB 106) (zL 106) (zR 106)) := rfl
set_option maxRecDepth 100000 in
theorem zc107 : ztbl[534]? = some (.code (zY 107) (zB 107) (zL 107) (zR 107)) := rfl
set_option maxRecDepth 100000 in
theorem zc108 : ztbl[534]? = some (.code (zY 108) (zB 108) (zL 108) (zR 108)) := rfl
set_option maxRecDepth 100000 in
theorem zc109 : ztbl[534]? = some (.code (zY 109) (zB 109) (zL 109) (zR 109)) := rfl
set_option maxRecDepth 100000 in
theorem zc110 : ztbl[534]? = some (.code (zY 110) (zB 110) (zL 110) (zR 110)) := rfl
set_option maxRecDepth 100000 in
theorem zc111 : ztbl[534]? = some (.code (zY 111) (zB 111) (zL 111) (zR 111)) := rfl
set_option maxRecDepth 100000 in
theorem zc112 : ztbl[534]? = some (.code (zY 112) (zB 112) (zL 112) (zR 112)) := rfl
set_option maxRecDepth 100000 in
theorem zc113 : ztbl[534]? = some (.code (zY 113) (zB 113) (zL 113) (zR 113)) := rfl
set_option maxRecDepth 100000 in
theorem zc114 : ztbl[534]? = some (.code (zY 114) (zB 114) (zL 114) (zR 114)) := rfl
set_option maxRecDepth 100000 in
theorem zc115 : ztbl[534]? = some (.code (zY 115) (zB 115) (zL 115) (zR 115)) := rfl
set_option maxRecDepth 100000 in
theorem zc116 : ztbl[534]? = some (.code (zY 116) (zB 116) (zL 116) (zR 116)) := rfl
set_option maxRecDepth 100000 in
theorem zc117 : ztbl[534]? = some (.code (zY 117) (zB 117) (zL 117) (zR 117)) := rfl
set_option maxRecDepth 100000 in
theorem zc118 : ztbl[534]? = some (.code (zY 118) (zB 118) (zL 118) (zR 118)) := rfl
set_option maxRecDepth 100000 in
theorem zc119 : ztbl[534]? = some (.code (zY 119) (zB 119) (zL 119) (zR 119)) := rfl
set_option maxRecDepth 100000 in
theorem zc120 : ztbl[534]? = some (.code (zY 120) (zB 120) (zL 120) (zR 120)) := rfl
set_option maxRecDepth 100000 in
theorem zc121 : ztbl[534]? = some (.code (zY 121) (zB 121) (zL 121) (zR 121)) := rfl
set_option maxRecDepth 100000 in
theorem zc122 : ztbl[534]? = some (.code (zY 122) (zB 122) (zL 122) (zR 122)) := rfl
set_option maxRecDepth 100000 in
theorem zc123 : ztbl[534]? = some (.code (zY 123) (zB 123) (zL 123) (zR 123)) := rfl
set_option maxRecDepth 100000 in
theorem zc124 : ztbl[534]? = some (.code (zY 124) (zB 124) (zL 124) (zR 124)) := rfl
set_option maxRecDepth 100000 in
theorem zc125 : ztbl[534]? = some (.code (zY 125) (zB 125) (zL 125) (zR 125)) := rfl
set_option maxRecDepth 100000 in
theorem zc126 : ztbl[534]? = some (.code (zY 126) (zB 126) (zL 126) (zR 126)) := rfl
set_option maxRecDepth 100000 in
theorem zc127 : ztbl[534]? = some (.code (zY 127) (zB 127) (zL 127) (zR 127)) := rfl
set_option maxRecDepth 100000 in
theorem zc128 : ztbl[534]? = some (.code (zY 128) (zB 128) (zL 128) (zR 128)) := rfl
set_option maxRecDepth 100000 in
theorem zc129 : ztbl[534]? = some (.code (zY 129) (zB 129) (zL 129) (zR 129)) := rfl
set_option maxRecDepth 100000 in
theorem zc130 : ztbl[534]? = some (.code (zY 130) (zB 130) (zL 130) (zR 130)) := rfl
set_option maxRecDepth 100000 in
theorem zc131 : ztbl[534]? = some (.code (zY 131) (zB 131) (zL 131) (zR 131)) := rfl
set_option maxRecDepth 100000 in
theorem zc132 : ztbl[534]? = some (.code (zY 132) (zB 132) (zL 132) (zR 132)) := rfl
set_option maxRecDepth 100000 in
theorem zc133 : ztbl[534]? = some (.code (zY 133) (zB 133) (zL 133) (zR 133)) := rfl
set_option maxRecDepth 100000 in
theorem zc134 : ztbl[534]? = some (.code (zY 134) (zB 134) (zL 134) (zR 134)) := rfl
set_option maxRecDepth 100000 in
theorem zc135 : ztbl[534]? = some (.code (zY 135) (zB 135) (zL 135) (zR 135)) := rfl
set_option maxRecDepth 100000 in
theorem zc136 : ztbl[534]? = some (.code (zY 136) (zB 136) (zL 136) (zR 136)) := rfl
set_option maxRecDepth 100000 in
theorem zc137 : ztbl[534]? = some (.code (zY 137) (zB 137) (zL 137) (zR 137)) := rfl
set_option maxRecDepth 100000 in
theorem zc139 : ztbl[275]? = some (.code (zY 139) (zB 139) (zL 139) (zR 139)) := rfl
set_option maxRecDepth 100000 in
theorem zc140 : ztbl[790]? = some (.code (zY 140) (zB 140) (zL 140) (zR 140)) := rfl
set_option maxRecDepth 100000 in
theorem zc141 : ztbl[744]? = some (.code (zY 141) (zB 141) (zL 141) (zR 141)) := rfl
set_option maxRecDepth 100000 in
theorem zc142 : ztbl[696]? = some (.code (zY 142) (zB 142) (zL 142) (zR 142)) := rfl
set_option maxRecDepth 100000 in
theorem zc143 : ztbl[836]? = some (.code (zY 143) (zB 143) (zL 143) (zR 143)) := rfl
set_option maxRecDepth 100000 in
theorem zc144 : ztbl[642]? = some (.code (zY 144) (zB 144) (zL 144) (zR 144)) := rfl
set_option maxRecDepth 100000 in
theorem zc145 : ztbl[829]? = some (.code (zY 145) (zB 145) (zL 145) (zR 145)) := rfl
set_option maxRecDepth 100000 in
theorem zc146 : ztbl[278]? = some (.code (zY 146) (zB 146) (zL 146) (zR 146)) := rfl
set_option maxRecDepth 100000 in
theorem zc147 : ztbl[832]? = some (.code (zY 147) (zB 147) (zL 147) (zR 147)) := rfl
set_option maxRecDepth 100000 in
theorem zc148 : ztbl[649]? = some (.code (zY 148) (zB 148) (zL 148) (zR 148)) := rfl
set_option maxRecDepth 100000 in
theorem zc149 : ztbl[653]? = some (.code (zY 149) (zB 149) (zL 149) (zR 149)) := rfl
set_option maxRecDepth 100000 in
theorem zc150 : ztbl[645]? = some (.code (zY 150) (zB 150) (zL 150) (zR 150)) := rfl
set_option maxRecDepth 100000 in
theorem zc151 : ztbl[839]? = some (.code (zY 151) (zB 151) (zL 151) (zR 151)) := rfl
set_option maxRecDepth 100000 in
theorem zc152 : ztbl[793]? = some (.code (zY 152) (zB 152) (zL 152) (zR 152)) := rfl
set_option maxRecDepth 100000 in
theorem zc153 : ztbl[747]? = some (.code (zY 153) (zB 153) (zL 153) (zR 153)) := rfl
set_option maxRecDepth 100000 in
theorem zc154 : ztbl[699]? = some (.code (zY 154) (zB 154) (zL 154) (zR 154)) := rfl
set_option maxRecDepth 100000 in
theorem zc155 : ztbl[679]? = some (.code (zY 155) (zB 155) (zL 155) (zR 155)) := rfl
set_option maxRecDepth 100000 in
theorem zc156 : ztbl[817]? = some (.code (zY 156) (zB 156) (zL 156) (zR 156)) := rfl
set_option maxRecDepth 100000 in
theorem zc157 : ztbl[813]? = some (.code (zY 157) (zB 157) (zL 157) (zR 157)) := rfl
set_option maxRecDepth 100000 in
theorem zc158 : ztbl[705]? = some (.code (zY 158) (zB 158) (zL 158) (zR 158)) := rfl
set_option maxRecDepth 100000 in
theorem zc159 : ztbl[702]? = some (.code (zY 159) (zB 159) (zL 159) (zR 159)) := rfl
set_option maxRecDepth 100000 in
theorem zc160 : ztbl[804]? = some (.code (zY 160) (zB 160) (zL 160) (zR 160)) := rfl
set_option maxRecDepth 100000 in
theorem zc161 : ztbl[822]? = some (.code (zY 161) (zB 161) (zL 161) (zR 161)) := rfl
set_option maxRecDepth 100000 in
theorem zc162 : ztbl[808]? = some (.code (zY 162) (zB 162) (zL 162) (zR 162)) := rfl
set_option maxRecDepth 100000 in
theorem zc163 : ztbl[778]? = some (.code (zY 163) (zB 163) (zL 163) (zR 163)) := rfl
set_option maxRecDepth 100000 in
theorem zc164 : ztbl[750]? = some (.code (zY 164) (zB 164) (zL 164) (zR 164)) := rfl
set_option maxRecDepth 100000 in
theorem zc165 : ztbl[665]? = some (.code (zY 165) (zB 165) (zL 165) (zR 165)) := rfl
set_option maxRecDepth 100000 in
theorem zc166 : ztbl[656]? = some (.code (zY 166) (zB 166) (zL 166) (zR 166)) := rfl
set_option maxRecDepth 100000 in
theorem zc167 : ztbl[781]? = some (.code (zY 167) (zB 167) (zL 167) (zR 167)) := rfl
theorem zcode_ok : ∀ M, M < 168 → M ≠ 138 → Cond.code (zY M) (zB M) (zL M) (zR M) ∈ zgw := fun M hM hl => match M, hM, hl with
  | 0, _, _ => zgw_mem zc0 rfl
  | 1, _, _ => zgw_mem zc1 rfl
  | 2, _, _ => zgw_mem zc2 rfl
  | 3, _, _ => zgw_mem zc3 rfl
  | 4, _, _ => zgw_mem zc4 rfl
  | 5, _, _ => zgw_mem zc5 rfl
  | 6, _, _ => zgw_mem zc6 rfl
  | 7, _, _ => zgw_mem zc7 rfl
  | 8, _, _ => zgw_mem zc8 rfl
  | 9, _, _ => zgw_mem zc9 rfl
  | 10, _, _ => zgw_mem zc10 rfl
  | 11, _, _ => zgw_mem zc11 rfl
  | 12, _, _ => zgw_mem zc12 rfl
  | 13, _, _ => zgw_mem zc13 rfl
  | 14, _, _ => zgw_mem zc14 rfl
  | 15, _, _ => zgw_mem zc15 rfl
  | 16, _, _ => zgw_mem zc16 rfl
  | 17, _, _ => zgw_mem zc17 rfl
  | 18, _, _ => zgw_mem zc18 rfl
  | 19, _, _ => zgw_mem zc19 rfl
  | 20, _, _ => zgw_mem zc20 rfl
  | 21, _, _ => zgw_mem zc21 rfl
  | 22, _, _ => zgw_mem zc22 rfl
  | 23, _, _ => zgw_mem zc23 rfl
  | 24, _, _ => zgw_mem zc24 rfl
  | 25, _, _ => zgw_mem zc25 rfl
  | 26, _, _ => zgw_mem zc26 rfl
  | 27, _, _ => zgw_mem zc27 rfl
  | 28, _, _ => zgw_mem zc28 rfl
  | 29, _, _ => zgw_mem zc29 rfl
  | 30, _, _ => zgw_mem zc30 rfl
  | 31, _, _ => zgw_mem zc31 rfl
  | 32, _, _ => zgw_mem zc32 rfl
  | 33, _, _ => zgw_mem zc33 rfl
  | 34, _, _ => zgw_mem zc34 rfl
  | 35, _, _ => zgw_mem zc35 rfl
  | 36, _, _ => zgw_mem zc36 rfl
  | 37, _, _ => zgw_mem zc37 rfl
  | 38, _, _ => zgw_mem zc38 rfl
  | 39, _, _ => zgw_mem zc39 rfl
  | 40, _, _ => zgw_mem zc40 rfl
  | 41, _, _ => zgw_mem zc41 rfl
  | 42, _, _ => zgw_mem zc42 rfl
  | 43, _, _ => zgw_mem zc43 rfl
  | 44, _, _ => zgw_mem zc44 rfl
  | 45, _, _ => zgw_mem zc45 rfl
  | 46, _, _ => zgw_mem zc46 rfl
  | 47, _, _ => zgw_mem zc47 rfl
  | 48, _, _ => zgw_mem zc48 rfl
  | 49, _, _ => zgw_mem zc49 rfl
  | 50, _, _ => zgw_mem zc50 rfl
  | 51, _, _ => zgw_mem zc51 rfl
  | 52, _, _ => zgw_mem zc52 rfl
  | 53, _, _ => zgw_mem zc53 rfl
  | 54, _, _ => zgw_mem zc54 rfl
  | 55, _, _ => zgw_mem zc55 rfl
  | 56, _, _ => zgw_mem zc56 rfl
  | 57, _, _ => zgw_mem zc57 rfl
  | 58, _, _ => zgw_mem zc58 rfl
  | 59, _, _ => zgw_mem zc59 rfl
  | 60, _, _ => zgw_mem zc60 rfl
  | 61, _, _ => zgw_mem zc61 rfl
  | 62, _, _ => zgw_mem zc62 rfl
  | 63, _, _ => zgw_mem zc63 rfl
  | 64, _, _ => zgw_mem zc64 rfl
  | 65, _, _ => zgw_mem zc65 rfl
  | 66, _, _ => zgw_mem zc66 rfl
  | 67, _, _ => zgw_mem zc67 rfl
  | 68, _, _ => zgw_mem zc68 rfl
  | 69, _, _ => zgw_mem zc69 rfl
  | 70, _, _ => zgw_mem zc70 rfl
  | 71, _, _ => zgw_mem zc71 rfl
  | 72, _, _ => zgw_mem zc72 rfl
  | 73, _, _ => zgw_mem zc73 rfl
  | 74, _, _ => zgw_mem zc74 rfl
  | 75, _, _ => zgw_mem zc75 rfl
  | 76, _, _ => zgw_mem zc76 rfl
  | 77, _, _ => zgw_mem zc77 rfl
  | 78, _, _ => zgw_mem zc78 rfl
  | 79, _, _ => zgw_mem zc79 rfl
  | 80, _, _ => zgw_mem zc80 rfl
  | 81, _, _ => zgw_mem zc81 rfl
  | 82, _, _ => zgw_mem zc82 rfl
  | 83, _, _ => zgw_mem zc83 rfl
  | 84, _, _ => zgw_mem zc84 rfl
  | 85, _, _ => zgw_mem zc85 rfl
  | 86, _, _ => zgw_mem zc86 rfl
  | 87, _, _ => zgw_mem zc87 rfl
  | 88, _, _ => zgw_mem zc88 rfl
  | 89, _, _ => zgw_mem zc89 rfl
  | 90, _, _ => zgw_mem zc90 rfl
  | 91, _, _ => zgw_mem zc91 rfl
  | 92, _, _ => zgw_mem zc92 rfl
  | 93, _, _ => zgw_mem zc93 rfl
  | 94, _, _ => zgw_mem zc94 rfl
  | 95, _, _ => zgw_mem zc95 rfl
  | 96, _, _ => zgw_mem zc96 rfl
  | 97, _, _ => zgw_mem zc97 rfl
  | 98, _, _ => zgw_mem zc98 rfl
  | 99, _, _ => zgw_mem zc99 rfl
  | 100, _, _ => zgw_mem zc100 rfl
  | 101, _, _ => zgw_mem zc101 rfl
  | 102, _, _ => zgw_mem zc102 rfl
  | 103, _, _ => zgw_mem zc103 rfl
  | 104, _, _ => zgw_mem zc104 rfl
  | 105, _, _ => zgw_mem zc105 rfl
  | 106, _, _ => zgw_mem zc106 rfl
  | 107, _, _ => zgw_mem zc107 rfl
  | 108, _, _ => zgw_mem zc108 rfl
  | 109, _, _ => zgw_mem zc109 rfl
  | 110, _, _ => zgw_mem zc110 rfl
  | 111, _, _ => zgw_mem zc111 rfl
  | 112, _, _ => zgw_mem zc112 rfl
  | 113, _, _ => zgw_mem zc113 rfl
  | 114, _, _ => zgw_mem zc114 rfl
  | 115, _, _ => zgw_mem zc115 rfl
  | 116, _, _ => zgw_mem zc116 rfl
  | 117, _, _ => zgw_mem zc117 rfl
  | 118, _, _ => zgw_mem zc118 rfl
  | 119, _, _ => zgw_mem zc119 rfl
  | 120, _, _ => zgw_mem zc120 rfl
  | 121, _, _ => zgw_mem zc121 rfl
  | 122, _, _ => zgw_mem zc122 rfl
  | 123, _, _ => zgw_mem zc123 rfl
  | 124, _, _ => zgw_mem zc124 rfl
  | 125, _, _ => zgw_mem zc125 rfl
  | 126, _, _ => zgw_mem zc126 rfl
  | 127, _, _ => zgw_mem zc127 rfl
  | 128, _, _ => zgw_mem zc128 rfl
  | 129, _, _ => zgw_mem zc129 rfl
  | 130, _, _ => zgw_mem zc130 rfl
  | 131, _, _ => zgw_mem zc131 rfl
  | 132, _, _ => zgw_mem zc132 rfl
  | 133, _, _ => zgw_mem zc133 rfl
  | 134, _, _ => zgw_mem zc134 rfl
  | 135, _, _ => zgw_mem zc135 rfl
  | 136, _, _ => zgw_mem zc136 rfl
  | 137, _, _ => zgw_mem zc137 rfl
  | 138, _, h => absurd rfl h
  | 139, _, _ => zgw_mem zc139 rfl
  | 140, _, _ => zgw_mem zc140 rfl
  | 141, _, _ => zgw_mem zc141 rfl
  | 142, _, _ => zgw_mem zc142 rfl
  | 143, _, _ => zgw_mem zc143 rfl
  | 144, _, _ => zgw_mem zc144 rfl
  | 145, _, _ => zgw_mem zc145 rfl
  | 146, _, _ => zgw_mem zc146 rfl
  | 147, _, _ => zgw_mem zc147 rfl
  | 148, _, _ => zgw_mem zc148 rfl
  | 149, _, _ => zgw_mem zc149 rfl
  | 150, _, _ => zgw_mem zc150 rfl
  | 151, _, _ => zgw_mem zc151 rfl
  | 152, _, _ => zgw_mem zc152 rfl
  | 153, _, _ => zgw_mem zc153 rfl
  | 154, _, _ => zgw_mem zc154 rfl
  | 155, _, _ => zgw_mem zc155 rfl
  | 156, _, _ => zgw_mem zc156 rfl
  | 157, _, _ => zgw_mem zc157 rfl
  | 158, _, _ => zgw_mem zc158 rfl
  | 159, _, _ => zgw_mem zc159 rfl
  | 160, _, _ => zgw_mem zc160 rfl
  | 161, _, _ => zgw_mem zc161 rfl
  | 162, _, _ => zgw_mem zc162 rfl
  | 163, _, _ => zgw_mem zc163 rfl
  | 164, _, _ => zgw_mem zc164 rfl
  | 165, _, _ => zgw_mem zc165 rfl
  | 166, _, _ => zgw_mem zc166 rfl
  | 167, _, _ => zgw_mem zc167 rfl
  | n + 168, h, _ => absurd h (by omega)
theorem zcls_all : (List.range 168).all (fun M => decide ((zY M).cls = zcn (zK M)) && decide (zL M ≤ 19) && Jvm.plainName (zY M).cls) = true := by decide +kernel
def zlay : List (List Nat) := [[293, 295, 297, 299], [134, 136, 138, 140], [254, 256, 258, 260, 262, 264, 266, 268], [205, 207, 209], [161, 163, 165, 167, 169], [83, 85, 87, 89, 91], [112, 114, 116, 118, 120], [226, 228, 230, 232, 234, 236], [183, 185, 187, 189], [308, 310, 312, 314, 316]]
set_option maxRecDepth 100000 in
theorem zin0 : ∀ w ∈ u_ws (RJ4) (TJ4) 4, w ∈ zgw := by
  have h : ∀ j, j < 4 → ztbl[([293, 295, 297, 299] : List Nat).getD j 0]? = some (u_lay (RJ4) (TJ4) j) ∧ goodWord (u_lay (RJ4) (TJ4) j) = true := by decide +kernel
  intro w hw
  obtain ⟨j, hj, rfl⟩ := List.mem_map.mp hw
  exact zgw_mem (h j (List.mem_range.mp hj)).1 (h j (List.mem_range.mp hj)).2
set_option maxRecDepth 100000 in
theorem zin1 : ∀ w ∈ u_ws (RX0) (TX0) 4, w ∈ zgw := by
  have h : ∀ j, j < 4 → ztbl[([134, 136, 138, 140] : List Nat).getD j 0]? = some (u_lay (RX0) (TX0) j) ∧ goodWord (u_lay (RX0) (TX0) j) = true := by decide +kernel
  intro w hw
  obtain ⟨j, hj, rfl⟩ := List.mem_map.mp hw
  exact zgw_mem (h j (List.mem_range.mp hj)).1 (h j (List.mem_range.mp hj)).2
set_option maxRecDepth 100000 in
theorem zin2 : ∀ w ∈ u_ws (RX1) (TX1) 8, w ∈ zgw := by
  have h : ∀ j, j < 8 → ztbl[([254, 256, 258, 260, 262, 264, 266, 268] : List Nat).getD j 0]? = some (u_lay (RX1) (TX1) j) ∧ goodWord (u_lay (RX1) (TX1) j) = true := by decide +kernel
  intro w hw
  obtain ⟨j, hj, rfl⟩ := List.mem_map.mp hw
  exact zgw_mem (h j (List.mem_range.mp hj)).1 (h j (List.mem_range.mp hj)).2
set_option maxRecDepth 100000 in
theorem zin3 : ∀ w ∈ u_ws (RX2) (TX2) 3, w ∈ zgw := by
  have h : ∀ j, j < 3 → ztbl[([205, 207, 209] : List Nat).getD j 0]? = some (u_lay (RX2) (TX2) j) ∧ goodWord (u_lay (RX2) (TX2) j) = true := by decide +kernel
  intro w hw
  obtain ⟨j, hj, rfl⟩ := List.mem_map.mp hw
  exact zgw_mem (h j (List.mem_range.mp hj)).1 (h j (List.mem_range.mp hj)).2
set_option maxRecDepth 100000 in
theorem zin4 : ∀ w ∈ u_ws (RX3) (TX3) 5, w ∈ zgw := by
  have h : ∀ j, j < 5 → ztbl[([161, 163, 165, 167, 169] : List Nat).getD j 0]? = some (u_lay (RX3) (TX3) j) ∧ goodWord (u_lay (RX3) (TX3) j) = true := by decide +kernel
  intro w hw
  obtain ⟨j, hj, rfl⟩ := List.mem_map.mp hw
  exact zgw_mem (h j (List.mem_range.mp hj)).1 (h j (List.mem_range.mp hj)).2
set_option maxRecDepth 100000 in
theorem zin5 : ∀ w ∈ u_ws (RX4) (TX4) 5, w ∈ zgw := by
  have h : ∀ j, j < 5 → ztbl[([83, 85, 87, 89, 91] : List Nat).getD j 0]? = some (u_lay (RX4) (TX4) j) ∧ goodWord (u_lay (RX4) (TX4) j) = true := by decide +kernel
  intro w hw
  obtain ⟨j, hj, rfl⟩ := List.mem_map.mp hw
  exact zgw_mem (h j (List.mem_range.mp hj)).1 (h j (List.mem_range.mp hj)).2
set_option maxRecDepth 100000 in
theorem zin6 : ∀ w ∈ u_ws (RX5) (TX5) 5, w ∈ zgw := by
  have h : ∀ j, j < 5 → ztbl[([112, 114, 116, 118, 120] : List Nat).getD j 0]? = some (u_lay (RX5) (TX5) j) ∧ goodWord (u_lay (RX5) (TX5) j) = true := by decide +kernel
  intro w hw
  obtain ⟨j, hj, rfl⟩ := List.mem_map.mp hw
  exact zgw_mem (h j (List.mem_range.mp hj)).1 (h j (List.mem_range.mp hj)).2
set_option maxRecDepth 100000 in
theorem zin7 : ∀ w ∈ u_ws (RX6) (TX6) 6, w ∈ zgw := by
  have h : ∀ j, j < 6 → ztbl[([226, 228, 230, 232, 234, 236] : List Nat).getD j 0]? = some (u_lay (RX6) (TX6) j) ∧ goodWord (u_lay (RX6) (TX6) j) = true := by decide +kernel
  intro w hw
  obtain ⟨j, hj, rfl⟩ := List.mem_map.mp hw
  exact zgw_mem (h j (List.mem_range.mp hj)).1 (h j (List.mem_range.mp hj)).2
set_option maxRecDepth 100000 in
theorem zin8 : ∀ w ∈ u_ws (RX7) (TX7) 4, w ∈ zgw := by
  have h : ∀ j, j < 4 → ztbl[([183, 185, 187, 189] : List Nat).getD j 0]? = some (u_lay (RX7) (TX7) j) ∧ goodWord (u_lay (RX7) (TX7) j) = true := by decide +kernel
  intro w hw
  obtain ⟨j, hj, rfl⟩ := List.mem_map.mp hw
  exact zgw_mem (h j (List.mem_range.mp hj)).1 (h j (List.mem_range.mp hj)).2
set_option maxRecDepth 100000 in
theorem zin9 : ∀ w ∈ u_ws (RX8) (TX8) 5, w ∈ zgw := by
  have h : ∀ j, j < 5 → ztbl[([308, 310, 312, 314, 316] : List Nat).getD j 0]? = some (u_lay (RX8) (TX8) j) ∧ goodWord (u_lay (RX8) (TX8) j) = true := by decide +kernel
  intro w hw
  obtain ⟨j, hj, rfl⟩ := List.mem_map.mp hw
  exact zgw_mem (h j (List.mem_range.mp hj)).1 (h j (List.mem_range.mp hj)).2
