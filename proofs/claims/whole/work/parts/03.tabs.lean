/-! the system as tables: methods by number, what a class's constant pool names; every word by its place in ztbl -/
theorem zsel_priv {C : String} {y y0 : MethodName} {s : State} {args : Array Value} (hc0 : y0.cls = y.cls) (hy : y.cls ≠ "java/lang/invoke/MethodHandle" ∧ y.cls ≠ "java/lang/invoke/VarHandle") (h0 : (Cond.selects C y0 y0).before args s = true)
    (hpriv : (Cond.privateMethod y).before args s = true) (hinst : (Cond.instanceMethod y).before args s = true) : (Cond.selects C y y).before args s = true := by
  obtain ⟨c2, r2, m2, q1, q2, q3, q4, kP, hkP, hkPi⟩ := Cond.selects_spec h0
  obtain ⟨mk, methM, hnamed, hmethM, -, -⟩ := Cond.instanceMethod_spec hinst
  have hfound : s.methodFound? y.cls y.name y.desc = some mk := State.methodFound?_of_named hnamed hy
  have e1 : s.vm.findClass y.cls = some mk.cls := findClass_of_methodNamed hnamed
  have e2 : s.vm.findClass y0.cls = some m2.cls := findClass_of_methodNamed q3
  have hcls : mk.cls = m2.cls := by
    rw [hc0] at e2
    exact Option.some.inj (e1.symm.trans e2)
  have hsel : selectMethod {} s.vm c2 mk = .method mk := selectMethod_private hmethM (Cond.privateMethod_at hpriv mk methM hnamed hmethM)
  simp only [Cond.before, Cond.holds, Cond.value, q1, hfound, hnamed, hsel, hcls, hkP]
  simp; exact hkPi
def zpriv : List MethodName := [⟨"java/lang/AbstractStringBuilder", "newCapacity", "(I)I"⟩, ⟨"java/lang/AbstractStringBuilder", "ensureCapacityInternal", "(I)V"⟩, ⟨"java/lang/AbstractStringBuilder", "putStringAt", "(ILjava/lang/String;)V"⟩, ⟨"java/lang/AbstractStringBuilder", "inflateIfNeededFor", "(Ljava/lang/String;)V"⟩]
def ztbl : List Cond := zpriv.map (fun y => Cond.selects RJ4 y y) ++ lw_tbl
def zgw : List Cond := ztbl.filter goodWord
theorem zgw_mem {i : Nat} {w : Cond} (h : ztbl[i]? = some w) (g : goodWord w = true) : w ∈ zgw := List.mem_filter.mpr ⟨List.mem_of_getElem? h, g⟩
theorem zgw_good : ∀ w ∈ zgw, w ∈ ztbl ∧ goodWord w = true := fun w h => List.mem_filter.mp h
def zcn (k : Nat) : String := [RX0, RX1, RX2, RX3, RX4, RX5, RX6, RX7, RX8, RX9, RL, RJ4, RJ5, RJ6, RJ9, RJ0, RJ1, RJ7, RJ8, RJ3].getD k ""
def zK (M : Nat) : Nat := [0, 0, 0, 0, 1, 1, 1, 1, 1, 1, 2, 2, 2, 3, 3, 3, 3, 3, 3, 3, 3, 3, 3, 3, 3, 4, 4, 4, 5, 5, 5, 5, 6, 6, 6, 6, 6, 7, 7, 8, 8, 8, 8, 8, 8, 8, 8, 8, 8, 8, 8, 8, 8, 8, 8, 8, 8, 8, 8, 8, 8, 8, 8, 8, 8, 8, 8, 8, 8, 8, 8, 8, 8, 8, 8, 8, 8, 8, 8, 8, 8, 8, 8, 8, 9, 9, 9, 9, 9, 9, 9, 9, 9, 9, 9, 9, 9, 9, 9, 9, 9, 9, 9, 9, 9, 9, 9, 9, 9, 9, 9, 9, 9, 9, 9, 9, 9, 9, 9, 9, 9, 9, 9, 9, 9, 9, 9, 9, 9, 9, 9, 9, 9, 9, 9, 9, 9, 9, 10, 11, 11, 11, 11, 11, 11, 11, 12, 12, 12, 12, 12, 12, 12, 12, 12, 12, 12, 12, 13, 13, 15, 15, 15, 15, 16, 17, 18, 19].getD M 0
def zY (M : Nat) : MethodName := [yX0_init, yX0_append, yX0_darkUntil, yX0_copyFrom, yX1_init, yX1_find, yX1_fillerOf, yX1_settle, yX1_itemsWith, yX1_choose, yX2_init, yX2_keep, yX2_takeBack, yX3_init, yX3_end, yX3_firstIn, yX3_beginningAt, yX3_endingAt, yX3_minutesIn, yX3_minutesOf, yX3_indexFor, yX3_insert, yX3_delete, yX3_move, yX3_copyFrom, yX4_init, yX4_append, yX4_copyFrom, yX5_init, yX5_append, yX5_covers, yX5_copyFrom, yX6_init, yX6_clear, yX6_add, yX6_share, yX6_rightFor, yX7_init, yX7_copyFrom, yX8_init, yX8_addProgramme, yX8_addRight, yX8_addBlackout, yX8_place, yX8_remove, yX8_earliest, yX8_fill, yX8_runOver, yX8_makeGood, yX8_items, yX8_item, yX8_onAir, yX8_left, yX8_mayPlace, yX8_owed, yX8_minutes, yX8_silence, yX8_ranked, yX8_broken, yX8_line, yX8_undo, yX8_fingerprint, yX8_within, yX8_isTime, yX8_isInterval, yX8_isProgramme, yX8_isItem, yX8_obstacle, yX8_rightsAllow, yX8_gatherItemsOf, yX8_putOnAir, yX8_earliestStart, yX8_nextToTry, yX8_nextWindow, yX8_makeRoomAfter, yX8_giveWay, yX8_cut, yX8_push, yX8_drop, yX8_kindOf, yX8_shareRights, yX8_programmesAhead, yX8_writeLine, yX8_writeTwoDigits, yX9_init, yX9_in, yX9_act, yX9_isProgramme, yX9_isItem, yX9_kind, yX9_length, yX9_of, yX9_end, yX9_addProgramme, yX9_addRight, yX9_addBlackout, yX9_lists, yX9_listsAll, yX9_rightFor, yX9_gives, yX9_isBroken, yX9_isDark, yX9_isTaken, yX9_fault, yX9_puts, yX9_drops, yX9_place, yX9_remove, yX9_firstFor, yX9_earliest, yX9_mayFill, yX9_measures, yX9_fill, yX9_mayPush, yX9_treats, yX9_runOver, yX9_makeGood, yX9_items, yX9_told, yX9_item, yX9_itemAt, yX9_onAir, yX9_leftOf, yX9_left, yX9_mayPlace, yX9_owed, yX9_isSpan, yX9_minutes, yX9_silence, yX9_airTime, yX9_ranked, yX9_broken, yX9_signs, yX9_number, yX9_two, yX9_line, yX9_undo, yX9_fingerprint, x, yJ4_init_da8c8, yJ4_append_15ec4, yJ4_append_cf468, yJ4_append_bf812, yJ4_charAt_5068e, yJ4_setLength_d00df, yJ4_length_8abf5, yJ5_init_d00df, yJ5_length_8abf5, yJ5_ensureCapacityInternal_d00df, yJ5_newCapacity_0f7a4, yJ5_setLength_d00df, yJ5_charAt_5068e, yJ5_append_cf1ce, yJ5_append_3fe6f, yJ5_append_c97b9, yJ5_isLatin1_aae02, yJ5_inflateIfNeededFor_a7421, yJ5_putStringAt_47b60, yJ6_getChars_ba4f3, yJ6_stringSize_0f7a4, yJ0_length_8abf5, yJ0_getBytes_840e7, yJ0_coder_7d493, yJ0_checkIndex_df160, yJ1_canEncode_fc78d, yJ7_copyOf_9075b, yJ8_newLength_cabcc, yJ3_checkIndex_8e157].getD M objectInit
def zB (M : Nat) : ByteArray := [cX0_init, cX0_append, cX0_darkUntil, cX0_copyFrom, cX1_init, cX1_find, cX1_fillerOf, cX1_settle, cX1_itemsWith, cX1_choose, cX2_init, cX2_keep, cX2_takeBack, cX3_init, cX3_end, cX3_firstIn, cX3_beginningAt, cX3_endingAt, cX3_minutesIn, cX3_minutesOf, cX3_indexFor, cX3_insert, cX3_delete, cX3_move, cX3_copyFrom, cX4_init, cX4_append, cX4_copyFrom, cX5_init, cX5_append, cX5_covers, cX5_copyFrom, cX6_init, cX6_clear, cX6_add, cX6_share, cX6_rightFor, cX7_init, cX7_copyFrom, cX8_init, cX8_addProgramme, cX8_addRight, cX8_addBlackout, cX8_place, cX8_remove, cX8_earliest, cX8_fill, cX8_runOver, cX8_makeGood, cX8_items, cX8_item, cX8_onAir, cX8_left, cX8_mayPlace, cX8_owed, cX8_minutes, cX8_silence, cX8_ranked, cX8_broken, cX8_line, cX8_undo, cX8_fingerprint, cX8_within, cX8_isTime, cX8_isInterval, cX8_isProgramme, cX8_isItem, cX8_obstacle, cX8_rightsAllow, cX8_gatherItemsOf, cX8_putOnAir, cX8_earliestStart, cX8_nextToTry, cX8_nextWindow, cX8_makeRoomAfter, cX8_giveWay, cX8_cut, cX8_push, cX8_drop, cX8_kindOf, cX8_shareRights, cX8_programmesAhead, cX8_writeLine, cX8_writeTwoDigits, cX9_init, cX9_in, cX9_act, cX9_isProgramme, cX9_isItem, cX9_kind, cX9_length, cX9_of, cX9_end, cX9_addProgramme, cX9_addRight, cX9_addBlackout, cX9_lists, cX9_listsAll, cX9_rightFor, cX9_gives, cX9_isBroken, cX9_isDark, cX9_isTaken, cX9_fault, cX9_puts, cX9_drops, cX9_place, cX9_remove, cX9_firstFor, cX9_earliest, cX9_mayFill, cX9_measures, cX9_fill, cX9_mayPush, cX9_treats, cX9_runOver, cX9_makeGood, cX9_items, cX9_told, cX9_item, cX9_itemAt, cX9_onAir, cX9_leftOf, cX9_left, cX9_mayPlace, cX9_owed, cX9_isSpan, cX9_minutes, cX9_silence, cX9_airTime, cX9_ranked, cX9_broken, cX9_signs, cX9_number, cX9_two, cX9_line, cX9_undo, cX9_fingerprint, code, cJ4_init_da8c8, cJ4_append_15ec4, cJ4_append_cf468, cJ4_append_bf812, cJ4_charAt_5068e, cJ4_setLength_d00df, cJ4_length_8abf5, cJ5_init_d00df, cJ5_length_8abf5, cJ5_ensureCapacityInternal_d00df, cJ5_newCapacity_0f7a4, cJ5_setLength_d00df, cJ5_charAt_5068e, cJ5_append_cf1ce, cJ5_append_3fe6f, cJ5_append_c97b9, cJ5_isLatin1_aae02, cJ5_inflateIfNeededFor_a7421, cJ5_putStringAt_47b60, cJ6_getChars_ba4f3, cJ6_stringSize_0f7a4, cJ0_length_8abf5, cJ0_getBytes_840e7, cJ0_coder_7d493, cJ0_checkIndex_df160, cJ1_canEncode_fc78d, cJ7_copyOf_9075b, cJ8_newLength_cabcc, cJ3_checkIndex_8e157].getD M ⟨#[]⟩
def zL (M : Nat) : Nat := [1, 4, 6, 2, 1, 5, 3, 5, 6, 7, 2, 2, 2, 1, 2, 4, 3, 3, 4, 4, 4, 6, 2, 3, 2, 1, 4, 2, 1, 5, 5, 2, 1, 1, 5, 4, 5, 1, 2, 1, 4, 5, 4, 5, 2, 3, 7, 3, 4, 1, 3, 2, 2, 3, 2, 8, 8, 3, 4, 3, 1, 4, 3, 1, 3, 2, 2, 4, 4, 3, 5, 7, 6, 6, 6, 3, 4, 5, 2, 2, 3, 6, 3, 2, 1, 3, 2, 2, 2, 2, 2, 3, 2, 5, 6, 5, 5, 2, 8, 2, 4, 7, 5, 4, 7, 3, 5, 2, 4, 3, 5, 9, 10, 6, 5, 8, 5, 1, 3, 3, 3, 2, 2, 2, 3, 2, 2, 9, 8, 4, 6, 3, 2, 2, 2, 4, 2, 5, 4, 1, 2, 2, 2, 2, 2, 1, 2, 1, 3, 6, 2, 5, 3, 2, 4, 1, 2, 3, 7, 4, 1, 4, 1, 2, 1, 3, 4, 3].getD M 0
def zR (M : Nat) : Option FieldType := [none, (some .int), (some .int), none, none, (some .int), (some .int), none, (some .int), (some .int), none, none, none, none, (some .int), (some .int), (some .int), (some .int), (some .int), (some .int), (some .int), none, none, none, none, none, (some .int), none, none, (some .int), (some .boolean), none, none, none, none, (some .boolean), (some .int), none, none, none, (some .int), (some .int), (some .int), (some .int), (some .int), (some .int), (some .int), (some .int), (some .int), (some .int), (some .int), (some .int), (some .int), (some .int), (some .int), (some .int), (some .int), (some .int), (some .int), (some .int), (some .int), (some .long), (some .boolean), (some .boolean), (some .boolean), (some .boolean), (some .boolean), (some .int), (some .boolean), none, (some .int), (some .int), (some .int), (some .int), (some .int), (some .boolean), (some .boolean), (some .boolean), none, (some .int), none, (some .int), none, none, none, (some .boolean), none, (some .boolean), (some .boolean), (some .int), (some .int), (some .int), (some .int), (some .int), (some .int), (some .int), none, none, (some .int), none, (some .boolean), (some .boolean), (some .boolean), (some .int), (some .int), none, (some .int), (some .int), (some .int), (some .int), (some .boolean), none, (some .int), (some .boolean), (some .int), (some .int), (some .int), (some .int), (some .int), (some .int), (some .int), (some .int), (some .int), (some .int), (some .int), (some .int), (some .boolean), (some .int), (some .int), (some .int), (some .int), (some .int), none, none, none, (some .int), (some .int), (some .long), ret, none, (some (.object "java/lang/StringBuilder")), (some (.object "java/lang/StringBuilder")), (some (.object "java/lang/StringBuilder")), (some .char), none, (some .int), none, (some .int), none, (some .int), none, (some .char), (some (.object "java/lang/AbstractStringBuilder")), (some (.object "java/lang/AbstractStringBuilder")), (some (.object "java/lang/AbstractStringBuilder")), (some .boolean), none, none, (some .int), (some .int), (some .int), none, (some .byte), none, (some .boolean), (some (.array .byte)), (some .int), (some .int)].getD M none
/-- calls by class and place in its pool: kind, method, number of arguments; places of the words -/
def zcalls : List ((Nat × Nat) × (Nat × (Nat × Nat)) × List Nat) := [
  ((0, 3), (6, (0, 0)), [158, 85, 86]),
  ((0, 25), (7, (0, 5)), [380, 370, 369, 72]),
  ((1, 3), (6, (0, 0)), [274, 85, 86]),
  ((1, 31), (8, (0, 2)), [525, 507, 73]),
  ((1, 46), (1, (16, 1)), [526, 527, 528, 63]),
  ((1, 52), (0, (6, 2)), [530, 531, 66]),
  ((1, 59), (1, (7, 2)), [533, 535, 15, 66]),
  ((1, 67), (1, (17, 1)), [542, 543, 544, 63]),
  ((1, 70), (1, (9, 2)), [546, 548, 17, 66]),
  ((1, 86), (1, (8, 3)), [537, 539, 16, 66]),
  ((1, 99), (1, (2, 3)), [541, 467, 468, 62]),
  ((2, 3), (6, (0, 0)), [227, 85, 86]),
  ((2, 17), (4, (37, 0)), [230, 90, 59]),
  ((2, 25), (1, (38, 1)), [360, 361, 362, 59]),
  ((3, 3), (6, (0, 0)), [178, 85, 86]),
  ((3, 28), (1, (14, 1)), [432, 433, 434, 63]),
  ((3, 32), (8, (0, 2)), [615, 507, 73]),
  ((3, 38), (9, (0, 2)), [616, 617, 73]),
  ((3, 41), (1, (23, 2)), [482, 484, 10, 63]),
  ((3, 45), (7, (0, 5)), [385, 370, 369, 72]),
  ((4, 3), (6, (0, 0)), [98, 85, 86]),
  ((4, 28), (7, (0, 5)), [368, 370, 369, 72]),
  ((5, 3), (6, (0, 0)), [130, 85, 86]),
  ((5, 28), (7, (0, 5)), [375, 370, 369, 72]),
  ((6, 3), (6, (0, 0)), [247, 85, 86]),
  ((6, 37), (7, (0, 5)), [457, 370, 369, 72]),
  ((6, 43), (1, (36, 2)), [458, 460, 8, 65]),
  ((6, 47), (1, (30, 4)), [462, 463, 464, 61]),
  ((7, 1), (6, (0, 0)), [92, 85, 86]),
  ((7, 9), (4, (25, 0)), [95, 96, 60]),
  ((7, 18), (4, (28, 0)), [127, 128, 61]),
  ((7, 25), (4, (0, 0)), [155, 156, 62]),
  ((7, 32), (4, (13, 0)), [175, 176, 63]),
  ((7, 37), (1, (27, 1)), [364, 365, 366, 60]),
  ((7, 41), (1, (31, 1)), [371, 372, 373, 61]),
  ((7, 44), (1, (3, 1)), [376, 377, 378, 62]),
  ((7, 47), (1, (24, 1)), [381, 382, 383, 63]),
  ((8, 3), (6, (0, 0)), [84, 85, 86]),
  ((8, 11), (4, (37, 0)), [89, 90, 59]),
  ((8, 18), (3, (10, 0)), [224, 225, 64]),
  ((8, 25), (4, (32, 0)), [244, 245, 65]),
  ((8, 32), (4, (4, 0)), [271, 272, 66]),
  ((8, 39), (3, (139, 0)), [303, 304, 68]),
  ((8, 44), (0, (62, 3)), [353, 354, 58]),
  ((8, 58), (1, (11, 1)), [356, 357, 358, 64]),
  ((8, 62), (1, (26, 3)), [386, 387, 388, 60]),
  ((8, 66), (1, (65, 1)), [394, 396, 4, 58]),
  ((8, 70), (0, (64, 3)), [398, 399, 58]),
  ((8, 80), (1, (29, 4)), [401, 402, 403, 61]),
  ((8, 90), (1, (1, 3)), [409, 410, 411, 62]),
  ((8, 91), (1, (53, 2)), [417, 418, 419, 58]),
  ((8, 95), (1, (70, 3)), [470, 472, 9, 58]),
  ((8, 99), (1, (66, 1)), [490, 492, 11, 58]),
  ((8, 106), (1, (22, 1)), [494, 495, 496, 63]),
  ((8, 113), (0, (63, 1)), [421, 422, 58]),
  ((8, 116), (1, (71, 2)), [502, 504, 12, 58]),
  ((8, 119), (1, (15, 2)), [428, 429, 430, 63]),
  ((8, 122), (1, (5, 3)), [521, 522, 523, 66]),
  ((8, 133), (1, (79, 1)), [554, 556, 18, 58]),
  ((8, 137), (1, (14, 1)), [448, 433, 434, 63]),
  ((8, 141), (1, (74, 1)), [558, 560, 19, 58]),
  ((8, 156), (1, (80, 0)), [590, 592, 24, 58]),
  ((8, 165), (1, (67, 2)), [424, 426, 5, 58]),
  ((8, 168), (1, (18, 3)), [611, 612, 613, 63]),
  ((8, 171), (8, (0, 2)), [506, 507, 73]),
  ((8, 176), (9, (0, 2)), [623, 617, 73]),
  ((8, 179), (1, (81, 1)), [628, 630, 25, 58]),
  ((8, 185), (1, (2, 3)), [466, 467, 468, 62]),
  ((8, 188), (1, (82, 1)), [644, 646, 26, 58]),
  ((8, 191), (1, (145, 0)), [835, 836, 837, 68]),
  ((8, 194), (1, (143, 1)), [842, 843, 844, 68]),
  ((8, 199), (1, (12, 1)), [858, 859, 860, 64]),
  ((8, 206), (1, (68, 3)), [436, 438, 6, 58]),
  ((8, 212), (1, (69, 1)), [440, 442, 7, 58]),
  ((8, 215), (1, (34, 3)), [449, 450, 451, 65]),
  ((8, 219), (1, (35, 1)), [453, 454, 455, 65]),
  ((8, 223), (1, (33, 0)), [444, 445, 446, 65]),
  ((8, 226), (1, (20, 1)), [474, 475, 476, 63]),
  ((8, 229), (1, (21, 5)), [478, 479, 480, 63]),
  ((8, 233), (1, (72, 3)), [509, 511, 13, 58]),
  ((8, 236), (1, (73, 2)), [513, 515, 14, 58]),
  ((8, 243), (1, (75, 2)), [562, 564, 20, 58]),
  ((8, 247), (1, (78, 1)), [574, 576, 23, 58]),
  ((8, 250), (1, (76, 2)), [566, 568, 21, 58]),
  ((8, 253), (1, (77, 2)), [570, 572, 22, 58]),
  ((8, 256), (1, (19, 1)), [632, 633, 634, 63]),
  ((8, 259), (1, (144, 1)), [648, 649, 650, 68]),
  ((8, 262), (1, (142, 1)), [702, 703, 704, 68]),
  ((8, 265), (1, (141, 1)), [750, 751, 752, 68]),
  ((8, 268), (1, (83, 1)), [791, 793, 27, 58]),
  ((8, 273), (1, (140, 1)), [796, 797, 798, 68]),
  ((9, 1), (6, (0, 0)), [873, 85, 86]),
  ((9, 41), (0, (85, 3)), [915, 916, 71]),
  ((9, 45), (1, (91, 2)), [950, 952, 33, 71]),
  ((9, 49), (1, (86, 0)), [918, 920, 28, 71]),
  ((9, 52), (1, (87, 1)), [926, 928, 29, 71]),
  ((9, 59), (1, (89, 1)), [974, 976, 39, 71]),
  ((9, 63), (1, (98, 3)), [978, 980, 40, 71]),
  ((9, 67), (1, (99, 0)), [970, 972, 38, 71]),
  ((9, 70), (1, (92, 1)), [954, 956, 34, 71]),
  ((9, 73), (1, (90, 1)), [942, 944, 31, 71]),
  ((9, 76), (1, (102, 2)), [946, 948, 32, 71]),
  ((9, 80), (1, (97, 0)), [958, 960, 35, 71]),
  ((9, 83), (1, (96, 3)), [962, 964, 36, 71]),
  ((9, 87), (1, (100, 1)), [966, 968, 37, 71]),
  ((9, 90), (1, (101, 3)), [982, 984, 41, 71]),
  ((9, 93), (1, (103, 2)), [938, 940, 30, 71]),
  ((9, 96), (1, (104, 4)), [986, 988, 42, 71]),
  ((9, 100), (1, (88, 1)), [994, 996, 43, 71]),
  ((9, 103), (1, (105, 1)), [998, 1000, 44, 71]),
  ((9, 107), (1, (108, 2)), [1006, 1008, 45, 71]),
  ((9, 110), (1, (110, 4)), [1018, 1020, 47, 71]),
  ((9, 114), (1, (111, 3)), [1014, 1016, 46, 71]),
  ((9, 117), (1, (113, 2)), [1030, 1032, 49, 71]),
  ((9, 120), (1, (114, 2)), [1026, 1028, 48, 71]),
  ((9, 123), (1, (118, 2)), [1046, 1048, 50, 71]),
  ((9, 126), (1, (120, 1)), [1054, 1056, 51, 71]),
  ((9, 129), (1, (122, 1)), [1062, 1064, 52, 71]),
  ((9, 132), (0, (126, 2)), [1078, 1079, 71]),
  ((9, 135), (1, (129, 1)), [1089, 1091, 53, 71]),
  ((9, 141), (1, (132, 1)), [1101, 1103, 54, 71]),
  ((9, 143), (1, (134, 1)), [1105, 1107, 55, 71]),
  ((9, 146), (1, (133, 1)), [1109, 1111, 56, 71]),
  ((10, 9), (3, (39, 0)), [81, 82, 58]),
  ((10, 12), (3, (84, 0)), [870, 871, 71]),
  ((10, 13), (1, (40, 3)), [349, 350, 351, 58]),
  ((10, 17), (1, (93, 3)), [911, 912, 913, 71]),
  ((10, 18), (1, (41, 4)), [390, 391, 392, 58]),
  ((10, 22), (1, (94, 4)), [922, 923, 924, 71]),
  ((10, 23), (1, (42, 3)), [405, 406, 407, 58]),
  ((10, 26), (1, (95, 3)), [930, 931, 932, 71]),
  ((10, 27), (1, (43, 3)), [413, 414, 415, 58]),
  ((10, 31), (1, (106, 3)), [934, 935, 936, 71]),
  ((10, 32), (1, (44, 1)), [486, 487, 488, 58]),
  ((10, 36), (1, (107, 1)), [990, 991, 992, 71]),
  ((10, 37), (1, (45, 2)), [498, 499, 500, 58]),
  ((10, 41), (1, (109, 2)), [1002, 1003, 1004, 71]),
  ((10, 42), (1, (46, 2)), [517, 518, 519, 58]),
  ((10, 45), (1, (112, 2)), [1010, 1011, 1012, 71]),
  ((10, 46), (1, (47, 2)), [550, 551, 552, 58]),
  ((10, 49), (1, (115, 2)), [1022, 1023, 1024, 71]),
  ((10, 50), (1, (48, 2)), [578, 579, 580, 58]),
  ((10, 53), (1, (116, 2)), [1034, 1035, 1036, 71]),
  ((10, 54), (1, (49, 0)), [582, 583, 584, 58]),
  ((10, 58), (1, (117, 0)), [1038, 1039, 1040, 71]),
  ((10, 59), (1, (50, 2)), [586, 587, 588, 58]),
  ((10, 62), (1, (119, 2)), [1042, 1043, 1044, 71]),
  ((10, 63), (1, (51, 1)), [594, 595, 596, 58]),
  ((10, 66), (1, (121, 1)), [1050, 1051, 1052, 71]),
  ((10, 67), (1, (52, 1)), [598, 599, 600, 58]),
  ((10, 70), (1, (123, 1)), [1058, 1059, 1060, 71]),
  ((10, 71), (1, (53, 2)), [602, 418, 419, 58]),
  ((10, 74), (1, (124, 2)), [1066, 1067, 1068, 71]),
  ((10, 75), (1, (54, 1)), [603, 604, 605, 58]),
  ((10, 78), (1, (125, 1)), [1070, 1071, 1072, 71]),
  ((10, 79), (1, (55, 3)), [607, 608, 609, 58]),
  ((10, 82), (1, (127, 3)), [1074, 1075, 1076, 71]),
  ((10, 83), (1, (56, 2)), [619, 620, 621, 58]),
  ((10, 86), (1, (128, 2)), [1081, 1082, 1083, 71]),
  ((10, 87), (1, (57, 1)), [624, 625, 626, 58]),
  ((10, 90), (1, (130, 1)), [1085, 1086, 1087, 71]),
  ((10, 91), (1, (58, 0)), [636, 637, 638, 58]),
  ((10, 94), (1, (131, 0)), [1093, 1094, 1095, 71]),
  ((10, 95), (1, (59, 2)), [640, 641, 642, 58]),
  ((10, 98), (1, (135, 2)), [1097, 1098, 1099, 71]),
  ((10, 99), (1, (60, 0)), [854, 855, 856, 58]),
  ((10, 102), (1, (136, 0)), [1113, 1114, 1115, 71]),
  ((10, 103), (1, (61, 0)), [862, 863, 864, 58]),
  ((10, 107), (1, (137, 0)), [1117, 1118, 1119, 71]),
  ((11, 1), (3, (146, 1)), [306, 307, 67]),
  ((11, 29), (5, (152, 1)), [800, 1129, 331, 801, 67]),
  ((11, 50), (5, (153, 1)), [754, 1127, 331, 755, 67]),
  ((11, 53), (5, (154, 1)), [706, 1126, 331, 707, 67]),
  ((11, 329), (5, (151, 1)), [846, 1134, 331, 847, 67]),
  ((11, 333), (5, (150, 1)), [652, 1123, 331, 653, 67]),
  ((11, 343), (5, (147, 0)), [839, 1133, 331, 840, 67]),
  ((12, 3), (6, (0, 0)), [309, 85, 86]),
  ((12, 32), (1, (160, 0)), [810, 811, 812, 69]),
  ((12, 40), (1, (162, 0)), [827, 815, 816, 69]),
  ((12, 83), (2, (155, 0)), [684, 686, 687, 685, 67]),
  ((12, 100), (2, (148, 1)), [655, 1124, 1, 657, 67]),
  ((12, 104), (2, (149, 1)), [659, 1125, 0, 661, 67]),
  ((12, 108), (0, (165, 2)), [672, 673, 75]),
  ((12, 114), (0, (166, 3)), [663, 664, 74]),
  ((12, 138), (8, (0, 2)), [849, 507, 73]),
  ((12, 144), (0, (163, 2)), [850, 786, 69]),
  ((12, 191), (0, (164, 1)), [757, 758, 76]),
  ((12, 208), (2, (157, 2)), [819, 1131, 2, 821, 67]),
  ((12, 245), (0, (159, 1)), [709, 710, 77]),
  ((12, 248), (0, (158, 3)), [712, 713, 77]),
  ((12, 397), (2, (156, 1)), [823, 1132, 3, 825, 67]),
  ((12, 399), (1, (161, 3)), [828, 829, 830, 69]),
  ((15, 212), (7, (0, 5)), [832, 370, 369, 72]),
  ((15, 335), (1, (162, 0)), [814, 815, 816, 69]),
  ((15, 1059), (0, (167, 3)), [788, 789, 78]),
  ((17, 150), (7, (0, 5)), [683, 370, 369, 72]),
  ((17, 304), (8, (0, 2)), [682, 507, 73]),
  ((18, 194), (9, (0, 2)), [666, 617, 73])]
/-- fields by class and place in its pool: class of the cell, place in it, whether it holds a reference, whether it is final; place of the word -/
def zflds : List ((Nat × Nat) × (Nat × (Nat × (Bool × Nat))) × Nat) := [
  ((0, 9), (1, (1, (true, 1))), 161),
  ((0, 15), (1, (2, (true, 1))), 162),
  ((0, 18), (1, (3, (true, 1))), 163),
  ((0, 21), (1, (0, (false, 0))), 159),
  ((1, 9), (2, (0, (true, 1))), 275),
  ((1, 15), (2, (4, (true, 1))), 280),
  ((1, 18), (2, (5, (true, 1))), 281),
  ((1, 21), (2, (6, (true, 1))), 282),
  ((1, 24), (2, (7, (true, 1))), 283),
  ((1, 27), (2, (1, (false, 0))), 277),
  ((1, 37), (2, (2, (false, 0))), 278),
  ((1, 40), (8, (3, (true, 2))), 211),
  ((1, 56), (2, (3, (false, 0))), 279),
  ((1, 63), (8, (0, (true, 2))), 204),
  ((1, 74), (4, (0, (false, 0))), 180),
  ((1, 77), (4, (1, (true, 2))), 183),
  ((1, 80), (5, (1, (true, 2))), 103),
  ((1, 85), (5, (0, (false, 0))), 101),
  ((1, 90), (5, (2, (true, 2))), 106),
  ((1, 92), (8, (2, (true, 2))), 209),
  ((1, 96), (5, (3, (true, 2))), 109),
  ((2, 11), (3, (2, (true, 1))), 234),
  ((2, 18), (3, (0, (false, 0))), 231),
  ((2, 22), (3, (1, (false, 0))), 233),
  ((3, 9), (4, (1, (true, 1))), 182),
  ((3, 15), (4, (2, (true, 1))), 185),
  ((3, 18), (4, (3, (true, 1))), 187),
  ((3, 21), (4, (4, (true, 1))), 189),
  ((3, 24), (4, (0, (false, 0))), 179),
  ((4, 9), (5, (1, (true, 1))), 102),
  ((4, 15), (5, (2, (true, 1))), 105),
  ((4, 18), (5, (3, (true, 1))), 108),
  ((4, 21), (5, (4, (true, 1))), 111),
  ((4, 24), (5, (0, (false, 0))), 99),
  ((5, 9), (6, (1, (true, 1))), 134),
  ((5, 15), (6, (2, (true, 1))), 136),
  ((5, 18), (6, (3, (true, 1))), 138),
  ((5, 21), (6, (4, (true, 1))), 140),
  ((5, 24), (6, (0, (false, 0))), 131),
  ((6, 11), (7, (1, (true, 1))), 249),
  ((6, 15), (7, (2, (true, 1))), 250),
  ((6, 18), (7, (3, (true, 1))), 251),
  ((6, 21), (7, (4, (true, 1))), 252),
  ((6, 24), (7, (5, (true, 1))), 254),
  ((6, 27), (7, (0, (false, 0))), 248),
  ((6, 31), (6, (4, (true, 2))), 141),
  ((6, 36), (6, (0, (false, 0))), 133),
  ((6, 51), (6, (3, (true, 2))), 139),
  ((7, 10), (8, (0, (true, 1))), 202),
  ((7, 19), (8, (1, (true, 1))), 205),
  ((7, 26), (8, (2, (true, 1))), 207),
  ((7, 33), (8, (3, (true, 1))), 210),
  ((8, 12), (9, (0, (true, 1))), 333),
  ((8, 19), (9, (1, (true, 1))), 334),
  ((8, 26), (9, (2, (true, 1))), 335),
  ((8, 33), (9, (3, (true, 1))), 336),
  ((8, 40), (9, (4, (true, 1))), 337),
  ((8, 48), (8, (0, (true, 2))), 203),
  ((8, 52), (5, (0, (false, 0))), 100),
  ((8, 73), (8, (1, (true, 2))), 206),
  ((8, 77), (6, (0, (false, 0))), 132),
  ((8, 83), (8, (2, (true, 2))), 208),
  ((8, 87), (1, (0, (false, 0))), 160),
  ((8, 102), (8, (3, (true, 2))), 212),
  ((8, 112), (4, (0, (false, 0))), 181),
  ((8, 126), (2, (0, (true, 2))), 276),
  ((8, 130), (5, (2, (true, 2))), 107),
  ((8, 140), (4, (3, (true, 2))), 188),
  ((8, 144), (5, (4, (true, 2))), 112),
  ((8, 147), (4, (1, (true, 2))), 184),
  ((8, 150), (4, (2, (true, 2))), 186),
  ((8, 153), (4, (4, (true, 2))), 190),
  ((8, 159), (7, (4, (true, 2))), 253),
  ((8, 162), (7, (5, (true, 2))), 255),
  ((8, 182), (5, (3, (true, 2))), 110),
  ((8, 198), (3, (0, (false, 0))), 232),
  ((8, 209), (5, (1, (true, 2))), 104),
  ((8, 239), (6, (2, (true, 2))), 137),
  ((8, 242), (6, (1, (true, 2))), 135),
  ((9, 7), (10, (0, (true, 1))), 874),
  ((9, 13), (10, (1, (true, 1))), 875),
  ((9, 16), (10, (3, (true, 1))), 877),
  ((9, 19), (10, (4, (true, 1))), 878),
  ((9, 22), (10, (5, (true, 1))), 879),
  ((9, 25), (10, (6, (true, 1))), 880),
  ((9, 28), (10, (7, (true, 1))), 881),
  ((9, 31), (10, (9, (true, 1))), 883),
  ((9, 34), (10, (10, (true, 1))), 884),
  ((9, 37), (10, (2, (false, 0))), 876),
  ((9, 56), (10, (8, (false, 0))), 882),
  ((9, 138), (10, (11, (false, 0))), 885),
  ((12, 15), (0, (0, (true, 0))), 319),
  ((12, 22), (0, (1, (false, 0))), 320),
  ((12, 73), (0, (2, (false, 0))), 321),
  ((12, 79), (0, (3, (false, 0))), 322)]
abbrev vwClz : List vw_C := [(RJ4, TJ4, 4), (RX0, TX0, 4), (RX1, TX1, 8), (RX2, TX2, 3), (RX3, TX3, 5), (RX4, TX4, 5), (RX5, TX5, 5), (RX6, TX6, 6), (RX7, TX7, 4), (RX8, TX8, 5), (RX9, TX9, 12)]
def zty (ci : Nat) : Nat → FieldType := [tyJ4, tyX0, tyX1, tyX2, tyX3, tyX4, tyX5, tyX6, tyX7, tyX8, tyX9].getD ci tyJ4
/-- whether a field holds a reference -/
def zrf (ci k : Nat) : Bool := (([[true, false, false, false], [false, true, true, true], [true, false, false, false, true, true, true, true], [false, false, true], [false, true, true, true, true], [false, true, true, true, true], [false, true, true, true, true], [false, true, true, true, true, true], [true, true, true, true], [true, true, true, true, true], [true, true, false, true, true, true, true, true, false, true, true, false]] : List (List Bool)).getD ci []).getD k false
/-- classes by class and place in its pool: class of the cells; places of classLink, instantiable, initialized -/
def znews : List ((Nat × Nat) × Nat × List Nat) := [((2, 9), 8, [228, 88, 59]), ((7, 7), 5, [93, 94, 60]), ((7, 16), 6, [125, 126, 61]), ((7, 23), 1, [153, 154, 62]), ((7, 30), 4, [173, 174, 63]), ((8, 9), 8, [87, 88, 59]), ((8, 16), 3, [222, 223, 64]), ((8, 23), 7, [242, 243, 65]), ((8, 30), 2, [269, 270, 66]), ((8, 37), 0, [301, 302, 68]), ((10, 7), 9, [79, 80, 58]), ((10, 10), 10, [868, 869, 71])]
def zwords (kd own idx : Nat) (y : MethodName) : List Cond := match kd with
  | 0 => [.methodLink (zcn own) idx y, .static y, .initialized y.cls]
  | 1 => [.methodLink (zcn own) idx y, .instanceMethod y, .selects y.cls y y, .initialized y.cls]
  | 2 => [.methodLink (zcn own) idx y, .sameMethod y.cls y.cls y.name y.desc, .selects RJ4 y y, .instanceMethod y, .initialized y.cls]
  | 3 => [.methodLink (zcn own) idx y, .instanceMethod y, .initialized y.cls]
  | 4 => [.methodLinkNest (zcn own) idx y "RadioWeek", .instanceMethod y, .initialized y.cls]
  | 5 => [.methodLink (zcn own) idx y, .sameMethod y.cls y.cls y.name y.desc, .superclass (zcn own) y.cls, .instanceMethod y, .initialized y.cls]
  | 6 => [.methodLink (zcn own) idx objectInit, .instanceMethod objectInit, .code objectInit ⟨#[0xb1]⟩ 1 none]
  | 8 => [.methodLink (zcn own) idx Lib.Math.min.name, .static Lib.Math.min.name, .initialized "java/lang/Math"]
  | 9 => [.methodLink (zcn own) idx Lib.Math.max.name, .static Lib.Math.max.name, .initialized "java/lang/Math"]
  | _ => [.methodLink (zcn own) idx arraycopyName, .native arraycopyName, .static arraycopyName, .initialized "java/lang/System"]
def zokc (e : (Nat × Nat) × (Nat × (Nat × Nat)) × List Nat) : Bool :=
  decide ((zwords e.2.1.1 e.1.1 e.1.2 (zY e.2.1.2.1)).map some = e.2.2.map (fun i => ztbl[i]?)) &&
  (if e.2.1.1 = 4 then ((zwords e.2.1.1 e.1.1 e.1.2 (zY e.2.1.2.1)).drop 1).all goodWord else (zwords e.2.1.1 e.1.1 e.1.2 (zY e.2.1.2.1)).all goodWord) &&
  (decide (6 ≤ e.2.1.1) || (decide ((zY e.2.1.2.1).cls ≠ "java/lang/invoke/MethodHandle") && decide ((zY e.2.1.2.1).cls ≠ "java/lang/invoke/VarHandle") &&
    decide ((parseMethodDescriptor (zY e.2.1.2.1).desc).map (fun d => d.parameters.length) = some e.2.1.2.2) &&
    (!(e.2.1.1 == 3 || e.2.1.1 == 4) || (decide ((zY e.2.1.2.1).name = "<init>") && decide (zR e.2.1.2.1 = none))) && (!(e.2.1.1 == 5) || decide ((zY e.2.1.2.1).name ≠ "<init>"))))
set_option maxRecDepth 100000 in
theorem zminc : Cond.code Lib.Math.min.name Lib.Math.min.code 2 (some .int) ∈ zgw := zgw_mem (i := 508) rfl rfl
set_option maxRecDepth 100000 in
theorem zmaxc : Cond.code Lib.Math.max.name Lib.Math.max.code 2 (some .int) ∈ zgw := zgw_mem (i := 618) rfl rfl
set_option maxRecDepth 100000 in
theorem zcalls_ok : zcalls.all zokc = true := by decide +kernel
def zokf (e : (Nat × Nat) × (Nat × (Nat × (Bool × Nat))) × Nat) : Bool := match vwClz[e.2.1.1]? with
  | some (_, T, N) => decide (e.2.1.2.1 < N) && decide (ztbl[e.2.2]? = some (.fieldLink (zcn e.1.1) e.1.2 (T e.2.1.2.1).1 (T e.2.1.2.1).2.1 (T e.2.1.2.1).2.2.1)) && goodWord (.fieldLink (zcn e.1.1) e.1.2 (T e.2.1.2.1).1 (T e.2.1.2.1).2.1 (T e.2.1.2.1).2.2.1) && decide (zrf e.2.1.1 e.2.1.2.1 = e.2.1.2.2.1) && (if e.2.1.2.2.2 = 0 then decide ((T e.2.1.2.1).2.2.2 = false) else if e.2.1.2.2.2 = 1 then decide ((T e.2.1.2.1).2.2.2 = true) && decide ((T e.2.1.2.1).1 = zcn e.1.1) else true)
  | none => false
set_option maxRecDepth 100000 in
theorem zflds_ok : zflds.all zokf = true := by decide +kernel
def zokn (e : (Nat × Nat) × Nat × List Nat) : Bool := match vwClz[e.2.1]? with
  | some (C, _, N) => decide ([some (Cond.classLink (zcn e.1.1) e.1.2 C), some (Cond.instantiable C N), some (Cond.initialized C)] = e.2.2.map (fun i => ztbl[i]?)) && goodWord (Cond.classLink (zcn e.1.1) e.1.2 C) && goodWord (Cond.instantiable C N) && goodWord (Cond.initialized C)
  | none => false
set_option maxRecDepth 100000 in
theorem znews_ok : znews.all zokn = true := by decide +kernel

def zcp (M : Nat) : Nat := [157, 412, 469, 379, 273, 524, 532, 536, 540, 549, 226, 359, 861, 177, 435, 431, 529, 545, 614, 635, 477, 481, 497, 485, 384, 97, 389, 367, 129, 404, 465, 374, 246, 447, 452, 456, 461, 91, 363, 83, 352, 393, 408, 416, 489, 501, 520, 553, 581, 585, 589, 597, 601, 420, 606, 610, 622, 627, 639, 643, 857, 865, 355, 423, 400, 397, 493, 427, 439, 443, 473, 505, 512, 516, 561, 565, 569, 573, 577, 557, 593, 631, 647, 794, 872, 917, 921, 929, 997, 977, 945, 953, 957, 914, 925, 933, 965, 961, 981, 973, 969, 985, 949, 941, 989, 1001, 937, 993, 1009, 1005, 1021, 1017, 1013, 1033, 1029, 1025, 1037, 1041, 1049, 1045, 1057, 1053, 1065, 1061, 1069, 1073, 1080, 1077, 1084, 1092, 1088, 1096, 1104, 1112, 1108, 1100, 1116, 1120, 0, 305, 799, 753, 705, 845, 651, 838, 308, 841, 658, 662, 654, 848, 802, 756, 708, 688, 826, 822, 714, 711, 813, 831, 817, 787, 759, 674, 665, 790].getD M 0
set_option maxRecDepth 100000 in
theorem zc0 : ztbl[157]? = some (.code (zY 0) (zB 0) (zL 0) (zR 0)) := rfl
set_option maxRecDepth 100000 in
theorem zc1 : ztbl[412]? = some (.code (zY 1) (zB 1) (zL 1) (zR 1)) := rfl
set_option maxRecDepth 100000 in
theorem zc2 : ztbl[469]? = some (.code (zY 2) (zB 2) (zL 2) (zR 2)) := rfl
set_option maxRecDepth 100000 in
theorem zc3 : ztbl[379]? = some (.code (zY 3) (zB 3) (zL 3) (zR 3)) := rfl
set_option maxRecDepth 100000 in
theorem zc4 : ztbl[273]? = some (.code (zY 4) (zB 4) (zL 4) (zR 4)) := rfl
set_option maxRecDepth 100000 in
theorem zc5 : ztbl[524]? = some (.code (zY 5) (zB 5) (zL 5) (zR 5)) := rfl
set_option maxRecDepth 100000 in
theorem zc6 : ztbl[532]? = some (.code (zY 6) (zB 6) (zL 6) (zR 6)) := rfl
set_option maxRecDepth 100000 in
theorem zc7 : ztbl[536]? = some (.code (zY 7) (zB 7) (zL 7) (zR 7)) := rfl
set_option maxRecDepth 100000 in
theorem zc8 : ztbl[540]? = some (.code (zY 8) (zB 8) (zL 8) (zR 8)) := rfl
set_option maxRecDepth 100000 in
theorem zc9 : ztbl[549]? = some (.code (zY 9) (zB 9) (zL 9) (zR 9)) := rfl
set_option maxRecDepth 100000 in
theorem zc10 : ztbl[226]? = some (.code (zY 10) (zB 10) (zL 10) (zR 10)) := rfl
set_option maxRecDepth 100000 in
theorem zc11 : ztbl[359]? = some (.code (zY 11) (zB 11) (zL 11) (zR 11)) := rfl
set_option maxRecDepth 100000 in
theorem zc12 : ztbl[861]? = some (.code (zY 12) (zB 12) (zL 12) (zR 12)) := rfl
set_option maxRecDepth 100000 in
theorem zc13 : ztbl[177]? = some (.code (zY 13) (zB 13) (zL 13) (zR 13)) := rfl
set_option maxRecDepth 100000 in
theorem zc14 : ztbl[435]? = some (.code (zY 14) (zB 14) (zL 14) (zR 14)) := rfl
set_option maxRecDepth 100000 in
theorem zc15 : ztbl[431]? = some (.code (zY 15) (zB 15) (zL 15) (zR 15)) := rfl
set_option maxRecDepth 100000 in
theorem zc16 : ztbl[529]? = some (.code (zY 16) (zB 16) (zL 16) (zR 16)) := rfl
set_option maxRecDepth 100000 in
theorem zc17 : ztbl[545]? = some (.code (zY 17) (zB 17) (zL 17) (zR 17)) := rfl
set_option maxRecDepth 100000 in
theorem zc18 : ztbl[614]? = some (.code (zY 18) (zB 18) (zL 18) (zR 18)) := rfl
set_option maxRecDepth 100000 in
theorem zc19 : ztbl[635]? = some (.code (zY 19) (zB 19) (zL 19) (zR 19)) := rfl
set_option maxRecDepth 100000 in
theorem zc20 : ztbl[477]? = some (.code (zY 20) (zB 20) (zL 20) (zR 20)) := rfl
set_option maxRecDepth 100000 in
theorem zc21 : ztbl[481]? = some (.code (zY 21) (zB 21) (zL 21) (zR 21)) := rfl
set_option maxRecDepth 100000 in
theorem zc22 : ztbl[497]? = some (.code (zY 22) (zB 22) (zL 22) (zR 22)) := rfl
set_option maxRecDepth 100000 in
theorem zc23 : ztbl[485]? = some (.code (zY 23) (zB 23) (zL 23) (zR 23)) := rfl
set_option maxRecDepth 100000 in
theorem zc24 : ztbl[384]? = some (.code (zY 24) (zB 24) (zL 24) (zR 24)) := rfl
set_option maxRecDepth 100000 in
theorem zc25 : ztbl[97]? = some (.code (zY 25) (zB 25) (zL 25) (zR 25)) := rfl
set_option maxRecDepth 100000 in
theorem zc26 : ztbl[389]? = some (.code (zY 26) (zB 26) (zL 26) (zR 26)) := rfl
set_option maxRecDepth 100000 in
theorem zc27 : ztbl[367]? = some (.code (zY 27) (zB 27) (zL 27) (zR 27)) := rfl
set_option maxRecDepth 100000 in
theorem zc28 : ztbl[129]? = some (.code (zY 28) (zB 28) (zL 28) (zR 28)) := rfl
set_option maxRecDepth 100000 in
theorem zc29 : ztbl[404]? = some (.code (zY 29) (zB 29) (zL 29) (zR 29)) := rfl
set_option maxRecDepth 100000 in
theorem zc30 : ztbl[465]? = some (.code (zY 30) (zB 30) (zL 30) (zR 30)) := rfl
set_option maxRecDepth 100000 in
theorem zc31 : ztbl[374]? = some (.code (zY 31) (zB 31) (zL 31) (zR 31)) := rfl
set_option maxRecDepth 100000 in
theorem zc32 : ztbl[246]? = some (.code (zY 32) (zB 32) (zL 32) (zR 32)) := rfl
set_option maxRecDepth 100000 in
theorem zc33 : ztbl[447]? = some (.code (zY 33) (zB 33) (zL 33) (zR 33)) := rfl
set_option maxRecDepth 100000 in
theorem zc34 : ztbl[452]? = some (.code (zY 34) (zB 34) (zL 34) (zR 34)) := rfl
set_option maxRecDepth 100000 in
theorem zc35 : ztbl[456]? = some (.code (zY 35) (zB 35) (zL 35) (zR 35)) := rfl
set_option maxRecDepth 100000 in
theorem zc36 : ztbl[461]? = some (.code (zY 36) (zB 36) (zL 36) (zR 36)) := rfl
set_option maxRecDepth 100000 in
theorem zc37 : ztbl[91]? = some (.code (zY 37) (zB 37) (zL 37) (zR 37)) := rfl
set_option maxRecDepth 100000 in
theorem zc38 : ztbl[363]? = some (.code (zY 38) (zB 38) (zL 38) (zR 38)) := rfl
set_option maxRecDepth 100000 in
theorem zc39 : ztbl[83]? = some (.code (zY 39) (zB 39) (zL 39) (zR 39)) := rfl
set_option maxRecDepth 100000 in
theorem zc40 : ztbl[352]? = some (.code (zY 40) (zB 40) (zL 40) (zR 40)) := rfl
set_option maxRecDepth 100000 in
theorem zc41 : ztbl[393]? = some (.code (zY 41) (zB 41) (zL 41) (zR 41)) := rfl
set_option maxRecDepth 100000 in
theorem zc42 : ztbl[408]? = some (.code (zY 42) (zB 42) (zL 42) (zR 42)) := rfl
set_option maxRecDepth 100000 in
theorem zc43 : ztbl[416]? = some (.code (zY 43) (zB 43) (zL 43) (zR 43)) := rfl
set_option maxRecDepth 100000 in
theorem zc44 : ztbl[489]? = some (.code (zY 44) (zB 44) (zL 44) (zR 44)) := rfl
set_option maxRecDepth 100000 in
theorem zc45 : ztbl[501]? = some (.code (zY 45) (zB 45) (zL 45) (zR 45)) := rfl
set_option maxRecDepth 100000 in
theorem zc46 : ztbl[520]? = some (.code (zY 46) (zB 46) (zL 46) (zR 46)) := rfl
set_option maxRecDepth 100000 in
theorem zc47 : ztbl[553]? = some (.code (zY 47) (zB 47) (zL 47) (zR 47)) := rfl
set_option maxRecDepth 100000 in
theorem zc48 : ztbl[581]? = some (.code (zY 48) (zB 48) (zL 48) (zR 48)) := rfl
set_option maxRecDepth 100000 in
theorem zc49 : ztbl[585]? = some (.code (zY 49) (zB 49) (zL 49) (zR 49)) := rfl
set_option maxRecDepth 100000 in
theorem zc50 : ztbl[589]? = some (.code (zY 50) (zB 50) (zL 50) (zR 50)) := rfl
set_option maxRecDepth 100000 in
theorem zc51 : ztbl[597]? = some (.code (zY 51) (zB 51) (zL 51) (zR 51)) := rfl
set_option maxRecDepth 100000 in
theorem zc52 : ztbl[601]? = some (.code (zY 52) (zB 52) (zL 52) (zR 52)) := rfl
set_option maxRecDepth 100000 in
theorem zc53 : ztbl[420]? = some (.code (zY 53) (zB 53) (zL 53) (zR 53)) := rfl
set_option maxRecDepth 100000 in
theorem zc54 : ztbl[606]? = some (.code (zY 54) (zB 54) (zL 54) (zR 54)) := rfl
set_option maxRecDepth 100000 in
theorem zc55 : ztbl[610]? = some (.code (zY 55) (zB 55) (zL 55) (zR 55)) := rfl
set_option maxRecDepth 100000 in
theorem zc56 : ztbl[622]? = some (.code (zY 56) (zB 56) (zL 56) (zR 56)) := rfl
set_option maxRecDepth 100000 in
theorem zc57 : ztbl[627]? = some (.code (zY 57) (zB 57) (zL 57) (zR 57)) := rfl
set_option maxRecDepth 100000 in
theorem zc58 : ztbl[639]? = some (.code (zY 58) (zB 58) (zL 58) (zR 58)) := rfl
set_option maxRecDepth 100000 in
theorem zc59 : ztbl[643]? = some (.code (zY 59) (zB 59) (zL 59) (zR 59)) := rfl
set_option maxRecDepth 100000 in
theorem zc60 : ztbl[857]? = some (.code (zY 60) (zB 60) (zL 60) (zR 60)) := rfl
set_option maxRecDepth 100000 in
theorem zc61 : ztbl[865]? = some (.code (zY 61) (zB 61) (zL 61) (zR 61)) := rfl
set_option maxRecDepth 100000 in
theorem zc62 : ztbl[355]? = some (.code (zY 62) (zB 62) (zL 62) (zR 62)) := rfl
set_option maxRecDepth 100000 in
theorem zc63 : ztbl[423]? = some (.code (zY 63) (zB 63) (zL 63) (zR 63)) := rfl
set_option maxRecDepth 100000 in
theorem zc64 : ztbl[400]? = some (.code (zY 64) (zB 64) (zL 64) (zR 64)) := rfl
set_option maxRecDepth 100000 in
theorem zc65 : ztbl[397]? = some (.code (zY 65) (zB 65) (zL 65) (zR 65)) := rfl
set_option maxRecDepth 100000 in
theorem zc66 : ztbl[493]? = some (.code (zY 66) (zB 66) (zL 66) (zR 66)) := rfl
set_option maxRecDepth 100000 in
theorem zc67 : ztbl[427]? = some (.code (zY 67) (zB 67) (zL 67) (zR 67)) := rfl
set_option maxRecDepth 100000 in
theorem zc68 : ztbl[439]? = some (.code (zY 68) (zB 68) (zL 68) (zR 68)) := rfl
set_option maxRecDepth 100000 in
theorem zc69 : ztbl[443]? = some (.code (zY 69) (zB 69) (zL 69) (zR 69)) := rfl
set_option maxRecDepth 100000 in
theorem zc70 : ztbl[473]? = some (.code (zY 70) (zB 70) (zL 70) (zR 70)) := rfl
set_option maxRecDepth 100000 in
theorem zc71 : ztbl[505]? = some (.code (zY 71) (zB 71) (zL 71) (zR 71)) := rfl
set_option maxRecDepth 100000 in
theorem zc72 : ztbl[512]? = some (.code (zY 72) (zB 72) (zL 72) (zR 72)) := rfl
set_option maxRecDepth 100000 in
theorem zc73 : ztbl[516]? = some (.code (zY 73) (zB 73) (zL 73) (zR 73)) := rfl
set_option maxRecDepth 100000 in
theorem zc74 : ztbl[561]? = some (.code (zY 74) (zB 74) (zL 74) (zR 74)) := rfl
set_option maxRecDepth 100000 in
theorem zc75 : ztbl[565]? = some (.code (zY 75) (zB 75) (zL 75) (zR 75)) := rfl
set_option maxRecDepth 100000 in
theorem zc76 : ztbl[569]? = some (.code (zY 76) (zB 76) (zL 76) (zR 76)) := rfl
set_option maxRecDepth 100000 in
theorem zc77 : ztbl[573]? = some (.code (zY 77) (zB 77) (zL 77) (zR 77)) := rfl
set_option maxRecDepth 100000 in
theorem zc78 : ztbl[577]? = some (.code (zY 78) (zB 78) (zL 78) (zR 78)) := rfl
set_option maxRecDepth 100000 in
theorem zc79 : ztbl[557]? = some (.code (zY 79) (zB 79) (zL 79) (zR 79)) := rfl
set_option maxRecDepth 100000 in
theorem zc80 : ztbl[593]? = some (.code (zY 80) (zB 80) (zL 80) (zR 80)) := rfl
set_option maxRecDepth 100000 in
theorem zc81 : ztbl[631]? = some (.code (zY 81) (zB 81) (zL 81) (zR 81)) := rfl
set_option maxRecDepth 100000 in
theorem zc82 : ztbl[647]? = some (.code (zY 82) (zB 82) (zL 82) (zR 82)) := rfl
set_option maxRecDepth 100000 in
theorem zc83 : ztbl[794]? = some (.code (zY 83) (zB 83) (zL 83) (zR 83)) := rfl
set_option maxRecDepth 100000 in
theorem zc84 : ztbl[872]? = some (.code (zY 84) (zB 84) (zL 84) (zR 84)) := rfl
set_option maxRecDepth 100000 in
theorem zc85 : ztbl[917]? = some (.code (zY 85) (zB 85) (zL 85) (zR 85)) := rfl
set_option maxRecDepth 100000 in
theorem zc86 : ztbl[921]? = some (.code (zY 86) (zB 86) (zL 86) (zR 86)) := rfl
set_option maxRecDepth 100000 in
theorem zc87 : ztbl[929]? = some (.code (zY 87) (zB 87) (zL 87) (zR 87)) := rfl
set_option maxRecDepth 100000 in
theorem zc88 : ztbl[997]? = some (.code (zY 88) (zB 88) (zL 88) (zR 88)) := rfl
set_option maxRecDepth 100000 in
theorem zc89 : ztbl[977]? = some (.code (zY 89) (zB 89) (zL 89) (zR 89)) := rfl
set_option maxRecDepth 100000 in
theorem zc90 : ztbl[945]? = some (.code (zY 90) (zB 90) (zL 90) (zR 90)) := rfl
set_option maxRecDepth 100000 in
theorem zc91 : ztbl[953]? = some (.code (zY 91) (zB 91) (zL 91) (zR 91)) := rfl
set_option maxRecDepth 100000 in
theorem zc92 : ztbl[957]? = some (.code (zY 92) (zB 92) (zL 92) (zR 92)) := rfl
set_option maxRecDepth 100000 in
theorem zc93 : ztbl[914]? = some (.code (zY 93) (zB 93) (zL 93) (zR 93)) := rfl
set_option maxRecDepth 100000 in
theorem zc94 : ztbl[925]? = some (.code (zY 94) (zB 94) (zL 94) (zR 94)) := rfl
set_option maxRecDepth 100000 in
theorem zc95 : ztbl[933]? = some (.code (zY 95) (zB 95) (zL 95) (zR 95)) := rfl
set_option maxRecDepth 100000 in
theorem zc96 : ztbl[965]? = some (.code (zY 96) (zB 96) (zL 96) (zR 96)) := rfl
set_option maxRecDepth 100000 in
theorem zc97 : ztbl[961]? = some (.code (zY 97) (zB 97) (zL 97) (zR 97)) := rfl
set_option maxRecDepth 100000 in
theorem zc98 : ztbl[981]? = some (.code (zY 98) (zB 98) (zL 98) (zR 98)) := rfl
set_option maxRecDepth 100000 in
theorem zc99 : ztbl[973]? = some (.code (zY 99) (zB 99) (zL 99) (zR 99)) := rfl
set_option maxRecDepth 100000 in
theorem zc100 : ztbl[969]? = some (.code (zY 100) (zB 100) (zL 100) (zR 100)) := rfl
set_option maxRecDepth 100000 in
theorem zc101 : ztbl[985]? = some (.code (zY 101) (zB 101) (zL 101) (zR 101)) := rfl
set_option maxRecDepth 100000 in
theorem zc102 : ztbl[949]? = some (.code (zY 102) (zB 102) (zL 102) (zR 102)) := rfl
set_option maxRecDepth 100000 in
theorem zc103 : ztbl[941]? = some (.code (zY 103) (zB 103) (zL 103) (zR 103)) := rfl
set_option maxRecDepth 100000 in
theorem zc104 : ztbl[989]? = some (.code (zY 104) (zB 104) (zL 104) (zR 104)) := rfl
set_option maxRecDepth 100000 in
theorem zc105 : ztbl[1001]? = some (.code (zY 105) (zB 105) (zL 105) (zR 105)) := rfl
set_option maxRecDepth 100000 in
theorem zc106 : ztbl[937]? = some (.code (zY 106) (zB 106) (zL 106) (zR 106)) := rfl
set_option maxRecDepth 100000 in
theorem zc107 : ztbl[993]? = some (.code (zY 107) (zB 107) (zL 107) (zR 107)) := rfl
set_option maxRecDepth 100000 in
theorem zc108 : ztbl[1009]? = some (.code (zY 108) (zB 108) (zL 108) (zR 108)) := rfl
set_option maxRecDepth 100000 in
theorem zc109 : ztbl[1005]? = some (.code (zY 109) (zB 109) (zL 109) (zR 109)) := rfl
set_option maxRecDepth 100000 in
theorem zc110 : ztbl[1021]? = some (.code (zY 110) (zB 110) (zL 110) (zR 110)) := rfl
set_option maxRecDepth 100000 in
theorem zc111 : ztbl[1017]? = some (.code (zY 111) (zB 111) (zL 111) (zR 111)) := rfl
set_option maxRecDepth 100000 in
theorem zc112 : ztbl[1013]? = some (.code (zY 112) (zB 112) (zL 112) (zR 112)) := rfl
set_option maxRecDepth 100000 in
theorem zc113 : ztbl[1033]? = some (.code (zY 113) (zB 113) (zL 113) (zR 113)) := rfl
set_option maxRecDepth 100000 in
theorem zc114 : ztbl[1029]? = some (.code (zY 114) (zB 114) (zL 114) (zR 114)) := rfl
set_option maxRecDepth 100000 in
theorem zc115 : ztbl[1025]? = some (.code (zY 115) (zB 115) (zL 115) (zR 115)) := rfl
set_option maxRecDepth 100000 in
theorem zc116 : ztbl[1037]? = some (.code (zY 116) (zB 116) (zL 116) (zR 116)) := rfl
set_option maxRecDepth 100000 in
theorem zc117 : ztbl[1041]? = some (.code (zY 117) (zB 117) (zL 117) (zR 117)) := rfl
set_option maxRecDepth 100000 in
theorem zc118 : ztbl[1049]? = some (.code (zY 118) (zB 118) (zL 118) (zR 118)) := rfl
set_option maxRecDepth 100000 in
theorem zc119 : ztbl[1045]? = some (.code (zY 119) (zB 119) (zL 119) (zR 119)) := rfl
set_option maxRecDepth 100000 in
theorem zc120 : ztbl[1057]? = some (.code (zY 120) (zB 120) (zL 120) (zR 120)) := rfl
set_option maxRecDepth 100000 in
theorem zc121 : ztbl[1053]? = some (.code (zY 121) (zB 121) (zL 121) (zR 121)) := rfl
set_option maxRecDepth 100000 in
theorem zc122 : ztbl[1065]? = some (.code (zY 122) (zB 122) (zL 122) (zR 122)) := rfl
set_option maxRecDepth 100000 in
theorem zc123 : ztbl[1061]? = some (.code (zY 123) (zB 123) (zL 123) (zR 123)) := rfl
set_option maxRecDepth 100000 in
theorem zc124 : ztbl[1069]? = some (.code (zY 124) (zB 124) (zL 124) (zR 124)) := rfl
set_option maxRecDepth 100000 in
theorem zc125 : ztbl[1073]? = some (.code (zY 125) (zB 125) (zL 125) (zR 125)) := rfl
set_option maxRecDepth 100000 in
theorem zc126 : ztbl[1080]? = some (.code (zY 126) (zB 126) (zL 126) (zR 126)) := rfl
set_option maxRecDepth 100000 in
theorem zc127 : ztbl[1077]? = some (.code (zY 127) (zB 127) (zL 127) (zR 127)) := rfl
set_option maxRecDepth 100000 in
theorem zc128 : ztbl[1084]? = some (.code (zY 128) (zB 128) (zL 128) (zR 128)) := rfl
set_option maxRecDepth 100000 in
theorem zc129 : ztbl[1092]? = some (.code (zY 129) (zB 129) (zL 129) (zR 129)) := rfl
set_option maxRecDepth 100000 in
theorem zc130 : ztbl[1088]? = some (.code (zY 130) (zB 130) (zL 130) (zR 130)) := rfl
set_option maxRecDepth 100000 in
theorem zc131 : ztbl[1096]? = some (.code (zY 131) (zB 131) (zL 131) (zR 131)) := rfl
set_option maxRecDepth 100000 in
theorem zc132 : ztbl[1104]? = some (.code (zY 132) (zB 132) (zL 132) (zR 132)) := rfl
set_option maxRecDepth 100000 in
theorem zc133 : ztbl[1112]? = some (.code (zY 133) (zB 133) (zL 133) (zR 133)) := rfl
set_option maxRecDepth 100000 in
theorem zc134 : ztbl[1108]? = some (.code (zY 134) (zB 134) (zL 134) (zR 134)) := rfl
set_option maxRecDepth 100000 in
theorem zc135 : ztbl[1100]? = some (.code (zY 135) (zB 135) (zL 135) (zR 135)) := rfl
set_option maxRecDepth 100000 in
theorem zc136 : ztbl[1116]? = some (.code (zY 136) (zB 136) (zL 136) (zR 136)) := rfl
set_option maxRecDepth 100000 in
theorem zc137 : ztbl[1120]? = some (.code (zY 137) (zB 137) (zL 137) (zR 137)) := rfl
set_option maxRecDepth 100000 in
theorem zc139 : ztbl[305]? = some (.code (zY 139) (zB 139) (zL 139) (zR 139)) := rfl
set_option maxRecDepth 100000 in
theorem zc140 : ztbl[799]? = some (.code (zY 140) (zB 140) (zL 140) (zR 140)) := rfl
set_option maxRecDepth 100000 in
theorem zc141 : ztbl[753]? = some (.code (zY 141) (zB 141) (zL 141) (zR 141)) := rfl
set_option maxRecDepth 100000 in
theorem zc142 : ztbl[705]? = some (.code (zY 142) (zB 142) (zL 142) (zR 142)) := rfl
set_option maxRecDepth 100000 in
theorem zc143 : ztbl[845]? = some (.code (zY 143) (zB 143) (zL 143) (zR 143)) := rfl
set_option maxRecDepth 100000 in
theorem zc144 : ztbl[651]? = some (.code (zY 144) (zB 144) (zL 144) (zR 144)) := rfl
set_option maxRecDepth 100000 in
theorem zc145 : ztbl[838]? = some (.code (zY 145) (zB 145) (zL 145) (zR 145)) := rfl
set_option maxRecDepth 100000 in
theorem zc146 : ztbl[308]? = some (.code (zY 146) (zB 146) (zL 146) (zR 146)) := rfl
set_option maxRecDepth 100000 in
theorem zc147 : ztbl[841]? = some (.code (zY 147) (zB 147) (zL 147) (zR 147)) := rfl
set_option maxRecDepth 100000 in
theorem zc148 : ztbl[658]? = some (.code (zY 148) (zB 148) (zL 148) (zR 148)) := rfl
set_option maxRecDepth 100000 in
theorem zc149 : ztbl[662]? = some (.code (zY 149) (zB 149) (zL 149) (zR 149)) := rfl
set_option maxRecDepth 100000 in
theorem zc150 : ztbl[654]? = some (.code (zY 150) (zB 150) (zL 150) (zR 150)) := rfl
set_option maxRecDepth 100000 in
theorem zc151 : ztbl[848]? = some (.code (zY 151) (zB 151) (zL 151) (zR 151)) := rfl
set_option maxRecDepth 100000 in
theorem zc152 : ztbl[802]? = some (.code (zY 152) (zB 152) (zL 152) (zR 152)) := rfl
set_option maxRecDepth 100000 in
theorem zc153 : ztbl[756]? = some (.code (zY 153) (zB 153) (zL 153) (zR 153)) := rfl
set_option maxRecDepth 100000 in
theorem zc154 : ztbl[708]? = some (.code (zY 154) (zB 154) (zL 154) (zR 154)) := rfl
set_option maxRecDepth 100000 in
theorem zc155 : ztbl[688]? = some (.code (zY 155) (zB 155) (zL 155) (zR 155)) := rfl
set_option maxRecDepth 100000 in
theorem zc156 : ztbl[826]? = some (.code (zY 156) (zB 156) (zL 156) (zR 156)) := rfl
set_option maxRecDepth 100000 in
theorem zc157 : ztbl[822]? = some (.code (zY 157) (zB 157) (zL 157) (zR 157)) := rfl
set_option maxRecDepth 100000 in
theorem zc158 : ztbl[714]? = some (.code (zY 158) (zB 158) (zL 158) (zR 158)) := rfl
set_option maxRecDepth 100000 in
theorem zc159 : ztbl[711]? = some (.code (zY 159) (zB 159) (zL 159) (zR 159)) := rfl
set_option maxRecDepth 100000 in
theorem zc160 : ztbl[813]? = some (.code (zY 160) (zB 160) (zL 160) (zR 160)) := rfl
set_option maxRecDepth 100000 in
theorem zc161 : ztbl[831]? = some (.code (zY 161) (zB 161) (zL 161) (zR 161)) := rfl
set_option maxRecDepth 100000 in
theorem zc162 : ztbl[817]? = some (.code (zY 162) (zB 162) (zL 162) (zR 162)) := rfl
set_option maxRecDepth 100000 in
theorem zc163 : ztbl[787]? = some (.code (zY 163) (zB 163) (zL 163) (zR 163)) := rfl
set_option maxRecDepth 100000 in
theorem zc164 : ztbl[759]? = some (.code (zY 164) (zB 164) (zL 164) (zR 164)) := rfl
set_option maxRecDepth 100000 in
theorem zc165 : ztbl[674]? = some (.code (zY 165) (zB 165) (zL 165) (zR 165)) := rfl
set_option maxRecDepth 100000 in
theorem zc166 : ztbl[665]? = some (.code (zY 166) (zB 166) (zL 166) (zR 166)) := rfl
set_option maxRecDepth 100000 in
theorem zc167 : ztbl[790]? = some (.code (zY 167) (zB 167) (zL 167) (zR 167)) := rfl
theorem zcode_ok : ∀ M, M < 168 → M ≠ 138 → Cond.code (zY M) (zB M) (zL M) (zR M) ∈ zgw := fun M hM hl => match M, hM, hl with
  | 0, _, _ => zgw_mem zc0 rfl
  | 1, _, _ => zgw_mem zc1 rfl
  | 2, _, _ => zgw_mem zc2 rfl
  | 3, _, _ => zgw_mem zc3 rfl
  | 4, _, _ => zgw_mem zc4 rfl
  | 5, _, _ => zgw_mem zc5 rfl
  | 6, _, _ => zgw_mem zc6 rfl
  | 7, _, _ => zgw_mem zc7 rfl
  | 8, _, _ => zgw_mem zc8 rfl
  | 9, _, _ => zgw_mem zc9 rfl
  | 10, _, _ => zgw_mem zc10 rfl
  | 11, _, _ => zgw_mem zc11 rfl
  | 12, _, _ => zgw_mem zc12 rfl
  | 13, _, _ => zgw_mem zc13 rfl
  | 14, _, _ => zgw_mem zc14 rfl
  | 15, _, _ => zgw_mem zc15 rfl
  | 16, _, _ => zgw_mem zc16 rfl
  | 17, _, _ => zgw_mem zc17 rfl
  | 18, _, _ => zgw_mem zc18 rfl
  | 19, _, _ => zgw_mem zc19 rfl
  | 20, _, _ => zgw_mem zc20 rfl
  | 21, _, _ => zgw_mem zc21 rfl
  | 22, _, _ => zgw_mem zc22 rfl
  | 23, _, _ => zgw_mem zc23 rfl
  | 24, _, _ => zgw_mem zc24 rfl
  | 25, _, _ => zgw_mem zc25 rfl
  | 26, _, _ => zgw_mem zc26 rfl
  | 27, _, _ => zgw_mem zc27 rfl
  | 28, _, _ => zgw_mem zc28 rfl
  | 29, _, _ => zgw_mem zc29 rfl
  | 30, _, _ => zgw_mem zc30 rfl
  | 31, _, _ => zgw_mem zc31 rfl
  | 32, _, _ => zgw_mem zc32 rfl
  | 33, _, _ => zgw_mem zc33 rfl
  | 34, _, _ => zgw_mem zc34 rfl
  | 35, _, _ => zgw_mem zc35 rfl
  | 36, _, _ => zgw_mem zc36 rfl
  | 37, _, _ => zgw_mem zc37 rfl
  | 38, _, _ => zgw_mem zc38 rfl
  | 39, _, _ => zgw_mem zc39 rfl
  | 40, _, _ => zgw_mem zc40 rfl
  | 41, _, _ => zgw_mem zc41 rfl
  | 42, _, _ => zgw_mem zc42 rfl
  | 43, _, _ => zgw_mem zc43 rfl
  | 44, _, _ => zgw_mem zc44 rfl
  | 45, _, _ => zgw_mem zc45 rfl
  | 46, _, _ => zgw_mem zc46 rfl
  | 47, _, _ => zgw_mem zc47 rfl
  | 48, _, _ => zgw_mem zc48 rfl
  | 49, _, _ => zgw_mem zc49 rfl
  | 50, _, _ => zgw_mem zc50 rfl
  | 51, _, _ => zgw_mem zc51 rfl
  | 52, _, _ => zgw_mem zc52 rfl
  | 53, _, _ => zgw_mem zc53 rfl
  | 54, _, _ => zgw_mem zc54 rfl
  | 55, _, _ => zgw_mem zc55 rfl
  | 56, _, _ => zgw_mem zc56 rfl
  | 57, _, _ => zgw_mem zc57 rfl
  | 58, _, _ => zgw_mem zc58 rfl
  | 59, _, _ => zgw_mem zc59 rfl
  | 60, _, _ => zgw_mem zc60 rfl
  | 61, _, _ => zgw_mem zc61 rfl
  | 62, _, _ => zgw_mem zc62 rfl
  | 63, _, _ => zgw_mem zc63 rfl
  | 64, _, _ => zgw_mem zc64 rfl
  | 65, _, _ => zgw_mem zc65 rfl
  | 66, _, _ => zgw_mem zc66 rfl
  | 67, _, _ => zgw_mem zc67 rfl
  | 68, _, _ => zgw_mem zc68 rfl
  | 69, _, _ => zgw_mem zc69 rfl
  | 70, _, _ => zgw_mem zc70 rfl
  | 71, _, _ => zgw_mem zc71 rfl
  | 72, _, _ => zgw_mem zc72 rfl
  | 73, _, _ => zgw_mem zc73 rfl
  | 74, _, _ => zgw_mem zc74 rfl
  | 75, _, _ => zgw_mem zc75 rfl
  | 76, _, _ => zgw_mem zc76 rfl
  | 77, _, _ => zgw_mem zc77 rfl
  | 78, _, _ => zgw_mem zc78 rfl
  | 79, _, _ => zgw_mem zc79 rfl
  | 80, _, _ => zgw_mem zc80 rfl
  | 81, _, _ => zgw_mem zc81 rfl
  | 82, _, _ => zgw_mem zc82 rfl
  | 83, _, _ => zgw_mem zc83 rfl
  | 84, _, _ => zgw_mem zc84 rfl
  | 85, _, _ => zgw_mem zc85 rfl
  | 86, _, _ => zgw_mem zc86 rfl
  | 87, _, _ => zgw_mem zc87 rfl
  | 88, _, _ => zgw_mem zc88 rfl
  | 89, _, _ => zgw_mem zc89 rfl
  | 90, _, _ => zgw_mem zc90 rfl
  | 91, _, _ => zgw_mem zc91 rfl
  | 92, _, _ => zgw_mem zc92 rfl
  | 93, _, _ => zgw_mem zc93 rfl
  | 94, _, _ => zgw_mem zc94 rfl
  | 95, _, _ => zgw_mem zc95 rfl
  | 96, _, _ => zgw_mem zc96 rfl
  | 97, _, _ => zgw_mem zc97 rfl
  | 98, _, _ => zgw_mem zc98 rfl
  | 99, _, _ => zgw_mem zc99 rfl
  | 100, _, _ => zgw_mem zc100 rfl
  | 101, _, _ => zgw_mem zc101 rfl
  | 102, _, _ => zgw_mem zc102 rfl
  | 103, _, _ => zgw_mem zc103 rfl
  | 104, _, _ => zgw_mem zc104 rfl
  | 105, _, _ => zgw_mem zc105 rfl
  | 106, _, _ => zgw_mem zc106 rfl
  | 107, _, _ => zgw_mem zc107 rfl
  | 108, _, _ => zgw_mem zc108 rfl
  | 109, _, _ => zgw_mem zc109 rfl
  | 110, _, _ => zgw_mem zc110 rfl
  | 111, _, _ => zgw_mem zc111 rfl
  | 112, _, _ => zgw_mem zc112 rfl
  | 113, _, _ => zgw_mem zc113 rfl
  | 114, _, _ => zgw_mem zc114 rfl
  | 115, _, _ => zgw_mem zc115 rfl
  | 116, _, _ => zgw_mem zc116 rfl
  | 117, _, _ => zgw_mem zc117 rfl
  | 118, _, _ => zgw_mem zc118 rfl
  | 119, _, _ => zgw_mem zc119 rfl
  | 120, _, _ => zgw_mem zc120 rfl
  | 121, _, _ => zgw_mem zc121 rfl
  | 122, _, _ => zgw_mem zc122 rfl
  | 123, _, _ => zgw_mem zc123 rfl
  | 124, _, _ => zgw_mem zc124 rfl
  | 125, _, _ => zgw_mem zc125 rfl
  | 126, _, _ => zgw_mem zc126 rfl
  | 127, _, _ => zgw_mem zc127 rfl
  | 128, _, _ => zgw_mem zc128 rfl
  | 129, _, _ => zgw_mem zc129 rfl
  | 130, _, _ => zgw_mem zc130 rfl
  | 131, _, _ => zgw_mem zc131 rfl
  | 132, _, _ => zgw_mem zc132 rfl
  | 133, _, _ => zgw_mem zc133 rfl
  | 134, _, _ => zgw_mem zc134 rfl
  | 135, _, _ => zgw_mem zc135 rfl
  | 136, _, _ => zgw_mem zc136 rfl
  | 137, _, _ => zgw_mem zc137 rfl
  | 138, _, h => absurd rfl h
  | 139, _, _ => zgw_mem zc139 rfl
  | 140, _, _ => zgw_mem zc140 rfl
  | 141, _, _ => zgw_mem zc141 rfl
  | 142, _, _ => zgw_mem zc142 rfl
  | 143, _, _ => zgw_mem zc143 rfl
  | 144, _, _ => zgw_mem zc144 rfl
  | 145, _, _ => zgw_mem zc145 rfl
  | 146, _, _ => zgw_mem zc146 rfl
  | 147, _, _ => zgw_mem zc147 rfl
  | 148, _, _ => zgw_mem zc148 rfl
  | 149, _, _ => zgw_mem zc149 rfl
  | 150, _, _ => zgw_mem zc150 rfl
  | 151, _, _ => zgw_mem zc151 rfl
  | 152, _, _ => zgw_mem zc152 rfl
  | 153, _, _ => zgw_mem zc153 rfl
  | 154, _, _ => zgw_mem zc154 rfl
  | 155, _, _ => zgw_mem zc155 rfl
  | 156, _, _ => zgw_mem zc156 rfl
  | 157, _, _ => zgw_mem zc157 rfl
  | 158, _, _ => zgw_mem zc158 rfl
  | 159, _, _ => zgw_mem zc159 rfl
  | 160, _, _ => zgw_mem zc160 rfl
  | 161, _, _ => zgw_mem zc161 rfl
  | 162, _, _ => zgw_mem zc162 rfl
  | 163, _, _ => zgw_mem zc163 rfl
  | 164, _, _ => zgw_mem zc164 rfl
  | 165, _, _ => zgw_mem zc165 rfl
  | 166, _, _ => zgw_mem zc166 rfl
  | 167, _, _ => zgw_mem zc167 rfl
  | n + 168, h, _ => absurd h (by omega)
theorem zcls_all : (List.range 168).all (fun M => decide ((zY M).cls = zcn (zK M)) && decide (zL M ≤ 10) && Jvm.plainName (zY M).cls) = true := by decide +kernel
def zlay : List (List Nat) := [[323, 325, 327, 329], [164, 166, 168, 170], [284, 286, 288, 290, 292, 294, 296, 298], [235, 237, 239], [191, 193, 195, 197, 199], [113, 115, 117, 119, 121], [142, 144, 146, 148, 150], [256, 258, 260, 262, 264, 266], [213, 215, 217, 219], [338, 340, 342, 344, 346], [886, 888, 890, 892, 894, 896, 898, 900, 902, 904, 906, 908]]
set_option maxRecDepth 100000 in
theorem zin0 : ∀ w ∈ u_ws (RJ4) (TJ4) 4, w ∈ zgw := by
  have h : ∀ j, j < 4 → ztbl[([323, 325, 327, 329] : List Nat).getD j 0]? = some (u_lay (RJ4) (TJ4) j) ∧ goodWord (u_lay (RJ4) (TJ4) j) = true := by decide +kernel
  intro w hw
  obtain ⟨j, hj, rfl⟩ := List.mem_map.mp hw
  exact zgw_mem (h j (List.mem_range.mp hj)).1 (h j (List.mem_range.mp hj)).2
set_option maxRecDepth 100000 in
theorem zin1 : ∀ w ∈ u_ws (RX0) (TX0) 4, w ∈ zgw := by
  have h : ∀ j, j < 4 → ztbl[([164, 166, 168, 170] : List Nat).getD j 0]? = some (u_lay (RX0) (TX0) j) ∧ goodWord (u_lay (RX0) (TX0) j) = true := by decide +kernel
  intro w hw
  obtain ⟨j, hj, rfl⟩ := List.mem_map.mp hw
  exact zgw_mem (h j (List.mem_range.mp hj)).1 (h j (List.mem_range.mp hj)).2
set_option maxRecDepth 100000 in
theorem zin2 : ∀ w ∈ u_ws (RX1) (TX1) 8, w ∈ zgw := by
  have h : ∀ j, j < 8 → ztbl[([284, 286, 288, 290, 292, 294, 296, 298] : List Nat).getD j 0]? = some (u_lay (RX1) (TX1) j) ∧ goodWord (u_lay (RX1) (TX1) j) = true := by decide +kernel
  intro w hw
  obtain ⟨j, hj, rfl⟩ := List.mem_map.mp hw
  exact zgw_mem (h j (List.mem_range.mp hj)).1 (h j (List.mem_range.mp hj)).2
set_option maxRecDepth 100000 in
theorem zin3 : ∀ w ∈ u_ws (RX2) (TX2) 3, w ∈ zgw := by
  have h : ∀ j, j < 3 → ztbl[([235, 237, 239] : List Nat).getD j 0]? = some (u_lay (RX2) (TX2) j) ∧ goodWord (u_lay (RX2) (TX2) j) = true := by decide +kernel
  intro w hw
  obtain ⟨j, hj, rfl⟩ := List.mem_map.mp hw
  exact zgw_mem (h j (List.mem_range.mp hj)).1 (h j (List.mem_range.mp hj)).2
set_option maxRecDepth 100000 in
theorem zin4 : ∀ w ∈ u_ws (RX3) (TX3) 5, w ∈ zgw := by
  have h : ∀ j, j < 5 → ztbl[([191, 193, 195, 197, 199] : List Nat).getD j 0]? = some (u_lay (RX3) (TX3) j) ∧ goodWord (u_lay (RX3) (TX3) j) = true := by decide +kernel
  intro w hw
  obtain ⟨j, hj, rfl⟩ := List.mem_map.mp hw
  exact zgw_mem (h j (List.mem_range.mp hj)).1 (h j (List.mem_range.mp hj)).2
set_option maxRecDepth 100000 in
theorem zin5 : ∀ w ∈ u_ws (RX4) (TX4) 5, w ∈ zgw := by
  have h : ∀ j, j < 5 → ztbl[([113, 115, 117, 119, 121] : List Nat).getD j 0]? = some (u_lay (RX4) (TX4) j) ∧ goodWord (u_lay (RX4) (TX4) j) = true := by decide +kernel
  intro w hw
  obtain ⟨j, hj, rfl⟩ := List.mem_map.mp hw
  exact zgw_mem (h j (List.mem_range.mp hj)).1 (h j (List.mem_range.mp hj)).2
set_option maxRecDepth 100000 in
theorem zin6 : ∀ w ∈ u_ws (RX5) (TX5) 5, w ∈ zgw := by
  have h : ∀ j, j < 5 → ztbl[([142, 144, 146, 148, 150] : List Nat).getD j 0]? = some (u_lay (RX5) (TX5) j) ∧ goodWord (u_lay (RX5) (TX5) j) = true := by decide +kernel
  intro w hw
  obtain ⟨j, hj, rfl⟩ := List.mem_map.mp hw
  exact zgw_mem (h j (List.mem_range.mp hj)).1 (h j (List.mem_range.mp hj)).2
set_option maxRecDepth 100000 in
theorem zin7 : ∀ w ∈ u_ws (RX6) (TX6) 6, w ∈ zgw := by
  have h : ∀ j, j < 6 → ztbl[([256, 258, 260, 262, 264, 266] : List Nat).getD j 0]? = some (u_lay (RX6) (TX6) j) ∧ goodWord (u_lay (RX6) (TX6) j) = true := by decide +kernel
  intro w hw
  obtain ⟨j, hj, rfl⟩ := List.mem_map.mp hw
  exact zgw_mem (h j (List.mem_range.mp hj)).1 (h j (List.mem_range.mp hj)).2
set_option maxRecDepth 100000 in
theorem zin8 : ∀ w ∈ u_ws (RX7) (TX7) 4, w ∈ zgw := by
  have h : ∀ j, j < 4 → ztbl[([213, 215, 217, 219] : List Nat).getD j 0]? = some (u_lay (RX7) (TX7) j) ∧ goodWord (u_lay (RX7) (TX7) j) = true := by decide +kernel
  intro w hw
  obtain ⟨j, hj, rfl⟩ := List.mem_map.mp hw
  exact zgw_mem (h j (List.mem_range.mp hj)).1 (h j (List.mem_range.mp hj)).2
set_option maxRecDepth 100000 in
theorem zin9 : ∀ w ∈ u_ws (RX8) (TX8) 5, w ∈ zgw := by
  have h : ∀ j, j < 5 → ztbl[([338, 340, 342, 344, 346] : List Nat).getD j 0]? = some (u_lay (RX8) (TX8) j) ∧ goodWord (u_lay (RX8) (TX8) j) = true := by decide +kernel
  intro w hw
  obtain ⟨j, hj, rfl⟩ := List.mem_map.mp hw
  exact zgw_mem (h j (List.mem_range.mp hj)).1 (h j (List.mem_range.mp hj)).2
set_option maxRecDepth 100000 in
theorem zin10 : ∀ w ∈ u_ws (RX9) (TX9) 12, w ∈ zgw := by
  have h : ∀ j, j < 12 → ztbl[([886, 888, 890, 892, 894, 896, 898, 900, 902, 904, 906, 908] : List Nat).getD j 0]? = some (u_lay (RX9) (TX9) j) ∧ goodWord (u_lay (RX9) (TX9) j) = true := by decide +kernel
  intro w hw
  obtain ⟨j, hj, rfl⟩ := List.mem_map.mp hw
  exact zgw_mem (h j (List.mem_range.mp hj)).1 (h j (List.mem_range.mp hj)).2
