-- ===== PART A: goes FIRST, ahead of the names: the tables' words, and 'selects' of the private methods out of them =====
/-- a private method of a class that the tables say can be made, by its rows of tables_1 -/
def lw_okq (q : MethodName × Nat) : Prop := (q.1.cls ≠ "java/lang/invoke/MethodHandle" ∧ q.1.cls ≠ "java/lang/invoke/VarHandle") ∧ Cond.instantiable q.1.cls q.2 ∈ tables_1 ∧ Cond.privateMethod q.1 ∈ tables_1 ∧ Cond.instanceMethod q.1 ∈ tables_1
theorem lw_p0 : lw_okq (⟨"RadioWeek", "isProgramme", "(I)Z"⟩, 5) := ⟨⟨by decide +kernel, by decide +kernel⟩, List.mem_of_getElem? (i := 22) (by decide +kernel), List.mem_of_getElem? (i := 337) (by decide +kernel), List.mem_of_getElem? (i := 338) (by decide +kernel)⟩
theorem lw_p1 : lw_okq (⟨"RadioWeek", "isItem", "(I)Z"⟩, 5) := ⟨⟨by decide +kernel, by decide +kernel⟩, List.mem_of_getElem? (i := 22) (by decide +kernel), List.mem_of_getElem? (i := 360) (by decide +kernel), List.mem_of_getElem? (i := 361) (by decide +kernel)⟩
theorem lw_p2 : lw_okq (⟨"RadioWeek$Items", "move", "(II)V"⟩, 5) := ⟨⟨by decide +kernel, by decide +kernel⟩, List.mem_of_getElem? (i := 116) (by decide +kernel), List.mem_of_getElem? (i := 368) (by decide +kernel), List.mem_of_getElem? (i := 369) (by decide +kernel)⟩
theorem lw_p3 : lw_okq (⟨"RadioWeek", "earliestStart", "(II)I"⟩, 5) := ⟨⟨by decide +kernel, by decide +kernel⟩, List.mem_of_getElem? (i := 22) (by decide +kernel), List.mem_of_getElem? (i := 379) (by decide +kernel), List.mem_of_getElem? (i := 380) (by decide +kernel)⟩
theorem lw_p4 : lw_okq (⟨"RadioWeek", "obstacle", "(II)I"⟩, 5) := ⟨⟨by decide +kernel, by decide +kernel⟩, List.mem_of_getElem? (i := 22) (by decide +kernel), List.mem_of_getElem? (i := 386) (by decide +kernel), List.mem_of_getElem? (i := 387) (by decide +kernel)⟩
theorem lw_p5 : lw_okq (⟨"RadioWeek", "rightsAllow", "(III)Z"⟩, 5) := ⟨⟨by decide +kernel, by decide +kernel⟩, List.mem_of_getElem? (i := 22) (by decide +kernel), List.mem_of_getElem? (i := 398) (by decide +kernel), List.mem_of_getElem? (i := 399) (by decide +kernel)⟩
theorem lw_p6 : lw_okq (⟨"RadioWeek", "gatherItemsOf", "(I)V"⟩, 5) := ⟨⟨by decide +kernel, by decide +kernel⟩, List.mem_of_getElem? (i := 22) (by decide +kernel), List.mem_of_getElem? (i := 402) (by decide +kernel), List.mem_of_getElem? (i := 403) (by decide +kernel)⟩
theorem lw_p7 : lw_okq (⟨"RadioWeek$Uses", "rightFor", "(ILRadioWeek$Rights;)I"⟩, 6) := ⟨⟨by decide +kernel, by decide +kernel⟩, List.mem_of_getElem? (i := 185) (by decide +kernel), List.mem_of_getElem? (i := 420) (by decide +kernel), List.mem_of_getElem? (i := 421) (by decide +kernel)⟩
theorem lw_p8 : lw_okq (⟨"RadioWeek", "nextToTry", "(III)I"⟩, 5) := ⟨⟨by decide +kernel, by decide +kernel⟩, List.mem_of_getElem? (i := 22) (by decide +kernel), List.mem_of_getElem? (i := 432) (by decide +kernel), List.mem_of_getElem? (i := 433) (by decide +kernel)⟩
theorem lw_p9 : lw_okq (⟨"RadioWeek", "nextWindow", "(II)I"⟩, 5) := ⟨⟨by decide +kernel, by decide +kernel⟩, List.mem_of_getElem? (i := 22) (by decide +kernel), List.mem_of_getElem? (i := 436) (by decide +kernel), List.mem_of_getElem? (i := 437) (by decide +kernel)⟩
theorem lw_p10 : lw_okq (⟨"RadioWeek", "putOnAir", "(IIZ)I"⟩, 5) := ⟨⟨by decide +kernel, by decide +kernel⟩, List.mem_of_getElem? (i := 22) (by decide +kernel), List.mem_of_getElem? (i := 444) (by decide +kernel), List.mem_of_getElem? (i := 445) (by decide +kernel)⟩
theorem lw_p11 : lw_okq (⟨"RadioWeek", "shareRights", "()V"⟩, 5) := ⟨⟨by decide +kernel, by decide +kernel⟩, List.mem_of_getElem? (i := 22) (by decide +kernel), List.mem_of_getElem? (i := 464) (by decide +kernel), List.mem_of_getElem? (i := 465) (by decide +kernel)⟩
theorem lw_p12 : lw_okq (⟨"RadioWeek", "kindOf", "(I)I"⟩, 5) := ⟨⟨by decide +kernel, by decide +kernel⟩, List.mem_of_getElem? (i := 22) (by decide +kernel), List.mem_of_getElem? (i := 468) (by decide +kernel), List.mem_of_getElem? (i := 469) (by decide +kernel)⟩
theorem lw_p13 : lw_okq (⟨"RadioWeek$Filling", "settle", "(LRadioWeek$Week;I)V"⟩, 8) := ⟨⟨by decide +kernel, by decide +kernel⟩, List.mem_of_getElem? (i := 212) (by decide +kernel), List.mem_of_getElem? (i := 536) (by decide +kernel), List.mem_of_getElem? (i := 537) (by decide +kernel)⟩
theorem lw_p14 : lw_okq (⟨"RadioWeek$Filling", "itemsWith", "(ILRadioWeek$Week;I)I"⟩, 8) := ⟨⟨by decide +kernel, by decide +kernel⟩, List.mem_of_getElem? (i := 212) (by decide +kernel), List.mem_of_getElem? (i := 540) (by decide +kernel), List.mem_of_getElem? (i := 541) (by decide +kernel)⟩
theorem lw_p15 : lw_okq (⟨"RadioWeek$Filling", "choose", "(LRadioWeek$Programmes;I)I"⟩, 8) := ⟨⟨by decide +kernel, by decide +kernel⟩, List.mem_of_getElem? (i := 212) (by decide +kernel), List.mem_of_getElem? (i := 549) (by decide +kernel), List.mem_of_getElem? (i := 550) (by decide +kernel)⟩
def lw_privs_1 : List (MethodName × Nat) := [(⟨"RadioWeek", "isProgramme", "(I)Z"⟩, 5), (⟨"RadioWeek", "isItem", "(I)Z"⟩, 5), (⟨"RadioWeek$Items", "move", "(II)V"⟩, 5), (⟨"RadioWeek", "earliestStart", "(II)I"⟩, 5), (⟨"RadioWeek", "obstacle", "(II)I"⟩, 5), (⟨"RadioWeek", "rightsAllow", "(III)Z"⟩, 5), (⟨"RadioWeek", "gatherItemsOf", "(I)V"⟩, 5), (⟨"RadioWeek$Uses", "rightFor", "(ILRadioWeek$Rights;)I"⟩, 6), (⟨"RadioWeek", "nextToTry", "(III)I"⟩, 5), (⟨"RadioWeek", "nextWindow", "(II)I"⟩, 5), (⟨"RadioWeek", "putOnAir", "(IIZ)I"⟩, 5), (⟨"RadioWeek", "shareRights", "()V"⟩, 5), (⟨"RadioWeek", "kindOf", "(I)I"⟩, 5), (⟨"RadioWeek$Filling", "settle", "(LRadioWeek$Week;I)V"⟩, 8), (⟨"RadioWeek$Filling", "itemsWith", "(ILRadioWeek$Week;I)I"⟩, 8), (⟨"RadioWeek$Filling", "choose", "(LRadioWeek$Programmes;I)I"⟩, 8)]
theorem lw_r1 : ∀ q ∈ lw_privs_1, lw_okq q := List.forall_mem_cons.mpr ⟨lw_p0, List.forall_mem_cons.mpr ⟨lw_p1, List.forall_mem_cons.mpr ⟨lw_p2, List.forall_mem_cons.mpr ⟨lw_p3, List.forall_mem_cons.mpr ⟨lw_p4, List.forall_mem_cons.mpr ⟨lw_p5, List.forall_mem_cons.mpr ⟨lw_p6, List.forall_mem_cons.mpr ⟨lw_p7, List.forall_mem_cons.mpr ⟨lw_p8, List.forall_mem_cons.mpr ⟨lw_p9, List.forall_mem_cons.mpr ⟨lw_p10, List.forall_mem_cons.mpr ⟨lw_p11, List.forall_mem_cons.mpr ⟨lw_p12, List.forall_mem_cons.mpr ⟨lw_p13, List.forall_mem_cons.mpr ⟨lw_p14, List.forall_mem_cons.mpr ⟨lw_p15, fun _ h => absurd h List.not_mem_nil⟩⟩⟩⟩⟩⟩⟩⟩⟩⟩⟩⟩⟩⟩⟩⟩
theorem lw_p16 : lw_okq (⟨"RadioWeek", "makeRoomAfter", "(I)I"⟩, 5) := ⟨⟨by decide +kernel, by decide +kernel⟩, List.mem_of_getElem? (i := 22) (by decide +kernel), List.mem_of_getElem? (i := 557) (by decide +kernel), List.mem_of_getElem? (i := 558) (by decide +kernel)⟩
theorem lw_p17 : lw_okq (⟨"RadioWeek", "giveWay", "(II)Z"⟩, 5) := ⟨⟨by decide +kernel, by decide +kernel⟩, List.mem_of_getElem? (i := 22) (by decide +kernel), List.mem_of_getElem? (i := 561) (by decide +kernel), List.mem_of_getElem? (i := 562) (by decide +kernel)⟩
theorem lw_p18 : lw_okq (⟨"RadioWeek", "cut", "(II)Z"⟩, 5) := ⟨⟨by decide +kernel, by decide +kernel⟩, List.mem_of_getElem? (i := 22) (by decide +kernel), List.mem_of_getElem? (i := 565) (by decide +kernel), List.mem_of_getElem? (i := 566) (by decide +kernel)⟩
theorem lw_p19 : lw_okq (⟨"RadioWeek", "push", "(II)Z"⟩, 5) := ⟨⟨by decide +kernel, by decide +kernel⟩, List.mem_of_getElem? (i := 22) (by decide +kernel), List.mem_of_getElem? (i := 569) (by decide +kernel), List.mem_of_getElem? (i := 570) (by decide +kernel)⟩
theorem lw_p20 : lw_okq (⟨"RadioWeek", "drop", "(I)V"⟩, 5) := ⟨⟨by decide +kernel, by decide +kernel⟩, List.mem_of_getElem? (i := 22) (by decide +kernel), List.mem_of_getElem? (i := 573) (by decide +kernel), List.mem_of_getElem? (i := 574) (by decide +kernel)⟩
theorem lw_p21 : lw_okq (⟨"RadioWeek", "programmesAhead", "(I)I"⟩, 5) := ⟨⟨by decide +kernel, by decide +kernel⟩, List.mem_of_getElem? (i := 22) (by decide +kernel), List.mem_of_getElem? (i := 596) (by decide +kernel), List.mem_of_getElem? (i := 597) (by decide +kernel)⟩
theorem lw_p22 : lw_okq (⟨"RadioWeek", "writeLine", "(I)V"⟩, 5) := ⟨⟨by decide +kernel, by decide +kernel⟩, List.mem_of_getElem? (i := 22) (by decide +kernel), List.mem_of_getElem? (i := 608) (by decide +kernel), List.mem_of_getElem? (i := 609) (by decide +kernel)⟩
theorem lw_p23 : lw_okq (⟨"RadioWeek", "writeTwoDigits", "(I)V"⟩, 5) := ⟨⟨by decide +kernel, by decide +kernel⟩, List.mem_of_getElem? (i := 22) (by decide +kernel), List.mem_of_getElem? (i := 755) (by decide +kernel), List.mem_of_getElem? (i := 756) (by decide +kernel)⟩
def lw_privs_2 : List (MethodName × Nat) := [(⟨"RadioWeek", "makeRoomAfter", "(I)I"⟩, 5), (⟨"RadioWeek", "giveWay", "(II)Z"⟩, 5), (⟨"RadioWeek", "cut", "(II)Z"⟩, 5), (⟨"RadioWeek", "push", "(II)Z"⟩, 5), (⟨"RadioWeek", "drop", "(I)V"⟩, 5), (⟨"RadioWeek", "programmesAhead", "(I)I"⟩, 5), (⟨"RadioWeek", "writeLine", "(I)V"⟩, 5), (⟨"RadioWeek", "writeTwoDigits", "(I)V"⟩, 5)]
theorem lw_r2 : ∀ q ∈ lw_privs_2, lw_okq q := List.forall_mem_cons.mpr ⟨lw_p16, List.forall_mem_cons.mpr ⟨lw_p17, List.forall_mem_cons.mpr ⟨lw_p18, List.forall_mem_cons.mpr ⟨lw_p19, List.forall_mem_cons.mpr ⟨lw_p20, List.forall_mem_cons.mpr ⟨lw_p21, List.forall_mem_cons.mpr ⟨lw_p22, List.forall_mem_cons.mpr ⟨lw_p23, fun _ h => absurd h List.not_mem_nil⟩⟩⟩⟩⟩⟩⟩⟩
def lw_privs : List (MethodName × Nat) := lw_privs_1 ++ (lw_privs_2)
def lw_tbl : List Cond := k2_sels lw_privs ++ tables_1
theorem lw_privs_ok : ∀ q ∈ lw_privs, lw_okq q := by
  show ∀ q ∈ lw_privs_1 ++ (lw_privs_2), lw_okq q
  exact List.forall_mem_append.mpr ⟨lw_r1, lw_r2⟩
-- ===== names: classes, fields, methods, decode rows (out of claim/NAMES.whole.lean.txt, which a program printed of the classes) =====
def RX0 : String := "RadioWeek$Blackouts"
def TX0 : u_T := fun k => match k with
  | 0 => ("RadioWeek$Blackouts", "count", "I", false)
  | 1 => ("RadioWeek$Blackouts", "from", "[I", true)
  | 2 => ("RadioWeek$Blackouts", "to", "[I", true)
  | _ => ("RadioWeek$Blackouts", "rating", "[I", true)
def tyX0 : Nat → FieldType := fun k => match k with
  | 0 => .int
  | 1 => .array .int
  | 2 => .array .int
  | _ => .array .int
abbrev wsX00 : List Cond := u_ws RX0 TX0 4
theorem nmX0 : ∀ a, a < 4 → ∀ b, b < 4 → a ≠ b → (TX0 a).2.1 ≠ (TX0 b).2.1 := by decide +kernel
theorem tyX0_ok : ∀ k, k < 4 → parseFieldDescriptor (TX0 k).2.2.1 = some (tyX0 k) := by decide +kernel
def RX1 : String := "RadioWeek$Filling"
def TX1 : u_T := fun k => match k with
  | 0 => ("RadioWeek$Filling", "chosen", "[I", true)
  | 1 => ("RadioWeek$Filling", "from", "I", false)
  | 2 => ("RadioWeek$Filling", "length", "I", false)
  | 3 => ("RadioWeek$Filling", "fillerAfter", "I", false)
  | 4 => ("RadioWeek$Filling", "best", "[I", true)
  | 5 => ("RadioWeek$Filling", "fewest", "[I", true)
  | 6 => ("RadioWeek$Filling", "second", "[I", true)
  | _ => ("RadioWeek$Filling", "fewestOfSecond", "[I", true)
def tyX1 : Nat → FieldType := fun k => match k with
  | 0 => .array .int
  | 1 => .int
  | 2 => .int
  | 3 => .int
  | 4 => .array .int
  | 5 => .array .int
  | 6 => .array .int
  | _ => .array .int
abbrev wsX10 : List Cond := u_ws RX1 TX1 8
theorem nmX1 : ∀ a, a < 8 → ∀ b, b < 8 → a ≠ b → (TX1 a).2.1 ≠ (TX1 b).2.1 := by decide +kernel
theorem tyX1_ok : ∀ k, k < 8 → parseFieldDescriptor (TX1 k).2.2.1 = some (tyX1 k) := by decide +kernel
def RX2 : String := "RadioWeek$History"
def TX2 : u_T := fun k => match k with
  | 0 => ("RadioWeek$History", "count", "I", false)
  | 1 => ("RadioWeek$History", "oldest", "I", false)
  | _ => ("RadioWeek$History", "states", "[LRadioWeek$Week;", true)
def tyX2 : Nat → FieldType := fun k => match k with
  | 0 => .int
  | 1 => .int
  | _ => .array (.object "RadioWeek$Week")
abbrev wsX20 : List Cond := u_ws RX2 TX2 3
theorem nmX2 : ∀ a, a < 3 → ∀ b, b < 3 → a ≠ b → (TX2 a).2.1 ≠ (TX2 b).2.1 := by decide +kernel
theorem tyX2_ok : ∀ k, k < 3 → parseFieldDescriptor (TX2 k).2.2.1 = some (tyX2 k) := by decide +kernel
def RX3 : String := "RadioWeek$Items"
def TX3 : u_T := fun k => match k with
  | 0 => ("RadioWeek$Items", "count", "I", false)
  | 1 => ("RadioWeek$Items", "programme", "[I", true)
  | 2 => ("RadioWeek$Items", "start", "[I", true)
  | 3 => ("RadioWeek$Items", "length", "[I", true)
  | _ => ("RadioWeek$Items", "fixed", "[I", true)
def tyX3 : Nat → FieldType := fun k => match k with
  | 0 => .int
  | 1 => .array .int
  | 2 => .array .int
  | 3 => .array .int
  | _ => .array .int
abbrev wsX30 : List Cond := u_ws RX3 TX3 5
theorem nmX3 : ∀ a, a < 5 → ∀ b, b < 5 → a ≠ b → (TX3 a).2.1 ≠ (TX3 b).2.1 := by decide +kernel
theorem tyX3_ok : ∀ k, k < 5 → parseFieldDescriptor (TX3 k).2.2.1 = some (tyX3 k) := by decide +kernel
def RX4 : String := "RadioWeek$Programmes"
def TX4 : u_T := fun k => match k with
  | 0 => ("RadioWeek$Programmes", "count", "I", false)
  | 1 => ("RadioWeek$Programmes", "kind", "[I", true)
  | 2 => ("RadioWeek$Programmes", "length", "[I", true)
  | 3 => ("RadioWeek$Programmes", "rating", "[I", true)
  | _ => ("RadioWeek$Programmes", "playsOwed", "[I", true)
def tyX4 : Nat → FieldType := fun k => match k with
  | 0 => .int
  | 1 => .array .int
  | 2 => .array .int
  | 3 => .array .int
  | _ => .array .int
abbrev wsX40 : List Cond := u_ws RX4 TX4 5
theorem nmX4 : ∀ a, a < 5 → ∀ b, b < 5 → a ≠ b → (TX4 a).2.1 ≠ (TX4 b).2.1 := by decide +kernel
theorem tyX4_ok : ∀ k, k < 5 → parseFieldDescriptor (TX4 k).2.2.1 = some (tyX4 k) := by decide +kernel
def RX5 : String := "RadioWeek$Rights"
def TX5 : u_T := fun k => match k with
  | 0 => ("RadioWeek$Rights", "count", "I", false)
  | 1 => ("RadioWeek$Rights", "programme", "[I", true)
  | 2 => ("RadioWeek$Rights", "from", "[I", true)
  | 3 => ("RadioWeek$Rights", "to", "[I", true)
  | _ => ("RadioWeek$Rights", "plays", "[I", true)
def tyX5 : Nat → FieldType := fun k => match k with
  | 0 => .int
  | 1 => .array .int
  | 2 => .array .int
  | 3 => .array .int
  | _ => .array .int
abbrev wsX50 : List Cond := u_ws RX5 TX5 5
theorem nmX5 : ∀ a, a < 5 → ∀ b, b < 5 → a ≠ b → (TX5 a).2.1 ≠ (TX5 b).2.1 := by decide +kernel
theorem tyX5_ok : ∀ k, k < 5 → parseFieldDescriptor (TX5 k).2.2.1 = some (tyX5 k) := by decide +kernel
def RX6 : String := "RadioWeek$Uses"
def TX6 : u_T := fun k => match k with
  | 0 => ("RadioWeek$Uses", "count", "I", false)
  | 1 => ("RadioWeek$Uses", "programme", "[I", true)
  | 2 => ("RadioWeek$Uses", "start", "[I", true)
  | 3 => ("RadioWeek$Uses", "end", "[I", true)
  | 4 => ("RadioWeek$Uses", "right", "[I", true)
  | _ => ("RadioWeek$Uses", "playsLeft", "[I", true)
def tyX6 : Nat → FieldType := fun k => match k with
  | 0 => .int
  | 1 => .array .int
  | 2 => .array .int
  | 3 => .array .int
  | 4 => .array .int
  | _ => .array .int
abbrev wsX60 : List Cond := u_ws RX6 TX6 6
theorem nmX6 : ∀ a, a < 6 → ∀ b, b < 6 → a ≠ b → (TX6 a).2.1 ≠ (TX6 b).2.1 := by decide +kernel
theorem tyX6_ok : ∀ k, k < 6 → parseFieldDescriptor (TX6 k).2.2.1 = some (tyX6 k) := by decide +kernel
def RX7 : String := "RadioWeek$Week"
def TX7 : u_T := fun k => match k with
  | 0 => ("RadioWeek$Week", "programmes", "LRadioWeek$Programmes;", true)
  | 1 => ("RadioWeek$Week", "rights", "LRadioWeek$Rights;", true)
  | 2 => ("RadioWeek$Week", "blackouts", "LRadioWeek$Blackouts;", true)
  | _ => ("RadioWeek$Week", "items", "LRadioWeek$Items;", true)
def tyX7 : Nat → FieldType := fun k => match k with
  | 0 => .object "RadioWeek$Programmes"
  | 1 => .object "RadioWeek$Rights"
  | 2 => .object "RadioWeek$Blackouts"
  | _ => .object "RadioWeek$Items"
abbrev wsX70 : List Cond := u_ws RX7 TX7 4
theorem nmX7 : ∀ a, a < 4 → ∀ b, b < 4 → a ≠ b → (TX7 a).2.1 ≠ (TX7 b).2.1 := by decide +kernel
theorem tyX7_ok : ∀ k, k < 4 → parseFieldDescriptor (TX7 k).2.2.1 = some (tyX7 k) := by decide +kernel
def RX8 : String := "RadioWeek"
def TX8 : u_T := fun k => match k with
  | 0 => ("RadioWeek", "now", "LRadioWeek$Week;", true)
  | 1 => ("RadioWeek", "history", "LRadioWeek$History;", true)
  | 2 => ("RadioWeek", "uses", "LRadioWeek$Uses;", true)
  | 3 => ("RadioWeek", "filling", "LRadioWeek$Filling;", true)
  | _ => ("RadioWeek", "text", "Ljava/lang/StringBuilder;", true)
def tyX8 : Nat → FieldType := fun k => match k with
  | 0 => .object "RadioWeek$Week"
  | 1 => .object "RadioWeek$History"
  | 2 => .object "RadioWeek$Uses"
  | 3 => .object "RadioWeek$Filling"
  | _ => .object "java/lang/StringBuilder"
abbrev wsX80 : List Cond := u_ws RX8 TX8 5
theorem nmX8 : ∀ a, a < 5 → ∀ b, b < 5 → a ≠ b → (TX8 a).2.1 ≠ (TX8 b).2.1 := by decide +kernel
theorem tyX8_ok : ∀ k, k < 5 → parseFieldDescriptor (TX8 k).2.2.1 = some (tyX8 k) := by decide +kernel
def RX9 : String := "RadioWeekModel"
def TX9 : u_T := fun k => match k with
  | _ => ("", "", "", false)
def tyX9 : Nat → FieldType := fun k => match k with
  | _ => .int
abbrev wsX90 : List Cond := u_ws RX9 TX9 0
theorem nmX9 : ∀ a, a < 0 → ∀ b, b < 0 → a ≠ b → (TX9 a).2.1 ≠ (TX9 b).2.1 := by decide +kernel
theorem tyX9_ok : ∀ k, k < 0 → parseFieldDescriptor (TX9 k).2.2.1 = some (tyX9 k) := by decide +kernel
def RJ5 : String := "java/lang/AbstractStringBuilder"
def RJ6 : String := "java/lang/Integer"
def RJ9 : String := "java/lang/Math"
def RJ0 : String := "java/lang/String"
def RJ4 : String := "java/lang/StringBuilder"
def TJ4 : u_T := fun k => match k with
  | 0 => ("java/lang/AbstractStringBuilder", "value", "[B", false)
  | 1 => ("java/lang/AbstractStringBuilder", "coder", "B", false)
  | 2 => ("java/lang/AbstractStringBuilder", "maybeLatin1", "Z", false)
  | _ => ("java/lang/AbstractStringBuilder", "count", "I", false)
def tyJ4 : Nat → FieldType := fun k => match k with
  | 0 => .array .byte
  | 1 => .byte
  | 2 => .boolean
  | _ => .int
abbrev wsJ40 : List Cond := u_ws RJ4 TJ4 4
theorem nmJ4 : ∀ a, a < 4 → ∀ b, b < 4 → a ≠ b → (TJ4 a).2.1 ≠ (TJ4 b).2.1 := by decide +kernel
theorem tyJ4_ok : ∀ k, k < 4 → parseFieldDescriptor (TJ4 k).2.2.1 = some (tyJ4 k) := by decide +kernel
def RJ1 : String := "java/lang/StringLatin1"
def RJ2 : String := "java/lang/StringUTF16"
def RJ10 : String := "java/lang/System"
def RJ7 : String := "java/util/Arrays"
def RJ8 : String := "jdk/internal/util/ArraysSupport"
def RJ3 : String := "jdk/internal/util/Preconditions"
def RL : String := "RadioWeekLaw"
abbrev cX0_init : ByteArray := prog_2_method_1_code
def yX0_init : MethodName := ⟨RX0, "<init>", "()V"⟩
abbrev cX0_append : ByteArray := prog_2_method_2_code
def yX0_append : MethodName := ⟨RX0, "append", "(III)I"⟩
abbrev cX0_darkUntil : ByteArray := prog_2_method_3_code
def yX0_darkUntil : MethodName := ⟨RX0, "darkUntil", "(III)I"⟩
abbrev cX0_copyFrom : ByteArray := prog_2_method_4_code
def yX0_copyFrom : MethodName := ⟨RX0, "copyFrom", "(LRadioWeek$Blackouts;)V"⟩
abbrev cX1_init : ByteArray := prog_3_method_1_code
def yX1_init : MethodName := ⟨RX1, "<init>", "()V"⟩
abbrev cX1_find : ByteArray := prog_3_method_2_code
def yX1_find : MethodName := ⟨RX1, "find", "(LRadioWeek$Week;II)I"⟩
abbrev cX1_fillerOf : ByteArray := prog_3_method_3_code
def yX1_fillerOf : MethodName := ⟨RX1, "fillerOf", "(LRadioWeek$Week;I)I"⟩
abbrev cX1_settle : ByteArray := prog_3_method_4_code
def yX1_settle : MethodName := ⟨RX1, "settle", "(LRadioWeek$Week;I)V"⟩
abbrev cX1_itemsWith : ByteArray := prog_3_method_5_code
def yX1_itemsWith : MethodName := ⟨RX1, "itemsWith", "(ILRadioWeek$Week;I)I"⟩
abbrev cX1_choose : ByteArray := prog_3_method_6_code
def yX1_choose : MethodName := ⟨RX1, "choose", "(LRadioWeek$Programmes;I)I"⟩
abbrev cX2_init : ByteArray := prog_4_method_1_code
def yX2_init : MethodName := ⟨RX2, "<init>", "()V"⟩
abbrev cX2_keep : ByteArray := prog_4_method_2_code
def yX2_keep : MethodName := ⟨RX2, "keep", "(LRadioWeek$Week;)V"⟩
abbrev cX2_takeBack : ByteArray := prog_4_method_3_code
def yX2_takeBack : MethodName := ⟨RX2, "takeBack", "(LRadioWeek$Week;)V"⟩
abbrev cX3_init : ByteArray := prog_5_method_1_code
def yX3_init : MethodName := ⟨RX3, "<init>", "()V"⟩
abbrev cX3_end : ByteArray := prog_5_method_2_code
def yX3_end : MethodName := ⟨RX3, "end", "(I)I"⟩
abbrev cX3_firstIn : ByteArray := prog_5_method_3_code
def yX3_firstIn : MethodName := ⟨RX3, "firstIn", "(II)I"⟩
abbrev cX3_beginningAt : ByteArray := prog_5_method_4_code
def yX3_beginningAt : MethodName := ⟨RX3, "beginningAt", "(I)I"⟩
abbrev cX3_endingAt : ByteArray := prog_5_method_5_code
def yX3_endingAt : MethodName := ⟨RX3, "endingAt", "(I)I"⟩
abbrev cX3_minutesIn : ByteArray := prog_5_method_6_code
def yX3_minutesIn : MethodName := ⟨RX3, "minutesIn", "(III)I"⟩
abbrev cX3_minutesOf : ByteArray := prog_5_method_7_code
def yX3_minutesOf : MethodName := ⟨RX3, "minutesOf", "(I)I"⟩
abbrev cX3_indexFor : ByteArray := prog_5_method_8_code
def yX3_indexFor : MethodName := ⟨RX3, "indexFor", "(I)I"⟩
abbrev cX3_insert : ByteArray := prog_5_method_9_code
def yX3_insert : MethodName := ⟨RX3, "insert", "(IIIIZ)V"⟩
abbrev cX3_delete : ByteArray := prog_5_method_10_code
def yX3_delete : MethodName := ⟨RX3, "delete", "(I)V"⟩
abbrev cX3_move : ByteArray := prog_5_method_11_code
def yX3_move : MethodName := ⟨RX3, "move", "(II)V"⟩
abbrev cX3_copyFrom : ByteArray := prog_5_method_12_code
def yX3_copyFrom : MethodName := ⟨RX3, "copyFrom", "(LRadioWeek$Items;)V"⟩
abbrev cX4_init : ByteArray := prog_6_method_1_code
def yX4_init : MethodName := ⟨RX4, "<init>", "()V"⟩
abbrev cX4_append : ByteArray := prog_6_method_2_code
def yX4_append : MethodName := ⟨RX4, "append", "(III)I"⟩
abbrev cX4_copyFrom : ByteArray := prog_6_method_3_code
def yX4_copyFrom : MethodName := ⟨RX4, "copyFrom", "(LRadioWeek$Programmes;)V"⟩
abbrev cX5_init : ByteArray := prog_7_method_1_code
def yX5_init : MethodName := ⟨RX5, "<init>", "()V"⟩
abbrev cX5_append : ByteArray := prog_7_method_2_code
def yX5_append : MethodName := ⟨RX5, "append", "(IIII)I"⟩
abbrev cX5_covers : ByteArray := prog_7_method_3_code
def yX5_covers : MethodName := ⟨RX5, "covers", "(IIII)Z"⟩
abbrev cX5_copyFrom : ByteArray := prog_7_method_4_code
def yX5_copyFrom : MethodName := ⟨RX5, "copyFrom", "(LRadioWeek$Rights;)V"⟩
abbrev cX6_init : ByteArray := prog_8_method_1_code
def yX6_init : MethodName := ⟨RX6, "<init>", "()V"⟩
abbrev cX6_clear : ByteArray := prog_8_method_2_code
def yX6_clear : MethodName := ⟨RX6, "clear", "()V"⟩
abbrev cX6_add : ByteArray := prog_8_method_3_code
def yX6_add : MethodName := ⟨RX6, "add", "(III)V"⟩
abbrev cX6_share : ByteArray := prog_8_method_4_code
def yX6_share : MethodName := ⟨RX6, "share", "(LRadioWeek$Rights;)Z"⟩
abbrev cX6_rightFor : ByteArray := prog_8_method_5_code
def yX6_rightFor : MethodName := ⟨RX6, "rightFor", "(ILRadioWeek$Rights;)I"⟩
abbrev cX7_init : ByteArray := prog_9_method_1_code
def yX7_init : MethodName := ⟨RX7, "<init>", "()V"⟩
abbrev cX7_copyFrom : ByteArray := prog_9_method_2_code
def yX7_copyFrom : MethodName := ⟨RX7, "copyFrom", "(LRadioWeek$Week;)V"⟩
abbrev cX8_init : ByteArray := prog_1_method_1_code
def yX8_init : MethodName := ⟨RX8, "<init>", "()V"⟩
abbrev cX8_addProgramme : ByteArray := prog_1_method_2_code
def yX8_addProgramme : MethodName := ⟨RX8, "addProgramme", "(III)I"⟩
abbrev cX8_addRight : ByteArray := prog_1_method_3_code
def yX8_addRight : MethodName := ⟨RX8, "addRight", "(IIII)I"⟩
abbrev cX8_addBlackout : ByteArray := prog_1_method_4_code
def yX8_addBlackout : MethodName := ⟨RX8, "addBlackout", "(III)I"⟩
abbrev cX8_place : ByteArray := prog_1_method_5_code
def yX8_place : MethodName := ⟨RX8, "place", "(IIZ)I"⟩
abbrev cX8_remove : ByteArray := prog_1_method_6_code
def yX8_remove : MethodName := ⟨RX8, "remove", "(I)I"⟩
abbrev cX8_earliest : ByteArray := prog_1_method_7_code
def yX8_earliest : MethodName := ⟨RX8, "earliest", "(II)I"⟩
abbrev cX8_fill : ByteArray := prog_1_method_8_code
def yX8_fill : MethodName := ⟨RX8, "fill", "(II)I"⟩
abbrev cX8_runOver : ByteArray := prog_1_method_9_code
def yX8_runOver : MethodName := ⟨RX8, "runOver", "(II)I"⟩
abbrev cX8_makeGood : ByteArray := prog_1_method_10_code
def yX8_makeGood : MethodName := ⟨RX8, "makeGood", "(II)I"⟩
abbrev cX8_items : ByteArray := prog_1_method_11_code
def yX8_items : MethodName := ⟨RX8, "items", "()I"⟩
abbrev cX8_item : ByteArray := prog_1_method_12_code
def yX8_item : MethodName := ⟨RX8, "item", "(II)I"⟩
abbrev cX8_onAir : ByteArray := prog_1_method_13_code
def yX8_onAir : MethodName := ⟨RX8, "onAir", "(I)I"⟩
abbrev cX8_left : ByteArray := prog_1_method_14_code
def yX8_left : MethodName := ⟨RX8, "left", "(I)I"⟩
abbrev cX8_mayPlace : ByteArray := prog_1_method_15_code
def yX8_mayPlace : MethodName := ⟨RX8, "mayPlace", "(II)I"⟩
abbrev cX8_owed : ByteArray := prog_1_method_16_code
def yX8_owed : MethodName := ⟨RX8, "owed", "(I)I"⟩
abbrev cX8_minutes : ByteArray := prog_1_method_17_code
def yX8_minutes : MethodName := ⟨RX8, "minutes", "(III)I"⟩
abbrev cX8_silence : ByteArray := prog_1_method_18_code
def yX8_silence : MethodName := ⟨RX8, "silence", "(II)I"⟩
abbrev cX8_ranked : ByteArray := prog_1_method_19_code
def yX8_ranked : MethodName := ⟨RX8, "ranked", "(I)I"⟩
abbrev cX8_broken : ByteArray := prog_1_method_20_code
def yX8_broken : MethodName := ⟨RX8, "broken", "()I"⟩
abbrev cX8_line : ByteArray := prog_1_method_21_code
def yX8_line : MethodName := ⟨RX8, "line", "(II)I"⟩
abbrev cX8_undo : ByteArray := prog_1_method_22_code
def yX8_undo : MethodName := ⟨RX8, "undo", "()I"⟩
abbrev cX8_fingerprint : ByteArray := prog_1_method_23_code
def yX8_fingerprint : MethodName := ⟨RX8, "fingerprint", "()J"⟩
abbrev cX8_within : ByteArray := prog_1_method_24_code
def yX8_within : MethodName := ⟨RX8, "within", "(III)Z"⟩
abbrev cX8_isTime : ByteArray := prog_1_method_25_code
def yX8_isTime : MethodName := ⟨RX8, "isTime", "(I)Z"⟩
abbrev cX8_isInterval : ByteArray := prog_1_method_26_code
def yX8_isInterval : MethodName := ⟨RX8, "isInterval", "(III)Z"⟩
abbrev cX8_isProgramme : ByteArray := prog_1_method_27_code
def yX8_isProgramme : MethodName := ⟨RX8, "isProgramme", "(I)Z"⟩
abbrev cX8_isItem : ByteArray := prog_1_method_28_code
def yX8_isItem : MethodName := ⟨RX8, "isItem", "(I)Z"⟩
abbrev cX8_obstacle : ByteArray := prog_1_method_29_code
def yX8_obstacle : MethodName := ⟨RX8, "obstacle", "(II)I"⟩
abbrev cX8_rightsAllow : ByteArray := prog_1_method_30_code
def yX8_rightsAllow : MethodName := ⟨RX8, "rightsAllow", "(III)Z"⟩
abbrev cX8_gatherItemsOf : ByteArray := prog_1_method_31_code
def yX8_gatherItemsOf : MethodName := ⟨RX8, "gatherItemsOf", "(I)V"⟩
abbrev cX8_putOnAir : ByteArray := prog_1_method_32_code
def yX8_putOnAir : MethodName := ⟨RX8, "putOnAir", "(IIZ)I"⟩
abbrev cX8_earliestStart : ByteArray := prog_1_method_33_code
def yX8_earliestStart : MethodName := ⟨RX8, "earliestStart", "(II)I"⟩
abbrev cX8_nextToTry : ByteArray := prog_1_method_34_code
def yX8_nextToTry : MethodName := ⟨RX8, "nextToTry", "(III)I"⟩
abbrev cX8_nextWindow : ByteArray := prog_1_method_35_code
def yX8_nextWindow : MethodName := ⟨RX8, "nextWindow", "(II)I"⟩
abbrev cX8_makeRoomAfter : ByteArray := prog_1_method_36_code
def yX8_makeRoomAfter : MethodName := ⟨RX8, "makeRoomAfter", "(I)I"⟩
abbrev cX8_giveWay : ByteArray := prog_1_method_37_code
def yX8_giveWay : MethodName := ⟨RX8, "giveWay", "(II)Z"⟩
abbrev cX8_cut : ByteArray := prog_1_method_38_code
def yX8_cut : MethodName := ⟨RX8, "cut", "(II)Z"⟩
abbrev cX8_push : ByteArray := prog_1_method_39_code
def yX8_push : MethodName := ⟨RX8, "push", "(II)Z"⟩
abbrev cX8_drop : ByteArray := prog_1_method_40_code
def yX8_drop : MethodName := ⟨RX8, "drop", "(I)V"⟩
abbrev cX8_kindOf : ByteArray := prog_1_method_41_code
def yX8_kindOf : MethodName := ⟨RX8, "kindOf", "(I)I"⟩
abbrev cX8_shareRights : ByteArray := prog_1_method_42_code
def yX8_shareRights : MethodName := ⟨RX8, "shareRights", "()V"⟩
abbrev cX8_programmesAhead : ByteArray := prog_1_method_43_code
def yX8_programmesAhead : MethodName := ⟨RX8, "programmesAhead", "(I)I"⟩
abbrev cX8_writeLine : ByteArray := prog_1_method_44_code
def yX8_writeLine : MethodName := ⟨RX8, "writeLine", "(I)V"⟩
abbrev cX8_writeTwoDigits : ByteArray := prog_1_method_45_code
def yX8_writeTwoDigits : MethodName := ⟨RX8, "writeTwoDigits", "(I)V"⟩
abbrev cL_cell : ByteArray := method_2_code
def yL_cell : MethodName := ⟨RL, "cell", "([II)I"⟩
abbrev cL_up : ByteArray := method_3_code
def yL_up : MethodName := ⟨RL, "up", "(II)I"⟩
abbrev cL_fails : ByteArray := method_4_code
def yL_fails : MethodName := ⟨RL, "fails", "(LRadioWeek;II)Z"⟩
abbrev cL_agrees : ByteArray := method_5_code
def yL_agrees : MethodName := ⟨RL, "agrees", "(LRadioWeek;II[II)Z"⟩
abbrev cL_places : ByteArray := method_6_code
def yL_places : MethodName := ⟨RL, "places", "(LRadioWeek;IIZ)Z"⟩
abbrev cL_finds : ByteArray := method_7_code
def yL_finds : MethodName := ⟨RL, "finds", "(LRadioWeek;II)Z"⟩
abbrev cL_fills : ByteArray := method_8_code
def yL_fills : MethodName := ⟨RL, "fills", "(LRadioWeek;[III)Z"⟩
abbrev cL_runs : ByteArray := method_9_code
def yL_runs : MethodName := ⟨RL, "runs", "(LRadioWeek;[IIII)Z"⟩
abbrev cL_law : ByteArray := code
def yL_law : MethodName := ⟨RL, "law", "([I)Z"⟩
abbrev cJ4_init_da8c8 : ByteArray := prog_17_method_1_code
def yJ4_init_da8c8 : MethodName := ⟨RJ4, "<init>", "()V"⟩
abbrev cJ4_append_15ec4 : ByteArray := prog_17_method_7_code
def yJ4_append_15ec4 : MethodName := ⟨RJ4, "append", "(Ljava/lang/String;)Ljava/lang/StringBuilder;"⟩
abbrev cJ4_append_cf468 : ByteArray := prog_17_method_14_code
def yJ4_append_cf468 : MethodName := ⟨RJ4, "append", "(C)Ljava/lang/StringBuilder;"⟩
abbrev cJ4_append_bf812 : ByteArray := prog_17_method_15_code
def yJ4_append_bf812 : MethodName := ⟨RJ4, "append", "(I)Ljava/lang/StringBuilder;"⟩
abbrev cJ4_charAt_5068e : ByteArray := prog_17_method_88_code
def yJ4_charAt_5068e : MethodName := ⟨RJ4, "charAt", "(I)C"⟩
abbrev cJ4_setLength_d00df : ByteArray := prog_17_method_89_code
def yJ4_setLength_d00df : MethodName := ⟨RJ4, "setLength", "(I)V"⟩
abbrev cJ4_length_8abf5 : ByteArray := prog_17_method_93_code
def yJ4_length_8abf5 : MethodName := ⟨RJ4, "length", "()I"⟩
abbrev cJ5_init_d00df : ByteArray := prog_12_method_2_code
def yJ5_init_d00df : MethodName := ⟨RJ5, "<init>", "(I)V"⟩
abbrev cJ5_length_8abf5 : ByteArray := prog_12_method_6_code
def yJ5_length_8abf5 : MethodName := ⟨RJ5, "length", "()I"⟩
abbrev cJ5_ensureCapacityInternal_d00df : ByteArray := prog_12_method_9_code
def yJ5_ensureCapacityInternal_d00df : MethodName := ⟨RJ5, "ensureCapacityInternal", "(I)V"⟩
abbrev cJ5_newCapacity_0f7a4 : ByteArray := prog_12_method_10_code
def yJ5_newCapacity_0f7a4 : MethodName := ⟨RJ5, "newCapacity", "(I)I"⟩
abbrev cJ5_setLength_d00df : ByteArray := prog_12_method_13_code
def yJ5_setLength_d00df : MethodName := ⟨RJ5, "setLength", "(I)V"⟩
abbrev cJ5_charAt_5068e : ByteArray := prog_12_method_14_code
def yJ5_charAt_5068e : MethodName := ⟨RJ5, "charAt", "(I)C"⟩
abbrev cJ5_append_cf1ce : ByteArray := prog_12_method_22_code
def yJ5_append_cf1ce : MethodName := ⟨RJ5, "append", "(Ljava/lang/String;)Ljava/lang/AbstractStringBuilder;"⟩
abbrev cJ5_append_3fe6f : ByteArray := prog_12_method_31_code
def yJ5_append_3fe6f : MethodName := ⟨RJ5, "append", "(C)Ljava/lang/AbstractStringBuilder;"⟩
abbrev cJ5_append_c97b9 : ByteArray := prog_12_method_32_code
def yJ5_append_c97b9 : MethodName := ⟨RJ5, "append", "(I)Ljava/lang/AbstractStringBuilder;"⟩
abbrev cJ5_isLatin1_aae02 : ByteArray := prog_12_method_68_code
def yJ5_isLatin1_aae02 : MethodName := ⟨RJ5, "isLatin1", "()Z"⟩
abbrev cJ5_inflateIfNeededFor_a7421 : ByteArray := prog_12_method_71_code
def yJ5_inflateIfNeededFor_a7421 : MethodName := ⟨RJ5, "inflateIfNeededFor", "(Ljava/lang/String;)V"⟩
abbrev cJ5_putStringAt_47b60 : ByteArray := prog_12_method_73_code
def yJ5_putStringAt_47b60 : MethodName := ⟨RJ5, "putStringAt", "(ILjava/lang/String;)V"⟩
abbrev cJ6_getChars_ba4f3 : ByteArray := prog_14_method_12_code
def yJ6_getChars_ba4f3 : MethodName := ⟨RJ6, "getChars", "(II[B)I"⟩
abbrev cJ6_stringSize_0f7a4 : ByteArray := prog_14_method_13_code
def yJ6_stringSize_0f7a4 : MethodName := ⟨RJ6, "stringSize", "(I)I"⟩
abbrev cJ0_length_8abf5 : ByteArray := prog_16_method_54_code
def yJ0_length_8abf5 : MethodName := ⟨RJ0, "length", "()I"⟩
abbrev cJ0_getBytes_840e7 : ByteArray := prog_16_method_147_code
def yJ0_getBytes_840e7 : MethodName := ⟨RJ0, "getBytes", "([BIB)V"⟩
abbrev cJ0_coder_7d493 : ByteArray := prog_16_method_152_code
def yJ0_coder_7d493 : MethodName := ⟨RJ0, "coder", "()B"⟩
abbrev cJ0_checkIndex_df160 : ByteArray := prog_16_method_155_code
def yJ0_checkIndex_df160 : MethodName := ⟨RJ0, "checkIndex", "(II)V"⟩
abbrev cJ1_canEncode_fc78d : ByteArray := prog_18_method_3_code
def yJ1_canEncode_fc78d : MethodName := ⟨RJ1, "canEncode", "(C)Z"⟩
abbrev cJ7_copyOf_9075b : ByteArray := prog_21_method_121_code
def yJ7_copyOf_9075b : MethodName := ⟨RJ7, "copyOf", "([BI)[B"⟩
abbrev cJ8_newLength_cabcc : ByteArray := prog_22_method_27_code
def yJ8_newLength_cabcc : MethodName := ⟨RJ8, "newLength", "(III)I"⟩
abbrev cJ3_checkIndex_8e157 : ByteArray := prog_23_method_11_code
def yJ3_checkIndex_8e157 : MethodName := ⟨RJ3, "checkIndex", "(IILjava/util/function/BiFunction;)I"⟩
